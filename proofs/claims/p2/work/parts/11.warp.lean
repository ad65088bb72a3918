set_option maxHeartbeats 4000000 in
set_option maxRecDepth 100000 in
theorem s_X5_movable (l : Launch) (dC : Nat → ClassId) (dI : Nat → Nat → Nat) (sz : Nat) {L : List Nat} {K : Nat → Nat} {cs : Nat → ClassId} (hLK : ∀ a {k : Nat}, K a = k → k ≠ 0 → a ∈ L) (D : Nat) (F : Nat → va_E) (a0 : Nat) (x1 : Int32) (ha0 : K a0 = 6) (hI : s_I K cs D F) : Met l yX5_movable (Cond.code yX5_movable cX5_movable 3 (some .int) :: T0) ({ frames := 0, cells := 0, slots := 0, locals := 0 }) (va_Pc [.ref a0, .int x1] (s_W dC dI sz L F [(cs 0, .int), (cs 1, .byte), (cs 2, .long), (cs 3, .object RX5), (cs 4, .object RX4), (cs 5, .array .int), (cs 6, .char), (cs 7, .boolean)])) (va_Qi (fun (r : Int32) (G : Nat → va_E) => True ∧ True ∧ s_I K cs D G ∧ ∀ b, K b ∉ ([] : List Nat) → G b = F b) (fun (G : Nat → va_E) (t : State) => va_P (dC, dI) vwCl (va_pl L G) t.heap ∧ va_K (dC, dI) vwCl [(cs 0, .int), (cs 1, .byte), (cs 2, .long), (cs 3, .object RX5), (cs 4, .object RX4), (cs 5, .array .int), (cs 6, .char), (cs 7, .boolean)] t) (fun q => q ∈ L)) 0 0 (fun q => q ∈ L) := by
  refine Met.ofW (cc := cX5_movable) (maxL := 3) (ret := (some .int)) (by decide) rfl ?_
  intro p e s m args below meth c s₁ B hml hv
  obtain ⟨rfl, hsz, hP, hK, hD, hN⟩ := hv
  have hx := B.exec
  have hb := B.bytes
  have hr := B.returns
  have hts : ∀ w ∈ T0, w.before _ s = true := fun w h => atoms_spec (ws := Cond.code yX5_movable cX5_movable 3 (some .int) :: T0) B.pre w (List.mem_cons_of_mem _ h)
  have hown : s.vm.findClass RX5 = some m.cls := findClass_of_methodNamed B.named
  have hlocks := B.notSynchronized
  have hS : va_S (fun q => q ∈ L) s.heap s.heap [] := va_S.rf
  have hfr : ∀ b, K b ∉ ([] : List Nat) → F b = F b := fun _ _ => rfl
  have hl := lv_entry ([.ref a0, .int x1]) (n := 3) (Nat.le_of_ble_eq_true rfl)
  rw [lg_entry_eq]
  generalize (lg_sl ([.ref a0, .int x1]) ++ List.replicate (3 - (lg_sl ([.ref a0, .int x1])).length) Slot.unset).toArray = ls at hl ⊢
  have hl : lv_has ls 3 [(0, .ref a0), (1, .int x1)] := hl
  refine s_gen hP hS (fun H locs hP hS => ?_)
  refine lv_aload_n hx hb dX5_movable_0 rfl (lv_at hl 0 rfl) ?_
  obtain ⟨z1, z3, z5, z7, z9, z11, z13, z14, z15, z16, z17, o19, h2, h4, h6, h8, h10, h12, h18, -⟩ := s_op6 hI ha0
  refine th_get (D := (dC, dI)) (ci := 5) (v := .int z13) (C := RX5) (T := TX5) (N := 11) hx hb hts inX5 hown hK hP (hLK _ ha0 (by decide)) o19 rfl 6 (by decide) (hts _ T_877) (fun _ h9 => h9) rfl dX5_movable_1 ?_
  refine lv_aload_n hx hb dX5_movable_4 rfl (lv_at hl 0 rfl) ?_
  refine th_get (D := (dC, dI)) (ci := 5) (v := .int z14) (C := RX5) (T := TX5) (N := 11) hx hb hts inX5 hown hK hP (hLK _ ha0 (by decide)) o19 rfl 7 (by decide) (hts _ T_878) (fun _ h9 => h9) rfl dX5_movable_5 ?_
  refine lv_iconst (v := (-1)) hx hb dX5_movable_8 (by decide) ?_
  refine lv_ixor hx hb dX5_movable_9 ?_
  refine lv_topi (fun v20 ev20 => ?_)
  refine lv_iand hx hb dX5_movable_10 ?_
  refine lv_topi (fun v21 ev21 => ?_)
  refine lv_istore_n (lv' := [(2, .int v21), (0, .ref a0), (1, .int x1)]) hx hb dX5_movable_11 rfl hl (by decide) rfl (fun ls hl => ?_)
  refine lv_iload_n hx hb dX5_movable_12 rfl (lv_at hl 2 rfl) ?_
  refine lv_if_ne (tgt := 41) hx hb dX5_movable_13 (by decide) (fun c22 => ?_) (fun c22 => ?_)
  · have c22 := mt (ax_eq (n := 0) (by decide)).mpr c22
    refine lv_iload_n hx hb dX5_movable_41 rfl (lv_at hl 0 rfl) ?_
    exact W.iret (v := v21) hx hb hr (fun t ht hW => ⟨⟨v21, F, rfl, ⟨trivial, trivial, hI, hfr⟩, by rw [ht]; exact hP, va_K.moved hW.alike hK⟩, hS.F ht⟩) hS.2.2 dX5_movable_42
  · have c22 := (ax_eq (n := 0) (by decide)).mp c22
    refine lv_aload_n hx hb dX5_movable_16 rfl (lv_at hl 1 rfl) ?_
    refine th_get (D := (dC, dI)) (ci := 5) (v := .int z11) (C := RX5) (T := TX5) (N := 11) hx hb hts inX5 hown hK hP (hLK _ ha0 (by decide)) o19 rfl 5 (by decide) (hts _ T_876) (fun _ h9 => h9) rfl dX5_movable_17 ?_
    refine lv_if_ne (tgt := 27) hx hb dX5_movable_20 (by decide) (fun c23 => ?_) (fun c23 => ?_)
    · have c23 := mt (ax_eq (n := 0) (by decide)).mpr c23
      refine lv_aload_n hx hb dX5_movable_27 rfl (lv_at hl 1 rfl) ?_
      refine th_get (D := (dC, dI)) (ci := 5) (v := .ref z9) (C := RX5) (T := TX5) (N := 11) hx hb hts inX5 hown hK hP (hLK _ ha0 (by decide)) o19 rfl 4 (by decide) (hts _ T_104) (fun _ h9 => h9) rfl dX5_movable_28 ?_
      refine lv_aload_n hx hb dX5_movable_31 rfl (lv_at hl 1 rfl) ?_
      refine th_get (D := (dC, dI)) (ci := 5) (v := .int z11) (C := RX5) (T := TX5) (N := 11) hx hb hts inX5 hown hK hP (hLK _ ha0 (by decide)) o19 rfl 5 (by decide) (hts _ T_876) (fun _ h9 => h9) rfl dX5_movable_32 ?_
      refine lv_iconst (v := 1) hx hb dX5_movable_35 (by decide) ?_
      refine lv_isub hx hb dX5_movable_36 ?_
      refine lv_topi (fun v24 ev24 => ?_)
      have qv24 : v24.toInt = z11.toInt - 1 := by rw [ev24]; exact th_sub rfl (by decide) ⟨by omega, by omega⟩
      obtain ⟨f25, o26, h27⟩ := s_op32 hI h10
      refine th_iald hx hb hK hP (hLK _ h10 (by decide)) 0 o26 rfl (th_in ⟨by omega, by omega⟩) dX5_movable_37 ?_
      refine lv_topi (fun v28 ev28 => ?_)
      refine lv_iload_n hx hb dX5_movable_38 rfl (lv_at hl 0 rfl) ?_
      refine lv_iand hx hb dX5_movable_39 ?_
      refine lv_topi (fun v29 ev29 => ?_)
      exact W.iret (v := v29) hx hb hr (fun t ht hW => ⟨⟨v29, F, rfl, ⟨trivial, trivial, hI, hfr⟩, by rw [ht]; exact hP, va_K.moved hW.alike hK⟩, hS.F ht⟩) hS.2.2 dX5_movable_40
    · have c23 := (ax_eq (n := 0) (by decide)).mp c23
      refine lv_iconst (v := 0) hx hb dX5_movable_23 (by decide) ?_
      refine lv_goto (tgt := 40) hx hb dX5_movable_24 (by decide) ?_
      exact W.iret (v := 0) hx hb hr (fun t ht hW => ⟨⟨0, F, rfl, ⟨trivial, trivial, hI, hfr⟩, by rw [ht]; exact hP, va_K.moved hW.alike hK⟩, hS.F ht⟩) hS.2.2 dX5_movable_40

set_option maxHeartbeats 4000000 in
set_option maxRecDepth 100000 in
theorem s_X5_layPart (l : Launch) (dC : Nat → ClassId) (dI : Nat → Nat → Nat) (sz : Nat) {L : List Nat} {K : Nat → Nat} {cs : Nat → ClassId} (hLK : ∀ a {k : Nat}, K a = k → k ≠ 0 → a ∈ L) (D : Nat) (F : Nat → va_E) (a0 : Nat) (x1 : Int32) (x2 : Int32) (x3 : Int32) (ha0 : K a0 = 6) (hI : s_I K cs D F) : Met l yX5_layPart (Cond.code yX5_layPart cX5_layPart 4 none :: T0) ({ frames := 0, cells := 0, slots := 0, locals := 0 }) (va_Pc [.ref a0, .int x1, .int x2, .int x3] (s_W dC dI sz L F [(cs 0, .int), (cs 1, .byte), (cs 2, .long), (cs 3, .object RX5), (cs 4, .object RX4), (cs 5, .array .int), (cs 6, .char), (cs 7, .boolean)])) (va_Qv (fun (G : Nat → va_E) => True ∧ True ∧ s_I K cs D G ∧ ∀ b, K b ∉ [6, 32] → G b = F b) (fun (G : Nat → va_E) (t : State) => va_P (dC, dI) vwCl (va_pl L G) t.heap ∧ va_K (dC, dI) vwCl [(cs 0, .int), (cs 1, .byte), (cs 2, .long), (cs 3, .object RX5), (cs 4, .object RX4), (cs 5, .array .int), (cs 6, .char), (cs 7, .boolean)] t) (fun q => q ∈ L)) 0 0 (fun q => q ∈ L) := by
  refine Met.ofW (cc := cX5_layPart) (maxL := 4) (ret := none) (by decide) rfl ?_
  intro p e s m args below meth c s₁ B hml hv
  obtain ⟨rfl, hsz, hP, hK, hD, hN⟩ := hv
  have hx := B.exec
  have hb := B.bytes
  have hr := B.returns
  have hts : ∀ w ∈ T0, w.before _ s = true := fun w h => atoms_spec (ws := Cond.code yX5_layPart cX5_layPart 4 none :: T0) B.pre w (List.mem_cons_of_mem _ h)
  have hown : s.vm.findClass RX5 = some m.cls := findClass_of_methodNamed B.named
  have hlocks := B.notSynchronized
  have hS : va_S (fun q => q ∈ L) s.heap s.heap [] := va_S.rf
  have hfr : ∀ b, K b ∉ [6, 32] → F b = F b := fun _ _ => rfl
  have hl := lv_entry ([.ref a0, .int x1, .int x2, .int x3]) (n := 4) (Nat.le_of_ble_eq_true rfl)
  rw [lg_entry_eq]
  generalize (lg_sl ([.ref a0, .int x1, .int x2, .int x3]) ++ List.replicate (4 - (lg_sl ([.ref a0, .int x1, .int x2, .int x3])).length) Slot.unset).toArray = ls at hl ⊢
  have hl : lv_has ls 4 [(0, .ref a0), (1, .int x1), (2, .int x2), (3, .int x3)] := hl
  refine s_gen hP hS (fun H locs hP hS => ?_)
  refine lv_aload_n hx hb dX5_layPart_0 rfl (lv_at hl 0 rfl) ?_
  obtain ⟨z1, z3, z5, z7, z9, z11, z13, z14, z15, z16, z17, o19, h2, h4, h6, h8, h10, h12, h18, -⟩ := s_op6 hI ha0
  refine th_get (D := (dC, dI)) (ci := 5) (v := .int z11) (C := RX5) (T := TX5) (N := 11) hx hb hts inX5 hown hK hP (hLK _ ha0 (by decide)) o19 rfl 5 (by decide) (hts _ T_876) (fun _ h9 => h9) rfl dX5_layPart_1 ?_
  refine lv_bipush (v := 16) hx hb dX5_layPart_4 (by decide) ?_
  refine lv_icmp_ge (tgt := 49) hx hb dX5_layPart_6 (by decide) (fun c20 => ?_) (fun c20 => ?_)
  · have c20 := (ax_ge (n := 16) (by decide)).mp c20
    exact W.vret hx hb hr (fun t ht hW => ⟨⟨F, rfl, ⟨trivial, trivial, hI, hfr⟩, by rw [ht]; exact hP, va_K.moved hW.alike hK⟩, hS.F ht⟩) hS.2.2 dX5_layPart_49
  · have c20 := mt (ax_ge (n := 16) (by decide)).mpr c20
    refine lv_aload_n hx hb dX5_layPart_9 rfl (lv_at hl 0 rfl) ?_
    refine th_get (D := (dC, dI)) (ci := 5) (v := .ref z5) (C := RX5) (T := TX5) (N := 11) hx hb hts inX5 hown hK hP (hLK _ ha0 (by decide)) o19 rfl 2 (by decide) (hts _ T_102) (fun _ h9 => h9) rfl dX5_layPart_10 ?_
    refine lv_aload_n hx hb dX5_layPart_13 rfl (lv_at hl 0 rfl) ?_
    refine th_get (D := (dC, dI)) (ci := 5) (v := .int z11) (C := RX5) (T := TX5) (N := 11) hx hb hts inX5 hown hK hP (hLK _ ha0 (by decide)) o19 rfl 5 (by decide) (hts _ T_876) (fun _ h9 => h9) rfl dX5_layPart_14 ?_
    refine lv_iload_n hx hb dX5_layPart_17 rfl (lv_at hl 1 rfl) ?_
    obtain ⟨f21, o22, h23⟩ := s_op32 hI h6
    refine th_iast hx hb hK hP hD hS (hLK _ h6 (by decide)) 0 o22 rfl (th_in ⟨by omega, by omega⟩) dX5_layPart_18 (fun H locs hP hS => ?_)
    have hP : va_P (dC, dI) vwCl (va_pl L (va_up F z5 (.inl (cs 0, 16, .inl (upd f21 (z11 : Int32).toNatClampNeg x1))))) H := hP
    obtain ⟨F24, hF25⟩ : ∃ G : Nat → va_E, G = va_up F z5 (.inl (cs 0, 16, .inl (upd f21 (z11 : Int32).toNatClampNeg x1))) := ⟨_, rfl⟩
    rw [← hF25] at hP
    have hI : s_I K cs D F24 := by rw [hF25]; exact s_cl32 hI h6 ⟨_, rfl, trivial⟩
    have hfr : ∀ b, K b ∉ [6, 32] → F24 b = F b := by rw [hF25]; exact s_fr hfr h6 (by decide)
    have o26 : F24 a0 = .inr (5, [.ref z1, .ref z3, .ref z5, .ref z7, .ref z9, .int z11, .int z13, .int z14, .int z15, .int z16, .int z17]) := by rw [hF25]; exact th_ne (th_kd ha0 h6 (by decide)) o19
    refine lv_aload_n hx hb dX5_layPart_19 rfl (lv_at hl 0 rfl) ?_
    refine th_get (D := (dC, dI)) (ci := 5) (v := .ref z7) (C := RX5) (T := TX5) (N := 11) hx hb hts inX5 hown hK hP (hLK _ ha0 (by decide)) o26 rfl 3 (by decide) (hts _ T_103) (fun _ h9 => h9) rfl dX5_layPart_20 ?_
    refine lv_aload_n hx hb dX5_layPart_23 rfl (lv_at hl 0 rfl) ?_
    refine th_get (D := (dC, dI)) (ci := 5) (v := .int z11) (C := RX5) (T := TX5) (N := 11) hx hb hts inX5 hown hK hP (hLK _ ha0 (by decide)) o26 rfl 5 (by decide) (hts _ T_876) (fun _ h9 => h9) rfl dX5_layPart_24 ?_
    refine lv_iload_n hx hb dX5_layPart_27 rfl (lv_at hl 2 rfl) ?_
    obtain ⟨f27, o28, h29⟩ := s_op32 hI h8
    refine th_iast hx hb hK hP hD hS (hLK _ h8 (by decide)) 0 o28 rfl (th_in ⟨by omega, by omega⟩) dX5_layPart_28 (fun H locs hP hS => ?_)
    have hP : va_P (dC, dI) vwCl (va_pl L (va_up F24 z7 (.inl (cs 0, 16, .inl (upd f27 (z11 : Int32).toNatClampNeg x2))))) H := hP
    obtain ⟨F30, hF31⟩ : ∃ G : Nat → va_E, G = va_up F24 z7 (.inl (cs 0, 16, .inl (upd f27 (z11 : Int32).toNatClampNeg x2))) := ⟨_, rfl⟩
    rw [← hF31] at hP
    have hI : s_I K cs D F30 := by rw [hF31]; exact s_cl32 hI h8 ⟨_, rfl, trivial⟩
    have hfr : ∀ b, K b ∉ [6, 32] → F30 b = F b := by rw [hF31]; exact s_fr hfr h8 (by decide)
    have o32 : F30 a0 = .inr (5, [.ref z1, .ref z3, .ref z5, .ref z7, .ref z9, .int z11, .int z13, .int z14, .int z15, .int z16, .int z17]) := by rw [hF31]; exact th_ne (th_kd ha0 h8 (by decide)) o26
    refine lv_aload_n hx hb dX5_layPart_29 rfl (lv_at hl 0 rfl) ?_
    refine th_get (D := (dC, dI)) (ci := 5) (v := .ref z9) (C := RX5) (T := TX5) (N := 11) hx hb hts inX5 hown hK hP (hLK _ ha0 (by decide)) o32 rfl 4 (by decide) (hts _ T_104) (fun _ h9 => h9) rfl dX5_layPart_30 ?_
    refine lv_aload_n hx hb dX5_layPart_33 rfl (lv_at hl 0 rfl) ?_
    refine th_get (D := (dC, dI)) (ci := 5) (v := .int z11) (C := RX5) (T := TX5) (N := 11) hx hb hts inX5 hown hK hP (hLK _ ha0 (by decide)) o32 rfl 5 (by decide) (hts _ T_876) (fun _ h9 => h9) rfl dX5_layPart_34 ?_
    refine lv_iload_n hx hb dX5_layPart_37 rfl (lv_at hl 3 rfl) ?_
    obtain ⟨f33, o34, h35⟩ := s_op32 hI h10
    refine th_iast hx hb hK hP hD hS (hLK _ h10 (by decide)) 0 o34 rfl (th_in ⟨by omega, by omega⟩) dX5_layPart_38 (fun H locs hP hS => ?_)
    have hP : va_P (dC, dI) vwCl (va_pl L (va_up F30 z9 (.inl (cs 0, 16, .inl (upd f33 (z11 : Int32).toNatClampNeg x3))))) H := hP
    obtain ⟨F36, hF37⟩ : ∃ G : Nat → va_E, G = va_up F30 z9 (.inl (cs 0, 16, .inl (upd f33 (z11 : Int32).toNatClampNeg x3))) := ⟨_, rfl⟩
    rw [← hF37] at hP
    have hI : s_I K cs D F36 := by rw [hF37]; exact s_cl32 hI h10 ⟨_, rfl, trivial⟩
    have hfr : ∀ b, K b ∉ [6, 32] → F36 b = F b := by rw [hF37]; exact s_fr hfr h10 (by decide)
    have o38 : F36 a0 = .inr (5, [.ref z1, .ref z3, .ref z5, .ref z7, .ref z9, .int z11, .int z13, .int z14, .int z15, .int z16, .int z17]) := by rw [hF37]; exact th_ne (th_kd ha0 h10 (by decide)) o32
    refine lv_aload_n hx hb dX5_layPart_39 rfl (lv_at hl 0 rfl) ?_
    refine lv_dup hx hb dX5_layPart_40 rfl ?_
    refine th_get (D := (dC, dI)) (ci := 5) (v := .int z11) (C := RX5) (T := TX5) (N := 11) hx hb hts inX5 hown hK hP (hLK _ ha0 (by decide)) o38 rfl 5 (by decide) (hts _ T_876) (fun _ h9 => h9) rfl dX5_layPart_41 ?_
    refine lv_iconst (v := 1) hx hb dX5_layPart_44 (by decide) ?_
    refine lv_iadd hx hb dX5_layPart_45 ?_
    refine lv_topi (fun v39 ev39 => ?_)
    have qv39 : v39.toInt = z11.toInt + 1 := by rw [ev39]; exact th_add rfl (by decide) ⟨by omega, by omega⟩
    refine th_put (D := (dC, dI)) (ci := 5) (v := .int v39) (ty := .int) (C := RX5) (T := TX5) (N := 11) hx hb hts inX5 tyX5 tyX5_ok nmX5 hown hK hP hD hS (hLK _ ha0 (by decide)) o38 rfl 5 (by decide) (hts _ T_876) (fun _ h9 => h9) rfl (by decide +kernel) rfl rfl (Nat.le_of_ble_eq_true rfl) dX5_layPart_46 (fun H locs hP hS => ?_)
    have hP : va_P (dC, dI) vwCl (va_pl L (va_up F36 a0 (.inr (5, [.ref z1, .ref z3, .ref z5, .ref z7, .ref z9, .int v39, .int z13, .int z14, .int z15, .int z16, .int z17])))) H := hP
    obtain ⟨F40, hF41⟩ : ∃ G : Nat → va_E, G = va_up F36 a0 (.inr (5, [.ref z1, .ref z3, .ref z5, .ref z7, .ref z9, .int v39, .int z13, .int z14, .int z15, .int z16, .int z17])) := ⟨_, rfl⟩
    rw [← hF41] at hP
    have hI : s_I K cs D F40 := by rw [hF41]; exact s_cl6 hI ha0 ⟨z1, z3, z5, z7, z9, v39, z13, z14, z15, z16, z17, rfl, h2, h4, h6, h8, h10, ⟨by omega, by omega⟩, ⟨by omega, by omega⟩, trivial⟩
    have hfr : ∀ b, K b ∉ [6, 32] → F40 b = F b := by rw [hF41]; exact s_fr hfr ha0 (by decide)
    have o42 : F40 a0 = .inr (5, [.ref z1, .ref z3, .ref z5, .ref z7, .ref z9, .int v39, .int z13, .int z14, .int z15, .int z16, .int z17]) := by rw [hF41]; exact th_up
    exact W.vret hx hb hr (fun t ht hW => ⟨⟨F40, rfl, ⟨trivial, trivial, hI, hfr⟩, by rw [ht]; exact hP, va_K.moved hW.alike hK⟩, hS.F ht⟩) hS.2.2 dX5_layPart_49

set_option maxHeartbeats 4000000 in
set_option maxRecDepth 100000 in
theorem s_X5_moveTop (l : Launch) (dC : Nat → ClassId) (dI : Nat → Nat → Nat) (sz : Nat) {L : List Nat} {K : Nat → Nat} {cs : Nat → ClassId} (hLK : ∀ a {k : Nat}, K a = k → k ≠ 0 → a ∈ L) (D : Nat) (F : Nat → va_E) (a0 : Nat) (x1 : Int32) (ha0 : K a0 = 6) (hI : s_I K cs D F) : Met l yX5_moveTop (Cond.code yX5_moveTop cX5_moveTop 2 none :: T0) ({ frames := 0, cells := 0, slots := 0, locals := 0 }) (va_Pc [.ref a0, .int x1] (s_W dC dI sz L F [(cs 0, .int), (cs 1, .byte), (cs 2, .long), (cs 3, .object RX5), (cs 4, .object RX4), (cs 5, .array .int), (cs 6, .char), (cs 7, .boolean)])) (va_Qv (fun (G : Nat → va_E) => True ∧ True ∧ s_I K cs D G ∧ ∀ b, K b ∉ [32] → G b = F b) (fun (G : Nat → va_E) (t : State) => va_P (dC, dI) vwCl (va_pl L G) t.heap ∧ va_K (dC, dI) vwCl [(cs 0, .int), (cs 1, .byte), (cs 2, .long), (cs 3, .object RX5), (cs 4, .object RX4), (cs 5, .array .int), (cs 6, .char), (cs 7, .boolean)] t) (fun q => q ∈ L)) 0 0 (fun q => q ∈ L) := by
  refine Met.ofW (cc := cX5_moveTop) (maxL := 2) (ret := none) (by decide) rfl ?_
  intro p e s m args below meth c s₁ B hml hv
  obtain ⟨rfl, hsz, hP, hK, hD, hN⟩ := hv
  have hx := B.exec
  have hb := B.bytes
  have hr := B.returns
  have hts : ∀ w ∈ T0, w.before _ s = true := fun w h => atoms_spec (ws := Cond.code yX5_moveTop cX5_moveTop 2 none :: T0) B.pre w (List.mem_cons_of_mem _ h)
  have hown : s.vm.findClass RX5 = some m.cls := findClass_of_methodNamed B.named
  have hlocks := B.notSynchronized
  have hS : va_S (fun q => q ∈ L) s.heap s.heap [] := va_S.rf
  have hfr : ∀ b, K b ∉ [32] → F b = F b := fun _ _ => rfl
  have hl := lv_entry ([.ref a0, .int x1]) (n := 2) (Nat.le_of_ble_eq_true rfl)
  rw [lg_entry_eq]
  generalize (lg_sl ([.ref a0, .int x1]) ++ List.replicate (2 - (lg_sl ([.ref a0, .int x1])).length) Slot.unset).toArray = ls at hl ⊢
  have hl : lv_has ls 2 [(0, .ref a0), (1, .int x1)] := hl
  refine s_gen hP hS (fun H locs hP hS => ?_)
  refine lv_aload_n hx hb dX5_moveTop_0 rfl (lv_at hl 0 rfl) ?_
  obtain ⟨z1, z3, z5, z7, z9, z11, z13, z14, z15, z16, z17, o19, h2, h4, h6, h8, h10, h12, h18, -⟩ := s_op6 hI ha0
  refine th_get (D := (dC, dI)) (ci := 5) (v := .int z11) (C := RX5) (T := TX5) (N := 11) hx hb hts inX5 hown hK hP (hLK _ ha0 (by decide)) o19 rfl 5 (by decide) (hts _ T_876) (fun _ h9 => h9) rfl dX5_moveTop_1 ?_
  refine lv_if_le (tgt := 19) hx hb dX5_moveTop_4 (by decide) (fun c20 => ?_) (fun c20 => ?_)
  · have c20 := (ax_le (n := 0) (by decide)).mp c20
    exact W.vret hx hb hr (fun t ht hW => ⟨⟨F, rfl, ⟨trivial, trivial, hI, hfr⟩, by rw [ht]; exact hP, va_K.moved hW.alike hK⟩, hS.F ht⟩) hS.2.2 dX5_moveTop_19
  · have c20 := mt (ax_le (n := 0) (by decide)).mpr c20
    refine lv_aload_n hx hb dX5_moveTop_7 rfl (lv_at hl 0 rfl) ?_
    refine th_get (D := (dC, dI)) (ci := 5) (v := .ref z5) (C := RX5) (T := TX5) (N := 11) hx hb hts inX5 hown hK hP (hLK _ ha0 (by decide)) o19 rfl 2 (by decide) (hts _ T_102) (fun _ h9 => h9) rfl dX5_moveTop_8 ?_
    refine lv_aload_n hx hb dX5_moveTop_11 rfl (lv_at hl 0 rfl) ?_
    refine th_get (D := (dC, dI)) (ci := 5) (v := .int z11) (C := RX5) (T := TX5) (N := 11) hx hb hts inX5 hown hK hP (hLK _ ha0 (by decide)) o19 rfl 5 (by decide) (hts _ T_876) (fun _ h9 => h9) rfl dX5_moveTop_12 ?_
    refine lv_iconst (v := 1) hx hb dX5_moveTop_15 (by decide) ?_
    refine lv_isub hx hb dX5_moveTop_16 ?_
    refine lv_topi (fun v21 ev21 => ?_)
    have qv21 : v21.toInt = z11.toInt - 1 := by rw [ev21]; exact th_sub rfl (by decide) ⟨by omega, by omega⟩
    refine lv_iload_n hx hb dX5_moveTop_17 rfl (lv_at hl 1 rfl) ?_
    obtain ⟨f22, o23, h24⟩ := s_op32 hI h6
    refine th_iast hx hb hK hP hD hS (hLK _ h6 (by decide)) 0 o23 rfl (th_in ⟨by omega, by omega⟩) dX5_moveTop_18 (fun H locs hP hS => ?_)
    have hP : va_P (dC, dI) vwCl (va_pl L (va_up F z5 (.inl (cs 0, 16, .inl (upd f22 (v21 : Int32).toNatClampNeg x1))))) H := hP
    obtain ⟨F25, hF26⟩ : ∃ G : Nat → va_E, G = va_up F z5 (.inl (cs 0, 16, .inl (upd f22 (v21 : Int32).toNatClampNeg x1))) := ⟨_, rfl⟩
    rw [← hF26] at hP
    have hI : s_I K cs D F25 := by rw [hF26]; exact s_cl32 hI h6 ⟨_, rfl, trivial⟩
    have hfr : ∀ b, K b ∉ [32] → F25 b = F b := by rw [hF26]; exact s_fr hfr h6 (by decide)
    have o27 : F25 a0 = .inr (5, [.ref z1, .ref z3, .ref z5, .ref z7, .ref z9, .int z11, .int z13, .int z14, .int z15, .int z16, .int z17]) := by rw [hF26]; exact th_ne (th_kd ha0 h6 (by decide)) o19
    exact W.vret hx hb hr (fun t ht hW => ⟨⟨F25, rfl, ⟨trivial, trivial, hI, hfr⟩, by rw [ht]; exact hP, va_K.moved hW.alike hK⟩, hS.F ht⟩) hS.2.2 dX5_moveTop_19

set_option maxHeartbeats 4000000 in
set_option maxRecDepth 100000 in
theorem s_X5_lineOf (l : Launch) (dC : Nat → ClassId) (dI : Nat → Nat → Nat) (sz : Nat) {L : List Nat} {K : Nat → Nat} {cs : Nat → ClassId} (hLK : ∀ a {k : Nat}, K a = k → k ≠ 0 → a ∈ L) (D : Nat) (F : Nat → va_E) (a0 : Nat) (x1 : Int32) (x2 : Int32) (ha0 : K a0 = 6) (hx1 : 0 ≤ x1.toInt ∧ x1.toInt ≤ 7) (hI : s_I K cs D F) : Met l yX5_lineOf (Cond.code yX5_lineOf cX5_lineOf 5 (some .int) :: T0) ({ frames := 0, cells := 0, slots := 0, locals := 0 }) (va_Pc [.ref a0, .int x1, .int x2] (s_W dC dI sz L F [(cs 0, .int), (cs 1, .byte), (cs 2, .long), (cs 3, .object RX5), (cs 4, .object RX4), (cs 5, .array .int), (cs 6, .char), (cs 7, .boolean)])) (va_Qi (fun (r : Int32) (G : Nat → va_E) => True ∧ True ∧ s_I K cs D G ∧ ∀ b, K b ∉ ([] : List Nat) → G b = F b) (fun (G : Nat → va_E) (t : State) => va_P (dC, dI) vwCl (va_pl L G) t.heap ∧ va_K (dC, dI) vwCl [(cs 0, .int), (cs 1, .byte), (cs 2, .long), (cs 3, .object RX5), (cs 4, .object RX4), (cs 5, .array .int), (cs 6, .char), (cs 7, .boolean)] t) (fun q => q ∈ L)) 0 0 (fun q => q ∈ L) := by
  refine Met.ofW (cc := cX5_lineOf) (maxL := 5) (ret := (some .int)) (by decide) rfl ?_
  intro p e s m args below meth c s₁ B hml hv
  obtain ⟨rfl, hsz, hP, hK, hD, hN⟩ := hv
  have hx := B.exec
  have hb := B.bytes
  have hr := B.returns
  have hts : ∀ w ∈ T0, w.before _ s = true := fun w h => atoms_spec (ws := Cond.code yX5_lineOf cX5_lineOf 5 (some .int) :: T0) B.pre w (List.mem_cons_of_mem _ h)
  have hown : s.vm.findClass RX5 = some m.cls := findClass_of_methodNamed B.named
  have hlocks := B.notSynchronized
  have hS : va_S (fun q => q ∈ L) s.heap s.heap [] := va_S.rf
  have hfr : ∀ b, K b ∉ ([] : List Nat) → F b = F b := fun _ _ => rfl
  have hl := lv_entry ([.ref a0, .int x1, .int x2]) (n := 5) (Nat.le_of_ble_eq_true rfl)
  rw [lg_entry_eq]
  generalize (lg_sl ([.ref a0, .int x1, .int x2]) ++ List.replicate (5 - (lg_sl ([.ref a0, .int x1, .int x2])).length) Slot.unset).toArray = ls at hl ⊢
  have hl : lv_has ls 5 [(0, .ref a0), (1, .int x1), (2, .int x2)] := hl
  refine s_gen hP hS (fun H locs hP hS => ?_)
  refine lv_iload_n hx hb dX5_lineOf_0 rfl (lv_at hl 2 rfl) ?_
  refine lv_iconst (v := 1) hx hb dX5_lineOf_1 (by decide) ?_
  refine lv_icmp_ne (tgt := 12) hx hb dX5_lineOf_2 (by decide) (fun c1 => ?_) (fun c1 => ?_)
  · have c1 := mt (ax_eq (n := 1) (by decide)).mpr c1
    refine lv_iconst (v := 0) hx hb dX5_lineOf_12 (by decide) ?_
    refine lv_istore_n (lv' := [(3, .int 0), (0, .ref a0), (1, .int x1), (2, .int x2)]) hx hb dX5_lineOf_13 rfl hl (by decide) rfl (fun ls hl => ?_)
    refine lv_iconst (v := 0) hx hb dX5_lineOf_14 (by decide) ?_
    refine lv_istore (lv' := [(4, .int 0), (3, .int 0), (0, .ref a0), (1, .int x1), (2, .int x2)]) hx hb dX5_lineOf_15 hl (by decide) rfl (fun ls hl => ?_)
    refine th_loop (fun n g H locs => ∃ (G : Nat → va_E) (ls : Array Slot) (w2 : Int32) (w3 : Int32), g = F0 m 17 ls [] ∧ lv_has ls 5 [(0, .ref a0), (1, .int x1), (3, .int w2), (4, .int w3)] ∧ s_I K cs D G ∧ va_P (dC, dI) vwCl (va_pl L G) H ∧ va_S (fun q => q ∈ L) s.heap H locs ∧ (∀ b, K b ∉ ([] : List Nat) → G b = F b) ∧ True ∧ (0 ≤ w3.toInt ∧ w3.toInt ≤ 16) ∧ (0 ≤ x1.toInt ∧ x1.toInt ≤ 7) ∧ n = (17 - w3.toInt).toNat) _ ⟨F, _, 0, 0, rfl, lv_sub hl [2, 3, 1, 0] rfl, hI, hP, hS, hfr, trivial, (by decide), ⟨by omega, by omega⟩, rfl⟩ (fun n ih17 g H locs hq => ?_)
    obtain ⟨F9, ls, w2, w3, rfl, hl, hI, hP, hS, hfr, h4, h5, h6, hn⟩ := hq
    have hn_17 := hn
    obtain ⟨n_17, hn9_17⟩ : ∃ q, q = n := ⟨_, rfl⟩
    refine th_join (fun g H locs => ∃ (G : Nat → va_E) (ls : Array Slot) (w7 : Int32), g = F0 m 48 ls [] ∧ lv_has ls 5 [(0, .ref a0), (1, .int x1), (3, .int w7), (4, .int w3)] ∧ s_I K cs D G ∧ va_P (dC, dI) vwCl (va_pl L G) H ∧ va_S (fun q => q ∈ L) s.heap H locs ∧ (∀ b, K b ∉ ([] : List Nat) → G b = F b) ∧ True ∧ (0 ≤ x1.toInt ∧ x1.toInt ≤ 7) ∧ (0 ≤ w3.toInt ∧ w3.toInt ≤ 15)) (fun K48 => ?_) ?_
    · refine lv_iload hx hb dX5_lineOf_17 (lv_at hl 3 rfl) ?_
      refine lv_aload_n hx hb dX5_lineOf_19 rfl (lv_at hl 0 rfl) ?_
      obtain ⟨z8, z10, z12, z14, z16, z18, z20, z21, z22, z23, z24, o26, h9, h11, h13, h15, h17, h19, h25, -⟩ := s_op6 hI ha0
      refine th_get (D := (dC, dI)) (ci := 5) (v := .int z18) (C := RX5) (T := TX5) (N := 11) hx hb hts inX5 hown hK hP (hLK _ ha0 (by decide)) o26 rfl 5 (by decide) (hts _ T_876) (fun _ h9 => h9) rfl dX5_lineOf_20 ?_
      refine lv_icmp_ge (tgt := 54) hx hb dX5_lineOf_23 (by decide) (fun c27 => ?_) (fun c27 => ?_)
      · have c27 := Int32.le_iff_toInt_le.mp c27
        refine lv_iload_n hx hb dX5_lineOf_54 rfl (lv_at hl 2 rfl) ?_
        exact W.iret (v := w2) hx hb hr (fun t ht hW => ⟨⟨w2, F9, rfl, ⟨trivial, trivial, hI, hfr⟩, by rw [ht]; exact hP, va_K.moved hW.alike hK⟩, hS.F ht⟩) hS.2.2 dX5_lineOf_55
      · have c27 := mt Int32.le_iff_toInt_le.mpr c27
        refine lv_aload_n hx hb dX5_lineOf_26 rfl (lv_at hl 0 rfl) ?_
        refine th_get (D := (dC, dI)) (ci := 5) (v := .ref z16) (C := RX5) (T := TX5) (N := 11) hx hb hts inX5 hown hK hP (hLK _ ha0 (by decide)) o26 rfl 4 (by decide) (hts _ T_104) (fun _ h9 => h9) rfl dX5_lineOf_27 ?_
        refine lv_iload hx hb dX5_lineOf_30 (lv_at hl 3 rfl) ?_
        obtain ⟨f28, o29, h30⟩ := s_op32 hI h17
        refine th_iald hx hb hK hP (hLK _ h17 (by decide)) 0 o29 rfl (th_in ⟨by omega, by omega⟩) dX5_lineOf_32 ?_
        refine lv_topi (fun v31 ev31 => ?_)
        refine lv_iload_n hx hb dX5_lineOf_33 rfl (lv_at hl 1 rfl) ?_
        refine lv_ishr hx hb dX5_lineOf_34 ?_
        refine lv_topi (fun v32 ev32 => ?_)
        refine lv_iconst (v := 1) hx hb dX5_lineOf_35 (by decide) ?_
        refine lv_iand hx hb dX5_lineOf_36 ?_
        refine lv_topi (fun v33 ev33 => ?_)
        have qv33 : 0 ≤ v33.toInt ∧ v33.toInt ≤ 1 := by rw [ev33]; exact th_and 1 (by decide) (by decide)
        refine lv_if_eq (tgt := 48) hx hb dX5_lineOf_37 (by decide) (fun c34 => ?_) (fun c34 => ?_)
        · have c34 := (ax_eq (n := 0) (by decide)).mp c34
          exact K48 _ _ _ ⟨F9, _, w2, rfl, lv_sub hl [0, 1, 2, 3] rfl, hI, hP, hS, hfr, trivial, ⟨by omega, by omega⟩, ⟨by omega, by omega⟩⟩
        · have c34 := mt (ax_eq (n := 0) (by decide)).mpr c34
          refine lv_aload_n hx hb dX5_lineOf_40 rfl (lv_at hl 0 rfl) ?_
          refine th_get (D := (dC, dI)) (ci := 5) (v := .ref z12) (C := RX5) (T := TX5) (N := 11) hx hb hts inX5 hown hK hP (hLK _ ha0 (by decide)) o26 rfl 2 (by decide) (hts _ T_102) (fun _ h9 => h9) rfl dX5_lineOf_41 ?_
          refine lv_iload hx hb dX5_lineOf_44 (lv_at hl 3 rfl) ?_
          obtain ⟨f35, o36, h37⟩ := s_op32 hI h13
          refine th_iald hx hb hK hP (hLK _ h13 (by decide)) 0 o36 rfl (th_in ⟨by omega, by omega⟩) dX5_lineOf_46 ?_
          refine lv_topi (fun v38 ev38 => ?_)
          refine lv_istore_n (lv' := [(3, .int v38), (0, .ref a0), (1, .int x1), (4, .int w3)]) hx hb dX5_lineOf_47 rfl hl (by decide) rfl (fun ls hl => ?_)
          exact K48 _ _ _ ⟨F9, _, v38, rfl, lv_sub hl [1, 2, 0, 3] rfl, hI, hP, hS, hfr, trivial, ⟨by omega, by omega⟩, ⟨by omega, by omega⟩⟩
    · intro g H locs hq
      obtain ⟨F9, ls, w7, rfl, hl, hI, hP, hS, hfr, h39, h40, h41⟩ := hq
      obtain ⟨v42, ev42⟩ : ∃ y : Int32, w3 + 1 = y := ⟨_, rfl⟩
      have qv42 : v42.toInt = w3.toInt + 1 := by rw [← ev42]; exact th_add rfl (by decide) ⟨by omega, by omega⟩
      refine lv_iinc (v := v42) (lv' := [(4, .int v42), (0, .ref a0), (1, .int x1), (3, .int w7)]) hx hb dX5_lineOf_48 hl (k := 3) rfl ev42 (by decide) rfl (fun ls hl => ?_)
      refine lv_goto (tgt := 17) hx hb dX5_lineOf_51 (by decide) ?_
      exact ih17 _ _ _ _ (by omega) ⟨F9, _, w7, v42, rfl, lv_sub hl [1, 2, 3, 0] rfl, hI, hP, hS, hfr, trivial, ⟨by omega, by omega⟩, ⟨by omega, by omega⟩, rfl⟩
  · have c1 := (ax_eq (n := 1) (by decide)).mp c1
    refine lv_aload_n hx hb dX5_lineOf_5 rfl (lv_at hl 0 rfl) ?_
    obtain ⟨z43, z45, z47, z49, z51, z53, z55, z56, z57, z58, z59, o61, h44, h46, h48, h50, h52, h54, h60, -⟩ := s_op6 hI ha0
    refine th_get (D := (dC, dI)) (ci := 5) (v := .ref z45) (C := RX5) (T := TX5) (N := 11) hx hb hts inX5 hown hK hP (hLK _ ha0 (by decide)) o61 rfl 1 (by decide) (hts _ T_101) (fun _ h9 => h9) rfl dX5_lineOf_6 ?_
    refine lv_iload_n hx hb dX5_lineOf_9 rfl (lv_at hl 1 rfl) ?_
    obtain ⟨f62, o63, h64⟩ := s_op31 hI h46
    refine th_iald hx hb hK hP (hLK _ h46 (by decide)) 0 o63 rfl (th_in ⟨by omega, by omega⟩) dX5_lineOf_10 ?_
    refine lv_topi (fun v65 ev65 => ?_)
    exact W.iret (v := v65) hx hb hr (fun t ht hW => ⟨⟨v65, F, rfl, ⟨trivial, trivial, hI, hfr⟩, by rw [ht]; exact hP, va_K.moved hW.alike hK⟩, hS.F ht⟩) hS.2.2 dX5_lineOf_11

set_option maxHeartbeats 4000000 in
set_option maxRecDepth 100000 in
theorem s_X5_yieldTop (l : Launch) (dC : Nat → ClassId) (dI : Nat → Nat → Nat) (sz : Nat) {L : List Nat} {K : Nat → Nat} {cs : Nat → ClassId} (hLK : ∀ a {k : Nat}, K a = k → k ≠ 0 → a ∈ L) (D : Nat) (F : Nat → va_E) (a0 : Nat) (ha0 : K a0 = 6) (hI : s_I K cs D F) : Met l yX5_yieldTop (Cond.code yX5_yieldTop cX5_yieldTop 5 none :: T0) ({ frames := 0, cells := 0, slots := 0, locals := 0 }) (va_Pc [.ref a0] (s_W dC dI sz L F [(cs 0, .int), (cs 1, .byte), (cs 2, .long), (cs 3, .object RX5), (cs 4, .object RX4), (cs 5, .array .int), (cs 6, .char), (cs 7, .boolean)])) (va_Qv (fun (G : Nat → va_E) => True ∧ True ∧ s_I K cs D G ∧ ∀ b, K b ∉ [32] → G b = F b) (fun (G : Nat → va_E) (t : State) => va_P (dC, dI) vwCl (va_pl L G) t.heap ∧ va_K (dC, dI) vwCl [(cs 0, .int), (cs 1, .byte), (cs 2, .long), (cs 3, .object RX5), (cs 4, .object RX4), (cs 5, .array .int), (cs 6, .char), (cs 7, .boolean)] t) (fun q => q ∈ L)) 0 0 (fun q => q ∈ L) := by
  refine Met.ofW (cc := cX5_yieldTop) (maxL := 5) (ret := none) (by decide) rfl ?_
  intro p e s m args below meth c s₁ B hml hv
  obtain ⟨rfl, hsz, hP, hK, hD, hN⟩ := hv
  have hx := B.exec
  have hb := B.bytes
  have hr := B.returns
  have hts : ∀ w ∈ T0, w.before _ s = true := fun w h => atoms_spec (ws := Cond.code yX5_yieldTop cX5_yieldTop 5 none :: T0) B.pre w (List.mem_cons_of_mem _ h)
  have hown : s.vm.findClass RX5 = some m.cls := findClass_of_methodNamed B.named
  have hlocks := B.notSynchronized
  have hS : va_S (fun q => q ∈ L) s.heap s.heap [] := va_S.rf
  have hfr : ∀ b, K b ∉ [32] → F b = F b := fun _ _ => rfl
  have hl := lv_entry ([.ref a0]) (n := 5) (Nat.le_of_ble_eq_true rfl)
  rw [lg_entry_eq]
  generalize (lg_sl ([.ref a0]) ++ List.replicate (5 - (lg_sl ([.ref a0])).length) Slot.unset).toArray = ls at hl ⊢
  have hl : lv_has ls 5 [(0, .ref a0)] := hl
  refine s_gen hP hS (fun H locs hP hS => ?_)
  refine lv_aload_n hx hb dX5_yieldTop_0 rfl (lv_at hl 0 rfl) ?_
  obtain ⟨z1, z3, z5, z7, z9, z11, z13, z14, z15, z16, z17, o19, h2, h4, h6, h8, h10, h12, h18, -⟩ := s_op6 hI ha0
  refine th_get (D := (dC, dI)) (ci := 5) (v := .int z11) (C := RX5) (T := TX5) (N := 11) hx hb hts inX5 hown hK hP (hLK _ ha0 (by decide)) o19 rfl 5 (by decide) (hts _ T_876) (fun _ h9 => h9) rfl dX5_yieldTop_1 ?_
  refine lv_iconst (v := 1) hx hb dX5_yieldTop_4 (by decide) ?_
  refine lv_isub hx hb dX5_yieldTop_5 ?_
  refine lv_topi (fun v20 ev20 => ?_)
  have qv20 : v20.toInt = z11.toInt - 1 := by rw [ev20]; exact th_sub rfl (by decide) ⟨by omega, by omega⟩
  refine lv_istore_n (lv' := [(1, .int v20), (0, .ref a0)]) hx hb dX5_yieldTop_6 rfl hl (by decide) rfl (fun ls hl => ?_)
  refine lv_aload_n hx hb dX5_yieldTop_7 rfl (lv_at hl 1 rfl) ?_
  refine th_get (D := (dC, dI)) (ci := 5) (v := .int z11) (C := RX5) (T := TX5) (N := 11) hx hb hts inX5 hown hK hP (hLK _ ha0 (by decide)) o19 rfl 5 (by decide) (hts _ T_876) (fun _ h9 => h9) rfl dX5_yieldTop_8 ?_
  refine lv_iconst (v := 2) hx hb dX5_yieldTop_11 (by decide) ?_
  refine lv_isub hx hb dX5_yieldTop_12 ?_
  refine lv_topi (fun v21 ev21 => ?_)
  have qv21 : v21.toInt = z11.toInt - 2 := by rw [ev21]; exact th_sub rfl (by decide) ⟨by omega, by omega⟩
  refine lv_istore_n (lv' := [(2, .int v21), (1, .int v20), (0, .ref a0)]) hx hb dX5_yieldTop_13 rfl hl (by decide) rfl (fun ls hl => ?_)
  refine lv_iload_n hx hb dX5_yieldTop_14 rfl (lv_at hl 0 rfl) ?_
  refine lv_if_lt (tgt := 48) hx hb dX5_yieldTop_15 (by decide) (fun c22 => ?_) (fun c22 => ?_)
  · have c22 := (ax_lt (n := 0) (by decide)).mp c22
    exact W.vret hx hb hr (fun t ht hW => ⟨⟨F, rfl, ⟨trivial, trivial, hI, hfr⟩, by rw [ht]; exact hP, va_K.moved hW.alike hK⟩, hS.F ht⟩) hS.2.2 dX5_yieldTop_48
  · have c22 := mt (ax_lt (n := 0) (by decide)).mpr c22
    refine lv_aload_n hx hb dX5_yieldTop_18 rfl (lv_at hl 2 rfl) ?_
    refine th_get (D := (dC, dI)) (ci := 5) (v := .ref z7) (C := RX5) (T := TX5) (N := 11) hx hb hts inX5 hown hK hP (hLK _ ha0 (by decide)) o19 rfl 3 (by decide) (hts _ T_103) (fun _ h9 => h9) rfl dX5_yieldTop_19 ?_
    refine lv_iload_n hx hb dX5_yieldTop_22 rfl (lv_at hl 0 rfl) ?_
    obtain ⟨f23, o24, h25⟩ := s_op32 hI h8
    refine th_iald hx hb hK hP (hLK _ h8 (by decide)) 0 o24 rfl (th_in ⟨by omega, by omega⟩) dX5_yieldTop_23 ?_
    refine lv_topi (fun v26 ev26 => ?_)
    refine lv_aload_n hx hb dX5_yieldTop_24 rfl (lv_at hl 2 rfl) ?_
    refine th_get (D := (dC, dI)) (ci := 5) (v := .ref z7) (C := RX5) (T := TX5) (N := 11) hx hb hts inX5 hown hK hP (hLK _ ha0 (by decide)) o19 rfl 3 (by decide) (hts _ T_103) (fun _ h9 => h9) rfl dX5_yieldTop_25 ?_
    refine lv_iload_n hx hb dX5_yieldTop_28 rfl (lv_at hl 1 rfl) ?_
    obtain ⟨f27, o28, h29⟩ := s_op32 hI h8
    refine th_iald hx hb hK hP (hLK _ h8 (by decide)) 0 o28 rfl (th_in ⟨by omega, by omega⟩) dX5_yieldTop_29 ?_
    refine lv_topi (fun v30 ev30 => ?_)
    refine lv_icmp_ne (tgt := 48) hx hb dX5_yieldTop_30 (by decide) (fun c31 => ?_) (fun c31 => ?_)
    · have c31 := mt Int32.toInt_inj.symm.mpr c31
      exact W.vret hx hb hr (fun t ht hW => ⟨⟨F, rfl, ⟨trivial, trivial, hI, hfr⟩, by rw [ht]; exact hP, va_K.moved hW.alike hK⟩, hS.F ht⟩) hS.2.2 dX5_yieldTop_48
    · have c31 := Int32.toInt_inj.symm.mp c31
      refine lv_aload_n hx hb dX5_yieldTop_33 rfl (lv_at hl 2 rfl) ?_
      refine th_get (D := (dC, dI)) (ci := 5) (v := .ref z5) (C := RX5) (T := TX5) (N := 11) hx hb hts inX5 hown hK hP (hLK _ ha0 (by decide)) o19 rfl 2 (by decide) (hts _ T_102) (fun _ h9 => h9) rfl dX5_yieldTop_34 ?_
      refine lv_iload_n hx hb dX5_yieldTop_37 rfl (lv_at hl 0 rfl) ?_
      obtain ⟨f32, o33, h34⟩ := s_op32 hI h6
      refine th_iald hx hb hK hP (hLK _ h6 (by decide)) 0 o33 rfl (th_in ⟨by omega, by omega⟩) dX5_yieldTop_38 ?_
      refine lv_topi (fun v35 ev35 => ?_)
      refine lv_aload_n hx hb dX5_yieldTop_39 rfl (lv_at hl 2 rfl) ?_
      refine th_get (D := (dC, dI)) (ci := 5) (v := .ref z7) (C := RX5) (T := TX5) (N := 11) hx hb hts inX5 hown hK hP (hLK _ ha0 (by decide)) o19 rfl 3 (by decide) (hts _ T_103) (fun _ h9 => h9) rfl dX5_yieldTop_40 ?_
      refine lv_iload_n hx hb dX5_yieldTop_43 rfl (lv_at hl 0 rfl) ?_
      obtain ⟨f36, o37, h38⟩ := s_op32 hI h8
      refine th_iald hx hb hK hP (hLK _ h8 (by decide)) 0 o37 rfl (th_in ⟨by omega, by omega⟩) dX5_yieldTop_44 ?_
      refine lv_topi (fun v39 ev39 => ?_)
      refine lv_icmp_ne (tgt := 49) hx hb dX5_yieldTop_45 (by decide) (fun c40 => ?_) (fun c40 => ?_)
      · have c40 := mt Int32.toInt_inj.symm.mpr c40
        refine lv_aload_n hx hb dX5_yieldTop_49 rfl (lv_at hl 2 rfl) ?_
        refine th_get (D := (dC, dI)) (ci := 5) (v := .ref z5) (C := RX5) (T := TX5) (N := 11) hx hb hts inX5 hown hK hP (hLK _ ha0 (by decide)) o19 rfl 2 (by decide) (hts _ T_102) (fun _ h9 => h9) rfl dX5_yieldTop_50 ?_
        refine lv_iload_n hx hb dX5_yieldTop_53 rfl (lv_at hl 1 rfl) ?_
        obtain ⟨f41, o42, h43⟩ := s_op32 hI h6
        refine th_iald hx hb hK hP (hLK _ h6 (by decide)) 0 o42 rfl (th_in ⟨by omega, by omega⟩) dX5_yieldTop_54 ?_
        refine lv_topi (fun v44 ev44 => ?_)
        refine lv_istore_n (lv' := [(3, .int v44), (2, .int v21), (1, .int v20), (0, .ref a0)]) hx hb dX5_yieldTop_55 rfl hl (by decide) rfl (fun ls hl => ?_)
        refine lv_aload_n hx hb dX5_yieldTop_56 rfl (lv_at hl 3 rfl) ?_
        refine th_get (D := (dC, dI)) (ci := 5) (v := .ref z9) (C := RX5) (T := TX5) (N := 11) hx hb hts inX5 hown hK hP (hLK _ ha0 (by decide)) o19 rfl 4 (by decide) (hts _ T_104) (fun _ h9 => h9) rfl dX5_yieldTop_57 ?_
        refine lv_iload_n hx hb dX5_yieldTop_60 rfl (lv_at hl 2 rfl) ?_
        obtain ⟨f45, o46, h47⟩ := s_op32 hI h10
        refine th_iald hx hb hK hP (hLK _ h10 (by decide)) 0 o46 rfl (th_in ⟨by omega, by omega⟩) dX5_yieldTop_61 ?_
        refine lv_topi (fun v48 ev48 => ?_)
        refine lv_istore (lv' := [(4, .int v48), (3, .int v44), (2, .int v21), (1, .int v20), (0, .ref a0)]) hx hb dX5_yieldTop_62 hl (by decide) rfl (fun ls hl => ?_)
        refine lv_aload_n hx hb dX5_yieldTop_64 rfl (lv_at hl 4 rfl) ?_
        refine th_get (D := (dC, dI)) (ci := 5) (v := .ref z5) (C := RX5) (T := TX5) (N := 11) hx hb hts inX5 hown hK hP (hLK _ ha0 (by decide)) o19 rfl 2 (by decide) (hts _ T_102) (fun _ h9 => h9) rfl dX5_yieldTop_65 ?_
        refine lv_iload_n hx hb dX5_yieldTop_68 rfl (lv_at hl 3 rfl) ?_
        refine lv_aload_n hx hb dX5_yieldTop_69 rfl (lv_at hl 4 rfl) ?_
        refine th_get (D := (dC, dI)) (ci := 5) (v := .ref z5) (C := RX5) (T := TX5) (N := 11) hx hb hts inX5 hown hK hP (hLK _ ha0 (by decide)) o19 rfl 2 (by decide) (hts _ T_102) (fun _ h9 => h9) rfl dX5_yieldTop_70 ?_
        refine lv_iload_n hx hb dX5_yieldTop_73 rfl (lv_at hl 2 rfl) ?_
        obtain ⟨f49, o50, h51⟩ := s_op32 hI h6
        refine th_iald hx hb hK hP (hLK _ h6 (by decide)) 0 o50 rfl (th_in ⟨by omega, by omega⟩) dX5_yieldTop_74 ?_
        refine lv_topi (fun v52 ev52 => ?_)
        obtain ⟨f53, o54, h55⟩ := s_op32 hI h6
        refine th_iast hx hb hK hP hD hS (hLK _ h6 (by decide)) 0 o54 rfl (th_in ⟨by omega, by omega⟩) dX5_yieldTop_75 (fun H locs hP hS => ?_)
        have hP : va_P (dC, dI) vwCl (va_pl L (va_up F z5 (.inl (cs 0, 16, .inl (upd f53 (v20 : Int32).toNatClampNeg v52))))) H := hP
        obtain ⟨F56, hF57⟩ : ∃ G : Nat → va_E, G = va_up F z5 (.inl (cs 0, 16, .inl (upd f53 (v20 : Int32).toNatClampNeg v52))) := ⟨_, rfl⟩
        rw [← hF57] at hP
        have hI : s_I K cs D F56 := by rw [hF57]; exact s_cl32 hI h6 ⟨_, rfl, trivial⟩
        have hfr : ∀ b, K b ∉ [32] → F56 b = F b := by rw [hF57]; exact s_fr hfr h6 (by decide)
        have o58 : F56 a0 = .inr (5, [.ref z1, .ref z3, .ref z5, .ref z7, .ref z9, .int z11, .int z13, .int z14, .int z15, .int z16, .int z17]) := by rw [hF57]; exact th_ne (th_kd ha0 h6 (by decide)) o19
        refine lv_aload_n hx hb dX5_yieldTop_76 rfl (lv_at hl 4 rfl) ?_
        refine th_get (D := (dC, dI)) (ci := 5) (v := .ref z9) (C := RX5) (T := TX5) (N := 11) hx hb hts inX5 hown hK hP (hLK _ ha0 (by decide)) o58 rfl 4 (by decide) (hts _ T_104) (fun _ h9 => h9) rfl dX5_yieldTop_77 ?_
        refine lv_iload_n hx hb dX5_yieldTop_80 rfl (lv_at hl 3 rfl) ?_
        refine lv_aload_n hx hb dX5_yieldTop_81 rfl (lv_at hl 4 rfl) ?_
        refine th_get (D := (dC, dI)) (ci := 5) (v := .ref z9) (C := RX5) (T := TX5) (N := 11) hx hb hts inX5 hown hK hP (hLK _ ha0 (by decide)) o58 rfl 4 (by decide) (hts _ T_104) (fun _ h9 => h9) rfl dX5_yieldTop_82 ?_
        refine lv_iload_n hx hb dX5_yieldTop_85 rfl (lv_at hl 2 rfl) ?_
        obtain ⟨f59, o60, h61⟩ := s_op32 hI h10
        refine th_iald hx hb hK hP (hLK _ h10 (by decide)) 0 o60 rfl (th_in ⟨by omega, by omega⟩) dX5_yieldTop_86 ?_
        refine lv_topi (fun v62 ev62 => ?_)
        obtain ⟨f63, o64, h65⟩ := s_op32 hI h10
        refine th_iast hx hb hK hP hD hS (hLK _ h10 (by decide)) 0 o64 rfl (th_in ⟨by omega, by omega⟩) dX5_yieldTop_87 (fun H locs hP hS => ?_)
        have hP : va_P (dC, dI) vwCl (va_pl L (va_up F56 z9 (.inl (cs 0, 16, .inl (upd f63 (v20 : Int32).toNatClampNeg v62))))) H := hP
        obtain ⟨F66, hF67⟩ : ∃ G : Nat → va_E, G = va_up F56 z9 (.inl (cs 0, 16, .inl (upd f63 (v20 : Int32).toNatClampNeg v62))) := ⟨_, rfl⟩
        rw [← hF67] at hP
        have hI : s_I K cs D F66 := by rw [hF67]; exact s_cl32 hI h10 ⟨_, rfl, trivial⟩
        have hfr : ∀ b, K b ∉ [32] → F66 b = F b := by rw [hF67]; exact s_fr hfr h10 (by decide)
        have o68 : F66 a0 = .inr (5, [.ref z1, .ref z3, .ref z5, .ref z7, .ref z9, .int z11, .int z13, .int z14, .int z15, .int z16, .int z17]) := by rw [hF67]; exact th_ne (th_kd ha0 h10 (by decide)) o58
        refine lv_aload_n hx hb dX5_yieldTop_88 rfl (lv_at hl 4 rfl) ?_
        refine th_get (D := (dC, dI)) (ci := 5) (v := .ref z5) (C := RX5) (T := TX5) (N := 11) hx hb hts inX5 hown hK hP (hLK _ ha0 (by decide)) o68 rfl 2 (by decide) (hts _ T_102) (fun _ h9 => h9) rfl dX5_yieldTop_89 ?_
        refine lv_iload_n hx hb dX5_yieldTop_92 rfl (lv_at hl 2 rfl) ?_
        refine lv_iload_n hx hb dX5_yieldTop_93 rfl (lv_at hl 1 rfl) ?_
        obtain ⟨f69, o70, h71⟩ := s_op32 hI h6
        refine th_iast hx hb hK hP hD hS (hLK _ h6 (by decide)) 0 o70 rfl (th_in ⟨by omega, by omega⟩) dX5_yieldTop_94 (fun H locs hP hS => ?_)
        have hP : va_P (dC, dI) vwCl (va_pl L (va_up F66 z5 (.inl (cs 0, 16, .inl (upd f69 (v21 : Int32).toNatClampNeg v44))))) H := hP
        obtain ⟨F72, hF73⟩ : ∃ G : Nat → va_E, G = va_up F66 z5 (.inl (cs 0, 16, .inl (upd f69 (v21 : Int32).toNatClampNeg v44))) := ⟨_, rfl⟩
        rw [← hF73] at hP
        have hI : s_I K cs D F72 := by rw [hF73]; exact s_cl32 hI h6 ⟨_, rfl, trivial⟩
        have hfr : ∀ b, K b ∉ [32] → F72 b = F b := by rw [hF73]; exact s_fr hfr h6 (by decide)
        have o74 : F72 a0 = .inr (5, [.ref z1, .ref z3, .ref z5, .ref z7, .ref z9, .int z11, .int z13, .int z14, .int z15, .int z16, .int z17]) := by rw [hF73]; exact th_ne (th_kd ha0 h6 (by decide)) o68
        refine lv_aload_n hx hb dX5_yieldTop_95 rfl (lv_at hl 4 rfl) ?_
        refine th_get (D := (dC, dI)) (ci := 5) (v := .ref z9) (C := RX5) (T := TX5) (N := 11) hx hb hts inX5 hown hK hP (hLK _ ha0 (by decide)) o74 rfl 4 (by decide) (hts _ T_104) (fun _ h9 => h9) rfl dX5_yieldTop_96 ?_
        refine lv_iload_n hx hb dX5_yieldTop_99 rfl (lv_at hl 2 rfl) ?_
        refine lv_iload hx hb dX5_yieldTop_100 (lv_at hl 0 rfl) ?_
        obtain ⟨f75, o76, h77⟩ := s_op32 hI h10
        refine th_iast hx hb hK hP hD hS (hLK _ h10 (by decide)) 0 o76 rfl (th_in ⟨by omega, by omega⟩) dX5_yieldTop_102 (fun H locs hP hS => ?_)
        have hP : va_P (dC, dI) vwCl (va_pl L (va_up F72 z9 (.inl (cs 0, 16, .inl (upd f75 (v21 : Int32).toNatClampNeg v48))))) H := hP
        obtain ⟨F78, hF79⟩ : ∃ G : Nat → va_E, G = va_up F72 z9 (.inl (cs 0, 16, .inl (upd f75 (v21 : Int32).toNatClampNeg v48))) := ⟨_, rfl⟩
        rw [← hF79] at hP
        have hI : s_I K cs D F78 := by rw [hF79]; exact s_cl32 hI h10 ⟨_, rfl, trivial⟩
        have hfr : ∀ b, K b ∉ [32] → F78 b = F b := by rw [hF79]; exact s_fr hfr h10 (by decide)
        have o80 : F78 a0 = .inr (5, [.ref z1, .ref z3, .ref z5, .ref z7, .ref z9, .int z11, .int z13, .int z14, .int z15, .int z16, .int z17]) := by rw [hF79]; exact th_ne (th_kd ha0 h10 (by decide)) o74
        exact W.vret hx hb hr (fun t ht hW => ⟨⟨F78, rfl, ⟨trivial, trivial, hI, hfr⟩, by rw [ht]; exact hP, va_K.moved hW.alike hK⟩, hS.F ht⟩) hS.2.2 dX5_yieldTop_103
      · have c40 := Int32.toInt_inj.symm.mp c40
        exact W.vret hx hb hr (fun t ht hW => ⟨⟨F, rfl, ⟨trivial, trivial, hI, hfr⟩, by rw [ht]; exact hP, va_K.moved hW.alike hK⟩, hS.F ht⟩) hS.2.2 dX5_yieldTop_48

set_option maxHeartbeats 4000000 in
set_option maxRecDepth 100000 in
theorem s_X5_settle (l : Launch) (dC : Nat → ClassId) (dI : Nat → Nat → Nat) (sz : Nat) {L : List Nat} {K : Nat → Nat} {cs : Nat → ClassId} (hLK : ∀ a {k : Nat}, K a = k → k ≠ 0 → a ∈ L) (D : Nat) (F : Nat → va_E) (a0 : Nat) (x1 : Int32) (ha0 : K a0 = 6) (hI : s_I K cs D F) : Met l yX5_settle (Cond.code yX5_settle cX5_settle 6 none :: T0) ({ frames := 0, cells := 0, slots := 0, locals := 0 }) (va_Pc [.ref a0, .int x1] (s_W dC dI sz L F [(cs 0, .int), (cs 1, .byte), (cs 2, .long), (cs 3, .object RX5), (cs 4, .object RX4), (cs 5, .array .int), (cs 6, .char), (cs 7, .boolean)])) (va_Qv (fun (G : Nat → va_E) => True ∧ True ∧ s_I K cs D G ∧ ∀ b, K b ∉ [6, 32] → G b = F b) (fun (G : Nat → va_E) (t : State) => va_P (dC, dI) vwCl (va_pl L G) t.heap ∧ va_K (dC, dI) vwCl [(cs 0, .int), (cs 1, .byte), (cs 2, .long), (cs 3, .object RX5), (cs 4, .object RX4), (cs 5, .array .int), (cs 6, .char), (cs 7, .boolean)] t) (fun q => q ∈ L)) 0 0 (fun q => q ∈ L) := by
  refine Met.ofW (cc := cX5_settle) (maxL := 6) (ret := none) (by decide) rfl ?_
  intro p e s m args below meth c s₁ B hml hv
  obtain ⟨rfl, hsz, hP, hK, hD, hN⟩ := hv
  have hx := B.exec
  have hb := B.bytes
  have hr := B.returns
  have hts : ∀ w ∈ T0, w.before _ s = true := fun w h => atoms_spec (ws := Cond.code yX5_settle cX5_settle 6 none :: T0) B.pre w (List.mem_cons_of_mem _ h)
  have hown : s.vm.findClass RX5 = some m.cls := findClass_of_methodNamed B.named
  have hlocks := B.notSynchronized
  have hS : va_S (fun q => q ∈ L) s.heap s.heap [] := va_S.rf
  have hfr : ∀ b, K b ∉ [6, 32] → F b = F b := fun _ _ => rfl
  have hl := lv_entry ([.ref a0, .int x1]) (n := 6) (Nat.le_of_ble_eq_true rfl)
  rw [lg_entry_eq]
  generalize (lg_sl ([.ref a0, .int x1]) ++ List.replicate (6 - (lg_sl ([.ref a0, .int x1])).length) Slot.unset).toArray = ls at hl ⊢
  have hl : lv_has ls 6 [(0, .ref a0), (1, .int x1)] := hl
  refine s_gen hP hS (fun H locs hP hS => ?_)
  refine th_join (fun g H locs => ∃ (G : Nat → va_E) (ls : Array Slot) (w1 : Int32), g = F0 m 12 ls [.int w1] ∧ lv_has ls 6 [(0, .ref a0), (1, .int x1)] ∧ s_I K cs D G ∧ va_P (dC, dI) vwCl (va_pl L G) H ∧ va_S (fun q => q ∈ L) s.heap H locs ∧ (∀ b, K b ∉ [6, 32] → G b = F b) ∧ (0 ≤ w1.toInt ∧ w1.toInt ≤ 1) ∧ (∀ vs z, G a0 = .inr (5, vs) → vs[5]? = some (.int z) → w1.toInt = 0 ∨ 1 ≤ z.toInt)) (fun K12 => ?_) ?_
  · refine lv_aload_n hx hb dX5_settle_0 rfl (lv_at hl 0 rfl) ?_
    obtain ⟨z2, z4, z6, z8, z10, z12, z14, z15, z16, z17, z18, o20, h3, h5, h7, h9, h11, h13, h19, -⟩ := s_op6 hI ha0
    refine th_get (D := (dC, dI)) (ci := 5) (v := .int z12) (C := RX5) (T := TX5) (N := 11) hx hb hts inX5 hown hK hP (hLK _ ha0 (by decide)) o20 rfl 5 (by decide) (hts _ T_876) (fun _ h9 => h9) rfl dX5_settle_1 ?_
    refine lv_if_le (tgt := 11) hx hb dX5_settle_4 (by decide) (fun c21 => ?_) (fun c21 => ?_)
    · have c21 := (ax_le (n := 0) (by decide)).mp c21
      refine lv_iconst (v := 0) hx hb dX5_settle_11 (by decide) ?_
      exact K12 _ _ _ ⟨F, _, 0, rfl, lv_sub hl [0, 1] rfl, hI, hP, hS, hfr, (by decide), (fun vs z q q2 => by rw [o20] at q; cases q; cases q2; first | omega | exact Or.inl (by decide) | exact Or.inr (by omega))⟩
    · have c21 := mt (ax_le (n := 0) (by decide)).mpr c21
      refine lv_iconst (v := 1) hx hb dX5_settle_7 (by decide) ?_
      refine lv_goto (tgt := 12) hx hb dX5_settle_8 (by decide) ?_
      exact K12 _ _ _ ⟨F, _, 1, rfl, lv_sub hl [0, 1] rfl, hI, hP, hS, hfr, (by decide), (fun vs z q q2 => by rw [o20] at q; cases q; cases q2; first | omega | exact Or.inl (by decide) | exact Or.inr (by omega))⟩
  · intro g H locs hq
    obtain ⟨F9, ls, w1, rfl, hl, hI, hP, hS, hfr, h22, h23⟩ := hq
    obtain ⟨z24, z26, z28, z30, z32, z34, z36, z37, z38, z39, z40, o42, h25, h27, h29, h31, h33, h35, h41, -⟩ := s_op6 hI ha0
    have h23 := h23 _ _ o42 rfl
    refine lv_istore_n (lv' := [(2, .int w1), (0, .ref a0), (1, .int x1)]) hx hb dX5_settle_12 rfl hl (by decide) rfl (fun ls hl => ?_)
    refine lv_bipush (v := 16) hx hb dX5_settle_13 (by decide) ?_
    refine lv_istore_n (lv' := [(3, .int 16), (2, .int w1), (0, .ref a0), (1, .int x1)]) hx hb dX5_settle_15 rfl hl (by decide) rfl (fun ls hl => ?_)
    refine th_loop (fun n g H locs => ∃ (G : Nat → va_E) (ls : Array Slot) (w43 : Int32) (w44 : Int32), g = F0 m 16 ls [] ∧ lv_has ls 6 [(0, .ref a0), (1, .int x1), (2, .int w43), (3, .int w44)] ∧ s_I K cs D G ∧ va_P (dC, dI) vwCl (va_pl L G) H ∧ va_S (fun q => q ∈ L) s.heap H locs ∧ (∀ b, K b ∉ [6, 32] → G b = F b) ∧ (0 ≤ w43.toInt ∧ w43.toInt ≤ 1) ∧ (0 ≤ w44.toInt ∧ w44.toInt ≤ 16) ∧ (∀ vs z, G a0 = .inr (5, vs) → vs[5]? = some (.int z) → w43.toInt = 0 ∨ 1 ≤ z.toInt) ∧ n = (w44.toInt - -1).toNat) _ ⟨F9, _, w1, 16, rfl, lv_sub hl [2, 3, 1, 0] rfl, hI, hP, hS, hfr, ⟨by omega, by omega⟩, (by decide), (fun vs z q q2 => by rw [o42] at q; cases q; cases q2; first | omega | exact Or.inl (by decide) | exact Or.inr (by omega)), rfl⟩ (fun n ih16 g H locs hq => ?_)
    obtain ⟨F9, ls, w43, w44, rfl, hl, hI, hP, hS, hfr, h45, h46, h47, hn⟩ := hq
    obtain ⟨z48, z50, z52, z54, z56, z58, z60, z61, z62, z63, z64, o66, h49, h51, h53, h55, h57, h59, h65, -⟩ := s_op6 hI ha0
    have h47 := h47 _ _ o66 rfl
    have hn_16 := hn
    obtain ⟨n_16, hn9_16⟩ : ∃ q, q = n := ⟨_, rfl⟩
    refine th_join (fun g H locs => ∃ (G : Nat → va_E) (ls : Array Slot) (w67 : Int32), g = F0 m 161 ls [.int w67] ∧ lv_has ls 6 [(0, .ref a0), (1, .int x1), (3, .int w44)] ∧ s_I K cs D G ∧ va_P (dC, dI) vwCl (va_pl L G) H ∧ va_S (fun q => q ∈ L) s.heap H locs ∧ (∀ b, K b ∉ [6, 32] → G b = F b) ∧ (0 ≤ w67.toInt ∧ w67.toInt ≤ 1) ∧ (1 ≤ w44.toInt ∧ w44.toInt ≤ 16) ∧ (∀ vs z, G a0 = .inr (5, vs) → vs[5]? = some (.int z) → w67.toInt = 0 ∨ 1 ≤ z.toInt)) (fun K161 => ?_) ?_
    refine th_join (fun g H locs => ∃ (G : Nat → va_E) (ls : Array Slot), g = F0 m 160 ls [] ∧ lv_has ls 6 [(0, .ref a0), (1, .int x1), (3, .int w44)] ∧ s_I K cs D G ∧ va_P (dC, dI) vwCl (va_pl L G) H ∧ va_S (fun q => q ∈ L) s.heap H locs ∧ (∀ b, K b ∉ [6, 32] → G b = F b) ∧ (1 ≤ w44.toInt ∧ w44.toInt ≤ 16)) (fun K160 => ?_) ?_
    refine th_join (fun g H locs => ∃ (G : Nat → va_E) (ls : Array Slot) (w68 : Int32), g = F0 m 145 ls [] ∧ lv_has ls 6 [(0, .ref a0), (1, .int x1), (2, .int w68), (3, .int w44)] ∧ s_I K cs D G ∧ va_P (dC, dI) vwCl (va_pl L G) H ∧ va_S (fun q => q ∈ L) s.heap H locs ∧ (∀ b, K b ∉ [6, 32] → G b = F b) ∧ (0 ≤ w68.toInt ∧ w68.toInt ≤ 1) ∧ (1 ≤ w44.toInt ∧ w44.toInt ≤ 16)) (fun K145 => ?_) ?_
    refine th_join (fun g H locs => ∃ (G : Nat → va_E) (ls : Array Slot) (w69 : Int32), g = F0 m 130 ls [.int w69] ∧ lv_has ls 6 [(0, .ref a0), (1, .int x1), (3, .int w44)] ∧ s_I K cs D G ∧ va_P (dC, dI) vwCl (va_pl L G) H ∧ va_S (fun q => q ∈ L) s.heap H locs ∧ (∀ b, K b ∉ [6, 32] → G b = F b) ∧ (0 ≤ w69.toInt ∧ w69.toInt ≤ 1) ∧ (1 ≤ w44.toInt ∧ w44.toInt ≤ 16) ∧ (∀ vs z, G a0 = .inr (5, vs) → vs[5]? = some (.int z) → 1 ≤ z.toInt)) (fun K130 => ?_) ?_
    refine th_join (fun g H locs => ∃ (G : Nat → va_E) (ls : Array Slot), g = F0 m 129 ls [] ∧ lv_has ls 6 [(0, .ref a0), (1, .int x1), (3, .int w44)] ∧ s_I K cs D G ∧ va_P (dC, dI) vwCl (va_pl L G) H ∧ va_S (fun q => q ∈ L) s.heap H locs ∧ (∀ b, K b ∉ [6, 32] → G b = F b) ∧ (1 ≤ w44.toInt ∧ w44.toInt ≤ 16) ∧ (∀ vs z, G a0 = .inr (5, vs) → vs[5]? = some (.int z) → 1 ≤ z.toInt)) (fun K129 => ?_) ?_
    refine th_join (fun g H locs => ∃ (G : Nat → va_E) (ls : Array Slot), g = F0 m 125 ls [] ∧ lv_has ls 6 [(0, .ref a0), (1, .int x1), (3, .int w44)] ∧ s_I K cs D G ∧ va_P (dC, dI) vwCl (va_pl L G) H ∧ va_S (fun q => q ∈ L) s.heap H locs ∧ (∀ b, K b ∉ [6, 32] → G b = F b) ∧ (1 ≤ w44.toInt ∧ w44.toInt ≤ 16) ∧ (∀ vs z, G a0 = .inr (5, vs) → vs[5]? = some (.int z) → 1 ≤ z.toInt)) (fun K125 => ?_) ?_
    refine th_join (fun g H locs => ∃ (G : Nat → va_E) (ls : Array Slot) (w70 : Int32), g = F0 m 61 ls [] ∧ lv_has ls 6 [(0, .ref a0), (1, .int x1), (3, .int w44), (4, .int w70)] ∧ s_I K cs D G ∧ va_P (dC, dI) vwCl (va_pl L G) H ∧ va_S (fun q => q ∈ L) s.heap H locs ∧ (∀ b, K b ∉ [6, 32] → G b = F b) ∧ (-1 ≤ w70.toInt ∧ w70.toInt ≤ 15) ∧ (1 ≤ w44.toInt ∧ w44.toInt ≤ 16) ∧ (∀ vs z, G a0 = .inr (5, vs) → vs[5]? = some (.int z) → 1 ≤ z.toInt ∧ z.toInt = w70.toInt + 1)) (fun K61 => ?_) ?_
    · refine lv_iload_n hx hb dX5_settle_16 rfl (lv_at hl 2 rfl) ?_
      refine lv_if_eq (tgt := 168) hx hb dX5_settle_17 (by decide) (fun c71 => ?_) (fun c71 => ?_)
      · have c71 := (ax_eq (n := 0) (by decide)).mp c71
        exact W.vret hx hb hr (fun t ht hW => ⟨⟨F9, rfl, ⟨trivial, trivial, hI, hfr⟩, by rw [ht]; exact hP, va_K.moved hW.alike hK⟩, hS.F ht⟩) hS.2.2 dX5_settle_168
      · have c71 := mt (ax_eq (n := 0) (by decide)).mpr c71
        refine lv_iload_n hx hb dX5_settle_20 rfl (lv_at hl 3 rfl) ?_
        refine lv_if_le (tgt := 168) hx hb dX5_settle_21 (by decide) (fun c72 => ?_) (fun c72 => ?_)
        · have c72 := (ax_le (n := 0) (by decide)).mp c72
          exact W.vret hx hb hr (fun t ht hW => ⟨⟨F9, rfl, ⟨trivial, trivial, hI, hfr⟩, by rw [ht]; exact hP, va_K.moved hW.alike hK⟩, hS.F ht⟩) hS.2.2 dX5_settle_168
        · have c72 := mt (ax_le (n := 0) (by decide)).mpr c72
          refine lv_aload_n hx hb dX5_settle_24 rfl (lv_at hl 0 rfl) ?_
          refine th_get (D := (dC, dI)) (ci := 5) (v := .int z58) (C := RX5) (T := TX5) (N := 11) hx hb hts inX5 hown hK hP (hLK _ ha0 (by decide)) o66 rfl 5 (by decide) (hts _ T_876) (fun _ h9 => h9) rfl dX5_settle_25 ?_
          refine lv_iconst (v := 1) hx hb dX5_settle_28 (by decide) ?_
          refine lv_isub hx hb dX5_settle_29 ?_
          refine lv_topi (fun v73 ev73 => ?_)
          have qv73 : v73.toInt = z58.toInt - 1 := by rw [ev73]; exact th_sub rfl (by decide) ⟨by omega, by omega⟩
          refine lv_istore (lv' := [(4, .int v73), (0, .ref a0), (1, .int x1), (2, .int w43), (3, .int w44)]) hx hb dX5_settle_30 hl (by decide) rfl (fun ls hl => ?_)
          refine lv_aload_n hx hb dX5_settle_32 rfl (lv_at hl 1 rfl) ?_
          refine th_get (D := (dC, dI)) (ci := 5) (v := .ref z52) (C := RX5) (T := TX5) (N := 11) hx hb hts inX5 hown hK hP (hLK _ ha0 (by decide)) o66 rfl 2 (by decide) (hts _ T_102) (fun _ h9 => h9) rfl dX5_settle_33 ?_
          refine lv_iload hx hb dX5_settle_36 (lv_at hl 0 rfl) ?_
          obtain ⟨f74, o75, h76⟩ := s_op32 hI h53
          refine th_iald hx hb hK hP (hLK _ h53 (by decide)) 0 o75 rfl (th_in ⟨by omega, by omega⟩) dX5_settle_38 ?_
          refine lv_topi (fun v77 ev77 => ?_)
          refine lv_iload_n hx hb dX5_settle_39 rfl (lv_at hl 2 rfl) ?_
          refine lv_icmp_ne (tgt := 61) hx hb dX5_settle_40 (by decide) (fun c78 => ?_) (fun c78 => ?_)
          · have c78 := mt Int32.toInt_inj.symm.mpr c78
            exact K61 _ _ _ ⟨F9, _, v73, rfl, lv_sub hl [1, 2, 4, 0] rfl, hI, hP, hS, hfr, ⟨by omega, by omega⟩, ⟨by omega, by omega⟩, (fun vs z q q2 => by rw [o66] at q; cases q; cases q2; first | omega | exact Or.inl (by decide) | exact Or.inr (by omega))⟩
          · have c78 := Int32.toInt_inj.symm.mp c78
            refine lv_aload_n hx hb dX5_settle_43 rfl (lv_at hl 1 rfl) ?_
            refine lv_dup hx hb dX5_settle_44 rfl ?_
            refine th_get (D := (dC, dI)) (ci := 5) (v := .int z60) (C := RX5) (T := TX5) (N := 11) hx hb hts inX5 hown hK hP (hLK _ ha0 (by decide)) o66 rfl 6 (by decide) (hts _ T_877) (fun _ h9 => h9) rfl dX5_settle_45 ?_
            refine lv_aload_n hx hb dX5_settle_48 rfl (lv_at hl 1 rfl) ?_
            refine th_get (D := (dC, dI)) (ci := 5) (v := .ref z56) (C := RX5) (T := TX5) (N := 11) hx hb hts inX5 hown hK hP (hLK _ ha0 (by decide)) o66 rfl 4 (by decide) (hts _ T_104) (fun _ h9 => h9) rfl dX5_settle_49 ?_
            refine lv_iload hx hb dX5_settle_52 (lv_at hl 0 rfl) ?_
            obtain ⟨f79, o80, h81⟩ := s_op32 hI h57
            refine th_iald hx hb hK hP (hLK _ h57 (by decide)) 0 o80 rfl (th_in ⟨by omega, by omega⟩) dX5_settle_54 ?_
            refine lv_topi (fun v82 ev82 => ?_)
            refine lv_iconst (v := (-1)) hx hb dX5_settle_55 (by decide) ?_
            refine lv_ixor hx hb dX5_settle_56 ?_
            refine lv_topi (fun v83 ev83 => ?_)
            refine lv_iand hx hb dX5_settle_57 ?_
            refine lv_topi (fun v84 ev84 => ?_)
            refine th_put (D := (dC, dI)) (ci := 5) (v := .int v84) (ty := .int) (C := RX5) (T := TX5) (N := 11) hx hb hts inX5 tyX5 tyX5_ok nmX5 hown hK hP hD hS (hLK _ ha0 (by decide)) o66 rfl 6 (by decide) (hts _ T_877) (fun _ h9 => h9) rfl (by decide +kernel) rfl rfl (Nat.le_of_ble_eq_true rfl) dX5_settle_58 (fun H locs hP hS => ?_)
            have hP : va_P (dC, dI) vwCl (va_pl L (va_up F9 a0 (.inr (5, [.ref z48, .ref z50, .ref z52, .ref z54, .ref z56, .int z58, .int v84, .int z61, .int z62, .int z63, .int z64])))) H := hP
            obtain ⟨F85, hF86⟩ : ∃ G : Nat → va_E, G = va_up F9 a0 (.inr (5, [.ref z48, .ref z50, .ref z52, .ref z54, .ref z56, .int z58, .int v84, .int z61, .int z62, .int z63, .int z64])) := ⟨_, rfl⟩
            rw [← hF86] at hP
            have hI : s_I K cs D F85 := by rw [hF86]; exact s_cl6 hI ha0 ⟨z48, z50, z52, z54, z56, z58, v84, z61, z62, z63, z64, rfl, h49, h51, h53, h55, h57, ⟨by omega, by omega⟩, ⟨by omega, by omega⟩, trivial⟩
            have hfr : ∀ b, K b ∉ [6, 32] → F85 b = F b := by rw [hF86]; exact s_fr hfr ha0 (by decide)
            have o87 : F85 a0 = .inr (5, [.ref z48, .ref z50, .ref z52, .ref z54, .ref z56, .int z58, .int v84, .int z61, .int z62, .int z63, .int z64]) := by rw [hF86]; exact th_up
            exact K61 _ _ _ ⟨F85, _, v73, rfl, lv_sub hl [1, 2, 4, 0] rfl, hI, hP, hS, hfr, ⟨by omega, by omega⟩, ⟨by omega, by omega⟩, (fun vs z q q2 => by rw [o87] at q; cases q; cases q2; first | omega | exact Or.inl (by decide) | exact Or.inr (by omega))⟩
    · intro g H locs hq
      obtain ⟨F9, ls, w70, rfl, hl, hI, hP, hS, hfr, h88, h89, h90⟩ := hq
      obtain ⟨z91, z93, z95, z97, z99, z101, z103, z104, z105, z106, z107, o109, h92, h94, h96, h98, h100, h102, h108, -⟩ := s_op6 hI ha0
      have h90 := h90 _ _ o109 rfl
      refine lv_iconst (v := 0) hx hb dX5_settle_61 (by decide) ?_
      refine lv_istore (lv' := [(5, .int 0), (0, .ref a0), (1, .int x1), (3, .int w44), (4, .int w70)]) hx hb dX5_settle_62 hl (by decide) rfl (fun ls hl => ?_)
      refine th_loop (fun n g H locs => ∃ (G : Nat → va_E) (ls : Array Slot) (w110 : Int32), g = F0 m 64 ls [] ∧ lv_has ls 6 [(0, .ref a0), (1, .int x1), (3, .int w44), (4, .int w70), (5, .int w110)] ∧ s_I K cs D G ∧ va_P (dC, dI) vwCl (va_pl L G) H ∧ va_S (fun q => q ∈ L) s.heap H locs ∧ (∀ b, K b ∉ [6, 32] → G b = F b) ∧ (0 ≤ w110.toInt ∧ w110.toInt ≤ 16) ∧ (1 ≤ w44.toInt ∧ w44.toInt ≤ 16) ∧ (-1 ≤ w70.toInt ∧ w70.toInt ≤ 15) ∧ (∀ vs z, G a0 = .inr (5, vs) → vs[5]? = some (.int z) → 1 ≤ z.toInt ∧ z.toInt = w70.toInt + 1) ∧ n = (17 - w110.toInt).toNat) _ ⟨F9, _, 0, rfl, lv_sub hl [1, 2, 3, 4, 0] rfl, hI, hP, hS, hfr, (by decide), ⟨by omega, by omega⟩, ⟨by omega, by omega⟩, (fun vs z q q2 => by rw [o109] at q; cases q; cases q2; first | omega | exact Or.inl (by decide) | exact Or.inr (by omega)), rfl⟩ (fun n ih64 g H locs hq => ?_)
      obtain ⟨F9, ls, w110, rfl, hl, hI, hP, hS, hfr, h111, h112, h113, h114, hn⟩ := hq
      obtain ⟨z115, z117, z119, z121, z123, z125, z127, z128, z129, z130, z131, o133, h116, h118, h120, h122, h124, h126, h132, -⟩ := s_op6 hI ha0
      have h114 := h114 _ _ o133 rfl
      have hn_64 := hn
      obtain ⟨n_64, hn9_64⟩ : ∃ q, q = n := ⟨_, rfl⟩
      refine lv_iload hx hb dX5_settle_64 (lv_at hl 4 rfl) ?_
      refine lv_aload_n hx hb dX5_settle_66 rfl (lv_at hl 0 rfl) ?_
      refine th_get (D := (dC, dI)) (ci := 5) (v := .int z125) (C := RX5) (T := TX5) (N := 11) hx hb hts inX5 hown hK hP (hLK _ ha0 (by decide)) o133 rfl 5 (by decide) (hts _ T_876) (fun _ h9 => h9) rfl dX5_settle_67 ?_
      refine lv_icmp_ge (tgt := 93) hx hb dX5_settle_70 (by decide) (fun c134 => ?_) (fun c134 => ?_)
      · have c134 := Int32.le_iff_toInt_le.mp c134
        refine lv_aload_n hx hb dX5_settle_93 rfl (lv_at hl 0 rfl) ?_
        refine th_get (D := (dC, dI)) (ci := 5) (v := .ref z123) (C := RX5) (T := TX5) (N := 11) hx hb hts inX5 hown hK hP (hLK _ ha0 (by decide)) o133 rfl 4 (by decide) (hts _ T_104) (fun _ h9 => h9) rfl dX5_settle_94 ?_
        refine lv_iload hx hb dX5_settle_97 (lv_at hl 3 rfl) ?_
        obtain ⟨f135, o136, h137⟩ := s_op32 hI h124
        refine th_iald hx hb hK hP (hLK _ h124 (by decide)) 0 o136 rfl (th_in ⟨by omega, by omega⟩) dX5_settle_99 ?_
        refine lv_topi (fun v138 ev138 => ?_)
        refine lv_if_eq (tgt := 125) hx hb dX5_settle_100 (by decide) (fun c139 => ?_) (fun c139 => ?_)
        · have c139 := (ax_eq (n := 0) (by decide)).mp c139
          exact K125 _ _ _ ⟨F9, _, rfl, lv_sub hl [0, 1, 2] rfl, hI, hP, hS, hfr, ⟨by omega, by omega⟩, (fun vs z q q2 => by rw [o133] at q; cases q; cases q2; first | omega | exact Or.inl (by decide) | exact Or.inr (by omega))⟩
        · have c139 := mt (ax_eq (n := 0) (by decide)).mpr c139
          refine lv_aload_n hx hb dX5_settle_103 rfl (lv_at hl 0 rfl) ?_
          refine th_get (D := (dC, dI)) (ci := 5) (v := .ref z119) (C := RX5) (T := TX5) (N := 11) hx hb hts inX5 hown hK hP (hLK _ ha0 (by decide)) o133 rfl 2 (by decide) (hts _ T_102) (fun _ h9 => h9) rfl dX5_settle_104 ?_
          refine lv_iload hx hb dX5_settle_107 (lv_at hl 3 rfl) ?_
          obtain ⟨f140, o141, h142⟩ := s_op32 hI h120
          refine th_iald hx hb hK hP (hLK _ h120 (by decide)) 0 o141 rfl (th_in ⟨by omega, by omega⟩) dX5_settle_109 ?_
          refine lv_topi (fun v143 ev143 => ?_)
          refine lv_aload_n hx hb dX5_settle_110 rfl (lv_at hl 0 rfl) ?_
          refine th_get (D := (dC, dI)) (ci := 5) (v := .ref z121) (C := RX5) (T := TX5) (N := 11) hx hb hts inX5 hown hK hP (hLK _ ha0 (by decide)) o133 rfl 3 (by decide) (hts _ T_103) (fun _ h9 => h9) rfl dX5_settle_111 ?_
          refine lv_iload hx hb dX5_settle_114 (lv_at hl 3 rfl) ?_
          obtain ⟨f144, o145, h146⟩ := s_op32 hI h122
          refine th_iald hx hb hK hP (hLK _ h122 (by decide)) 0 o145 rfl (th_in ⟨by omega, by omega⟩) dX5_settle_116 ?_
          refine lv_topi (fun v147 ev147 => ?_)
          refine lv_icmp_ne (tgt := 129) hx hb dX5_settle_117 (by decide) (fun c148 => ?_) (fun c148 => ?_)
          · have c148 := mt Int32.toInt_inj.symm.mpr c148
            exact K129 _ _ _ ⟨F9, _, rfl, lv_sub hl [0, 1, 2] rfl, hI, hP, hS, hfr, ⟨by omega, by omega⟩, (fun vs z q q2 => by rw [o133] at q; cases q; cases q2; first | omega | exact Or.inl (by decide) | exact Or.inr (by omega))⟩
          · have c148 := Int32.toInt_inj.symm.mp c148
            refine lv_iload hx hb dX5_settle_120 (lv_at hl 3 rfl) ?_
            refine lv_if_le (tgt := 129) hx hb dX5_settle_122 (by decide) (fun c149 => ?_) (fun c149 => ?_)
            · have c149 := (ax_le (n := 0) (by decide)).mp c149
              exact K129 _ _ _ ⟨F9, _, rfl, lv_sub hl [0, 1, 2] rfl, hI, hP, hS, hfr, ⟨by omega, by omega⟩, (fun vs z q q2 => by rw [o133] at q; cases q; cases q2; first | omega | exact Or.inl (by decide) | exact Or.inr (by omega))⟩
            · have c149 := mt (ax_le (n := 0) (by decide)).mpr c149
              exact K125 _ _ _ ⟨F9, _, rfl, lv_sub hl [0, 1, 2] rfl, hI, hP, hS, hfr, ⟨by omega, by omega⟩, (fun vs z q q2 => by rw [o133] at q; cases q; cases q2; first | omega | exact Or.inl (by decide) | exact Or.inr (by omega))⟩
      · have c134 := mt Int32.le_iff_toInt_le.mpr c134
        refine lv_aload_n hx hb dX5_settle_73 rfl (lv_at hl 0 rfl) ?_
        refine th_get (D := (dC, dI)) (ci := 5) (v := .ref z123) (C := RX5) (T := TX5) (N := 11) hx hb hts inX5 hown hK hP (hLK _ ha0 (by decide)) o133 rfl 4 (by decide) (hts _ T_104) (fun _ h9 => h9) rfl dX5_settle_74 ?_
        refine lv_iload hx hb dX5_settle_77 (lv_at hl 4 rfl) ?_
        refine lv_dup2_11 hx hb dX5_settle_79 rfl rfl ?_
        obtain ⟨f150, o151, h152⟩ := s_op32 hI h124
        refine th_iald hx hb hK hP (hLK _ h124 (by decide)) 0 o151 rfl (th_in ⟨by omega, by omega⟩) dX5_settle_80 ?_
        refine lv_topi (fun v153 ev153 => ?_)
        refine lv_aload_n hx hb dX5_settle_81 rfl (lv_at hl 0 rfl) ?_
        refine th_get (D := (dC, dI)) (ci := 5) (v := .int z127) (C := RX5) (T := TX5) (N := 11) hx hb hts inX5 hown hK hP (hLK _ ha0 (by decide)) o133 rfl 6 (by decide) (hts _ T_877) (fun _ h9 => h9) rfl dX5_settle_82 ?_
        refine lv_iand hx hb dX5_settle_85 ?_
        refine lv_topi (fun v154 ev154 => ?_)
        obtain ⟨f155, o156, h157⟩ := s_op32 hI h124
        refine th_iast hx hb hK hP hD hS (hLK _ h124 (by decide)) 0 o156 rfl (th_in ⟨by omega, by omega⟩) dX5_settle_86 (fun H locs hP hS => ?_)
        have hP : va_P (dC, dI) vwCl (va_pl L (va_up F9 z123 (.inl (cs 0, 16, .inl (upd f155 (w110 : Int32).toNatClampNeg v154))))) H := hP
        obtain ⟨F158, hF159⟩ : ∃ G : Nat → va_E, G = va_up F9 z123 (.inl (cs 0, 16, .inl (upd f155 (w110 : Int32).toNatClampNeg v154))) := ⟨_, rfl⟩
        rw [← hF159] at hP
        have hI : s_I K cs D F158 := by rw [hF159]; exact s_cl32 hI h124 ⟨_, rfl, trivial⟩
        have hfr : ∀ b, K b ∉ [6, 32] → F158 b = F b := by rw [hF159]; exact s_fr hfr h124 (by decide)
        have o160 : F158 a0 = .inr (5, [.ref z115, .ref z117, .ref z119, .ref z121, .ref z123, .int z125, .int z127, .int z128, .int z129, .int z130, .int z131]) := by rw [hF159]; exact th_ne (th_kd ha0 h124 (by decide)) o133
        obtain ⟨v161, ev161⟩ : ∃ y : Int32, w110 + 1 = y := ⟨_, rfl⟩
        have qv161 : v161.toInt = w110.toInt + 1 := by rw [← ev161]; exact th_add rfl (by decide) ⟨by omega, by omega⟩
        refine lv_iinc (v := v161) (lv' := [(5, .int v161), (0, .ref a0), (1, .int x1), (3, .int w44), (4, .int w70)]) hx hb dX5_settle_87 hl (k := 4) rfl ev161 (by decide) rfl (fun ls hl => ?_)
        refine lv_goto (tgt := 64) hx hb dX5_settle_90 (by decide) ?_
        exact ih64 _ _ _ _ (by omega) ⟨F158, _, v161, rfl, lv_sub hl [1, 2, 3, 4, 0] rfl, hI, hP, hS, hfr, ⟨by omega, by omega⟩, ⟨by omega, by omega⟩, ⟨by omega, by omega⟩, (fun vs z q q2 => by rw [o160] at q; cases q; cases q2; first | omega | exact Or.inl (by decide) | exact Or.inr (by omega)), rfl⟩
    · intro g H locs hq
      obtain ⟨F9, ls, rfl, hl, hI, hP, hS, hfr, h162, h163⟩ := hq
      obtain ⟨z164, z166, z168, z170, z172, z174, z176, z177, z178, z179, z180, o182, h165, h167, h169, h171, h173, h175, h181, -⟩ := s_op6 hI ha0
      have h163 := h163 _ _ o182 rfl
      refine lv_iconst (v := 1) hx hb dX5_settle_125 (by decide) ?_
      refine lv_goto (tgt := 130) hx hb dX5_settle_126 (by decide) ?_
      exact K130 _ _ _ ⟨F9, _, 1, rfl, lv_sub hl [0, 1, 2] rfl, hI, hP, hS, hfr, (by decide), ⟨by omega, by omega⟩, (fun vs z q q2 => by rw [o182] at q; cases q; cases q2; first | omega | exact Or.inl (by decide) | exact Or.inr (by omega))⟩
    · intro g H locs hq
      obtain ⟨F9, ls, rfl, hl, hI, hP, hS, hfr, h183, h184⟩ := hq
      obtain ⟨z185, z187, z189, z191, z193, z195, z197, z198, z199, z200, z201, o203, h186, h188, h190, h192, h194, h196, h202, -⟩ := s_op6 hI ha0
      have h184 := h184 _ _ o203 rfl
      refine lv_iconst (v := 0) hx hb dX5_settle_129 (by decide) ?_
      exact K130 _ _ _ ⟨F9, _, 0, rfl, lv_sub hl [0, 1, 2] rfl, hI, hP, hS, hfr, (by decide), ⟨by omega, by omega⟩, (fun vs z q q2 => by rw [o203] at q; cases q; cases q2; first | omega | exact Or.inl (by decide) | exact Or.inr (by omega))⟩
    · intro g H locs hq
      obtain ⟨F9, ls, w69, rfl, hl, hI, hP, hS, hfr, h204, h205, h206⟩ := hq
      obtain ⟨z207, z209, z211, z213, z215, z217, z219, z220, z221, z222, z223, o225, h208, h210, h212, h214, h216, h218, h224, -⟩ := s_op6 hI ha0
      have h206 := h206 _ _ o225 rfl
      refine lv_istore_n (lv' := [(2, .int w69), (0, .ref a0), (1, .int x1), (3, .int w44)]) hx hb dX5_settle_130 rfl hl (by decide) rfl (fun ls hl => ?_)
      refine lv_iload_n hx hb dX5_settle_131 rfl (lv_at hl 0 rfl) ?_
      refine lv_if_eq (tgt := 145) hx hb dX5_settle_132 (by decide) (fun c226 => ?_) (fun c226 => ?_)
      · have c226 := (ax_eq (n := 0) (by decide)).mp c226
        exact K145 _ _ _ ⟨F9, _, w69, rfl, lv_sub hl [1, 2, 0, 3] rfl, hI, hP, hS, hfr, ⟨by omega, by omega⟩, ⟨by omega, by omega⟩⟩
      · have c226 := mt (ax_eq (n := 0) (by decide)).mpr c226
        refine lv_aload_n hx hb dX5_settle_135 rfl (lv_at hl 1 rfl) ?_
        refine lv_dup hx hb dX5_settle_136 rfl ?_
        refine th_get (D := (dC, dI)) (ci := 5) (v := .int z217) (C := RX5) (T := TX5) (N := 11) hx hb hts inX5 hown hK hP (hLK _ ha0 (by decide)) o225 rfl 5 (by decide) (hts _ T_876) (fun _ h9 => h9) rfl dX5_settle_137 ?_
        refine lv_iconst (v := 1) hx hb dX5_settle_140 (by decide) ?_
        refine lv_isub hx hb dX5_settle_141 ?_
        refine lv_topi (fun v227 ev227 => ?_)
        have qv227 : v227.toInt = z217.toInt - 1 := by rw [ev227]; exact th_sub rfl (by decide) ⟨by omega, by omega⟩
        refine th_put (D := (dC, dI)) (ci := 5) (v := .int v227) (ty := .int) (C := RX5) (T := TX5) (N := 11) hx hb hts inX5 tyX5 tyX5_ok nmX5 hown hK hP hD hS (hLK _ ha0 (by decide)) o225 rfl 5 (by decide) (hts _ T_876) (fun _ h9 => h9) rfl (by decide +kernel) rfl rfl (Nat.le_of_ble_eq_true rfl) dX5_settle_142 (fun H locs hP hS => ?_)
        have hP : va_P (dC, dI) vwCl (va_pl L (va_up F9 a0 (.inr (5, [.ref z207, .ref z209, .ref z211, .ref z213, .ref z215, .int v227, .int z219, .int z220, .int z221, .int z222, .int z223])))) H := hP
        obtain ⟨F228, hF229⟩ : ∃ G : Nat → va_E, G = va_up F9 a0 (.inr (5, [.ref z207, .ref z209, .ref z211, .ref z213, .ref z215, .int v227, .int z219, .int z220, .int z221, .int z222, .int z223])) := ⟨_, rfl⟩
        rw [← hF229] at hP
        have hI : s_I K cs D F228 := by rw [hF229]; exact s_cl6 hI ha0 ⟨z207, z209, z211, z213, z215, v227, z219, z220, z221, z222, z223, rfl, h208, h210, h212, h214, h216, ⟨by omega, by omega⟩, ⟨by omega, by omega⟩, trivial⟩
        have hfr : ∀ b, K b ∉ [6, 32] → F228 b = F b := by rw [hF229]; exact s_fr hfr ha0 (by decide)
        have o230 : F228 a0 = .inr (5, [.ref z207, .ref z209, .ref z211, .ref z213, .ref z215, .int v227, .int z219, .int z220, .int z221, .int z222, .int z223]) := by rw [hF229]; exact th_up
        exact K145 _ _ _ ⟨F228, _, w69, rfl, lv_sub hl [1, 2, 0, 3] rfl, hI, hP, hS, hfr, ⟨by omega, by omega⟩, ⟨by omega, by omega⟩⟩
    · intro g H locs hq
      obtain ⟨F9, ls, w68, rfl, hl, hI, hP, hS, hfr, h231, h232⟩ := hq
      refine lv_iload_n hx hb dX5_settle_145 rfl (lv_at hl 2 rfl) ?_
      refine lv_if_eq (tgt := 160) hx hb dX5_settle_146 (by decide) (fun c233 => ?_) (fun c233 => ?_)
      · have c233 := (ax_eq (n := 0) (by decide)).mp c233
        exact K160 _ _ _ ⟨F9, _, rfl, lv_sub hl [0, 1, 3] rfl, hI, hP, hS, hfr, ⟨by omega, by omega⟩⟩
      · have c233 := mt (ax_eq (n := 0) (by decide)).mpr c233
        refine lv_aload_n hx hb dX5_settle_149 rfl (lv_at hl 0 rfl) ?_
        obtain ⟨z234, z236, z238, z240, z242, z244, z246, z247, z248, z249, z250, o252, h235, h237, h239, h241, h243, h245, h251, -⟩ := s_op6 hI ha0
        refine th_get (D := (dC, dI)) (ci := 5) (v := .int z244) (C := RX5) (T := TX5) (N := 11) hx hb hts inX5 hown hK hP (hLK _ ha0 (by decide)) o252 rfl 5 (by decide) (hts _ T_876) (fun _ h9 => h9) rfl dX5_settle_150 ?_
        refine lv_if_le (tgt := 160) hx hb dX5_settle_153 (by decide) (fun c253 => ?_) (fun c253 => ?_)
        · have c253 := (ax_le (n := 0) (by decide)).mp c253
          exact K160 _ _ _ ⟨F9, _, rfl, lv_sub hl [0, 1, 3] rfl, hI, hP, hS, hfr, ⟨by omega, by omega⟩⟩
        · have c253 := mt (ax_le (n := 0) (by decide)).mpr c253
          refine lv_iconst (v := 1) hx hb dX5_settle_156 (by decide) ?_
          refine lv_goto (tgt := 161) hx hb dX5_settle_157 (by decide) ?_
          exact K161 _ _ _ ⟨F9, _, 1, rfl, lv_sub hl [0, 1, 3] rfl, hI, hP, hS, hfr, (by decide), ⟨by omega, by omega⟩, (fun vs z q q2 => by rw [o252] at q; cases q; cases q2; first | omega | exact Or.inl (by decide) | exact Or.inr (by omega))⟩
    · intro g H locs hq
      obtain ⟨F9, ls, rfl, hl, hI, hP, hS, hfr, h254⟩ := hq
      refine lv_iconst (v := 0) hx hb dX5_settle_160 (by decide) ?_
      obtain ⟨z255, z257, z259, z261, z263, z265, z267, z268, z269, z270, z271, o273, h256, h258, h260, h262, h264, h266, h272, -⟩ := s_op6 hI ha0
      exact K161 _ _ _ ⟨F9, _, 0, rfl, lv_sub hl [0, 1, 2] rfl, hI, hP, hS, hfr, (by decide), ⟨by omega, by omega⟩, (fun vs z q q2 => by rw [o273] at q; cases q; cases q2; first | omega | exact Or.inl (by decide) | exact Or.inr (by omega))⟩
    · intro g H locs hq
      obtain ⟨F9, ls, w67, rfl, hl, hI, hP, hS, hfr, h274, h275, h276⟩ := hq
      obtain ⟨z277, z279, z281, z283, z285, z287, z289, z290, z291, z292, z293, o295, h278, h280, h282, h284, h286, h288, h294, -⟩ := s_op6 hI ha0
      have h276 := h276 _ _ o295 rfl
      refine lv_istore_n (lv' := [(2, .int w67), (0, .ref a0), (1, .int x1), (3, .int w44)]) hx hb dX5_settle_161 rfl hl (by decide) rfl (fun ls hl => ?_)
      obtain ⟨v296, ev296⟩ : ∃ y : Int32, w44 + (-1) = y := ⟨_, rfl⟩
      have qv296 : v296.toInt = w44.toInt + (-1) := by rw [← ev296]; exact th_add rfl (by decide) ⟨by omega, by omega⟩
      refine lv_iinc (v := v296) (lv' := [(3, .int v296), (2, .int w67), (0, .ref a0), (1, .int x1)]) hx hb dX5_settle_162 hl (k := 3) rfl ev296 (by decide) rfl (fun ls hl => ?_)
      refine lv_goto (tgt := 16) hx hb dX5_settle_165 (by decide) ?_
      exact ih16 _ _ _ _ (by omega) ⟨F9, _, w67, v296, rfl, lv_sub hl [2, 3, 1, 0] rfl, hI, hP, hS, hfr, ⟨by omega, by omega⟩, ⟨by omega, by omega⟩, (fun vs z q q2 => by rw [o295] at q; cases q; cases q2; first | omega | exact Or.inl (by decide) | exact Or.inr (by omega)), rfl⟩

set_option maxHeartbeats 4000000 in
set_option maxRecDepth 100000 in
theorem s_X5_moveLane (l : Launch) (dC : Nat → ClassId) (dI : Nat → Nat → Nat) (sz : Nat) {L : List Nat} {K : Nat → Nat} {cs : Nat → ClassId} (hLK : ∀ a {k : Nat}, K a = k → k ≠ 0 → a ∈ L) (D : Nat) (F : Nat → va_E) (a0 : Nat) (x1 : Int32) (x2 : Int32) (x3 : Int32) (ha0 : K a0 = 6) (hx1 : 0 ≤ x1.toInt ∧ x1.toInt ≤ 7) (hI : s_I K cs D F) : Met l yX5_moveLane (Cond.code yX5_moveLane cX5_moveLane 4 none :: T0) ({ frames := 0, cells := 0, slots := 0, locals := 0 }) (va_Pc [.ref a0, .int x1, .int x2, .int x3] (s_W dC dI sz L F [(cs 0, .int), (cs 1, .byte), (cs 2, .long), (cs 3, .object RX5), (cs 4, .object RX4), (cs 5, .array .int), (cs 6, .char), (cs 7, .boolean)])) (va_Qv (fun (G : Nat → va_E) => True ∧ True ∧ s_I K cs D G ∧ ∀ b, K b ∉ [6, 31] → G b = F b) (fun (G : Nat → va_E) (t : State) => va_P (dC, dI) vwCl (va_pl L G) t.heap ∧ va_K (dC, dI) vwCl [(cs 0, .int), (cs 1, .byte), (cs 2, .long), (cs 3, .object RX5), (cs 4, .object RX4), (cs 5, .array .int), (cs 6, .char), (cs 7, .boolean)] t) (fun q => q ∈ L)) 0 0 (fun q => q ∈ L) := by
  refine Met.ofW (cc := cX5_moveLane) (maxL := 4) (ret := none) (by decide) rfl ?_
  intro p e s m args below meth c s₁ B hml hv
  obtain ⟨rfl, hsz, hP, hK, hD, hN⟩ := hv
  have hx := B.exec
  have hb := B.bytes
  have hr := B.returns
  have hts : ∀ w ∈ T0, w.before _ s = true := fun w h => atoms_spec (ws := Cond.code yX5_moveLane cX5_moveLane 4 none :: T0) B.pre w (List.mem_cons_of_mem _ h)
  have hown : s.vm.findClass RX5 = some m.cls := findClass_of_methodNamed B.named
  have hlocks := B.notSynchronized
  have hS : va_S (fun q => q ∈ L) s.heap s.heap [] := va_S.rf
  have hfr : ∀ b, K b ∉ [6, 31] → F b = F b := fun _ _ => rfl
  have hl := lv_entry ([.ref a0, .int x1, .int x2, .int x3]) (n := 4) (Nat.le_of_ble_eq_true rfl)
  rw [lg_entry_eq]
  generalize (lg_sl ([.ref a0, .int x1, .int x2, .int x3]) ++ List.replicate (4 - (lg_sl ([.ref a0, .int x1, .int x2, .int x3])).length) Slot.unset).toArray = ls at hl ⊢
  have hl : lv_has ls 4 [(0, .ref a0), (1, .int x1), (2, .int x2), (3, .int x3)] := hl
  refine s_gen hP hS (fun H locs hP hS => ?_)
  refine lv_aload_n hx hb dX5_moveLane_0 rfl (lv_at hl 0 rfl) ?_
  obtain ⟨z1, z3, z5, z7, z9, z11, z13, z14, z15, z16, z17, o19, h2, h4, h6, h8, h10, h12, h18, -⟩ := s_op6 hI ha0
  refine th_get (D := (dC, dI)) (ci := 5) (v := .ref z3) (C := RX5) (T := TX5) (N := 11) hx hb hts inX5 hown hK hP (hLK _ ha0 (by decide)) o19 rfl 1 (by decide) (hts _ T_101) (fun _ h9 => h9) rfl dX5_moveLane_1 ?_
  refine lv_iload_n hx hb dX5_moveLane_4 rfl (lv_at hl 1 rfl) ?_
  refine lv_iload_n hx hb dX5_moveLane_5 rfl (lv_at hl 2 rfl) ?_
  obtain ⟨f20, o21, h22⟩ := s_op31 hI h4
  refine th_iast hx hb hK hP hD hS (hLK _ h4 (by decide)) 0 o21 rfl (th_in ⟨by omega, by omega⟩) dX5_moveLane_6 (fun H locs hP hS => ?_)
  have hP : va_P (dC, dI) vwCl (va_pl L (va_up F z3 (.inl (cs 0, 8, .inl (upd f20 (x1 : Int32).toNatClampNeg x2))))) H := hP
  obtain ⟨F23, hF24⟩ : ∃ G : Nat → va_E, G = va_up F z3 (.inl (cs 0, 8, .inl (upd f20 (x1 : Int32).toNatClampNeg x2))) := ⟨_, rfl⟩
  rw [← hF24] at hP
  have hI : s_I K cs D F23 := by rw [hF24]; exact s_cl31 hI h4 ⟨_, rfl, trivial⟩
  have hfr : ∀ b, K b ∉ [6, 31] → F23 b = F b := by rw [hF24]; exact s_fr hfr h4 (by decide)
  have o25 : F23 a0 = .inr (5, [.ref z1, .ref z3, .ref z5, .ref z7, .ref z9, .int z11, .int z13, .int z14, .int z15, .int z16, .int z17]) := by rw [hF24]; exact th_ne (th_kd ha0 h4 (by decide)) o19
  refine lv_iload_n hx hb dX5_moveLane_7 rfl (lv_at hl 2 rfl) ?_
  refine lv_iload_n hx hb dX5_moveLane_8 rfl (lv_at hl 3 rfl) ?_
  refine lv_icmp_ne (tgt := 26) hx hb dX5_moveLane_9 (by decide) (fun c26 => ?_) (fun c26 => ?_)
  · have c26 := mt Int32.toInt_inj.symm.mpr c26
    exact W.vret hx hb hr (fun t ht hW => ⟨⟨F23, rfl, ⟨trivial, trivial, hI, hfr⟩, by rw [ht]; exact hP, va_K.moved hW.alike hK⟩, hS.F ht⟩) hS.2.2 dX5_moveLane_26
  · have c26 := Int32.toInt_inj.symm.mp c26
    refine lv_aload_n hx hb dX5_moveLane_12 rfl (lv_at hl 0 rfl) ?_
    refine lv_dup hx hb dX5_moveLane_13 rfl ?_
    refine th_get (D := (dC, dI)) (ci := 5) (v := .int z13) (C := RX5) (T := TX5) (N := 11) hx hb hts inX5 hown hK hP (hLK _ ha0 (by decide)) o25 rfl 6 (by decide) (hts _ T_877) (fun _ h9 => h9) rfl dX5_moveLane_14 ?_
    refine lv_iconst (v := 1) hx hb dX5_moveLane_17 (by decide) ?_
    refine lv_iload_n hx hb dX5_moveLane_18 rfl (lv_at hl 1 rfl) ?_
    refine lv_ishl hx hb dX5_moveLane_19 ?_
    refine lv_topi (fun v27 ev27 => ?_)
    refine lv_iconst (v := (-1)) hx hb dX5_moveLane_20 (by decide) ?_
    refine lv_ixor hx hb dX5_moveLane_21 ?_
    refine lv_topi (fun v28 ev28 => ?_)
    refine lv_iand hx hb dX5_moveLane_22 ?_
    refine lv_topi (fun v29 ev29 => ?_)
    refine th_put (D := (dC, dI)) (ci := 5) (v := .int v29) (ty := .int) (C := RX5) (T := TX5) (N := 11) hx hb hts inX5 tyX5 tyX5_ok nmX5 hown hK hP hD hS (hLK _ ha0 (by decide)) o25 rfl 6 (by decide) (hts _ T_877) (fun _ h9 => h9) rfl (by decide +kernel) rfl rfl (Nat.le_of_ble_eq_true rfl) dX5_moveLane_23 (fun H locs hP hS => ?_)
    have hP : va_P (dC, dI) vwCl (va_pl L (va_up F23 a0 (.inr (5, [.ref z1, .ref z3, .ref z5, .ref z7, .ref z9, .int z11, .int v29, .int z14, .int z15, .int z16, .int z17])))) H := hP
    obtain ⟨F30, hF31⟩ : ∃ G : Nat → va_E, G = va_up F23 a0 (.inr (5, [.ref z1, .ref z3, .ref z5, .ref z7, .ref z9, .int z11, .int v29, .int z14, .int z15, .int z16, .int z17])) := ⟨_, rfl⟩
    rw [← hF31] at hP
    have hI : s_I K cs D F30 := by rw [hF31]; exact s_cl6 hI ha0 ⟨z1, z3, z5, z7, z9, z11, v29, z14, z15, z16, z17, rfl, h2, h4, h6, h8, h10, ⟨by omega, by omega⟩, ⟨by omega, by omega⟩, trivial⟩
    have hfr : ∀ b, K b ∉ [6, 31] → F30 b = F b := by rw [hF31]; exact s_fr hfr ha0 (by decide)
    have o32 : F30 a0 = .inr (5, [.ref z1, .ref z3, .ref z5, .ref z7, .ref z9, .int z11, .int v29, .int z14, .int z15, .int z16, .int z17]) := by rw [hF31]; exact th_up
    exact W.vret hx hb hr (fun t ht hW => ⟨⟨F30, rfl, ⟨trivial, trivial, hI, hfr⟩, by rw [ht]; exact hP, va_K.moved hW.alike hK⟩, hS.F ht⟩) hS.2.2 dX5_moveLane_26

set_option maxHeartbeats 4000000 in
set_option maxRecDepth 100000 in
theorem s_X5_splitTop (l : Launch) (dC : Nat → ClassId) (dI : Nat → Nat → Nat) (sz : Nat) {L : List Nat} {K : Nat → Nat} {cs : Nat → ClassId} (hLK : ∀ a {k : Nat}, K a = k → k ≠ 0 → a ∈ L) (D : Nat) (F : Nat → va_E) (a0 : Nat) (x1 : Int32) (x2 : Int32) (x3 : Int32) (x4 : Int32) (x5 : Int32) (ha0 : K a0 = 6) (hI : s_I K cs D F) : Met l yX5_splitTop (Cond.code yX5_splitTop cX5_splitTop 7 none :: T0) ({ frames := 1, cells := 0, slots := 0, locals := 23 }) (va_Pc [.ref a0, .int x1, .int x2, .int x3, .int x4, .int x5] (s_W dC dI sz L F [(cs 0, .int), (cs 1, .byte), (cs 2, .long), (cs 3, .object RX5), (cs 4, .object RX4), (cs 5, .array .int), (cs 6, .char), (cs 7, .boolean)])) (va_Qv (fun (G : Nat → va_E) => True ∧ True ∧ s_I K cs D G ∧ ∀ b, K b ∉ [6, 32] → G b = F b) (fun (G : Nat → va_E) (t : State) => va_P (dC, dI) vwCl (va_pl L G) t.heap ∧ va_K (dC, dI) vwCl [(cs 0, .int), (cs 1, .byte), (cs 2, .long), (cs 3, .object RX5), (cs 4, .object RX4), (cs 5, .array .int), (cs 6, .char), (cs 7, .boolean)] t) (fun q => q ∈ L)) 0 0 (fun q => q ∈ L) := by
  refine Met.ofW (cc := cX5_splitTop) (maxL := 7) (ret := none) (by decide) rfl ?_
  intro p e s m args below meth c s₁ B hml hv
  obtain ⟨rfl, hsz, hP, hK, hD, hN⟩ := hv
  have hx := B.exec
  have hb := B.bytes
  have hr := B.returns
  have hts : ∀ w ∈ T0, w.before _ s = true := fun w h => atoms_spec (ws := Cond.code yX5_splitTop cX5_splitTop 7 none :: T0) B.pre w (List.mem_cons_of_mem _ h)
  have hown : s.vm.findClass RX5 = some m.cls := findClass_of_methodNamed B.named
  have hlocks := B.notSynchronized
  have hS : va_S (fun q => q ∈ L) s.heap s.heap [] := va_S.rf
  have hfr : ∀ b, K b ∉ [6, 32] → F b = F b := fun _ _ => rfl
  have hl := lv_entry ([.ref a0, .int x1, .int x2, .int x3, .int x4, .int x5]) (n := 7) (Nat.le_of_ble_eq_true rfl)
  rw [lg_entry_eq]
  generalize (lg_sl ([.ref a0, .int x1, .int x2, .int x3, .int x4, .int x5]) ++ List.replicate (7 - (lg_sl ([.ref a0, .int x1, .int x2, .int x3, .int x4, .int x5])).length) Slot.unset).toArray = ls at hl ⊢
  have hl : lv_has ls 7 [(0, .ref a0), (1, .int x1), (2, .int x2), (3, .int x3), (4, .int x4), (5, .int x5)] := hl
  refine s_gen hP hS (fun H locs hP hS => ?_)
  refine th_join (fun g H locs => ∃ (G : Nat → va_E) (ls : Array Slot), g = F0 m 73 ls [] ∧ lv_has ls 7 [(0, .ref a0), (2, .int x2), (3, .int x3), (4, .int x4)] ∧ s_I K cs D G ∧ va_P (dC, dI) vwCl (va_pl L G) H ∧ va_S (fun q => q ∈ L) s.heap H locs ∧ (∀ b, K b ∉ [6, 32] → G b = F b)) (fun K73 => ?_) ?_
  · refine lv_aload_n hx hb dX5_splitTop_0 rfl (lv_at hl 0 rfl) ?_
    obtain ⟨z1, z3, z5, z7, z9, z11, z13, z14, z15, z16, z17, o19, h2, h4, h6, h8, h10, h12, h18, -⟩ := s_op6 hI ha0
    refine th_get (D := (dC, dI)) (ci := 5) (v := .int z11) (C := RX5) (T := TX5) (N := 11) hx hb hts inX5 hown hK hP (hLK _ ha0 (by decide)) o19 rfl 5 (by decide) (hts _ T_876) (fun _ h9 => h9) rfl dX5_splitTop_1 ?_
    refine lv_if_ne (tgt := 8) hx hb dX5_splitTop_4 (by decide) (fun c20 => ?_) (fun c20 => ?_)
    · have c20 := mt (ax_eq (n := 0) (by decide)).mpr c20
      refine lv_aload_n hx hb dX5_splitTop_8 rfl (lv_at hl 0 rfl) ?_
      refine th_get (D := (dC, dI)) (ci := 5) (v := .ref z9) (C := RX5) (T := TX5) (N := 11) hx hb hts inX5 hown hK hP (hLK _ ha0 (by decide)) o19 rfl 4 (by decide) (hts _ T_104) (fun _ h9 => h9) rfl dX5_splitTop_9 ?_
      refine lv_aload_n hx hb dX5_splitTop_12 rfl (lv_at hl 0 rfl) ?_
      refine th_get (D := (dC, dI)) (ci := 5) (v := .int z11) (C := RX5) (T := TX5) (N := 11) hx hb hts inX5 hown hK hP (hLK _ ha0 (by decide)) o19 rfl 5 (by decide) (hts _ T_876) (fun _ h9 => h9) rfl dX5_splitTop_13 ?_
      refine lv_iconst (v := 1) hx hb dX5_splitTop_16 (by decide) ?_
      refine lv_isub hx hb dX5_splitTop_17 ?_
      refine lv_topi (fun v21 ev21 => ?_)
      have qv21 : v21.toInt = z11.toInt - 1 := by rw [ev21]; exact th_sub rfl (by decide) ⟨by omega, by omega⟩
      obtain ⟨f22, o23, h24⟩ := s_op32 hI h10
      refine th_iald hx hb hK hP (hLK _ h10 (by decide)) 0 o23 rfl (th_in ⟨by omega, by omega⟩) dX5_splitTop_18 ?_
      refine lv_topi (fun v25 ev25 => ?_)
      refine lv_iload hx hb dX5_splitTop_19 (lv_at hl 4 rfl) ?_
      refine lv_iconst (v := (-1)) hx hb dX5_splitTop_21 (by decide) ?_
      refine lv_ixor hx hb dX5_splitTop_22 ?_
      refine lv_topi (fun v26 ev26 => ?_)
      refine lv_iand hx hb dX5_splitTop_23 ?_
      refine lv_topi (fun v27 ev27 => ?_)
      refine lv_istore (lv' := [(6, .int v27), (0, .ref a0), (1, .int x1), (2, .int x2), (3, .int x3), (4, .int x4), (5, .int x5)]) hx hb dX5_splitTop_24 hl (by decide) rfl (fun ls hl => ?_)
      refine lv_aload_n hx hb dX5_splitTop_26 rfl (lv_at hl 1 rfl) ?_
      refine th_get (D := (dC, dI)) (ci := 5) (v := .ref z5) (C := RX5) (T := TX5) (N := 11) hx hb hts inX5 hown hK hP (hLK _ ha0 (by decide)) o19 rfl 2 (by decide) (hts _ T_102) (fun _ h9 => h9) rfl dX5_splitTop_27 ?_
      refine lv_aload_n hx hb dX5_splitTop_30 rfl (lv_at hl 1 rfl) ?_
      refine th_get (D := (dC, dI)) (ci := 5) (v := .int z11) (C := RX5) (T := TX5) (N := 11) hx hb hts inX5 hown hK hP (hLK _ ha0 (by decide)) o19 rfl 5 (by decide) (hts _ T_876) (fun _ h9 => h9) rfl dX5_splitTop_31 ?_
      refine lv_iconst (v := 1) hx hb dX5_splitTop_34 (by decide) ?_
      refine lv_isub hx hb dX5_splitTop_35 ?_
      refine lv_topi (fun v28 ev28 => ?_)
      have qv28 : v28.toInt = z11.toInt - 1 := by rw [ev28]; exact th_sub rfl (by decide) ⟨by omega, by omega⟩
      refine lv_iload_n hx hb dX5_splitTop_36 rfl (lv_at hl 4 rfl) ?_
      obtain ⟨f29, o30, h31⟩ := s_op32 hI h6
      refine th_iast hx hb hK hP hD hS (hLK _ h6 (by decide)) 0 o30 rfl (th_in ⟨by omega, by omega⟩) dX5_splitTop_37 (fun H locs hP hS => ?_)
      have hP : va_P (dC, dI) vwCl (va_pl L (va_up F z5 (.inl (cs 0, 16, .inl (upd f29 (v28 : Int32).toNatClampNeg x3))))) H := hP
      obtain ⟨F32, hF33⟩ : ∃ G : Nat → va_E, G = va_up F z5 (.inl (cs 0, 16, .inl (upd f29 (v28 : Int32).toNatClampNeg x3))) := ⟨_, rfl⟩
      rw [← hF33] at hP
      have hI : s_I K cs D F32 := by rw [hF33]; exact s_cl32 hI h6 ⟨_, rfl, trivial⟩
      have hfr : ∀ b, K b ∉ [6, 32] → F32 b = F b := by rw [hF33]; exact s_fr hfr h6 (by decide)
      have o34 : F32 a0 = .inr (5, [.ref z1, .ref z3, .ref z5, .ref z7, .ref z9, .int z11, .int z13, .int z14, .int z15, .int z16, .int z17]) := by rw [hF33]; exact th_ne (th_kd ha0 h6 (by decide)) o19
      refine lv_iload_n hx hb dX5_splitTop_38 rfl (lv_at hl 2 rfl) ?_
      refine lv_iload hx hb dX5_splitTop_39 (lv_at hl 6 rfl) ?_
      refine lv_icmp_ne (tgt := 60) hx hb dX5_splitTop_41 (by decide) (fun c35 => ?_) (fun c35 => ?_)
      · have c35 := mt Int32.toInt_inj.symm.mpr c35
        refine lv_iload_n hx hb dX5_splitTop_60 rfl (lv_at hl 2 rfl) ?_
        refine lv_iload_n hx hb dX5_splitTop_61 rfl (lv_at hl 4 rfl) ?_
        refine lv_icmp_eq (tgt := 73) hx hb dX5_splitTop_62 (by decide) (fun c36 => ?_) (fun c36 => ?_)
        · have c36 := Int32.toInt_inj.symm.mp c36
          exact K73 _ _ _ ⟨F32, _, rfl, lv_sub hl [1, 3, 4, 5] rfl, hI, hP, hS, hfr⟩
        · have c36 := mt Int32.toInt_inj.symm.mpr c36
          refine lv_aload_n hx hb dX5_splitTop_65 rfl (lv_at hl 1 rfl) ?_
          refine lv_iload_n hx hb dX5_splitTop_66 rfl (lv_at hl 2 rfl) ?_
          refine lv_iload_n hx hb dX5_splitTop_67 rfl (lv_at hl 4 rfl) ?_
          refine lv_iload hx hb dX5_splitTop_68 (lv_at hl 0 rfl) ?_
          refine va_callv (va_runV (As := [.int x1, .int x3, .int v27]) (rest := []) ⟨hx, hb, hml, hown, hts⟩ (s_X5_layPart l dC dI H.size hLK D F32 a0 x1 x3 v27 ha0 hI) (cwV 3 hts (ax_gV T_886 T_888 T_889 T_116 T_887) rfl rfl rfl (by decide +kernel) ⟨Nat.le_of_ble_eq_true rfl, Nat.le_of_ble_eq_true rfl⟩) ⟨fun a U g mk q => ⟨q.1, s_pc (U := U) rfl rfl q.2⟩, s_recv hK hP (hLK _ ha0 (by decide)) (ci := 5) rfl o34, fun U hU hW => ⟨rfl, s_pw hU hW hP hK hD hN⟩⟩ rfl rfl hl.1 rfl (lv_room (Nat.le_of_ble_eq_true rfl)) dX5_splitTop_70 ⟨Nat.zero_le _, Nat.zero_le _⟩) hS (fun q _ h => h) (fun q h => h) (fun F37 t H1 locs ht hvm hw hB hz1 hk1 hS => ?_)
          obtain ⟨hP, hK1⟩ := hB
          rw [ht] at hP
          generalize H1 = H at hP hS ⊢
          clear hz1 hk1
          obtain ⟨h38, h39, hI, hfr1⟩ := hw
          have hfr : ∀ b, K b ∉ [6, 32] → F37 b = F b := fun b hb9 => (hfr1 b (fun q => hb9 (s_sub (by decide) q))).trans (hfr b hb9)
          exact K73 _ _ _ ⟨F37, _, rfl, lv_sub hl [1, 3, 4, 5] rfl, hI, hP, hS, hfr⟩
      · have c35 := Int32.toInt_inj.symm.mp c35
        refine lv_aload_n hx hb dX5_splitTop_44 rfl (lv_at hl 1 rfl) ?_
        refine lv_dup hx hb dX5_splitTop_45 rfl ?_
        refine th_get (D := (dC, dI)) (ci := 5) (v := .int z13) (C := RX5) (T := TX5) (N := 11) hx hb hts inX5 hown hK hP (hLK _ ha0 (by decide)) o34 rfl 6 (by decide) (hts _ T_877) (fun _ h9 => h9) rfl dX5_splitTop_46 ?_
        refine lv_iload hx hb dX5_splitTop_49 (lv_at hl 0 rfl) ?_
        refine lv_iconst (v := (-1)) hx hb dX5_splitTop_51 (by decide) ?_
        refine lv_ixor hx hb dX5_splitTop_52 ?_
        refine lv_topi (fun v40 ev40 => ?_)
        refine lv_iand hx hb dX5_splitTop_53 ?_
        refine lv_topi (fun v41 ev41 => ?_)
        refine th_put (D := (dC, dI)) (ci := 5) (v := .int v41) (ty := .int) (C := RX5) (T := TX5) (N := 11) hx hb hts inX5 tyX5 tyX5_ok nmX5 hown hK hP hD hS (hLK _ ha0 (by decide)) o34 rfl 6 (by decide) (hts _ T_877) (fun _ h9 => h9) rfl (by decide +kernel) rfl rfl (Nat.le_of_ble_eq_true rfl) dX5_splitTop_54 (fun H locs hP hS => ?_)
        have hP : va_P (dC, dI) vwCl (va_pl L (va_up F32 a0 (.inr (5, [.ref z1, .ref z3, .ref z5, .ref z7, .ref z9, .int z11, .int v41, .int z14, .int z15, .int z16, .int z17])))) H := hP
        obtain ⟨F42, hF43⟩ : ∃ G : Nat → va_E, G = va_up F32 a0 (.inr (5, [.ref z1, .ref z3, .ref z5, .ref z7, .ref z9, .int z11, .int v41, .int z14, .int z15, .int z16, .int z17])) := ⟨_, rfl⟩
        rw [← hF43] at hP
        have hI : s_I K cs D F42 := by rw [hF43]; exact s_cl6 hI ha0 ⟨z1, z3, z5, z7, z9, z11, v41, z14, z15, z16, z17, rfl, h2, h4, h6, h8, h10, ⟨by omega, by omega⟩, ⟨by omega, by omega⟩, trivial⟩
        have hfr : ∀ b, K b ∉ [6, 32] → F42 b = F b := by rw [hF43]; exact s_fr hfr ha0 (by decide)
        have o44 : F42 a0 = .inr (5, [.ref z1, .ref z3, .ref z5, .ref z7, .ref z9, .int z11, .int v41, .int z14, .int z15, .int z16, .int z17]) := by rw [hF43]; exact th_up
        refine lv_goto (tgt := 73) hx hb dX5_splitTop_57 (by decide) ?_
        exact K73 _ _ _ ⟨F42, _, rfl, lv_sub hl [1, 3, 4, 5] rfl, hI, hP, hS, hfr⟩
    · have c20 := (ax_eq (n := 0) (by decide)).mp c20
      exact W.vret hx hb hr (fun t ht hW => ⟨⟨F, rfl, ⟨trivial, trivial, hI, hfr⟩, by rw [ht]; exact hP, va_K.moved hW.alike hK⟩, hS.F ht⟩) hS.2.2 dX5_splitTop_7
  · intro g H locs hq
    obtain ⟨F9, ls, rfl, hl, hI, hP, hS, hfr⟩ := hq
    refine lv_iload_n hx hb dX5_splitTop_73 rfl (lv_at hl 1 rfl) ?_
    refine lv_iload_n hx hb dX5_splitTop_74 rfl (lv_at hl 2 rfl) ?_
    refine lv_icmp_eq (tgt := 86) hx hb dX5_splitTop_75 (by decide) (fun c45 => ?_) (fun c45 => ?_)
    · have c45 := Int32.toInt_inj.symm.mp c45
      exact W.vret hx hb hr (fun t ht hW => ⟨⟨F9, rfl, ⟨trivial, trivial, hI, hfr⟩, by rw [ht]; exact hP, va_K.moved hW.alike hK⟩, hS.F ht⟩) hS.2.2 dX5_splitTop_86
    · have c45 := mt Int32.toInt_inj.symm.mpr c45
      refine lv_aload_n hx hb dX5_splitTop_78 rfl (lv_at hl 0 rfl) ?_
      refine lv_iload_n hx hb dX5_splitTop_79 rfl (lv_at hl 1 rfl) ?_
      refine lv_iload_n hx hb dX5_splitTop_80 rfl (lv_at hl 2 rfl) ?_
      refine lv_iload hx hb dX5_splitTop_81 (lv_at hl 3 rfl) ?_
      obtain ⟨z46, z48, z50, z52, z54, z56, z58, z59, z60, z61, z62, o64, h47, h49, h51, h53, h55, h57, h63, -⟩ := s_op6 hI ha0
      refine va_callv (va_runV (As := [.int x2, .int x3, .int x4]) (rest := []) ⟨hx, hb, hml, hown, hts⟩ (s_X5_layPart l dC dI H.size hLK D F9 a0 x2 x3 x4 ha0 hI) (cwV 3 hts (ax_gV T_886 T_888 T_889 T_116 T_887) rfl rfl rfl (by decide +kernel) ⟨Nat.le_of_ble_eq_true rfl, Nat.le_of_ble_eq_true rfl⟩) ⟨fun a U g mk q => ⟨q.1, s_pc (U := U) rfl rfl q.2⟩, s_recv hK hP (hLK _ ha0 (by decide)) (ci := 5) rfl o64, fun U hU hW => ⟨rfl, s_pw hU hW hP hK hD hN⟩⟩ rfl rfl hl.1 rfl (lv_room (Nat.le_of_ble_eq_true rfl)) dX5_splitTop_83 ⟨Nat.zero_le _, Nat.zero_le _⟩) hS (fun q _ h => h) (fun q h => h) (fun F65 t H1 locs ht hvm hw hB hz1 hk1 hS => ?_)
      obtain ⟨hP, hK1⟩ := hB
      rw [ht] at hP
      generalize H1 = H at hP hS ⊢
      clear hz1 hk1
      obtain ⟨h66, h67, hI, hfr1⟩ := hw
      have hfr : ∀ b, K b ∉ [6, 32] → F65 b = F b := fun b hb9 => (hfr1 b (fun q => hb9 (s_sub (by decide) q))).trans (hfr b hb9)
      exact W.vret hx hb hr (fun t ht hW => ⟨⟨F65, rfl, ⟨trivial, trivial, hI, hfr⟩, by rw [ht]; exact hP, va_K.moved hW.alike hK⟩, hS.F ht⟩) hS.2.2 dX5_splitTop_86

set_option maxHeartbeats 4000000 in
set_option maxRecDepth 100000 in
theorem s_X5_passBar (l : Launch) (dC : Nat → ClassId) (dI : Nat → Nat → Nat) (sz : Nat) {L : List Nat} {K : Nat → Nat} {cs : Nat → ClassId} (hLK : ∀ a {k : Nat}, K a = k → k ≠ 0 → a ∈ L) (D : Nat) (F : Nat → va_E) (a0 : Nat) (x1 : Int32) (x2 : Int32) (ha0 : K a0 = 6) (hI : s_I K cs D F) : Met l yX5_passBar (Cond.code yX5_passBar cX5_passBar 5 none :: T0) ({ frames := 1, cells := 0, slots := 0, locals := 25 }) (va_Pc [.ref a0, .int x1, .int x2] (s_W dC dI sz L F [(cs 0, .int), (cs 1, .byte), (cs 2, .long), (cs 3, .object RX5), (cs 4, .object RX4), (cs 5, .array .int), (cs 6, .char), (cs 7, .boolean)])) (va_Qv (fun (G : Nat → va_E) => True ∧ True ∧ s_I K cs D G ∧ ∀ b, K b ∉ [6, 31, 32] → G b = F b) (fun (G : Nat → va_E) (t : State) => va_P (dC, dI) vwCl (va_pl L G) t.heap ∧ va_K (dC, dI) vwCl [(cs 0, .int), (cs 1, .byte), (cs 2, .long), (cs 3, .object RX5), (cs 4, .object RX4), (cs 5, .array .int), (cs 6, .char), (cs 7, .boolean)] t) (fun q => q ∈ L)) 0 0 (fun q => q ∈ L) := by
  refine Met.ofW (cc := cX5_passBar) (maxL := 5) (ret := none) (by decide) rfl ?_
  intro p e s m args below meth c s₁ B hml hv
  obtain ⟨rfl, hsz, hP, hK, hD, hN⟩ := hv
  have hx := B.exec
  have hb := B.bytes
  have hr := B.returns
  have hts : ∀ w ∈ T0, w.before _ s = true := fun w h => atoms_spec (ws := Cond.code yX5_passBar cX5_passBar 5 none :: T0) B.pre w (List.mem_cons_of_mem _ h)
  have hown : s.vm.findClass RX5 = some m.cls := findClass_of_methodNamed B.named
  have hlocks := B.notSynchronized
  have hS : va_S (fun q => q ∈ L) s.heap s.heap [] := va_S.rf
  have hfr : ∀ b, K b ∉ [6, 31, 32] → F b = F b := fun _ _ => rfl
  have hl := lv_entry ([.ref a0, .int x1, .int x2]) (n := 5) (Nat.le_of_ble_eq_true rfl)
  rw [lg_entry_eq]
  generalize (lg_sl ([.ref a0, .int x1, .int x2]) ++ List.replicate (5 - (lg_sl ([.ref a0, .int x1, .int x2])).length) Slot.unset).toArray = ls at hl ⊢
  have hl : lv_has ls 5 [(0, .ref a0), (1, .int x1), (2, .int x2)] := hl
  refine s_gen hP hS (fun H locs hP hS => ?_)
  refine th_join (fun g H locs => ∃ (G : Nat → va_E) (ls : Array Slot) (w1 : Int32), g = F0 m 49 ls [] ∧ lv_has ls 5 [(0, .ref a0), (2, .int x2), (3, .int w1)] ∧ s_I K cs D G ∧ va_P (dC, dI) vwCl (va_pl L G) H ∧ va_S (fun q => q ∈ L) s.heap H locs ∧ (∀ b, K b ∉ [6, 31, 32] → G b = F b) ∧ True) (fun K49 => ?_) ?_
  · refine lv_aload_n hx hb dX5_passBar_0 rfl (lv_at hl 0 rfl) ?_
    obtain ⟨z2, z4, z6, z8, z10, z12, z14, z15, z16, z17, z18, o20, h3, h5, h7, h9, h11, h13, h19, -⟩ := s_op6 hI ha0
    refine th_get (D := (dC, dI)) (ci := 5) (v := .int z15) (C := RX5) (T := TX5) (N := 11) hx hb hts inX5 hown hK hP (hLK _ ha0 (by decide)) o20 rfl 7 (by decide) (hts _ T_878) (fun _ h9 => h9) rfl dX5_passBar_1 ?_
    refine lv_istore_n (lv' := [(3, .int z15), (0, .ref a0), (1, .int x1), (2, .int x2)]) hx hb dX5_passBar_4 rfl hl (by decide) rfl (fun ls hl => ?_)
    refine lv_aload_n hx hb dX5_passBar_5 rfl (lv_at hl 1 rfl) ?_
    refine lv_iconst (v := 0) hx hb dX5_passBar_6 (by decide) ?_
    refine th_put (D := (dC, dI)) (ci := 5) (v := .int 0) (ty := .int) (C := RX5) (T := TX5) (N := 11) hx hb hts inX5 tyX5 tyX5_ok nmX5 hown hK hP hD hS (hLK _ ha0 (by decide)) o20 rfl 7 (by decide) (hts _ T_878) (fun _ h9 => h9) rfl (by decide +kernel) rfl rfl (Nat.le_of_ble_eq_true rfl) dX5_passBar_7 (fun H locs hP hS => ?_)
    have hP : va_P (dC, dI) vwCl (va_pl L (va_up F a0 (.inr (5, [.ref z2, .ref z4, .ref z6, .ref z8, .ref z10, .int z12, .int z14, .int 0, .int z16, .int z17, .int z18])))) H := hP
    obtain ⟨F21, hF22⟩ : ∃ G : Nat → va_E, G = va_up F a0 (.inr (5, [.ref z2, .ref z4, .ref z6, .ref z8, .ref z10, .int z12, .int z14, .int 0, .int z16, .int z17, .int z18])) := ⟨_, rfl⟩
    rw [← hF22] at hP
    have hI : s_I K cs D F21 := by rw [hF22]; exact s_cl6 hI ha0 ⟨z2, z4, z6, z8, z10, z12, z14, 0, z16, z17, z18, rfl, h3, h5, h7, h9, h11, ⟨by omega, by omega⟩, ⟨by omega, by omega⟩, trivial⟩
    have hfr : ∀ b, K b ∉ [6, 31, 32] → F21 b = F b := by rw [hF22]; exact s_fr hfr ha0 (by decide)
    have o23 : F21 a0 = .inr (5, [.ref z2, .ref z4, .ref z6, .ref z8, .ref z10, .int z12, .int z14, .int 0, .int z16, .int z17, .int z18]) := by rw [hF22]; exact th_up
    refine lv_iload_n hx hb dX5_passBar_10 rfl (lv_at hl 0 rfl) ?_
    refine lv_if_ne (tgt := 15) hx hb dX5_passBar_11 (by decide) (fun c24 => ?_) (fun c24 => ?_)
    · have c24 := mt (ax_eq (n := 0) (by decide)).mpr c24
      refine lv_iload_n hx hb dX5_passBar_15 rfl (lv_at hl 2 rfl) ?_
      refine lv_if_ne (tgt := 49) hx hb dX5_passBar_16 (by decide) (fun c25 => ?_) (fun c25 => ?_)
      · have c25 := mt (ax_eq (n := 0) (by decide)).mpr c25
        exact K49 _ _ _ ⟨F21, _, z15, rfl, lv_sub hl [1, 3, 0] rfl, hI, hP, hS, hfr, trivial⟩
      · have c25 := (ax_eq (n := 0) (by decide)).mp c25
        refine lv_aload_n hx hb dX5_passBar_19 rfl (lv_at hl 1 rfl) ?_
        refine th_get (D := (dC, dI)) (ci := 5) (v := .int z12) (C := RX5) (T := TX5) (N := 11) hx hb hts inX5 hown hK hP (hLK _ ha0 (by decide)) o23 rfl 5 (by decide) (hts _ T_876) (fun _ h9 => h9) rfl dX5_passBar_20 ?_
        refine lv_if_le (tgt := 49) hx hb dX5_passBar_23 (by decide) (fun c26 => ?_) (fun c26 => ?_)
        · have c26 := (ax_le (n := 0) (by decide)).mp c26
          exact K49 _ _ _ ⟨F21, _, z15, rfl, lv_sub hl [1, 3, 0] rfl, hI, hP, hS, hfr, trivial⟩
        · have c26 := mt (ax_le (n := 0) (by decide)).mpr c26
          refine lv_aload_n hx hb dX5_passBar_26 rfl (lv_at hl 1 rfl) ?_
          refine lv_aload_n hx hb dX5_passBar_27 rfl (lv_at hl 1 rfl) ?_
          refine th_get (D := (dC, dI)) (ci := 5) (v := .ref z6) (C := RX5) (T := TX5) (N := 11) hx hb hts inX5 hown hK hP (hLK _ ha0 (by decide)) o23 rfl 2 (by decide) (hts _ T_102) (fun _ h9 => h9) rfl dX5_passBar_28 ?_
          refine lv_aload_n hx hb dX5_passBar_31 rfl (lv_at hl 1 rfl) ?_
          refine th_get (D := (dC, dI)) (ci := 5) (v := .int z12) (C := RX5) (T := TX5) (N := 11) hx hb hts inX5 hown hK hP (hLK _ ha0 (by decide)) o23 rfl 5 (by decide) (hts _ T_876) (fun _ h9 => h9) rfl dX5_passBar_32 ?_
          refine lv_iconst (v := 1) hx hb dX5_passBar_35 (by decide) ?_
          refine lv_isub hx hb dX5_passBar_36 ?_
          refine lv_topi (fun v27 ev27 => ?_)
          have qv27 : v27.toInt = z12.toInt - 1 := by rw [ev27]; exact th_sub rfl (by decide) ⟨by omega, by omega⟩
          obtain ⟨f28, o29, h30⟩ := s_op32 hI h7
          refine th_iald hx hb hK hP (hLK _ h7 (by decide)) 0 o29 rfl (th_in ⟨by omega, by omega⟩) dX5_passBar_37 ?_
          refine lv_topi (fun v31 ev31 => ?_)
          refine lv_iconst (v := 1) hx hb dX5_passBar_38 (by decide) ?_
          refine lv_iadd hx hb dX5_passBar_39 ?_
          refine lv_topi (fun v32 ev32 => ?_)
          refine va_callv (va_runV (As := [.int v32]) (rest := []) ⟨hx, hb, hml, hown, hts⟩ (s_X5_moveTop l dC dI H.size hLK D F21 a0 v32 ha0 hI) (cwV 1 hts (ax_gV T_882 T_679 T_680 T_116 T_678) rfl rfl rfl (by decide +kernel) ⟨Nat.le_of_ble_eq_true rfl, Nat.le_of_ble_eq_true rfl⟩) ⟨fun a U g mk q => ⟨q.1, s_pc (U := U) rfl rfl q.2⟩, s_recv hK hP (hLK _ ha0 (by decide)) (ci := 5) rfl o23, fun U hU hW => ⟨rfl, s_pw hU hW hP hK hD hN⟩⟩ rfl rfl hl.1 rfl (lv_room (Nat.le_of_ble_eq_true rfl)) dX5_passBar_40 ⟨Nat.zero_le _, Nat.zero_le _⟩) hS (fun q _ h => h) (fun q h => h) (fun F33 t H1 locs ht hvm hw hB hz1 hk1 hS => ?_)
          obtain ⟨hP, hK1⟩ := hB
          rw [ht] at hP
          generalize H1 = H at hP hS ⊢
          clear hz1 hk1
          obtain ⟨h34, h35, hI, hfr1⟩ := hw
          have o36 : F33 a0 = .inr (5, [.ref z2, .ref z4, .ref z6, .ref z8, .ref z10, .int z12, .int z14, .int 0, .int z16, .int z17, .int z18]) := (hfr1 _ (by rw [ha0]; decide)).trans o23
          have hfr : ∀ b, K b ∉ [6, 31, 32] → F33 b = F b := fun b hb9 => (hfr1 b (fun q => hb9 (s_sub (by decide) q))).trans (hfr b hb9)
          refine lv_aload_n hx hb dX5_passBar_43 rfl (lv_at hl 1 rfl) ?_
          refine lv_iload_n hx hb dX5_passBar_44 rfl (lv_at hl 3 rfl) ?_
          refine va_callv (va_runV (As := [.int x2]) (rest := []) ⟨hx, hb, hml, hown, hts⟩ (s_X5_settle l dC dI H.size hLK D F33 a0 x2 ha0 hI) (cwV 1 hts (ax_gV T_883 T_691 T_692 T_116 T_690) rfl rfl rfl (by decide +kernel) ⟨Nat.le_of_ble_eq_true rfl, Nat.le_of_ble_eq_true rfl⟩) ⟨fun a U g mk q => ⟨q.1, s_pc (U := U) rfl rfl q.2⟩, s_recv hK hP (hLK _ ha0 (by decide)) (ci := 5) rfl o36, fun U hU hW => ⟨rfl, s_pw hU hW hP hK hD hN⟩⟩ rfl rfl hl.1 rfl (lv_room (Nat.le_of_ble_eq_true rfl)) dX5_passBar_45 ⟨Nat.zero_le _, Nat.zero_le _⟩) hS (fun q _ h => h) (fun q h => h) (fun F37 t H1 locs ht hvm hw hB hz1 hk1 hS => ?_)
          obtain ⟨hP, hK1⟩ := hB
          rw [ht] at hP
          generalize H1 = H at hP hS ⊢
          clear hz1 hk1
          obtain ⟨h38, h39, hI, hfr1⟩ := hw
          have hfr : ∀ b, K b ∉ [6, 31, 32] → F37 b = F b := fun b hb9 => (hfr1 b (fun q => hb9 (s_sub (by decide) q))).trans (hfr b hb9)
          exact W.vret hx hb hr (fun t ht hW => ⟨⟨F37, rfl, ⟨trivial, trivial, hI, hfr⟩, by rw [ht]; exact hP, va_K.moved hW.alike hK⟩, hS.F ht⟩) hS.2.2 dX5_passBar_48
    · have c24 := (ax_eq (n := 0) (by decide)).mp c24
      exact W.vret hx hb hr (fun t ht hW => ⟨⟨F21, rfl, ⟨trivial, trivial, hI, hfr⟩, by rw [ht]; exact hP, va_K.moved hW.alike hK⟩, hS.F ht⟩) hS.2.2 dX5_passBar_14
  · intro g H locs hq
    obtain ⟨F9, ls, w1, rfl, hl, hI, hP, hS, hfr, h40⟩ := hq
    refine lv_iconst (v := 0) hx hb dX5_passBar_49 (by decide) ?_
    refine lv_istore (lv' := [(4, .int 0), (0, .ref a0), (2, .int x2), (3, .int w1)]) hx hb dX5_passBar_50 hl (by decide) rfl (fun ls hl => ?_)
    refine th_loop (fun n g H locs => ∃ (G : Nat → va_E) (ls : Array Slot) (w41 : Int32), g = F0 m 52 ls [] ∧ lv_has ls 5 [(0, .ref a0), (2, .int x2), (3, .int w1), (4, .int w41)] ∧ s_I K cs D G ∧ va_P (dC, dI) vwCl (va_pl L G) H ∧ va_S (fun q => q ∈ L) s.heap H locs ∧ (∀ b, K b ∉ [6, 31, 32] → G b = F b) ∧ (0 ≤ w41.toInt ∧ w41.toInt ≤ 8) ∧ n = (9 - w41.toInt).toNat) _ ⟨F9, _, 0, rfl, lv_sub hl [1, 2, 3, 0] rfl, hI, hP, hS, hfr, (by decide), rfl⟩ (fun n ih52 g H locs hq => ?_)
    obtain ⟨F9, ls, w41, rfl, hl, hI, hP, hS, hfr, h42, hn⟩ := hq
    have hn_52 := hn
    obtain ⟨n_52, hn9_52⟩ : ∃ q, q = n := ⟨_, rfl⟩
    refine th_join (fun g H locs => ∃ (G : Nat → va_E) (ls : Array Slot), g = F0 m 84 ls [] ∧ lv_has ls 5 [(0, .ref a0), (2, .int x2), (3, .int w1), (4, .int w41)] ∧ s_I K cs D G ∧ va_P (dC, dI) vwCl (va_pl L G) H ∧ va_S (fun q => q ∈ L) s.heap H locs ∧ (∀ b, K b ∉ [6, 31, 32] → G b = F b) ∧ (0 ≤ w41.toInt ∧ w41.toInt ≤ 7)) (fun K84 => ?_) ?_
    · refine lv_iload hx hb dX5_passBar_52 (lv_at hl 3 rfl) ?_
      refine lv_bipush (v := 8) hx hb dX5_passBar_54 (by decide) ?_
      refine lv_icmp_ge (tgt := 90) hx hb dX5_passBar_56 (by decide) (fun c43 => ?_) (fun c43 => ?_)
      · have c43 := (ax_ge (n := 8) (by decide)).mp c43
        exact W.vret hx hb hr (fun t ht hW => ⟨⟨F9, rfl, ⟨trivial, trivial, hI, hfr⟩, by rw [ht]; exact hP, va_K.moved hW.alike hK⟩, hS.F ht⟩) hS.2.2 dX5_passBar_90
      · have c43 := mt (ax_ge (n := 8) (by decide)).mpr c43
        refine lv_iload_n hx hb dX5_passBar_59 rfl (lv_at hl 2 rfl) ?_
        refine lv_iload hx hb dX5_passBar_60 (lv_at hl 3 rfl) ?_
        refine lv_ishr hx hb dX5_passBar_62 ?_
        refine lv_topi (fun v44 ev44 => ?_)
        refine lv_iconst (v := 1) hx hb dX5_passBar_63 (by decide) ?_
        refine lv_iand hx hb dX5_passBar_64 ?_
        refine lv_topi (fun v45 ev45 => ?_)
        have qv45 : 0 ≤ v45.toInt ∧ v45.toInt ≤ 1 := by rw [ev45]; exact th_and 1 (by decide) (by decide)
        refine lv_if_eq (tgt := 84) hx hb dX5_passBar_65 (by decide) (fun c46 => ?_) (fun c46 => ?_)
        · have c46 := (ax_eq (n := 0) (by decide)).mp c46
          exact K84 _ _ _ ⟨F9, _, rfl, lv_sub hl [0, 1, 2, 3] rfl, hI, hP, hS, hfr, ⟨by omega, by omega⟩⟩
        · have c46 := mt (ax_eq (n := 0) (by decide)).mpr c46
          refine lv_aload_n hx hb dX5_passBar_68 rfl (lv_at hl 0 rfl) ?_
          refine lv_iload hx hb dX5_passBar_69 (lv_at hl 3 rfl) ?_
          refine lv_aload_n hx hb dX5_passBar_71 rfl (lv_at hl 0 rfl) ?_
          obtain ⟨z47, z49, z51, z53, z55, z57, z59, z60, z61, z62, z63, o65, h48, h50, h52, h54, h56, h58, h64, -⟩ := s_op6 hI ha0
          refine th_get (D := (dC, dI)) (ci := 5) (v := .ref z49) (C := RX5) (T := TX5) (N := 11) hx hb hts inX5 hown hK hP (hLK _ ha0 (by decide)) o65 rfl 1 (by decide) (hts _ T_101) (fun _ h9 => h9) rfl dX5_passBar_72 ?_
          refine lv_iload hx hb dX5_passBar_75 (lv_at hl 3 rfl) ?_
          obtain ⟨f66, o67, h68⟩ := s_op31 hI h50
          refine th_iald hx hb hK hP (hLK _ h50 (by decide)) 0 o67 rfl (th_in ⟨by omega, by omega⟩) dX5_passBar_77 ?_
          refine lv_topi (fun v69 ev69 => ?_)
          refine lv_iconst (v := 1) hx hb dX5_passBar_78 (by decide) ?_
          refine lv_iadd hx hb dX5_passBar_79 ?_
          refine lv_topi (fun v70 ev70 => ?_)
          refine lv_iload_n hx hb dX5_passBar_80 rfl (lv_at hl 1 rfl) ?_
          refine va_callv (va_runV (As := [.int w41, .int v70, .int x2]) (rest := []) ⟨hx, hb, hml, hown, hts⟩ (s_X5_moveLane l dC dI H.size hLK D F9 a0 w41 v70 x2 ha0 (⟨by omega, by omega⟩) hI) (cwV 3 hts (ax_gV T_884 T_675 T_676 T_116 T_674) rfl rfl rfl (by decide +kernel) ⟨Nat.le_of_ble_eq_true rfl, Nat.le_of_ble_eq_true rfl⟩) ⟨fun a U g mk q => ⟨q.1, s_pc (U := U) rfl rfl q.2⟩, s_recv hK hP (hLK _ ha0 (by decide)) (ci := 5) rfl o65, fun U hU hW => ⟨rfl, s_pw hU hW hP hK hD hN⟩⟩ rfl rfl hl.1 rfl (lv_room (Nat.le_of_ble_eq_true rfl)) dX5_passBar_81 ⟨Nat.zero_le _, Nat.zero_le _⟩) hS (fun q _ h => h) (fun q h => h) (fun F71 t H1 locs ht hvm hw hB hz1 hk1 hS => ?_)
          obtain ⟨hP, hK1⟩ := hB
          rw [ht] at hP
          generalize H1 = H at hP hS ⊢
          clear hz1 hk1
          obtain ⟨h72, h73, hI, hfr1⟩ := hw
          have hfr : ∀ b, K b ∉ [6, 31, 32] → F71 b = F b := fun b hb9 => (hfr1 b (fun q => hb9 (s_sub (by decide) q))).trans (hfr b hb9)
          exact K84 _ _ _ ⟨F71, _, rfl, lv_sub hl [0, 1, 2, 3] rfl, hI, hP, hS, hfr, ⟨by omega, by omega⟩⟩
    · intro g H locs hq
      obtain ⟨F9, ls, rfl, hl, hI, hP, hS, hfr, h74⟩ := hq
      obtain ⟨v75, ev75⟩ : ∃ y : Int32, w41 + 1 = y := ⟨_, rfl⟩
      have qv75 : v75.toInt = w41.toInt + 1 := by rw [← ev75]; exact th_add rfl (by decide) ⟨by omega, by omega⟩
      refine lv_iinc (v := v75) (lv' := [(4, .int v75), (0, .ref a0), (2, .int x2), (3, .int w1)]) hx hb dX5_passBar_84 hl (k := 3) rfl ev75 (by decide) rfl (fun ls hl => ?_)
      refine lv_goto (tgt := 52) hx hb dX5_passBar_87 (by decide) ?_
      exact ih52 _ _ _ _ (by omega) ⟨F9, _, v75, rfl, lv_sub hl [1, 2, 3, 0] rfl, hI, hP, hS, hfr, ⟨by omega, by omega⟩, rfl⟩

set_option maxHeartbeats 4000000 in
set_option maxRecDepth 100000 in
theorem s_X5_restart (l : Launch) (dC : Nat → ClassId) (dI : Nat → Nat → Nat) (sz : Nat) {L : List Nat} {K : Nat → Nat} {cs : Nat → ClassId} (hLK : ∀ a {k : Nat}, K a = k → k ≠ 0 → a ∈ L) (D : Nat) (F : Nat → va_E) (a0 : Nat) (x1 : Int32) (x2 : Int32) (x3 : Int32) (ha0 : K a0 = 6) (hI : s_I K cs D F) : Met l yX5_restart (Cond.code yX5_restart cX5_restart 4 none :: T0) ({ frames := 1, cells := 0, slots := 0, locals := 23 }) (va_Pc [.ref a0, .int x1, .int x2, .int x3] (s_W dC dI sz L F [(cs 0, .int), (cs 1, .byte), (cs 2, .long), (cs 3, .object RX5), (cs 4, .object RX4), (cs 5, .array .int), (cs 6, .char), (cs 7, .boolean)])) (va_Qv (fun (G : Nat → va_E) => True ∧ True ∧ s_I K cs D G ∧ ∀ b, K b ∉ [6, 30, 31, 32] → G b = F b) (fun (G : Nat → va_E) (t : State) => va_P (dC, dI) vwCl (va_pl L G) t.heap ∧ va_K (dC, dI) vwCl [(cs 0, .int), (cs 1, .byte), (cs 2, .long), (cs 3, .object RX5), (cs 4, .object RX4), (cs 5, .array .int), (cs 6, .char), (cs 7, .boolean)] t) (fun q => q ∈ L)) 0 0 (fun q => q ∈ L) := by
  refine Met.ofW (cc := cX5_restart) (maxL := 4) (ret := none) (by decide) rfl ?_
  intro p e s m args below meth c s₁ B hml hv
  obtain ⟨rfl, hsz, hP, hK, hD, hN⟩ := hv
  have hx := B.exec
  have hb := B.bytes
  have hr := B.returns
  have hts : ∀ w ∈ T0, w.before _ s = true := fun w h => atoms_spec (ws := Cond.code yX5_restart cX5_restart 4 none :: T0) B.pre w (List.mem_cons_of_mem _ h)
  have hown : s.vm.findClass RX5 = some m.cls := findClass_of_methodNamed B.named
  have hlocks := B.notSynchronized
  have hS : va_S (fun q => q ∈ L) s.heap s.heap [] := va_S.rf
  have hfr : ∀ b, K b ∉ [6, 30, 31, 32] → F b = F b := fun _ _ => rfl
  have hl := lv_entry ([.ref a0, .int x1, .int x2, .int x3]) (n := 4) (Nat.le_of_ble_eq_true rfl)
  rw [lg_entry_eq]
  generalize (lg_sl ([.ref a0, .int x1, .int x2, .int x3]) ++ List.replicate (4 - (lg_sl ([.ref a0, .int x1, .int x2, .int x3])).length) Slot.unset).toArray = ls at hl ⊢
  have hl : lv_has ls 4 [(0, .ref a0), (1, .int x1), (2, .int x2), (3, .int x3)] := hl
  refine s_gen hP hS (fun H locs hP hS => ?_)
  refine lv_aload_n hx hb dX5_restart_0 rfl (lv_at hl 0 rfl) ?_
  obtain ⟨z1, z3, z5, z7, z9, z11, z13, z14, z15, z16, z17, o19, h2, h4, h6, h8, h10, h12, h18, -⟩ := s_op6 hI ha0
  refine th_get (D := (dC, dI)) (ci := 5) (v := .ref z1) (C := RX5) (T := TX5) (N := 11) hx hb hts inX5 hown hK hP (hLK _ ha0 (by decide)) o19 rfl 0 (by decide) (hts _ T_100) (fun _ h9 => h9) rfl dX5_restart_1 ?_
  refine lv_iconst (v := 0) hx hb dX5_restart_4 (by decide) ?_
  refine va_callv (va_runS (As := [.ref z1, .int 0]) (rest := []) ⟨hx, hb, hml, hown, hts⟩ (s_J7_fill_53178_regs l dC dI H.size hLK D F z1 0 h2 hI) ⟨callB_of 2 hts (ax_gT T_11) rfl rfl rfl (hts _ T_197) (hts _ T_885) (by decide +kernel) ⟨Nat.le_of_ble_eq_true rfl, Nat.le_of_ble_eq_true rfl⟩, hts _ T_199⟩ ⟨fun a U g mk q => ⟨q.1, s_pc (U := U) rfl rfl q.2⟩, fun U hU hW => ⟨rfl, s_pw hU hW hP hK hD hN⟩⟩ rfl rfl hl.1 rfl (lv_room (Nat.le_of_ble_eq_true rfl)) dX5_restart_5 ⟨Nat.zero_le _, Nat.zero_le _⟩) hS (fun q _ h => h) (fun q h => h) (fun F20 t H1 locs ht hvm hw hB hz1 hk1 hS => ?_)
  obtain ⟨hP, hK1⟩ := hB
  rw [ht] at hP
  generalize H1 = H at hP hS ⊢
  clear hz1 hk1
  obtain ⟨h21, h22, hI, hfr1⟩ := hw
  have o23 : F20 a0 = .inr (5, [.ref z1, .ref z3, .ref z5, .ref z7, .ref z9, .int z11, .int z13, .int z14, .int z15, .int z16, .int z17]) := (hfr1 _ (by rw [ha0]; decide)).trans o19
  have hfr : ∀ b, K b ∉ [6, 30, 31, 32] → F20 b = F b := fun b hb9 => (hfr1 b (fun q => hb9 (s_sub (by decide) q))).trans (hfr b hb9)
  refine lv_aload_n hx hb dX5_restart_8 rfl (lv_at hl 0 rfl) ?_
  refine th_get (D := (dC, dI)) (ci := 5) (v := .ref z3) (C := RX5) (T := TX5) (N := 11) hx hb hts inX5 hown hK hP (hLK _ ha0 (by decide)) o23 rfl 1 (by decide) (hts _ T_101) (fun _ h9 => h9) rfl dX5_restart_9 ?_
  refine lv_iconst (v := 0) hx hb dX5_restart_12 (by decide) ?_
  refine va_callv (va_runS (As := [.ref z3, .int 0]) (rest := []) ⟨hx, hb, hml, hown, hts⟩ (s_J7_fill_53178_lines l dC dI H.size hLK D F20 z3 0 h4 hI) ⟨callB_of 2 hts (ax_gT T_11) rfl rfl rfl (hts _ T_197) (hts _ T_885) (by decide +kernel) ⟨Nat.le_of_ble_eq_true rfl, Nat.le_of_ble_eq_true rfl⟩, hts _ T_199⟩ ⟨fun a U g mk q => ⟨q.1, s_pc (U := U) rfl rfl q.2⟩, fun U hU hW => ⟨rfl, s_pw hU hW hP hK hD hN⟩⟩ rfl rfl hl.1 rfl (lv_room (Nat.le_of_ble_eq_true rfl)) dX5_restart_13 ⟨Nat.zero_le _, Nat.zero_le _⟩) hS (fun q _ h => h) (fun q h => h) (fun F24 t H1 locs ht hvm hw hB hz1 hk1 hS => ?_)
  obtain ⟨hP, hK1⟩ := hB
  rw [ht] at hP
  generalize H1 = H at hP hS ⊢
  clear hz1 hk1
  obtain ⟨h25, h26, hI, hfr1⟩ := hw
  have o27 : F24 a0 = .inr (5, [.ref z1, .ref z3, .ref z5, .ref z7, .ref z9, .int z11, .int z13, .int z14, .int z15, .int z16, .int z17]) := (hfr1 _ (by rw [ha0]; decide)).trans o23
  have hfr : ∀ b, K b ∉ [6, 30, 31, 32] → F24 b = F b := fun b hb9 => (hfr1 b (fun q => hb9 (s_sub (by decide) q))).trans (hfr b hb9)
  refine lv_aload_n hx hb dX5_restart_16 rfl (lv_at hl 0 rfl) ?_
  refine lv_iload_n hx hb dX5_restart_17 rfl (lv_at hl 1 rfl) ?_
  refine th_put (D := (dC, dI)) (ci := 5) (v := .int x1) (ty := .int) (C := RX5) (T := TX5) (N := 11) hx hb hts inX5 tyX5 tyX5_ok nmX5 hown hK hP hD hS (hLK _ ha0 (by decide)) o27 rfl 6 (by decide) (hts _ T_877) (fun _ h9 => h9) rfl (by decide +kernel) rfl rfl (Nat.le_of_ble_eq_true rfl) dX5_restart_18 (fun H locs hP hS => ?_)
  have hP : va_P (dC, dI) vwCl (va_pl L (va_up F24 a0 (.inr (5, [.ref z1, .ref z3, .ref z5, .ref z7, .ref z9, .int z11, .int x1, .int z14, .int z15, .int z16, .int z17])))) H := hP
  obtain ⟨F28, hF29⟩ : ∃ G : Nat → va_E, G = va_up F24 a0 (.inr (5, [.ref z1, .ref z3, .ref z5, .ref z7, .ref z9, .int z11, .int x1, .int z14, .int z15, .int z16, .int z17])) := ⟨_, rfl⟩
  rw [← hF29] at hP
  have hI : s_I K cs D F28 := by rw [hF29]; exact s_cl6 hI ha0 ⟨z1, z3, z5, z7, z9, z11, x1, z14, z15, z16, z17, rfl, h2, h4, h6, h8, h10, ⟨by omega, by omega⟩, ⟨by omega, by omega⟩, trivial⟩
  have hfr : ∀ b, K b ∉ [6, 30, 31, 32] → F28 b = F b := by rw [hF29]; exact s_fr hfr ha0 (by decide)
  have o30 : F28 a0 = .inr (5, [.ref z1, .ref z3, .ref z5, .ref z7, .ref z9, .int z11, .int x1, .int z14, .int z15, .int z16, .int z17]) := by rw [hF29]; exact th_up
  refine lv_aload_n hx hb dX5_restart_21 rfl (lv_at hl 0 rfl) ?_
  refine lv_iconst (v := 0) hx hb dX5_restart_22 (by decide) ?_
  refine th_put (D := (dC, dI)) (ci := 5) (v := .int 0) (ty := .int) (C := RX5) (T := TX5) (N := 11) hx hb hts inX5 tyX5 tyX5_ok nmX5 hown hK hP hD hS (hLK _ ha0 (by decide)) o30 rfl 7 (by decide) (hts _ T_878) (fun _ h9 => h9) rfl (by decide +kernel) rfl rfl (Nat.le_of_ble_eq_true rfl) dX5_restart_23 (fun H locs hP hS => ?_)
  have hP : va_P (dC, dI) vwCl (va_pl L (va_up F28 a0 (.inr (5, [.ref z1, .ref z3, .ref z5, .ref z7, .ref z9, .int z11, .int x1, .int 0, .int z15, .int z16, .int z17])))) H := hP
  obtain ⟨F31, hF32⟩ : ∃ G : Nat → va_E, G = va_up F28 a0 (.inr (5, [.ref z1, .ref z3, .ref z5, .ref z7, .ref z9, .int z11, .int x1, .int 0, .int z15, .int z16, .int z17])) := ⟨_, rfl⟩
  rw [← hF32] at hP
  have hI : s_I K cs D F31 := by rw [hF32]; exact s_cl6 hI ha0 ⟨z1, z3, z5, z7, z9, z11, x1, 0, z15, z16, z17, rfl, h2, h4, h6, h8, h10, ⟨by omega, by omega⟩, ⟨by omega, by omega⟩, trivial⟩
  have hfr : ∀ b, K b ∉ [6, 30, 31, 32] → F31 b = F b := by rw [hF32]; exact s_fr hfr ha0 (by decide)
  have o33 : F31 a0 = .inr (5, [.ref z1, .ref z3, .ref z5, .ref z7, .ref z9, .int z11, .int x1, .int 0, .int z15, .int z16, .int z17]) := by rw [hF32]; exact th_up
  refine lv_aload_n hx hb dX5_restart_26 rfl (lv_at hl 0 rfl) ?_
  refine lv_iconst (v := 0) hx hb dX5_restart_27 (by decide) ?_
  refine th_put (D := (dC, dI)) (ci := 5) (v := .int 0) (ty := .int) (C := RX5) (T := TX5) (N := 11) hx hb hts inX5 tyX5 tyX5_ok nmX5 hown hK hP hD hS (hLK _ ha0 (by decide)) o33 rfl 8 (by decide) (hts _ T_879) (fun _ h9 => h9) rfl (by decide +kernel) rfl rfl (Nat.le_of_ble_eq_true rfl) dX5_restart_28 (fun H locs hP hS => ?_)
  have hP : va_P (dC, dI) vwCl (va_pl L (va_up F31 a0 (.inr (5, [.ref z1, .ref z3, .ref z5, .ref z7, .ref z9, .int z11, .int x1, .int 0, .int 0, .int z16, .int z17])))) H := hP
  obtain ⟨F34, hF35⟩ : ∃ G : Nat → va_E, G = va_up F31 a0 (.inr (5, [.ref z1, .ref z3, .ref z5, .ref z7, .ref z9, .int z11, .int x1, .int 0, .int 0, .int z16, .int z17])) := ⟨_, rfl⟩
  rw [← hF35] at hP
  have hI : s_I K cs D F34 := by rw [hF35]; exact s_cl6 hI ha0 ⟨z1, z3, z5, z7, z9, z11, x1, 0, 0, z16, z17, rfl, h2, h4, h6, h8, h10, ⟨by omega, by omega⟩, ⟨by omega, by omega⟩, trivial⟩
  have hfr : ∀ b, K b ∉ [6, 30, 31, 32] → F34 b = F b := by rw [hF35]; exact s_fr hfr ha0 (by decide)
  have o36 : F34 a0 = .inr (5, [.ref z1, .ref z3, .ref z5, .ref z7, .ref z9, .int z11, .int x1, .int 0, .int 0, .int z16, .int z17]) := by rw [hF35]; exact th_up
  refine lv_aload_n hx hb dX5_restart_31 rfl (lv_at hl 0 rfl) ?_
  refine lv_iconst (v := 0) hx hb dX5_restart_32 (by decide) ?_
  refine th_put (D := (dC, dI)) (ci := 5) (v := .int 0) (ty := .int) (C := RX5) (T := TX5) (N := 11) hx hb hts inX5 tyX5 tyX5_ok nmX5 hown hK hP hD hS (hLK _ ha0 (by decide)) o36 rfl 9 (by decide) (hts _ T_880) (fun _ h9 => h9) rfl (by decide +kernel) rfl rfl (Nat.le_of_ble_eq_true rfl) dX5_restart_33 (fun H locs hP hS => ?_)
  have hP : va_P (dC, dI) vwCl (va_pl L (va_up F34 a0 (.inr (5, [.ref z1, .ref z3, .ref z5, .ref z7, .ref z9, .int z11, .int x1, .int 0, .int 0, .int 0, .int z17])))) H := hP
  obtain ⟨F37, hF38⟩ : ∃ G : Nat → va_E, G = va_up F34 a0 (.inr (5, [.ref z1, .ref z3, .ref z5, .ref z7, .ref z9, .int z11, .int x1, .int 0, .int 0, .int 0, .int z17])) := ⟨_, rfl⟩
  rw [← hF38] at hP
  have hI : s_I K cs D F37 := by rw [hF38]; exact s_cl6 hI ha0 ⟨z1, z3, z5, z7, z9, z11, x1, 0, 0, 0, z17, rfl, h2, h4, h6, h8, h10, ⟨by omega, by omega⟩, ⟨by omega, by omega⟩, trivial⟩
  have hfr : ∀ b, K b ∉ [6, 30, 31, 32] → F37 b = F b := by rw [hF38]; exact s_fr hfr ha0 (by decide)
  have o39 : F37 a0 = .inr (5, [.ref z1, .ref z3, .ref z5, .ref z7, .ref z9, .int z11, .int x1, .int 0, .int 0, .int 0, .int z17]) := by rw [hF38]; exact th_up
  refine lv_aload_n hx hb dX5_restart_36 rfl (lv_at hl 0 rfl) ?_
  refine lv_iconst (v := 0) hx hb dX5_restart_37 (by decide) ?_
  refine th_put (D := (dC, dI)) (ci := 5) (v := .int 0) (ty := .int) (C := RX5) (T := TX5) (N := 11) hx hb hts inX5 tyX5 tyX5_ok nmX5 hown hK hP hD hS (hLK _ ha0 (by decide)) o39 rfl 10 (by decide) (hts _ T_881) (fun _ h9 => h9) rfl (by decide +kernel) rfl rfl (Nat.le_of_ble_eq_true rfl) dX5_restart_38 (fun H locs hP hS => ?_)
  have hP : va_P (dC, dI) vwCl (va_pl L (va_up F37 a0 (.inr (5, [.ref z1, .ref z3, .ref z5, .ref z7, .ref z9, .int z11, .int x1, .int 0, .int 0, .int 0, .int 0])))) H := hP
  obtain ⟨F40, hF41⟩ : ∃ G : Nat → va_E, G = va_up F37 a0 (.inr (5, [.ref z1, .ref z3, .ref z5, .ref z7, .ref z9, .int z11, .int x1, .int 0, .int 0, .int 0, .int 0])) := ⟨_, rfl⟩
  rw [← hF41] at hP
  have hI : s_I K cs D F40 := by rw [hF41]; exact s_cl6 hI ha0 ⟨z1, z3, z5, z7, z9, z11, x1, 0, 0, 0, 0, rfl, h2, h4, h6, h8, h10, ⟨by omega, by omega⟩, (by decide), trivial⟩
  have hfr : ∀ b, K b ∉ [6, 30, 31, 32] → F40 b = F b := by rw [hF41]; exact s_fr hfr ha0 (by decide)
  have o42 : F40 a0 = .inr (5, [.ref z1, .ref z3, .ref z5, .ref z7, .ref z9, .int z11, .int x1, .int 0, .int 0, .int 0, .int 0]) := by rw [hF41]; exact th_up
  refine lv_aload_n hx hb dX5_restart_41 rfl (lv_at hl 0 rfl) ?_
  refine lv_iconst (v := 0) hx hb dX5_restart_42 (by decide) ?_
  refine th_put (D := (dC, dI)) (ci := 5) (v := .int 0) (ty := .int) (C := RX5) (T := TX5) (N := 11) hx hb hts inX5 tyX5 tyX5_ok nmX5 hown hK hP hD hS (hLK _ ha0 (by decide)) o42 rfl 5 (by decide) (hts _ T_876) (fun _ h9 => h9) rfl (by decide +kernel) rfl rfl (Nat.le_of_ble_eq_true rfl) dX5_restart_43 (fun H locs hP hS => ?_)
  have hP : va_P (dC, dI) vwCl (va_pl L (va_up F40 a0 (.inr (5, [.ref z1, .ref z3, .ref z5, .ref z7, .ref z9, .int 0, .int x1, .int 0, .int 0, .int 0, .int 0])))) H := hP
  obtain ⟨F43, hF44⟩ : ∃ G : Nat → va_E, G = va_up F40 a0 (.inr (5, [.ref z1, .ref z3, .ref z5, .ref z7, .ref z9, .int 0, .int x1, .int 0, .int 0, .int 0, .int 0])) := ⟨_, rfl⟩
  rw [← hF44] at hP
  have hI : s_I K cs D F43 := by rw [hF44]; exact s_cl6 hI ha0 ⟨z1, z3, z5, z7, z9, 0, x1, 0, 0, 0, 0, rfl, h2, h4, h6, h8, h10, (by decide), (by decide), trivial⟩
  have hfr : ∀ b, K b ∉ [6, 30, 31, 32] → F43 b = F b := by rw [hF44]; exact s_fr hfr ha0 (by decide)
  have o45 : F43 a0 = .inr (5, [.ref z1, .ref z3, .ref z5, .ref z7, .ref z9, .int 0, .int x1, .int 0, .int 0, .int 0, .int 0]) := by rw [hF44]; exact th_up
  refine lv_iload_n hx hb dX5_restart_46 rfl (lv_at hl 2 rfl) ?_
  refine lv_if_ne (tgt := 61) hx hb dX5_restart_47 (by decide) (fun c46 => ?_) (fun c46 => ?_)
  · have c46 := mt (ax_eq (n := 0) (by decide)).mpr c46
    exact W.vret hx hb hr (fun t ht hW => ⟨⟨F43, rfl, ⟨trivial, trivial, hI, hfr⟩, by rw [ht]; exact hP, va_K.moved hW.alike hK⟩, hS.F ht⟩) hS.2.2 dX5_restart_61
  · have c46 := (ax_eq (n := 0) (by decide)).mp c46
    refine lv_iload_n hx hb dX5_restart_50 rfl (lv_at hl 1 rfl) ?_
    refine lv_if_eq (tgt := 61) hx hb dX5_restart_51 (by decide) (fun c47 => ?_) (fun c47 => ?_)
    · have c47 := (ax_eq (n := 0) (by decide)).mp c47
      exact W.vret hx hb hr (fun t ht hW => ⟨⟨F43, rfl, ⟨trivial, trivial, hI, hfr⟩, by rw [ht]; exact hP, va_K.moved hW.alike hK⟩, hS.F ht⟩) hS.2.2 dX5_restart_61
    · have c47 := mt (ax_eq (n := 0) (by decide)).mpr c47
      refine lv_aload_n hx hb dX5_restart_54 rfl (lv_at hl 0 rfl) ?_
      refine lv_iconst (v := 0) hx hb dX5_restart_55 (by decide) ?_
      refine lv_iload_n hx hb dX5_restart_56 rfl (lv_at hl 3 rfl) ?_
      refine lv_iload_n hx hb dX5_restart_57 rfl (lv_at hl 1 rfl) ?_
      refine va_callv (va_runV (As := [.int 0, .int x3, .int x1]) (rest := []) ⟨hx, hb, hml, hown, hts⟩ (s_X5_layPart l dC dI H.size hLK D F43 a0 0 x3 x1 ha0 hI) (cwV 3 hts (ax_gV T_886 T_888 T_889 T_116 T_887) rfl rfl rfl (by decide +kernel) ⟨Nat.le_of_ble_eq_true rfl, Nat.le_of_ble_eq_true rfl⟩) ⟨fun a U g mk q => ⟨q.1, s_pc (U := U) rfl rfl q.2⟩, s_recv hK hP (hLK _ ha0 (by decide)) (ci := 5) rfl o45, fun U hU hW => ⟨rfl, s_pw hU hW hP hK hD hN⟩⟩ rfl rfl hl.1 rfl (lv_room (Nat.le_of_ble_eq_true rfl)) dX5_restart_58 ⟨Nat.zero_le _, Nat.zero_le _⟩) hS (fun q _ h => h) (fun q h => h) (fun F48 t H1 locs ht hvm hw hB hz1 hk1 hS => ?_)
      obtain ⟨hP, hK1⟩ := hB
      rw [ht] at hP
      generalize H1 = H at hP hS ⊢
      clear hz1 hk1
      obtain ⟨h49, h50, hI, hfr1⟩ := hw
      have hfr : ∀ b, K b ∉ [6, 30, 31, 32] → F48 b = F b := fun b hb9 => (hfr1 b (fun q => hb9 (s_sub (by decide) q))).trans (hfr b hb9)
      exact W.vret hx hb hr (fun t ht hW => ⟨⟨F48, rfl, ⟨trivial, trivial, hI, hfr⟩, by rw [ht]; exact hP, va_K.moved hW.alike hK⟩, hS.F ht⟩) hS.2.2 dX5_restart_61

set_option maxHeartbeats 4000000 in
set_option maxRecDepth 100000 in
theorem s_X5_copyFrom (l : Launch) (dC : Nat → ClassId) (dI : Nat → Nat → Nat) (sz : Nat) {L : List Nat} {K : Nat → Nat} {cs : Nat → ClassId} (hLK : ∀ a {k : Nat}, K a = k → k ≠ 0 → a ∈ L) (D : Nat) (F : Nat → va_E) (a0 : Nat) (a1 : Nat) (ha0 : K a0 = 6) (ha1 : K a1 = 6) (hI : s_I K cs D F) : Met l yX5_copyFrom (Cond.code yX5_copyFrom cX5_copyFrom 2 none :: T0) ({ frames := 1, cells := 0, slots := 0, locals := 60 }) (va_Pc [.ref a0, .ref a1] (s_W dC dI sz L F [(cs 0, .int), (cs 1, .byte), (cs 2, .long), (cs 3, .object RX5), (cs 4, .object RX4), (cs 5, .array .int), (cs 6, .char), (cs 7, .boolean)])) (va_Qv (fun (G : Nat → va_E) => True ∧ True ∧ s_I K cs D G ∧ ∀ b, K b ∉ [6, 30, 31, 32] → G b = F b) (fun (G : Nat → va_E) (t : State) => va_P (dC, dI) vwCl (va_pl L G) t.heap ∧ va_K (dC, dI) vwCl [(cs 0, .int), (cs 1, .byte), (cs 2, .long), (cs 3, .object RX5), (cs 4, .object RX4), (cs 5, .array .int), (cs 6, .char), (cs 7, .boolean)] t) (fun q => q ∈ L)) 0 0 (fun q => q ∈ L) := by
  refine Met.ofW (cc := cX5_copyFrom) (maxL := 2) (ret := none) (by decide) rfl ?_
  intro p e s m args below meth c s₁ B hml hv
  obtain ⟨rfl, hsz, hP, hK, hD, hN⟩ := hv
  have hx := B.exec
  have hb := B.bytes
  have hr := B.returns
  have hts : ∀ w ∈ T0, w.before _ s = true := fun w h => atoms_spec (ws := Cond.code yX5_copyFrom cX5_copyFrom 2 none :: T0) B.pre w (List.mem_cons_of_mem _ h)
  have hown : s.vm.findClass RX5 = some m.cls := findClass_of_methodNamed B.named
  have hlocks := B.notSynchronized
  have hS : va_S (fun q => q ∈ L) s.heap s.heap [] := va_S.rf
  have hfr : ∀ b, K b ∉ [6, 30, 31, 32] → F b = F b := fun _ _ => rfl
  have hl := lv_entry ([.ref a0, .ref a1]) (n := 2) (Nat.le_of_ble_eq_true rfl)
  rw [lg_entry_eq]
  generalize (lg_sl ([.ref a0, .ref a1]) ++ List.replicate (2 - (lg_sl ([.ref a0, .ref a1])).length) Slot.unset).toArray = ls at hl ⊢
  have hl : lv_has ls 2 [(0, .ref a0), (1, .ref a1)] := hl
  refine s_gen hP hS (fun H locs hP hS => ?_)
  refine lv_aload_n hx hb dX5_copyFrom_0 rfl (lv_at hl 1 rfl) ?_
  obtain ⟨z1, z3, z5, z7, z9, z11, z13, z14, z15, z16, z17, o19, h2, h4, h6, h8, h10, h12, h18, -⟩ := s_op6 hI ha1
  refine th_get (D := (dC, dI)) (ci := 5) (v := .ref z1) (C := RX5) (T := TX5) (N := 11) hx hb hts inX5 hown hK hP (hLK _ ha1 (by decide)) o19 rfl 0 (by decide) (hts _ T_100) (fun _ h9 => h9) rfl dX5_copyFrom_1 ?_
  refine lv_iconst (v := 0) hx hb dX5_copyFrom_4 (by decide) ?_
  refine lv_aload_n hx hb dX5_copyFrom_5 rfl (lv_at hl 0 rfl) ?_
  obtain ⟨z20, z22, z24, z26, z28, z30, z32, z33, z34, z35, z36, o38, h21, h23, h25, h27, h29, h31, h37, -⟩ := s_op6 hI ha0
  refine th_get (D := (dC, dI)) (ci := 5) (v := .ref z20) (C := RX5) (T := TX5) (N := 11) hx hb hts inX5 hown hK hP (hLK _ ha0 (by decide)) o38 rfl 0 (by decide) (hts _ T_100) (fun _ h9 => h9) rfl dX5_copyFrom_6 ?_
  refine lv_iconst (v := 0) hx hb dX5_copyFrom_9 (by decide) ?_
  refine lv_aload_n hx hb dX5_copyFrom_10 rfl (lv_at hl 0 rfl) ?_
  refine th_get (D := (dC, dI)) (ci := 5) (v := .ref z20) (C := RX5) (T := TX5) (N := 11) hx hb hts inX5 hown hK hP (hLK _ ha0 (by decide)) o38 rfl 0 (by decide) (hts _ T_100) (fun _ h9 => h9) rfl dX5_copyFrom_11 ?_
  obtain ⟨f39, o40, h41⟩ := s_op30 hI h21
  refine th_alen hx hb hK hP (hLK _ h21 (by decide)) 0 o40 rfl (v := 32) rfl dX5_copyFrom_14 ?_
  obtain ⟨f42, o43, h44⟩ := s_op30 hI h2
  obtain ⟨f45, o46, h47⟩ := s_op30 hI h21
  refine th_copy hx hb (by rw [hml]; exact hl.1.symm) hown (hts _ T_875) (hts _ T_847) (hts _ T_848) (hts _ T_849) hK hP hD hS (hLK _ h2 (by decide)) (hLK _ h21 (by decide)) 0 0 o43 o46 rfl rfl (by decide) (by decide) (by decide) (by decide) (by decide) (fun i _ => rfl) (Nat.le_of_ble_eq_true rfl) (Nat.le_of_ble_eq_true rfl) dX5_copyFrom_15 (fun H locs hP hS => ?_)
  have hP : va_P (dC, dI) vwCl (va_pl L (va_up F z20 (.inl (cs 0, 32, .inl (va_cpy f42 f45 (0 : Int32).toNatClampNeg (0 : Int32).toNatClampNeg (32 : Int32).toNatClampNeg))))) H := hP
  obtain ⟨F48, hF49⟩ : ∃ G : Nat → va_E, G = va_up F z20 (.inl (cs 0, 32, .inl (va_cpy f42 f45 (0 : Int32).toNatClampNeg (0 : Int32).toNatClampNeg (32 : Int32).toNatClampNeg))) := ⟨_, rfl⟩
  rw [← hF49] at hP
  have hI : s_I K cs D F48 := by rw [hF49]; exact s_cl30 hI h21 ⟨_, rfl, trivial⟩
  have hfr : ∀ b, K b ∉ [6, 30, 31, 32] → F48 b = F b := by rw [hF49]; exact s_fr hfr h21 (by decide)
  have o50 : F48 a1 = .inr (5, [.ref z1, .ref z3, .ref z5, .ref z7, .ref z9, .int z11, .int z13, .int z14, .int z15, .int z16, .int z17]) := by rw [hF49]; exact th_ne (th_kd ha1 h21 (by decide)) o19
  have o51 : F48 a0 = .inr (5, [.ref z20, .ref z22, .ref z24, .ref z26, .ref z28, .int z30, .int z32, .int z33, .int z34, .int z35, .int z36]) := by rw [hF49]; exact th_ne (th_kd ha0 h21 (by decide)) o38
  refine lv_aload_n hx hb dX5_copyFrom_18 rfl (lv_at hl 1 rfl) ?_
  refine th_get (D := (dC, dI)) (ci := 5) (v := .ref z3) (C := RX5) (T := TX5) (N := 11) hx hb hts inX5 hown hK hP (hLK _ ha1 (by decide)) o50 rfl 1 (by decide) (hts _ T_101) (fun _ h9 => h9) rfl dX5_copyFrom_19 ?_
  refine lv_iconst (v := 0) hx hb dX5_copyFrom_22 (by decide) ?_
  refine lv_aload_n hx hb dX5_copyFrom_23 rfl (lv_at hl 0 rfl) ?_
  refine th_get (D := (dC, dI)) (ci := 5) (v := .ref z22) (C := RX5) (T := TX5) (N := 11) hx hb hts inX5 hown hK hP (hLK _ ha0 (by decide)) o51 rfl 1 (by decide) (hts _ T_101) (fun _ h9 => h9) rfl dX5_copyFrom_24 ?_
  refine lv_iconst (v := 0) hx hb dX5_copyFrom_27 (by decide) ?_
  refine lv_bipush (v := 8) hx hb dX5_copyFrom_28 (by decide) ?_
  obtain ⟨f52, o53, h54⟩ := s_op31 hI h4
  obtain ⟨f55, o56, h57⟩ := s_op31 hI h23
  refine th_copy hx hb (by rw [hml]; exact hl.1.symm) hown (hts _ T_875) (hts _ T_847) (hts _ T_848) (hts _ T_849) hK hP hD hS (hLK _ h4 (by decide)) (hLK _ h23 (by decide)) 0 0 o53 o56 rfl rfl (by decide) (by decide) (by decide) (by decide) (by decide) (fun i _ => rfl) (Nat.le_of_ble_eq_true rfl) (Nat.le_of_ble_eq_true rfl) dX5_copyFrom_30 (fun H locs hP hS => ?_)
  have hP : va_P (dC, dI) vwCl (va_pl L (va_up F48 z22 (.inl (cs 0, 8, .inl (va_cpy f52 f55 (0 : Int32).toNatClampNeg (0 : Int32).toNatClampNeg (8 : Int32).toNatClampNeg))))) H := hP
  obtain ⟨F58, hF59⟩ : ∃ G : Nat → va_E, G = va_up F48 z22 (.inl (cs 0, 8, .inl (va_cpy f52 f55 (0 : Int32).toNatClampNeg (0 : Int32).toNatClampNeg (8 : Int32).toNatClampNeg))) := ⟨_, rfl⟩
  rw [← hF59] at hP
  have hI : s_I K cs D F58 := by rw [hF59]; exact s_cl31 hI h23 ⟨_, rfl, trivial⟩
  have hfr : ∀ b, K b ∉ [6, 30, 31, 32] → F58 b = F b := by rw [hF59]; exact s_fr hfr h23 (by decide)
  have o60 : F58 a1 = .inr (5, [.ref z1, .ref z3, .ref z5, .ref z7, .ref z9, .int z11, .int z13, .int z14, .int z15, .int z16, .int z17]) := by rw [hF59]; exact th_ne (th_kd ha1 h23 (by decide)) o50
  have o61 : F58 a0 = .inr (5, [.ref z20, .ref z22, .ref z24, .ref z26, .ref z28, .int z30, .int z32, .int z33, .int z34, .int z35, .int z36]) := by rw [hF59]; exact th_ne (th_kd ha0 h23 (by decide)) o51
  refine lv_aload_n hx hb dX5_copyFrom_33 rfl (lv_at hl 1 rfl) ?_
  refine th_get (D := (dC, dI)) (ci := 5) (v := .ref z5) (C := RX5) (T := TX5) (N := 11) hx hb hts inX5 hown hK hP (hLK _ ha1 (by decide)) o60 rfl 2 (by decide) (hts _ T_102) (fun _ h9 => h9) rfl dX5_copyFrom_34 ?_
  refine lv_iconst (v := 0) hx hb dX5_copyFrom_37 (by decide) ?_
  refine lv_aload_n hx hb dX5_copyFrom_38 rfl (lv_at hl 0 rfl) ?_
  refine th_get (D := (dC, dI)) (ci := 5) (v := .ref z24) (C := RX5) (T := TX5) (N := 11) hx hb hts inX5 hown hK hP (hLK _ ha0 (by decide)) o61 rfl 2 (by decide) (hts _ T_102) (fun _ h9 => h9) rfl dX5_copyFrom_39 ?_
  refine lv_iconst (v := 0) hx hb dX5_copyFrom_42 (by decide) ?_
  refine lv_bipush (v := 16) hx hb dX5_copyFrom_43 (by decide) ?_
  obtain ⟨f62, o63, h64⟩ := s_op32 hI h6
  obtain ⟨f65, o66, h67⟩ := s_op32 hI h25
  refine th_copy hx hb (by rw [hml]; exact hl.1.symm) hown (hts _ T_875) (hts _ T_847) (hts _ T_848) (hts _ T_849) hK hP hD hS (hLK _ h6 (by decide)) (hLK _ h25 (by decide)) 0 0 o63 o66 rfl rfl (by decide) (by decide) (by decide) (by decide) (by decide) (fun i _ => rfl) (Nat.le_of_ble_eq_true rfl) (Nat.le_of_ble_eq_true rfl) dX5_copyFrom_45 (fun H locs hP hS => ?_)
  have hP : va_P (dC, dI) vwCl (va_pl L (va_up F58 z24 (.inl (cs 0, 16, .inl (va_cpy f62 f65 (0 : Int32).toNatClampNeg (0 : Int32).toNatClampNeg (16 : Int32).toNatClampNeg))))) H := hP
  obtain ⟨F68, hF69⟩ : ∃ G : Nat → va_E, G = va_up F58 z24 (.inl (cs 0, 16, .inl (va_cpy f62 f65 (0 : Int32).toNatClampNeg (0 : Int32).toNatClampNeg (16 : Int32).toNatClampNeg))) := ⟨_, rfl⟩
  rw [← hF69] at hP
  have hI : s_I K cs D F68 := by rw [hF69]; exact s_cl32 hI h25 ⟨_, rfl, trivial⟩
  have hfr : ∀ b, K b ∉ [6, 30, 31, 32] → F68 b = F b := by rw [hF69]; exact s_fr hfr h25 (by decide)
  have o70 : F68 a1 = .inr (5, [.ref z1, .ref z3, .ref z5, .ref z7, .ref z9, .int z11, .int z13, .int z14, .int z15, .int z16, .int z17]) := by rw [hF69]; exact th_ne (th_kd ha1 h25 (by decide)) o60
  have o71 : F68 a0 = .inr (5, [.ref z20, .ref z22, .ref z24, .ref z26, .ref z28, .int z30, .int z32, .int z33, .int z34, .int z35, .int z36]) := by rw [hF69]; exact th_ne (th_kd ha0 h25 (by decide)) o61
  refine lv_aload_n hx hb dX5_copyFrom_48 rfl (lv_at hl 1 rfl) ?_
  refine th_get (D := (dC, dI)) (ci := 5) (v := .ref z7) (C := RX5) (T := TX5) (N := 11) hx hb hts inX5 hown hK hP (hLK _ ha1 (by decide)) o70 rfl 3 (by decide) (hts _ T_103) (fun _ h9 => h9) rfl dX5_copyFrom_49 ?_
  refine lv_iconst (v := 0) hx hb dX5_copyFrom_52 (by decide) ?_
  refine lv_aload_n hx hb dX5_copyFrom_53 rfl (lv_at hl 0 rfl) ?_
  refine th_get (D := (dC, dI)) (ci := 5) (v := .ref z26) (C := RX5) (T := TX5) (N := 11) hx hb hts inX5 hown hK hP (hLK _ ha0 (by decide)) o71 rfl 3 (by decide) (hts _ T_103) (fun _ h9 => h9) rfl dX5_copyFrom_54 ?_
  refine lv_iconst (v := 0) hx hb dX5_copyFrom_57 (by decide) ?_
  refine lv_bipush (v := 16) hx hb dX5_copyFrom_58 (by decide) ?_
  obtain ⟨f72, o73, h74⟩ := s_op32 hI h8
  obtain ⟨f75, o76, h77⟩ := s_op32 hI h27
  refine th_copy hx hb (by rw [hml]; exact hl.1.symm) hown (hts _ T_875) (hts _ T_847) (hts _ T_848) (hts _ T_849) hK hP hD hS (hLK _ h8 (by decide)) (hLK _ h27 (by decide)) 0 0 o73 o76 rfl rfl (by decide) (by decide) (by decide) (by decide) (by decide) (fun i _ => rfl) (Nat.le_of_ble_eq_true rfl) (Nat.le_of_ble_eq_true rfl) dX5_copyFrom_60 (fun H locs hP hS => ?_)
  have hP : va_P (dC, dI) vwCl (va_pl L (va_up F68 z26 (.inl (cs 0, 16, .inl (va_cpy f72 f75 (0 : Int32).toNatClampNeg (0 : Int32).toNatClampNeg (16 : Int32).toNatClampNeg))))) H := hP
  obtain ⟨F78, hF79⟩ : ∃ G : Nat → va_E, G = va_up F68 z26 (.inl (cs 0, 16, .inl (va_cpy f72 f75 (0 : Int32).toNatClampNeg (0 : Int32).toNatClampNeg (16 : Int32).toNatClampNeg))) := ⟨_, rfl⟩
  rw [← hF79] at hP
  have hI : s_I K cs D F78 := by rw [hF79]; exact s_cl32 hI h27 ⟨_, rfl, trivial⟩
  have hfr : ∀ b, K b ∉ [6, 30, 31, 32] → F78 b = F b := by rw [hF79]; exact s_fr hfr h27 (by decide)
  have o80 : F78 a1 = .inr (5, [.ref z1, .ref z3, .ref z5, .ref z7, .ref z9, .int z11, .int z13, .int z14, .int z15, .int z16, .int z17]) := by rw [hF79]; exact th_ne (th_kd ha1 h27 (by decide)) o70
  have o81 : F78 a0 = .inr (5, [.ref z20, .ref z22, .ref z24, .ref z26, .ref z28, .int z30, .int z32, .int z33, .int z34, .int z35, .int z36]) := by rw [hF79]; exact th_ne (th_kd ha0 h27 (by decide)) o71
  refine lv_aload_n hx hb dX5_copyFrom_63 rfl (lv_at hl 1 rfl) ?_
  refine th_get (D := (dC, dI)) (ci := 5) (v := .ref z9) (C := RX5) (T := TX5) (N := 11) hx hb hts inX5 hown hK hP (hLK _ ha1 (by decide)) o80 rfl 4 (by decide) (hts _ T_104) (fun _ h9 => h9) rfl dX5_copyFrom_64 ?_
  refine lv_iconst (v := 0) hx hb dX5_copyFrom_67 (by decide) ?_
  refine lv_aload_n hx hb dX5_copyFrom_68 rfl (lv_at hl 0 rfl) ?_
  refine th_get (D := (dC, dI)) (ci := 5) (v := .ref z28) (C := RX5) (T := TX5) (N := 11) hx hb hts inX5 hown hK hP (hLK _ ha0 (by decide)) o81 rfl 4 (by decide) (hts _ T_104) (fun _ h9 => h9) rfl dX5_copyFrom_69 ?_
  refine lv_iconst (v := 0) hx hb dX5_copyFrom_72 (by decide) ?_
  refine lv_bipush (v := 16) hx hb dX5_copyFrom_73 (by decide) ?_
  obtain ⟨f82, o83, h84⟩ := s_op32 hI h10
  obtain ⟨f85, o86, h87⟩ := s_op32 hI h29
  refine th_copy hx hb (by rw [hml]; exact hl.1.symm) hown (hts _ T_875) (hts _ T_847) (hts _ T_848) (hts _ T_849) hK hP hD hS (hLK _ h10 (by decide)) (hLK _ h29 (by decide)) 0 0 o83 o86 rfl rfl (by decide) (by decide) (by decide) (by decide) (by decide) (fun i _ => rfl) (Nat.le_of_ble_eq_true rfl) (Nat.le_of_ble_eq_true rfl) dX5_copyFrom_75 (fun H locs hP hS => ?_)
  have hP : va_P (dC, dI) vwCl (va_pl L (va_up F78 z28 (.inl (cs 0, 16, .inl (va_cpy f82 f85 (0 : Int32).toNatClampNeg (0 : Int32).toNatClampNeg (16 : Int32).toNatClampNeg))))) H := hP
  obtain ⟨F88, hF89⟩ : ∃ G : Nat → va_E, G = va_up F78 z28 (.inl (cs 0, 16, .inl (va_cpy f82 f85 (0 : Int32).toNatClampNeg (0 : Int32).toNatClampNeg (16 : Int32).toNatClampNeg))) := ⟨_, rfl⟩
  rw [← hF89] at hP
  have hI : s_I K cs D F88 := by rw [hF89]; exact s_cl32 hI h29 ⟨_, rfl, trivial⟩
  have hfr : ∀ b, K b ∉ [6, 30, 31, 32] → F88 b = F b := by rw [hF89]; exact s_fr hfr h29 (by decide)
  have o90 : F88 a1 = .inr (5, [.ref z1, .ref z3, .ref z5, .ref z7, .ref z9, .int z11, .int z13, .int z14, .int z15, .int z16, .int z17]) := by rw [hF89]; exact th_ne (th_kd ha1 h29 (by decide)) o80
  have o91 : F88 a0 = .inr (5, [.ref z20, .ref z22, .ref z24, .ref z26, .ref z28, .int z30, .int z32, .int z33, .int z34, .int z35, .int z36]) := by rw [hF89]; exact th_ne (th_kd ha0 h29 (by decide)) o81
  refine lv_aload_n hx hb dX5_copyFrom_78 rfl (lv_at hl 0 rfl) ?_
  refine lv_aload_n hx hb dX5_copyFrom_79 rfl (lv_at hl 1 rfl) ?_
  refine th_get (D := (dC, dI)) (ci := 5) (v := .int z11) (C := RX5) (T := TX5) (N := 11) hx hb hts inX5 hown hK hP (hLK _ ha1 (by decide)) o90 rfl 5 (by decide) (hts _ T_876) (fun _ h9 => h9) rfl dX5_copyFrom_80 ?_
  refine th_put (D := (dC, dI)) (ci := 5) (v := .int z11) (ty := .int) (C := RX5) (T := TX5) (N := 11) hx hb hts inX5 tyX5 tyX5_ok nmX5 hown hK hP hD hS (hLK _ ha0 (by decide)) o91 rfl 5 (by decide) (hts _ T_876) (fun _ h9 => h9) rfl (by decide +kernel) rfl rfl (Nat.le_of_ble_eq_true rfl) dX5_copyFrom_83 (fun H locs hP hS => ?_)
  have hP : va_P (dC, dI) vwCl (va_pl L (va_up F88 a0 (.inr (5, [.ref z20, .ref z22, .ref z24, .ref z26, .ref z28, .int z11, .int z32, .int z33, .int z34, .int z35, .int z36])))) H := hP
  obtain ⟨F92, hF93⟩ : ∃ G : Nat → va_E, G = va_up F88 a0 (.inr (5, [.ref z20, .ref z22, .ref z24, .ref z26, .ref z28, .int z11, .int z32, .int z33, .int z34, .int z35, .int z36])) := ⟨_, rfl⟩
  rw [← hF93] at hP
  have hI : s_I K cs D F92 := by rw [hF93]; exact s_cl6 hI ha0 ⟨z20, z22, z24, z26, z28, z11, z32, z33, z34, z35, z36, rfl, h21, h23, h25, h27, h29, ⟨by omega, by omega⟩, ⟨by omega, by omega⟩, trivial⟩
  have hfr : ∀ b, K b ∉ [6, 30, 31, 32] → F92 b = F b := by rw [hF93]; exact s_fr hfr ha0 (by decide)
  have o94 : F92 a0 = .inr (5, [.ref z20, .ref z22, .ref z24, .ref z26, .ref z28, .int z11, .int z32, .int z33, .int z34, .int z35, .int z36]) := by rw [hF93]; exact th_up
  refine lv_aload_n hx hb dX5_copyFrom_86 rfl (lv_at hl 0 rfl) ?_
  refine lv_aload_n hx hb dX5_copyFrom_87 rfl (lv_at hl 1 rfl) ?_
  obtain ⟨z95, z97, z99, z101, z103, z105, z107, z108, z109, z110, z111, o113, h96, h98, h100, h102, h104, h106, h112, -⟩ := s_op6 hI ha1
  refine th_get (D := (dC, dI)) (ci := 5) (v := .int z107) (C := RX5) (T := TX5) (N := 11) hx hb hts inX5 hown hK hP (hLK _ ha1 (by decide)) o113 rfl 6 (by decide) (hts _ T_877) (fun _ h9 => h9) rfl dX5_copyFrom_88 ?_
  refine th_put (D := (dC, dI)) (ci := 5) (v := .int z107) (ty := .int) (C := RX5) (T := TX5) (N := 11) hx hb hts inX5 tyX5 tyX5_ok nmX5 hown hK hP hD hS (hLK _ ha0 (by decide)) o94 rfl 6 (by decide) (hts _ T_877) (fun _ h9 => h9) rfl (by decide +kernel) rfl rfl (Nat.le_of_ble_eq_true rfl) dX5_copyFrom_91 (fun H locs hP hS => ?_)
  have hP : va_P (dC, dI) vwCl (va_pl L (va_up F92 a0 (.inr (5, [.ref z20, .ref z22, .ref z24, .ref z26, .ref z28, .int z11, .int z107, .int z33, .int z34, .int z35, .int z36])))) H := hP
  obtain ⟨F114, hF115⟩ : ∃ G : Nat → va_E, G = va_up F92 a0 (.inr (5, [.ref z20, .ref z22, .ref z24, .ref z26, .ref z28, .int z11, .int z107, .int z33, .int z34, .int z35, .int z36])) := ⟨_, rfl⟩
  rw [← hF115] at hP
  have hI : s_I K cs D F114 := by rw [hF115]; exact s_cl6 hI ha0 ⟨z20, z22, z24, z26, z28, z11, z107, z33, z34, z35, z36, rfl, h21, h23, h25, h27, h29, ⟨by omega, by omega⟩, ⟨by omega, by omega⟩, trivial⟩
  have hfr : ∀ b, K b ∉ [6, 30, 31, 32] → F114 b = F b := by rw [hF115]; exact s_fr hfr ha0 (by decide)
  have o116 : F114 a0 = .inr (5, [.ref z20, .ref z22, .ref z24, .ref z26, .ref z28, .int z11, .int z107, .int z33, .int z34, .int z35, .int z36]) := by rw [hF115]; exact th_up
  refine lv_aload_n hx hb dX5_copyFrom_94 rfl (lv_at hl 0 rfl) ?_
  refine lv_aload_n hx hb dX5_copyFrom_95 rfl (lv_at hl 1 rfl) ?_
  obtain ⟨z117, z119, z121, z123, z125, z127, z129, z130, z131, z132, z133, o135, h118, h120, h122, h124, h126, h128, h134, -⟩ := s_op6 hI ha1
  refine th_get (D := (dC, dI)) (ci := 5) (v := .int z130) (C := RX5) (T := TX5) (N := 11) hx hb hts inX5 hown hK hP (hLK _ ha1 (by decide)) o135 rfl 7 (by decide) (hts _ T_878) (fun _ h9 => h9) rfl dX5_copyFrom_96 ?_
  refine th_put (D := (dC, dI)) (ci := 5) (v := .int z130) (ty := .int) (C := RX5) (T := TX5) (N := 11) hx hb hts inX5 tyX5 tyX5_ok nmX5 hown hK hP hD hS (hLK _ ha0 (by decide)) o116 rfl 7 (by decide) (hts _ T_878) (fun _ h9 => h9) rfl (by decide +kernel) rfl rfl (Nat.le_of_ble_eq_true rfl) dX5_copyFrom_99 (fun H locs hP hS => ?_)
  have hP : va_P (dC, dI) vwCl (va_pl L (va_up F114 a0 (.inr (5, [.ref z20, .ref z22, .ref z24, .ref z26, .ref z28, .int z11, .int z107, .int z130, .int z34, .int z35, .int z36])))) H := hP
  obtain ⟨F136, hF137⟩ : ∃ G : Nat → va_E, G = va_up F114 a0 (.inr (5, [.ref z20, .ref z22, .ref z24, .ref z26, .ref z28, .int z11, .int z107, .int z130, .int z34, .int z35, .int z36])) := ⟨_, rfl⟩
  rw [← hF137] at hP
  have hI : s_I K cs D F136 := by rw [hF137]; exact s_cl6 hI ha0 ⟨z20, z22, z24, z26, z28, z11, z107, z130, z34, z35, z36, rfl, h21, h23, h25, h27, h29, ⟨by omega, by omega⟩, ⟨by omega, by omega⟩, trivial⟩
  have hfr : ∀ b, K b ∉ [6, 30, 31, 32] → F136 b = F b := by rw [hF137]; exact s_fr hfr ha0 (by decide)
  have o138 : F136 a0 = .inr (5, [.ref z20, .ref z22, .ref z24, .ref z26, .ref z28, .int z11, .int z107, .int z130, .int z34, .int z35, .int z36]) := by rw [hF137]; exact th_up
  refine lv_aload_n hx hb dX5_copyFrom_102 rfl (lv_at hl 0 rfl) ?_
  refine lv_aload_n hx hb dX5_copyFrom_103 rfl (lv_at hl 1 rfl) ?_
  obtain ⟨z139, z141, z143, z145, z147, z149, z151, z152, z153, z154, z155, o157, h140, h142, h144, h146, h148, h150, h156, -⟩ := s_op6 hI ha1
  refine th_get (D := (dC, dI)) (ci := 5) (v := .int z153) (C := RX5) (T := TX5) (N := 11) hx hb hts inX5 hown hK hP (hLK _ ha1 (by decide)) o157 rfl 8 (by decide) (hts _ T_879) (fun _ h9 => h9) rfl dX5_copyFrom_104 ?_
  refine th_put (D := (dC, dI)) (ci := 5) (v := .int z153) (ty := .int) (C := RX5) (T := TX5) (N := 11) hx hb hts inX5 tyX5 tyX5_ok nmX5 hown hK hP hD hS (hLK _ ha0 (by decide)) o138 rfl 8 (by decide) (hts _ T_879) (fun _ h9 => h9) rfl (by decide +kernel) rfl rfl (Nat.le_of_ble_eq_true rfl) dX5_copyFrom_107 (fun H locs hP hS => ?_)
  have hP : va_P (dC, dI) vwCl (va_pl L (va_up F136 a0 (.inr (5, [.ref z20, .ref z22, .ref z24, .ref z26, .ref z28, .int z11, .int z107, .int z130, .int z153, .int z35, .int z36])))) H := hP
  obtain ⟨F158, hF159⟩ : ∃ G : Nat → va_E, G = va_up F136 a0 (.inr (5, [.ref z20, .ref z22, .ref z24, .ref z26, .ref z28, .int z11, .int z107, .int z130, .int z153, .int z35, .int z36])) := ⟨_, rfl⟩
  rw [← hF159] at hP
  have hI : s_I K cs D F158 := by rw [hF159]; exact s_cl6 hI ha0 ⟨z20, z22, z24, z26, z28, z11, z107, z130, z153, z35, z36, rfl, h21, h23, h25, h27, h29, ⟨by omega, by omega⟩, ⟨by omega, by omega⟩, trivial⟩
  have hfr : ∀ b, K b ∉ [6, 30, 31, 32] → F158 b = F b := by rw [hF159]; exact s_fr hfr ha0 (by decide)
  have o160 : F158 a0 = .inr (5, [.ref z20, .ref z22, .ref z24, .ref z26, .ref z28, .int z11, .int z107, .int z130, .int z153, .int z35, .int z36]) := by rw [hF159]; exact th_up
  refine lv_aload_n hx hb dX5_copyFrom_110 rfl (lv_at hl 0 rfl) ?_
  refine lv_aload_n hx hb dX5_copyFrom_111 rfl (lv_at hl 1 rfl) ?_
  obtain ⟨z161, z163, z165, z167, z169, z171, z173, z174, z175, z176, z177, o179, h162, h164, h166, h168, h170, h172, h178, -⟩ := s_op6 hI ha1
  refine th_get (D := (dC, dI)) (ci := 5) (v := .int z176) (C := RX5) (T := TX5) (N := 11) hx hb hts inX5 hown hK hP (hLK _ ha1 (by decide)) o179 rfl 9 (by decide) (hts _ T_880) (fun _ h9 => h9) rfl dX5_copyFrom_112 ?_
  refine th_put (D := (dC, dI)) (ci := 5) (v := .int z176) (ty := .int) (C := RX5) (T := TX5) (N := 11) hx hb hts inX5 tyX5 tyX5_ok nmX5 hown hK hP hD hS (hLK _ ha0 (by decide)) o160 rfl 9 (by decide) (hts _ T_880) (fun _ h9 => h9) rfl (by decide +kernel) rfl rfl (Nat.le_of_ble_eq_true rfl) dX5_copyFrom_115 (fun H locs hP hS => ?_)
  have hP : va_P (dC, dI) vwCl (va_pl L (va_up F158 a0 (.inr (5, [.ref z20, .ref z22, .ref z24, .ref z26, .ref z28, .int z11, .int z107, .int z130, .int z153, .int z176, .int z36])))) H := hP
  obtain ⟨F180, hF181⟩ : ∃ G : Nat → va_E, G = va_up F158 a0 (.inr (5, [.ref z20, .ref z22, .ref z24, .ref z26, .ref z28, .int z11, .int z107, .int z130, .int z153, .int z176, .int z36])) := ⟨_, rfl⟩
  rw [← hF181] at hP
  have hI : s_I K cs D F180 := by rw [hF181]; exact s_cl6 hI ha0 ⟨z20, z22, z24, z26, z28, z11, z107, z130, z153, z176, z36, rfl, h21, h23, h25, h27, h29, ⟨by omega, by omega⟩, ⟨by omega, by omega⟩, trivial⟩
  have hfr : ∀ b, K b ∉ [6, 30, 31, 32] → F180 b = F b := by rw [hF181]; exact s_fr hfr ha0 (by decide)
  have o182 : F180 a0 = .inr (5, [.ref z20, .ref z22, .ref z24, .ref z26, .ref z28, .int z11, .int z107, .int z130, .int z153, .int z176, .int z36]) := by rw [hF181]; exact th_up
  refine lv_aload_n hx hb dX5_copyFrom_118 rfl (lv_at hl 0 rfl) ?_
  refine lv_aload_n hx hb dX5_copyFrom_119 rfl (lv_at hl 1 rfl) ?_
  obtain ⟨z183, z185, z187, z189, z191, z193, z195, z196, z197, z198, z199, o201, h184, h186, h188, h190, h192, h194, h200, -⟩ := s_op6 hI ha1
  refine th_get (D := (dC, dI)) (ci := 5) (v := .int z199) (C := RX5) (T := TX5) (N := 11) hx hb hts inX5 hown hK hP (hLK _ ha1 (by decide)) o201 rfl 10 (by decide) (hts _ T_881) (fun _ h9 => h9) rfl dX5_copyFrom_120 ?_
  refine th_put (D := (dC, dI)) (ci := 5) (v := .int z199) (ty := .int) (C := RX5) (T := TX5) (N := 11) hx hb hts inX5 tyX5 tyX5_ok nmX5 hown hK hP hD hS (hLK _ ha0 (by decide)) o182 rfl 10 (by decide) (hts _ T_881) (fun _ h9 => h9) rfl (by decide +kernel) rfl rfl (Nat.le_of_ble_eq_true rfl) dX5_copyFrom_123 (fun H locs hP hS => ?_)
  have hP : va_P (dC, dI) vwCl (va_pl L (va_up F180 a0 (.inr (5, [.ref z20, .ref z22, .ref z24, .ref z26, .ref z28, .int z11, .int z107, .int z130, .int z153, .int z176, .int z199])))) H := hP
  obtain ⟨F202, hF203⟩ : ∃ G : Nat → va_E, G = va_up F180 a0 (.inr (5, [.ref z20, .ref z22, .ref z24, .ref z26, .ref z28, .int z11, .int z107, .int z130, .int z153, .int z176, .int z199])) := ⟨_, rfl⟩
  rw [← hF203] at hP
  have hI : s_I K cs D F202 := by rw [hF203]; exact s_cl6 hI ha0 ⟨z20, z22, z24, z26, z28, z11, z107, z130, z153, z176, z199, rfl, h21, h23, h25, h27, h29, ⟨by omega, by omega⟩, ⟨by omega, by omega⟩, trivial⟩
  have hfr : ∀ b, K b ∉ [6, 30, 31, 32] → F202 b = F b := by rw [hF203]; exact s_fr hfr ha0 (by decide)
  have o204 : F202 a0 = .inr (5, [.ref z20, .ref z22, .ref z24, .ref z26, .ref z28, .int z11, .int z107, .int z130, .int z153, .int z176, .int z199]) := by rw [hF203]; exact th_up
  exact W.vret hx hb hr (fun t ht hW => ⟨⟨F202, rfl, ⟨trivial, trivial, hI, hfr⟩, by rw [ht]; exact hP, va_K.moved hW.alike hK⟩, hS.F ht⟩) hS.2.2 dX5_copyFrom_126

set_option maxHeartbeats 4000000 in
set_option maxRecDepth 100000 in
theorem s_X5_isLike (l : Launch) (dC : Nat → ClassId) (dI : Nat → Nat → Nat) (sz : Nat) {L : List Nat} {K : Nat → Nat} {cs : Nat → ClassId} (hLK : ∀ a {k : Nat}, K a = k → k ≠ 0 → a ∈ L) (D : Nat) (F : Nat → va_E) (a0 : Nat) (a1 : Nat) (ha0 : K a0 = 6) (ha1 : K a1 = 6) (hI : s_I K cs D F) : Met l yX5_isLike (Cond.code yX5_isLike cX5_isLike 3 (some .boolean) :: T0) ({ frames := 1, cells := 0, slots := 0, locals := 22 }) (va_Pc [.ref a0, .ref a1] (s_W dC dI sz L F [(cs 0, .int), (cs 1, .byte), (cs 2, .long), (cs 3, .object RX5), (cs 4, .object RX4), (cs 5, .array .int), (cs 6, .char), (cs 7, .boolean)])) (va_Qi (fun (r : Int32) (G : Nat → va_E) => (0 ≤ r.toInt ∧ r.toInt ≤ 1) ∧ True ∧ s_I K cs D G ∧ ∀ b, K b ∉ ([] : List Nat) → G b = F b) (fun (G : Nat → va_E) (t : State) => va_P (dC, dI) vwCl (va_pl L G) t.heap ∧ va_K (dC, dI) vwCl [(cs 0, .int), (cs 1, .byte), (cs 2, .long), (cs 3, .object RX5), (cs 4, .object RX4), (cs 5, .array .int), (cs 6, .char), (cs 7, .boolean)] t) (fun q => q ∈ L)) 0 0 (fun q => q ∈ L) := by
  refine Met.ofW (cc := cX5_isLike) (maxL := 3) (ret := (some .boolean)) (by decide) rfl ?_
  intro p e s m args below meth c s₁ B hml hv
  obtain ⟨rfl, hsz, hP, hK, hD, hN⟩ := hv
  have hx := B.exec
  have hb := B.bytes
  have hr := B.returns
  have hts : ∀ w ∈ T0, w.before _ s = true := fun w h => atoms_spec (ws := Cond.code yX5_isLike cX5_isLike 3 (some .boolean) :: T0) B.pre w (List.mem_cons_of_mem _ h)
  have hown : s.vm.findClass RX5 = some m.cls := findClass_of_methodNamed B.named
  have hlocks := B.notSynchronized
  have hS : va_S (fun q => q ∈ L) s.heap s.heap [] := va_S.rf
  have hfr : ∀ b, K b ∉ ([] : List Nat) → F b = F b := fun _ _ => rfl
  have hl := lv_entry ([.ref a0, .ref a1]) (n := 3) (Nat.le_of_ble_eq_true rfl)
  rw [lg_entry_eq]
  generalize (lg_sl ([.ref a0, .ref a1]) ++ List.replicate (3 - (lg_sl ([.ref a0, .ref a1])).length) Slot.unset).toArray = ls at hl ⊢
  have hl : lv_has ls 3 [(0, .ref a0), (1, .ref a1)] := hl
  refine s_gen hP hS (fun H locs hP hS => ?_)
  refine lv_aload_n hx hb dX5_isLike_0 rfl (lv_at hl 0 rfl) ?_
  obtain ⟨z1, z3, z5, z7, z9, z11, z13, z14, z15, z16, z17, o19, h2, h4, h6, h8, h10, h12, h18, -⟩ := s_op6 hI ha0
  refine th_get (D := (dC, dI)) (ci := 5) (v := .int z11) (C := RX5) (T := TX5) (N := 11) hx hb hts inX5 hown hK hP (hLK _ ha0 (by decide)) o19 rfl 5 (by decide) (hts _ T_876) (fun _ h9 => h9) rfl dX5_isLike_1 ?_
  refine lv_aload_n hx hb dX5_isLike_4 rfl (lv_at hl 1 rfl) ?_
  obtain ⟨z20, z22, z24, z26, z28, z30, z32, z33, z34, z35, z36, o38, h21, h23, h25, h27, h29, h31, h37, -⟩ := s_op6 hI ha1
  refine th_get (D := (dC, dI)) (ci := 5) (v := .int z30) (C := RX5) (T := TX5) (N := 11) hx hb hts inX5 hown hK hP (hLK _ ha1 (by decide)) o38 rfl 5 (by decide) (hts _ T_876) (fun _ h9 => h9) rfl dX5_isLike_5 ?_
  refine lv_icmp_ne (tgt := 44) hx hb dX5_isLike_8 (by decide) (fun c39 => ?_) (fun c39 => ?_)
  · have c39 := mt Int32.toInt_inj.symm.mpr c39
    refine lv_iconst (v := 0) hx hb dX5_isLike_44 (by decide) ?_
    exact W.zret (v := 0) (ty := .boolean) hx hb hr (by decide) (fun t ht hW => ⟨⟨0, F, rfl, ⟨(by decide), trivial, hI, hfr⟩, by rw [ht]; exact hP, va_K.moved hW.alike hK⟩, hS.F ht⟩) hS.2.2 dX5_isLike_45
  · have c39 := Int32.toInt_inj.symm.mp c39
    refine lv_aload_n hx hb dX5_isLike_11 rfl (lv_at hl 0 rfl) ?_
    refine th_get (D := (dC, dI)) (ci := 5) (v := .int z13) (C := RX5) (T := TX5) (N := 11) hx hb hts inX5 hown hK hP (hLK _ ha0 (by decide)) o19 rfl 6 (by decide) (hts _ T_877) (fun _ h9 => h9) rfl dX5_isLike_12 ?_
    refine lv_aload_n hx hb dX5_isLike_15 rfl (lv_at hl 1 rfl) ?_
    refine th_get (D := (dC, dI)) (ci := 5) (v := .int z32) (C := RX5) (T := TX5) (N := 11) hx hb hts inX5 hown hK hP (hLK _ ha1 (by decide)) o38 rfl 6 (by decide) (hts _ T_877) (fun _ h9 => h9) rfl dX5_isLike_16 ?_
    refine lv_icmp_ne (tgt := 44) hx hb dX5_isLike_19 (by decide) (fun c40 => ?_) (fun c40 => ?_)
    · have c40 := mt Int32.toInt_inj.symm.mpr c40
      refine lv_iconst (v := 0) hx hb dX5_isLike_44 (by decide) ?_
      exact W.zret (v := 0) (ty := .boolean) hx hb hr (by decide) (fun t ht hW => ⟨⟨0, F, rfl, ⟨(by decide), trivial, hI, hfr⟩, by rw [ht]; exact hP, va_K.moved hW.alike hK⟩, hS.F ht⟩) hS.2.2 dX5_isLike_45
    · have c40 := Int32.toInt_inj.symm.mp c40
      refine lv_aload_n hx hb dX5_isLike_22 rfl (lv_at hl 0 rfl) ?_
      refine th_get (D := (dC, dI)) (ci := 5) (v := .int z14) (C := RX5) (T := TX5) (N := 11) hx hb hts inX5 hown hK hP (hLK _ ha0 (by decide)) o19 rfl 7 (by decide) (hts _ T_878) (fun _ h9 => h9) rfl dX5_isLike_23 ?_
      refine lv_aload_n hx hb dX5_isLike_26 rfl (lv_at hl 1 rfl) ?_
      refine th_get (D := (dC, dI)) (ci := 5) (v := .int z33) (C := RX5) (T := TX5) (N := 11) hx hb hts inX5 hown hK hP (hLK _ ha1 (by decide)) o38 rfl 7 (by decide) (hts _ T_878) (fun _ h9 => h9) rfl dX5_isLike_27 ?_
      refine lv_icmp_ne (tgt := 44) hx hb dX5_isLike_30 (by decide) (fun c41 => ?_) (fun c41 => ?_)
      · have c41 := mt Int32.toInt_inj.symm.mpr c41
        refine lv_iconst (v := 0) hx hb dX5_isLike_44 (by decide) ?_
        exact W.zret (v := 0) (ty := .boolean) hx hb hr (by decide) (fun t ht hW => ⟨⟨0, F, rfl, ⟨(by decide), trivial, hI, hfr⟩, by rw [ht]; exact hP, va_K.moved hW.alike hK⟩, hS.F ht⟩) hS.2.2 dX5_isLike_45
      · have c41 := Int32.toInt_inj.symm.mp c41
        refine lv_aload_n hx hb dX5_isLike_33 rfl (lv_at hl 0 rfl) ?_
        refine th_get (D := (dC, dI)) (ci := 5) (v := .int z17) (C := RX5) (T := TX5) (N := 11) hx hb hts inX5 hown hK hP (hLK _ ha0 (by decide)) o19 rfl 10 (by decide) (hts _ T_881) (fun _ h9 => h9) rfl dX5_isLike_34 ?_
        refine lv_aload_n hx hb dX5_isLike_37 rfl (lv_at hl 1 rfl) ?_
        refine th_get (D := (dC, dI)) (ci := 5) (v := .int z36) (C := RX5) (T := TX5) (N := 11) hx hb hts inX5 hown hK hP (hLK _ ha1 (by decide)) o38 rfl 10 (by decide) (hts _ T_881) (fun _ h9 => h9) rfl dX5_isLike_38 ?_
        refine lv_icmp_eq (tgt := 46) hx hb dX5_isLike_41 (by decide) (fun c42 => ?_) (fun c42 => ?_)
        · have c42 := Int32.toInt_inj.symm.mp c42
          refine lv_iconst (v := 0) hx hb dX5_isLike_46 (by decide) ?_
          refine lv_istore_n (lv' := [(2, .int 0), (0, .ref a0), (1, .ref a1)]) hx hb dX5_isLike_47 rfl hl (by decide) rfl (fun ls hl => ?_)
          refine th_loop (fun n g H locs => ∃ (G : Nat → va_E) (ls : Array Slot) (w43 : Int32), g = F0 m 48 ls [] ∧ lv_has ls 3 [(0, .ref a0), (1, .ref a1), (2, .int w43)] ∧ s_I K cs D G ∧ va_P (dC, dI) vwCl (va_pl L G) H ∧ va_S (fun q => q ∈ L) s.heap H locs ∧ (∀ b, K b ∉ ([] : List Nat) → G b = F b) ∧ (0 ≤ w43.toInt ∧ w43.toInt ≤ 16) ∧ n = (17 - w43.toInt).toNat) _ ⟨F, _, 0, rfl, lv_sub hl [1, 2, 0] rfl, hI, hP, hS, hfr, (by decide), rfl⟩ (fun n ih48 g H locs hq => ?_)
          obtain ⟨F9, ls, w43, rfl, hl, hI, hP, hS, hfr, h44, hn⟩ := hq
          have hn_48 := hn
          obtain ⟨n_48, hn9_48⟩ : ∃ q, q = n := ⟨_, rfl⟩
          refine lv_iload_n hx hb dX5_isLike_48 rfl (lv_at hl 2 rfl) ?_
          refine lv_aload_n hx hb dX5_isLike_49 rfl (lv_at hl 0 rfl) ?_
          obtain ⟨z45, z47, z49, z51, z53, z55, z57, z58, z59, z60, z61, o63, h46, h48, h50, h52, h54, h56, h62, -⟩ := s_op6 hI ha0
          refine th_get (D := (dC, dI)) (ci := 5) (v := .int z55) (C := RX5) (T := TX5) (N := 11) hx hb hts inX5 hown hK hP (hLK _ ha0 (by decide)) o63 rfl 5 (by decide) (hts _ T_876) (fun _ h9 => h9) rfl dX5_isLike_50 ?_
          refine lv_icmp_ge (tgt := 109) hx hb dX5_isLike_53 (by decide) (fun c64 => ?_) (fun c64 => ?_)
          · have c64 := Int32.le_iff_toInt_le.mp c64
            refine lv_aload_n hx hb dX5_isLike_109 rfl (lv_at hl 0 rfl) ?_
            refine th_get (D := (dC, dI)) (ci := 5) (v := .ref z47) (C := RX5) (T := TX5) (N := 11) hx hb hts inX5 hown hK hP (hLK _ ha0 (by decide)) o63 rfl 1 (by decide) (hts _ T_101) (fun _ h9 => h9) rfl dX5_isLike_110 ?_
            refine lv_aload_n hx hb dX5_isLike_113 rfl (lv_at hl 1 rfl) ?_
            obtain ⟨z65, z67, z69, z71, z73, z75, z77, z78, z79, z80, z81, o83, h66, h68, h70, h72, h74, h76, h82, -⟩ := s_op6 hI ha1
            refine th_get (D := (dC, dI)) (ci := 5) (v := .ref z67) (C := RX5) (T := TX5) (N := 11) hx hb hts inX5 hown hK hP (hLK _ ha1 (by decide)) o83 rfl 1 (by decide) (hts _ T_101) (fun _ h9 => h9) rfl dX5_isLike_114 ?_
            refine va_calli (va_runSN (As := [.ref z47, .ref z67]) (rest := []) ⟨hx, hb, hml, hown, hts⟩ (s_X6_areLike_lines l dC dI H.size hLK D F9 z47 z67 h48 h68 hI) ⟨va_cnB 2 hts (ax_gT T_862) rfl rfl rfl (ax_n51 hN) (hts _ T_193) (by decide +kernel) ⟨Nat.le_of_ble_eq_true rfl, Nat.le_of_ble_eq_true rfl⟩, hts _ T_863, trivial⟩ ⟨fun a U g mk q => ⟨q.1, s_pc (U := U) rfl rfl q.2⟩, fun U hU hW => ⟨rfl, s_pw hU hW hP hK hD hN⟩⟩ rfl rfl hl.1 rfl (lv_room (Nat.le_of_ble_eq_true rfl)) dX5_isLike_117 ⟨Nat.zero_le _, Nat.zero_le _⟩) hS (fun q _ h => h) (fun q h => h) (fun r84 F85 t H1 locs ht hvm hw hB hz1 hk1 hS => ?_)
            obtain ⟨hP, hK1⟩ := hB
            rw [ht] at hP
            generalize H1 = H at hP hS ⊢
            clear hz1 hk1
            obtain ⟨h86, h87, hI, hfr1⟩ := hw
            have o88 : F85 a0 = .inr (5, [.ref z45, .ref z47, .ref z49, .ref z51, .ref z53, .int z55, .int z57, .int z58, .int z59, .int z60, .int z61]) := (hfr1 _ (by rw [ha0]; decide)).trans o63
            have o89 : F85 a1 = .inr (5, [.ref z65, .ref z67, .ref z69, .ref z71, .ref z73, .int z75, .int z77, .int z78, .int z79, .int z80, .int z81]) := (hfr1 _ (by rw [ha1]; decide)).trans o83
            have hfr : ∀ b, K b ∉ ([] : List Nat) → F85 b = F b := fun b hb9 => (hfr1 b (fun q => hb9 (s_sub (by decide) q))).trans (hfr b hb9)
            refine lv_if_eq (tgt := 141) hx hb dX5_isLike_120 (by decide) (fun c90 => ?_) (fun c90 => ?_)
            · have c90 := (ax_eq (n := 0) (by decide)).mp c90
              refine lv_iconst (v := 0) hx hb dX5_isLike_141 (by decide) ?_
              exact W.zret (v := 0) (ty := .boolean) hx hb hr (by decide) (fun t ht hW => ⟨⟨0, F85, rfl, ⟨(by decide), trivial, hI, hfr⟩, by rw [ht]; exact hP, va_K.moved hW.alike hK⟩, hS.F ht⟩) hS.2.2 dX5_isLike_142
            · have c90 := mt (ax_eq (n := 0) (by decide)).mpr c90
              refine lv_aload_n hx hb dX5_isLike_123 rfl (lv_at hl 0 rfl) ?_
              refine th_get (D := (dC, dI)) (ci := 5) (v := .ref z45) (C := RX5) (T := TX5) (N := 11) hx hb hts inX5 hown hK hP (hLK _ ha0 (by decide)) o88 rfl 0 (by decide) (hts _ T_100) (fun _ h9 => h9) rfl dX5_isLike_124 ?_
              refine lv_aload_n hx hb dX5_isLike_127 rfl (lv_at hl 1 rfl) ?_
              refine th_get (D := (dC, dI)) (ci := 5) (v := .ref z65) (C := RX5) (T := TX5) (N := 11) hx hb hts inX5 hown hK hP (hLK _ ha1 (by decide)) o89 rfl 0 (by decide) (hts _ T_100) (fun _ h9 => h9) rfl dX5_isLike_128 ?_
              refine va_calli (va_runSN (As := [.ref z45, .ref z65]) (rest := []) ⟨hx, hb, hml, hown, hts⟩ (s_X6_areLike_regs l dC dI H.size hLK D F85 z45 z65 h46 h66 hI) ⟨va_cnB 2 hts (ax_gT T_862) rfl rfl rfl (ax_n51 hN) (hts _ T_193) (by decide +kernel) ⟨Nat.le_of_ble_eq_true rfl, Nat.le_of_ble_eq_true rfl⟩, hts _ T_863, trivial⟩ ⟨fun a U g mk q => ⟨q.1, s_pc (U := U) rfl rfl q.2⟩, fun U hU hW => ⟨rfl, s_pw hU hW hP hK hD hN⟩⟩ rfl rfl hl.1 rfl (lv_room (Nat.le_of_ble_eq_true rfl)) dX5_isLike_131 ⟨Nat.zero_le _, Nat.zero_le _⟩) hS (fun q _ h => h) (fun q h => h) (fun r91 F92 t H1 locs ht hvm hw hB hz1 hk1 hS => ?_)
              obtain ⟨hP, hK1⟩ := hB
              rw [ht] at hP
              generalize H1 = H at hP hS ⊢
              clear hz1 hk1
              obtain ⟨h93, h94, hI, hfr1⟩ := hw
              have o95 : F92 a0 = .inr (5, [.ref z45, .ref z47, .ref z49, .ref z51, .ref z53, .int z55, .int z57, .int z58, .int z59, .int z60, .int z61]) := (hfr1 _ (by rw [ha0]; decide)).trans o88
              have o96 : F92 a1 = .inr (5, [.ref z65, .ref z67, .ref z69, .ref z71, .ref z73, .int z75, .int z77, .int z78, .int z79, .int z80, .int z81]) := (hfr1 _ (by rw [ha1]; decide)).trans o89
              have hfr : ∀ b, K b ∉ ([] : List Nat) → F92 b = F b := fun b hb9 => (hfr1 b (fun q => hb9 (s_sub (by decide) q))).trans (hfr b hb9)
              refine lv_if_eq (tgt := 141) hx hb dX5_isLike_134 (by decide) (fun c97 => ?_) (fun c97 => ?_)
              · have c97 := (ax_eq (n := 0) (by decide)).mp c97
                refine lv_iconst (v := 0) hx hb dX5_isLike_141 (by decide) ?_
                exact W.zret (v := 0) (ty := .boolean) hx hb hr (by decide) (fun t ht hW => ⟨⟨0, F92, rfl, ⟨(by decide), trivial, hI, hfr⟩, by rw [ht]; exact hP, va_K.moved hW.alike hK⟩, hS.F ht⟩) hS.2.2 dX5_isLike_142
              · have c97 := mt (ax_eq (n := 0) (by decide)).mpr c97
                refine lv_iconst (v := 1) hx hb dX5_isLike_137 (by decide) ?_
                refine lv_goto (tgt := 142) hx hb dX5_isLike_138 (by decide) ?_
                exact W.zret (v := 1) (ty := .boolean) hx hb hr (by decide) (fun t ht hW => ⟨⟨1, F92, rfl, ⟨(by decide), trivial, hI, hfr⟩, by rw [ht]; exact hP, va_K.moved hW.alike hK⟩, hS.F ht⟩) hS.2.2 dX5_isLike_142
          · have c64 := mt Int32.le_iff_toInt_le.mpr c64
            refine lv_aload_n hx hb dX5_isLike_56 rfl (lv_at hl 0 rfl) ?_
            refine th_get (D := (dC, dI)) (ci := 5) (v := .ref z49) (C := RX5) (T := TX5) (N := 11) hx hb hts inX5 hown hK hP (hLK _ ha0 (by decide)) o63 rfl 2 (by decide) (hts _ T_102) (fun _ h9 => h9) rfl dX5_isLike_57 ?_
            refine lv_iload_n hx hb dX5_isLike_60 rfl (lv_at hl 2 rfl) ?_
            obtain ⟨f98, o99, h100⟩ := s_op32 hI h50
            refine th_iald hx hb hK hP (hLK _ h50 (by decide)) 0 o99 rfl (th_in ⟨by omega, by omega⟩) dX5_isLike_61 ?_
            refine lv_topi (fun v101 ev101 => ?_)
            refine lv_aload_n hx hb dX5_isLike_62 rfl (lv_at hl 1 rfl) ?_
            obtain ⟨z102, z104, z106, z108, z110, z112, z114, z115, z116, z117, z118, o120, h103, h105, h107, h109, h111, h113, h119, -⟩ := s_op6 hI ha1
            refine th_get (D := (dC, dI)) (ci := 5) (v := .ref z106) (C := RX5) (T := TX5) (N := 11) hx hb hts inX5 hown hK hP (hLK _ ha1 (by decide)) o120 rfl 2 (by decide) (hts _ T_102) (fun _ h9 => h9) rfl dX5_isLike_63 ?_
            refine lv_iload_n hx hb dX5_isLike_66 rfl (lv_at hl 2 rfl) ?_
            obtain ⟨f121, o122, h123⟩ := s_op32 hI h107
            refine th_iald hx hb hK hP (hLK _ h107 (by decide)) 0 o122 rfl (th_in ⟨by omega, by omega⟩) dX5_isLike_67 ?_
            refine lv_topi (fun v124 ev124 => ?_)
            refine lv_icmp_ne (tgt := 101) hx hb dX5_isLike_68 (by decide) (fun c125 => ?_) (fun c125 => ?_)
            · have c125 := mt Int32.toInt_inj.symm.mpr c125
              refine lv_iconst (v := 0) hx hb dX5_isLike_101 (by decide) ?_
              exact W.zret (v := 0) (ty := .boolean) hx hb hr (by decide) (fun t ht hW => ⟨⟨0, F9, rfl, ⟨(by decide), trivial, hI, hfr⟩, by rw [ht]; exact hP, va_K.moved hW.alike hK⟩, hS.F ht⟩) hS.2.2 dX5_isLike_102
            · have c125 := Int32.toInt_inj.symm.mp c125
              refine lv_aload_n hx hb dX5_isLike_71 rfl (lv_at hl 0 rfl) ?_
              refine th_get (D := (dC, dI)) (ci := 5) (v := .ref z51) (C := RX5) (T := TX5) (N := 11) hx hb hts inX5 hown hK hP (hLK _ ha0 (by decide)) o63 rfl 3 (by decide) (hts _ T_103) (fun _ h9 => h9) rfl dX5_isLike_72 ?_
              refine lv_iload_n hx hb dX5_isLike_75 rfl (lv_at hl 2 rfl) ?_
              obtain ⟨f126, o127, h128⟩ := s_op32 hI h52
              refine th_iald hx hb hK hP (hLK _ h52 (by decide)) 0 o127 rfl (th_in ⟨by omega, by omega⟩) dX5_isLike_76 ?_
              refine lv_topi (fun v129 ev129 => ?_)
              refine lv_aload_n hx hb dX5_isLike_77 rfl (lv_at hl 1 rfl) ?_
              refine th_get (D := (dC, dI)) (ci := 5) (v := .ref z108) (C := RX5) (T := TX5) (N := 11) hx hb hts inX5 hown hK hP (hLK _ ha1 (by decide)) o120 rfl 3 (by decide) (hts _ T_103) (fun _ h9 => h9) rfl dX5_isLike_78 ?_
              refine lv_iload_n hx hb dX5_isLike_81 rfl (lv_at hl 2 rfl) ?_
              obtain ⟨f130, o131, h132⟩ := s_op32 hI h109
              refine th_iald hx hb hK hP (hLK _ h109 (by decide)) 0 o131 rfl (th_in ⟨by omega, by omega⟩) dX5_isLike_82 ?_
              refine lv_topi (fun v133 ev133 => ?_)
              refine lv_icmp_ne (tgt := 101) hx hb dX5_isLike_83 (by decide) (fun c134 => ?_) (fun c134 => ?_)
              · have c134 := mt Int32.toInt_inj.symm.mpr c134
                refine lv_iconst (v := 0) hx hb dX5_isLike_101 (by decide) ?_
                exact W.zret (v := 0) (ty := .boolean) hx hb hr (by decide) (fun t ht hW => ⟨⟨0, F9, rfl, ⟨(by decide), trivial, hI, hfr⟩, by rw [ht]; exact hP, va_K.moved hW.alike hK⟩, hS.F ht⟩) hS.2.2 dX5_isLike_102
              · have c134 := Int32.toInt_inj.symm.mp c134
                refine lv_aload_n hx hb dX5_isLike_86 rfl (lv_at hl 0 rfl) ?_
                refine th_get (D := (dC, dI)) (ci := 5) (v := .ref z53) (C := RX5) (T := TX5) (N := 11) hx hb hts inX5 hown hK hP (hLK _ ha0 (by decide)) o63 rfl 4 (by decide) (hts _ T_104) (fun _ h9 => h9) rfl dX5_isLike_87 ?_
                refine lv_iload_n hx hb dX5_isLike_90 rfl (lv_at hl 2 rfl) ?_
                obtain ⟨f135, o136, h137⟩ := s_op32 hI h54
                refine th_iald hx hb hK hP (hLK _ h54 (by decide)) 0 o136 rfl (th_in ⟨by omega, by omega⟩) dX5_isLike_91 ?_
                refine lv_topi (fun v138 ev138 => ?_)
                refine lv_aload_n hx hb dX5_isLike_92 rfl (lv_at hl 1 rfl) ?_
                refine th_get (D := (dC, dI)) (ci := 5) (v := .ref z110) (C := RX5) (T := TX5) (N := 11) hx hb hts inX5 hown hK hP (hLK _ ha1 (by decide)) o120 rfl 4 (by decide) (hts _ T_104) (fun _ h9 => h9) rfl dX5_isLike_93 ?_
                refine lv_iload_n hx hb dX5_isLike_96 rfl (lv_at hl 2 rfl) ?_
                obtain ⟨f139, o140, h141⟩ := s_op32 hI h111
                refine th_iald hx hb hK hP (hLK _ h111 (by decide)) 0 o140 rfl (th_in ⟨by omega, by omega⟩) dX5_isLike_97 ?_
                refine lv_topi (fun v142 ev142 => ?_)
                refine lv_icmp_eq (tgt := 103) hx hb dX5_isLike_98 (by decide) (fun c143 => ?_) (fun c143 => ?_)
                · have c143 := Int32.toInt_inj.symm.mp c143
                  obtain ⟨v144, ev144⟩ : ∃ y : Int32, w43 + 1 = y := ⟨_, rfl⟩
                  have qv144 : v144.toInt = w43.toInt + 1 := by rw [← ev144]; exact th_add rfl (by decide) ⟨by omega, by omega⟩
                  refine lv_iinc (v := v144) (lv' := [(2, .int v144), (0, .ref a0), (1, .ref a1)]) hx hb dX5_isLike_103 hl (k := 2) rfl ev144 (by decide) rfl (fun ls hl => ?_)
                  refine lv_goto (tgt := 48) hx hb dX5_isLike_106 (by decide) ?_
                  exact ih48 _ _ _ _ (by omega) ⟨F9, _, v144, rfl, lv_sub hl [1, 2, 0] rfl, hI, hP, hS, hfr, ⟨by omega, by omega⟩, rfl⟩
                · have c143 := mt Int32.toInt_inj.symm.mpr c143
                  refine lv_iconst (v := 0) hx hb dX5_isLike_101 (by decide) ?_
                  exact W.zret (v := 0) (ty := .boolean) hx hb hr (by decide) (fun t ht hW => ⟨⟨0, F9, rfl, ⟨(by decide), trivial, hI, hfr⟩, by rw [ht]; exact hP, va_K.moved hW.alike hK⟩, hS.F ht⟩) hS.2.2 dX5_isLike_102
        · have c42 := mt Int32.toInt_inj.symm.mpr c42
          refine lv_iconst (v := 0) hx hb dX5_isLike_44 (by decide) ?_
          exact W.zret (v := 0) (ty := .boolean) hx hb hr (by decide) (fun t ht hW => ⟨⟨0, F, rfl, ⟨(by decide), trivial, hI, hfr⟩, by rw [ht]; exact hP, va_K.moved hW.alike hK⟩, hS.F ht⟩) hS.2.2 dX5_isLike_45

