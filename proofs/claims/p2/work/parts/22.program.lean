set_option maxHeartbeats 4000000 in
set_option maxRecDepth 100000 in
theorem s_X2_passedBehind (l : Launch) (dC : Nat → ClassId) (dI : Nat → Nat → Nat) (sz : Nat) {L : List Nat} {K : Nat → Nat} {cs : Nat → ClassId} (hLK : ∀ a {k : Nat}, K a = k → k ≠ 0 → a ∈ L) (D : Nat) (F : Nat → va_E) (a0 : Nat) (x1 : Int32) (ha0 : K a0 = 8) (hx1 : 0 ≤ x1.toInt ∧ x1.toInt ≤ 39) (hI : s_I K cs D F) (haq : ∀ vs z, F a0 = .inr (2, vs) → vs[3]? = some (.int z) → s_AQ cs F a0 z.toInt) (hxl : ∀ vs z, F a0 = .inr (2, vs) → vs[3]? = some (.int z) → x1.toInt < z.toInt) : Met l yX2_passedBehind (Cond.code yX2_passedBehind cX2_passedBehind 5 (some .long) :: T0) ({ frames := 0, cells := 0, slots := 0, locals := 0 }) (va_Pc [.ref a0, .int x1] (s_W dC dI sz L F [(cs 0, .int), (cs 1, .byte), (cs 2, .long), (cs 3, .object RX5), (cs 4, .object RX4), (cs 5, .array .int), (cs 6, .char), (cs 7, .boolean)])) (va_Ql (fun (r : Int64) (G : Nat → va_E) => True ∧ True ∧ s_I K cs D G ∧ ∀ b, K b ∉ ([] : List Nat) → G b = F b) (fun (G : Nat → va_E) (t : State) => va_P (dC, dI) vwCl (va_pl L G) t.heap ∧ va_K (dC, dI) vwCl [(cs 0, .int), (cs 1, .byte), (cs 2, .long), (cs 3, .object RX5), (cs 4, .object RX4), (cs 5, .array .int), (cs 6, .char), (cs 7, .boolean)] t) (fun q => q ∈ L)) 0 0 (fun q => q ∈ L) := by
  refine Met.ofW (cc := cX2_passedBehind) (maxL := 5) (ret := (some .long)) (by decide) rfl ?_
  intro p e s m args below meth c s₁ B hml hv
  obtain ⟨rfl, hsz, hP, hK, hD, hN⟩ := hv
  have hx := B.exec
  have hb := B.bytes
  have hr := B.returns
  have hts : ∀ w ∈ T0, w.before _ s = true := fun w h => atoms_spec (ws := Cond.code yX2_passedBehind cX2_passedBehind 5 (some .long) :: T0) B.pre w (List.mem_cons_of_mem _ h)
  have hown : s.vm.findClass RX2 = some m.cls := findClass_of_methodNamed B.named
  have hlocks := B.notSynchronized
  have hS : va_S (fun q => q ∈ L) s.heap s.heap [] := va_S.rf
  have hfr : ∀ b, K b ∉ ([] : List Nat) → F b = F b := fun _ _ => rfl
  have hl := lv_entry ([.ref a0, .int x1]) (n := 5) (Nat.le_of_ble_eq_true rfl)
  rw [lg_entry_eq]
  generalize (lg_sl ([.ref a0, .int x1]) ++ List.replicate (5 - (lg_sl ([.ref a0, .int x1])).length) Slot.unset).toArray = ls at hl ⊢
  have hl : lv_has ls 5 [(0, .ref a0), (1, .int x1)] := hl
  refine s_gen hP hS (fun H locs hP hS => ?_)
  obtain ⟨z1, z3, z5, z7, z9, z11, z12, o13, h2, h4, h6, h8, h10, -⟩ := s_op8 hI ha0
  obtain ⟨f14, o15, h16⟩ := s_op42 hI h2
  have hxl := hxl _ _ o13 rfl
  have haq := haq _ _ o13 rfl
  refine lv_aload_n hx hb dX2_passedBehind_0 rfl (lv_at hl 0 rfl) ?_
  refine th_get (D := (dC, dI)) (ci := 2) (v := .ref z1) (C := RX2) (T := TX2) (N := 7) hx hb hts inX2 hown hK hP (hLK _ ha0 (by decide)) o13 rfl 0 (by decide) (hts _ T_124) (fun _ h9 => h9) rfl dX2_passedBehind_1 ?_
  refine lv_iload_n hx hb dX2_passedBehind_4 rfl (lv_at hl 1 rfl) ?_
  obtain ⟨z17, o19, h18⟩ := h16 (x1 : Int32).toNatClampNeg (th_cl ⟨by omega, by omega⟩)
  refine th_aaldA hx hb hK hP (hLK _ h2 (by decide)) 5 o15 rfl (th_in ⟨by omega, by omega⟩) o19 dX2_passedBehind_5 ?_
  obtain ⟨f20, o21, h22⟩ := s_op43 hI h18
  refine lv_astore_n (lv' := [(2, .ref z17), (0, .ref a0), (1, .int x1)]) hx hb dX2_passedBehind_6 rfl hl (by decide) rfl (fun ls hl => ?_)
  refine lv_aload_n hx hb dX2_passedBehind_7 rfl (lv_at hl 0 rfl) ?_
  refine lv_iconst (v := 0) hx hb dX2_passedBehind_8 (by decide) ?_
  refine th_iald hx hb hK hP (hLK _ h18 (by decide)) 0 o21 rfl (ax_in (by decide)) dX2_passedBehind_9 ?_
  refine lv_topi (fun v23 ev23 => ?_)
  refine lv_bipush (v := 15) hx hb dX2_passedBehind_10 (by decide) ?_
  refine lv_icmp_ne (tgt := 25) hx hb dX2_passedBehind_12 (by decide) (fun c24 => ?_) (fun c24 => ?_)
  · have c24 := mt (ax_eq (n := 15) (by decide)).mpr c24
    refine lv_aload_n hx hb dX2_passedBehind_25 rfl (lv_at hl 0 rfl) ?_
    refine lv_iconst (v := 0) hx hb dX2_passedBehind_26 (by decide) ?_
    refine th_iald hx hb hK hP (hLK _ h18 (by decide)) 0 o21 rfl (ax_in (by decide)) dX2_passedBehind_27 ?_
    refine lv_topi (fun v25 ev25 => ?_)
    refine lv_bipush (v := 12) hx hb dX2_passedBehind_28 (by decide) ?_
    refine lv_icmp_eq (tgt := 42) hx hb dX2_passedBehind_30 (by decide) (fun c26 => ?_) (fun c26 => ?_)
    · have c26 := (ax_eq (n := 12) (by decide)).mp c26
      refine lv_aload_n hx hb dX2_passedBehind_42 rfl (lv_at hl 1 rfl) ?_
      refine th_get (D := (dC, dI)) (ci := 2) (v := .ref z5) (C := RX2) (T := TX2) (N := 7) hx hb hts inX2 hown hK hP (hLK _ ha0 (by decide)) o13 rfl 2 (by decide) (hts _ T_127) (fun _ h9 => h9) rfl dX2_passedBehind_43 ?_
      refine lv_aload_n hx hb dX2_passedBehind_46 rfl (lv_at hl 0 rfl) ?_
      refine lv_iconst (v := 4) hx hb dX2_passedBehind_47 (by decide) ?_
      refine th_iald hx hb hK hP (hLK _ h18 (by decide)) 0 o21 rfl (ax_in (by decide)) dX2_passedBehind_48 ?_
      refine lv_topi (fun v27 ev27 => ?_)
      have qv27 : 0 ≤ v27.toInt ∧ v27.toInt ≤ 39 := by rw [ev27]; exact haq _ _ _ x1.toNatClampNeg _ _ o13 o15 (th_cl ⟨by omega, by omega⟩) (th_cln (by omega) (by omega)) o19 o21 (by rw [show f20 0 = v25 from ev25.symm]; omega)
      obtain ⟨f28, o29, h30⟩ := s_op25 hI h6
      refine th_lald hx hb hK hP (hLK _ h6 (by decide)) 2 o29 rfl (th_in ⟨by omega, by omega⟩) dX2_passedBehind_49 ?_
      refine lv_topl (fun v31 _ => ?_)
      refine lv_lstore_n (lv' := [(3, .long v31), (2, .ref z17), (0, .ref a0), (1, .int x1)]) hx hb dX2_passedBehind_50 rfl hl (by decide) rfl (fun ls hl => ?_)
      refine lv_aload_n hx hb dX2_passedBehind_51 rfl (lv_at hl 1 rfl) ?_
      refine lv_iconst (v := 5) hx hb dX2_passedBehind_52 (by decide) ?_
      refine th_iald hx hb hK hP (hLK _ h18 (by decide)) 0 o21 rfl (ax_in (by decide)) dX2_passedBehind_53 ?_
      refine lv_topi (fun v32 ev32 => ?_)
      refine lv_ldc (v := (-1000000)) hx hb hown (hts _ T_736) dX2_passedBehind_54 ?_
      refine lv_icmp_ne (tgt := 63) hx hb dX2_passedBehind_56 (by decide) (fun c33 => ?_) (fun c33 => ?_)
      · have c33 := mt (ax_eq (n := (-1000000)) (by decide)).mpr c33
        refine lv_lload_n hx hb dX2_passedBehind_63 rfl (lv_at hl 0 rfl) ?_
        refine lv_aload_n hx hb dX2_passedBehind_64 rfl (lv_at hl 2 rfl) ?_
        refine th_get (D := (dC, dI)) (ci := 2) (v := .ref z5) (C := RX2) (T := TX2) (N := 7) hx hb hts inX2 hown hK hP (hLK _ ha0 (by decide)) o13 rfl 2 (by decide) (hts _ T_127) (fun _ h9 => h9) rfl dX2_passedBehind_65 ?_
        refine lv_iload_n hx hb dX2_passedBehind_68 rfl (lv_at hl 3 rfl) ?_
        refine lv_iconst (v := 1) hx hb dX2_passedBehind_69 (by decide) ?_
        refine lv_iadd hx hb dX2_passedBehind_70 ?_
        refine lv_topi (fun v34 ev34 => ?_)
        have qv34 : v34.toInt = x1.toInt + 1 := by rw [ev34]; exact th_add rfl (by decide) ⟨by omega, by omega⟩
        obtain ⟨f35, o36, h37⟩ := s_op25 hI h6
        refine th_lald hx hb hK hP (hLK _ h6 (by decide)) 2 o36 rfl (th_in ⟨by omega, by omega⟩) dX2_passedBehind_71 ?_
        refine lv_topl (fun v38 _ => ?_)
        refine lv_land hx hb dX2_passedBehind_72 ?_
        refine lv_topl (fun v39 ev39 => ?_)
        exact W.lret (v := v39) hx hb hr (fun t ht hW => ⟨⟨v39, F, rfl, ⟨trivial, trivial, hI, hfr⟩, by rw [ht]; exact hP, va_K.moved hW.alike hK⟩, hS.F ht⟩) hS.2.2 dX2_passedBehind_73
      · have c33 := (ax_eq (n := (-1000000)) (by decide)).mp c33
        refine lv_lload_n hx hb dX2_passedBehind_59 rfl (lv_at hl 0 rfl) ?_
        refine lv_goto (tgt := 73) hx hb dX2_passedBehind_60 (by decide) ?_
        exact W.lret (v := v31) hx hb hr (fun t ht hW => ⟨⟨v31, F, rfl, ⟨trivial, trivial, hI, hfr⟩, by rw [ht]; exact hP, va_K.moved hW.alike hK⟩, hS.F ht⟩) hS.2.2 dX2_passedBehind_73
    · have c26 := mt (ax_eq (n := 12) (by decide)).mpr c26
      refine lv_aload_n hx hb dX2_passedBehind_33 rfl (lv_at hl 1 rfl) ?_
      refine th_get (D := (dC, dI)) (ci := 2) (v := .ref z5) (C := RX2) (T := TX2) (N := 7) hx hb hts inX2 hown hK hP (hLK _ ha0 (by decide)) o13 rfl 2 (by decide) (hts _ T_127) (fun _ h9 => h9) rfl dX2_passedBehind_34 ?_
      refine lv_iload_n hx hb dX2_passedBehind_37 rfl (lv_at hl 2 rfl) ?_
      refine lv_iconst (v := 1) hx hb dX2_passedBehind_38 (by decide) ?_
      refine lv_iadd hx hb dX2_passedBehind_39 ?_
      refine lv_topi (fun v40 ev40 => ?_)
      have qv40 : v40.toInt = x1.toInt + 1 := by rw [ev40]; exact th_add rfl (by decide) ⟨by omega, by omega⟩
      obtain ⟨f41, o42, h43⟩ := s_op25 hI h6
      refine th_lald hx hb hK hP (hLK _ h6 (by decide)) 2 o42 rfl (th_in ⟨by omega, by omega⟩) dX2_passedBehind_40 ?_
      refine lv_topl (fun v44 _ => ?_)
      exact W.lret (v := v44) hx hb hr (fun t ht hW => ⟨⟨v44, F, rfl, ⟨trivial, trivial, hI, hfr⟩, by rw [ht]; exact hP, va_K.moved hW.alike hK⟩, hS.F ht⟩) hS.2.2 dX2_passedBehind_41
  · have c24 := (ax_eq (n := 15) (by decide)).mp c24
    refine lv_aload_n hx hb dX2_passedBehind_15 rfl (lv_at hl 1 rfl) ?_
    refine th_get (D := (dC, dI)) (ci := 2) (v := .ref z5) (C := RX2) (T := TX2) (N := 7) hx hb hts inX2 hown hK hP (hLK _ ha0 (by decide)) o13 rfl 2 (by decide) (hts _ T_127) (fun _ h9 => h9) rfl dX2_passedBehind_16 ?_
    refine lv_aload_n hx hb dX2_passedBehind_19 rfl (lv_at hl 1 rfl) ?_
    refine th_get (D := (dC, dI)) (ci := 2) (v := .int z7) (C := RX2) (T := TX2) (N := 7) hx hb hts inX2 hown hK hP (hLK _ ha0 (by decide)) o13 rfl 3 (by decide) (hts _ T_200) (fun _ h9 => h9) rfl dX2_passedBehind_20 ?_
    obtain ⟨f45, o46, h47⟩ := s_op25 hI h6
    refine th_lald hx hb hK hP (hLK _ h6 (by decide)) 2 o46 rfl (th_in ⟨by omega, by omega⟩) dX2_passedBehind_23 ?_
    refine lv_topl (fun v48 _ => ?_)
    exact W.lret (v := v48) hx hb hr (fun t ht hW => ⟨⟨v48, F, rfl, ⟨trivial, trivial, hI, hfr⟩, by rw [ht]; exact hP, va_K.moved hW.alike hK⟩, hS.F ht⟩) hS.2.2 dX2_passedBehind_24

set_option maxHeartbeats 4000000 in
set_option maxRecDepth 100000 in
theorem s_X2_meetOf (l : Launch) (dC : Nat → ClassId) (dI : Nat → Nat → Nat) (sz : Nat) {L : List Nat} {K : Nat → Nat} {cs : Nat → ClassId} (hLK : ∀ a {k : Nat}, K a = k → k ≠ 0 → a ∈ L) (D : Nat) (F : Nat → va_E) (a0 : Nat) (x1 : Int32) (ha0 : K a0 = 8) (hx1 : 0 ≤ x1.toInt ∧ x1.toInt ≤ 39) (hI : s_I K cs D F) (haq : ∀ vs z, F a0 = .inr (2, vs) → vs[3]? = some (.int z) → s_AQ cs F a0 z.toInt) (hxl : ∀ vs z, F a0 = .inr (2, vs) → vs[3]? = some (.int z) → x1.toInt < z.toInt) : Met l yX2_meetOf (Cond.code yX2_meetOf cX2_meetOf 6 (some .int) :: T0) ({ frames := 1, cells := 0, slots := 0, locals := 24 }) (va_Pc [.ref a0, .int x1] (s_W dC dI sz L F [(cs 0, .int), (cs 1, .byte), (cs 2, .long), (cs 3, .object RX5), (cs 4, .object RX4), (cs 5, .array .int), (cs 6, .char), (cs 7, .boolean)])) (va_Qi (fun (r : Int32) (G : Nat → va_E) => (0 ≤ r.toInt ∧ r.toInt ≤ 40) ∧ True ∧ s_I K cs D G ∧ ∀ b, K b ∉ ([] : List Nat) → G b = F b) (fun (G : Nat → va_E) (t : State) => va_P (dC, dI) vwCl (va_pl L G) t.heap ∧ va_K (dC, dI) vwCl [(cs 0, .int), (cs 1, .byte), (cs 2, .long), (cs 3, .object RX5), (cs 4, .object RX4), (cs 5, .array .int), (cs 6, .char), (cs 7, .boolean)] t) (fun q => q ∈ L)) 0 0 (fun q => q ∈ L) := by
  refine Met.ofW (cc := cX2_meetOf) (maxL := 6) (ret := (some .int)) (by decide) rfl ?_
  intro p e s m args below meth c s₁ B hml hv
  obtain ⟨rfl, hsz, hP, hK, hD, hN⟩ := hv
  have hx := B.exec
  have hb := B.bytes
  have hr := B.returns
  have hts : ∀ w ∈ T0, w.before _ s = true := fun w h => atoms_spec (ws := Cond.code yX2_meetOf cX2_meetOf 6 (some .int) :: T0) B.pre w (List.mem_cons_of_mem _ h)
  have hown : s.vm.findClass RX2 = some m.cls := findClass_of_methodNamed B.named
  have hlocks := B.notSynchronized
  have hS : va_S (fun q => q ∈ L) s.heap s.heap [] := va_S.rf
  have hfr : ∀ b, K b ∉ ([] : List Nat) → F b = F b := fun _ _ => rfl
  have hl := lv_entry ([.ref a0, .int x1]) (n := 6) (Nat.le_of_ble_eq_true rfl)
  rw [lg_entry_eq]
  generalize (lg_sl ([.ref a0, .int x1]) ++ List.replicate (6 - (lg_sl ([.ref a0, .int x1])).length) Slot.unset).toArray = ls at hl ⊢
  have hl : lv_has ls 6 [(0, .ref a0), (1, .int x1)] := hl
  refine s_gen hP hS (fun H locs hP hS => ?_)
  obtain ⟨z1, z3, z5, z7, z9, z11, z12, o13, h2, h4, h6, h8, h10, -⟩ := s_op8 hI ha0
  obtain ⟨f14, o15, h16⟩ := s_op42 hI h2
  refine th_join (fun g H locs => ∃ (G : Nat → va_E) (ls : Array Slot) (w17 : Int64) (w18 : Int32), g = F0 m 21 ls [.int w18] ∧ lv_has ls 6 [(0, .ref a0), (2, .long w17)] ∧ s_I K cs D G ∧ va_P (dC, dI) vwCl (va_pl L G) H ∧ va_S (fun q => q ∈ L) s.heap H locs ∧ (∀ b, K b ∉ ([] : List Nat) → G b = F b) ∧ True ∧ (0 ≤ w18.toInt ∧ w18.toInt ≤ 1)) (fun K21 => ?_) ?_
  · refine lv_aload_n hx hb dX2_meetOf_0 rfl (lv_at hl 0 rfl) ?_
    refine lv_iload_n hx hb dX2_meetOf_1 rfl (lv_at hl 1 rfl) ?_
    refine va_calll (va_runV (As := [.int x1]) (rest := []) ⟨hx, hb, hml, hown, hts⟩ (s_X2_passedBehind l dC dI H.size hLK D F a0 x1 ha0 (⟨by omega, by omega⟩) hI haq hxl) (cwV 1 hts (ax_gV T_748 T_750 T_751 T_168 T_749) rfl rfl rfl (by decide +kernel) ⟨Nat.le_of_ble_eq_true rfl, Nat.le_of_ble_eq_true rfl⟩) ⟨fun a U g mk q => ⟨q.1, s_pc (U := U) rfl rfl q.2⟩, s_recv hK hP (hLK _ ha0 (by decide)) (ci := 2) rfl o13, fun U hU hW => ⟨rfl, s_pw hU hW hP hK hD hN⟩⟩ rfl rfl hl.1 rfl (lv_room (Nat.le_of_ble_eq_true rfl)) dX2_meetOf_2 ⟨Nat.zero_le _, Nat.zero_le _⟩) hS (fun q _ h => h) (fun q h => h) (fun r19 F20 t H1 locs ht hvm hw hB hz1 hk1 hS => ?_)
    obtain ⟨hP, hK1⟩ := hB
    rw [ht] at hP
    generalize H1 = H at hP hS ⊢
    clear hz1 hk1
    obtain ⟨h21, h22, hI, hfr1⟩ := hw
    have o23 : F20 a0 = .inr (2, [.ref z1, .ref z3, .ref z5, .int z7, .int z9, .int z11, .int z12]) := (hfr1 _ (by rw [ha0]; decide)).trans o13
    have o24 : F20 z1 = .inl (cs 5, 40, .inr (.inr (.inr (.inr f14)))) := (hfr1 _ (by rw [h2]; decide)).trans o15
    have hfr : ∀ b, K b ∉ ([] : List Nat) → F20 b = F b := fun b hb9 => (hfr1 b (fun q => hb9 (s_sub (by decide) q))).trans (hfr b hb9)
    refine lv_lstore_n (lv' := [(2, .long r19), (0, .ref a0), (1, .int x1)]) hx hb dX2_meetOf_5 rfl hl (by decide) rfl (fun ls hl => ?_)
    refine lv_lload_n hx hb dX2_meetOf_6 rfl (lv_at hl 0 rfl) ?_
    refine lv_iload_n hx hb dX2_meetOf_7 rfl (lv_at hl 2 rfl) ?_
    refine lv_lshr hx hb dX2_meetOf_8 rfl ?_
    refine lv_topl (fun v25 _ => ?_)
    refine lv_lconst (v := 1) hx hb dX2_meetOf_9 (by decide) ?_
    refine lv_land hx hb dX2_meetOf_10 ?_
    refine lv_topl (fun v26 ev26 => ?_)
    refine lv_lconst (v := 0) hx hb dX2_meetOf_11 (by decide) ?_
    refine W.lcmp hx hb dX2_meetOf_12 ?_
    refine lv_topi (fun v27 _ => ?_)
    refine lv_if_eq (tgt := 20) hx hb dX2_meetOf_13 (by decide) (fun c28 => ?_) (fun c28 => ?_)
    · have c28 := (ax_eq (n := 0) (by decide)).mp c28
      refine lv_iconst (v := 0) hx hb dX2_meetOf_20 (by decide) ?_
      exact K21 _ _ _ ⟨F20, _, r19, 0, rfl, lv_sub hl [1, 0] rfl, hI, hP, hS, hfr, trivial, (by decide)⟩
    · have c28 := mt (ax_eq (n := 0) (by decide)).mpr c28
      refine lv_iconst (v := 1) hx hb dX2_meetOf_16 (by decide) ?_
      refine lv_goto (tgt := 21) hx hb dX2_meetOf_17 (by decide) ?_
      exact K21 _ _ _ ⟨F20, _, r19, 1, rfl, lv_sub hl [1, 0] rfl, hI, hP, hS, hfr, trivial, (by decide)⟩
  · intro g H locs hq
    obtain ⟨F9, ls, w17, w18, rfl, hl, hI, hP, hS, hfr, h29, h30⟩ := hq
    have o31 : F9 z1 = .inl (cs 5, 40, .inr (.inr (.inr (.inr f14)))) := (hfr _ (by rw [h2]; decide)).trans o15
    have o32 : F9 a0 = .inr (2, [.ref z1, .ref z3, .ref z5, .int z7, .int z9, .int z11, .int z12]) := (hfr _ (by rw [ha0]; decide)).trans o13
    refine lv_istore (lv' := [(4, .int w18), (0, .ref a0), (2, .long w17)]) hx hb dX2_meetOf_21 hl (by decide) rfl (fun ls hl => ?_)
    refine lv_iconst (v := 0) hx hb dX2_meetOf_23 (by decide) ?_
    refine lv_istore (lv' := [(5, .int 0), (4, .int w18), (0, .ref a0), (2, .long w17)]) hx hb dX2_meetOf_24 hl (by decide) rfl (fun ls hl => ?_)
    refine th_loop (fun n g H locs => ∃ (G : Nat → va_E) (ls : Array Slot) (w33 : Int32), g = F0 m 26 ls [] ∧ lv_has ls 6 [(0, .ref a0), (2, .long w17), (4, .int w18), (5, .int w33)] ∧ s_I K cs D G ∧ va_P (dC, dI) vwCl (va_pl L G) H ∧ va_S (fun q => q ∈ L) s.heap H locs ∧ (∀ b, K b ∉ ([] : List Nat) → G b = F b) ∧ (0 ≤ w33.toInt ∧ w33.toInt ≤ 40) ∧ (0 ≤ w18.toInt ∧ w18.toInt ≤ 1) ∧ n = (41 - w33.toInt).toNat) _ ⟨F9, _, 0, rfl, lv_sub hl [2, 3, 1, 0] rfl, hI, hP, hS, hfr, (by decide), ⟨by omega, by omega⟩, rfl⟩ (fun n ih26 g H locs hq => ?_)
    obtain ⟨F9, ls, w33, rfl, hl, hI, hP, hS, hfr, h34, h35, hn⟩ := hq
    have o36 : F9 z1 = .inl (cs 5, 40, .inr (.inr (.inr (.inr f14)))) := (hfr _ (by rw [h2]; decide)).trans o15
    have o37 : F9 a0 = .inr (2, [.ref z1, .ref z3, .ref z5, .int z7, .int z9, .int z11, .int z12]) := (hfr _ (by rw [ha0]; decide)).trans o13
    have hn_26 := hn
    obtain ⟨n_26, hn9_26⟩ : ∃ q, q = n := ⟨_, rfl⟩
    refine th_join (fun g H locs => ∃ (G : Nat → va_E) (ls : Array Slot), g = F0 m 66 ls [] ∧ lv_has ls 6 [(0, .ref a0), (2, .long w17), (4, .int w18), (5, .int w33)] ∧ s_I K cs D G ∧ va_P (dC, dI) vwCl (va_pl L G) H ∧ va_S (fun q => q ∈ L) s.heap H locs ∧ (∀ b, K b ∉ ([] : List Nat) → G b = F b) ∧ (0 ≤ w18.toInt ∧ w18.toInt ≤ 0) ∧ (0 ≤ w33.toInt ∧ w33.toInt ≤ 39)) (fun K66 => ?_) ?_
    · refine lv_iload hx hb dX2_meetOf_26 (lv_at hl 2 rfl) ?_
      refine lv_if_ne (tgt := 72) hx hb dX2_meetOf_28 (by decide) (fun c38 => ?_) (fun c38 => ?_)
      · have c38 := mt (ax_eq (n := 0) (by decide)).mpr c38
        refine lv_aload_n hx hb dX2_meetOf_72 rfl (lv_at hl 0 rfl) ?_
        refine th_get (D := (dC, dI)) (ci := 2) (v := .int z7) (C := RX2) (T := TX2) (N := 7) hx hb hts inX2 hown hK hP (hLK _ ha0 (by decide)) o37 rfl 3 (by decide) (hts _ T_200) (fun _ h9 => h9) rfl dX2_meetOf_73 ?_
        exact W.iret (v := z7) hx hb hr (fun t ht hW => ⟨⟨z7, F9, rfl, ⟨⟨by omega, by omega⟩, trivial, hI, hfr⟩, by rw [ht]; exact hP, va_K.moved hW.alike hK⟩, hS.F ht⟩) hS.2.2 dX2_meetOf_76
      · have c38 := (ax_eq (n := 0) (by decide)).mp c38
        refine lv_iload hx hb dX2_meetOf_31 (lv_at hl 3 rfl) ?_
        refine lv_aload_n hx hb dX2_meetOf_33 rfl (lv_at hl 0 rfl) ?_
        refine th_get (D := (dC, dI)) (ci := 2) (v := .int z7) (C := RX2) (T := TX2) (N := 7) hx hb hts inX2 hown hK hP (hLK _ ha0 (by decide)) o37 rfl 3 (by decide) (hts _ T_200) (fun _ h9 => h9) rfl dX2_meetOf_34 ?_
        refine lv_icmp_ge (tgt := 72) hx hb dX2_meetOf_37 (by decide) (fun c39 => ?_) (fun c39 => ?_)
        · have c39 := Int32.le_iff_toInt_le.mp c39
          refine lv_aload_n hx hb dX2_meetOf_72 rfl (lv_at hl 0 rfl) ?_
          refine th_get (D := (dC, dI)) (ci := 2) (v := .int z7) (C := RX2) (T := TX2) (N := 7) hx hb hts inX2 hown hK hP (hLK _ ha0 (by decide)) o37 rfl 3 (by decide) (hts _ T_200) (fun _ h9 => h9) rfl dX2_meetOf_73 ?_
          exact W.iret (v := z7) hx hb hr (fun t ht hW => ⟨⟨z7, F9, rfl, ⟨⟨by omega, by omega⟩, trivial, hI, hfr⟩, by rw [ht]; exact hP, va_K.moved hW.alike hK⟩, hS.F ht⟩) hS.2.2 dX2_meetOf_76
        · have c39 := mt Int32.le_iff_toInt_le.mpr c39
          refine lv_lload_n hx hb dX2_meetOf_40 rfl (lv_at hl 1 rfl) ?_
          refine lv_iload hx hb dX2_meetOf_41 (lv_at hl 3 rfl) ?_
          refine lv_lshr hx hb dX2_meetOf_43 rfl ?_
          refine lv_topl (fun v40 _ => ?_)
          refine lv_lconst (v := 1) hx hb dX2_meetOf_44 (by decide) ?_
          refine lv_land hx hb dX2_meetOf_45 ?_
          refine lv_topl (fun v41 ev41 => ?_)
          refine lv_lconst (v := 0) hx hb dX2_meetOf_46 (by decide) ?_
          refine W.lcmp hx hb dX2_meetOf_47 ?_
          refine lv_topi (fun v42 _ => ?_)
          refine lv_if_eq (tgt := 66) hx hb dX2_meetOf_48 (by decide) (fun c43 => ?_) (fun c43 => ?_)
          · have c43 := (ax_eq (n := 0) (by decide)).mp c43
            exact K66 _ _ _ ⟨F9, _, rfl, lv_sub hl [0, 1, 2, 3] rfl, hI, hP, hS, hfr, ⟨by omega, by omega⟩, ⟨by omega, by omega⟩⟩
          · have c43 := mt (ax_eq (n := 0) (by decide)).mpr c43
            refine lv_aload_n hx hb dX2_meetOf_51 rfl (lv_at hl 0 rfl) ?_
            refine th_get (D := (dC, dI)) (ci := 2) (v := .ref z5) (C := RX2) (T := TX2) (N := 7) hx hb hts inX2 hown hK hP (hLK _ ha0 (by decide)) o37 rfl 2 (by decide) (hts _ T_127) (fun _ h9 => h9) rfl dX2_meetOf_52 ?_
            refine lv_iload hx hb dX2_meetOf_55 (lv_at hl 3 rfl) ?_
            obtain ⟨f44, o45, h46⟩ := s_op25 hI h6
            refine th_lald hx hb hK hP (hLK _ h6 (by decide)) 2 o45 rfl (th_in ⟨by omega, by omega⟩) dX2_meetOf_57 ?_
            refine lv_topl (fun v47 _ => ?_)
            refine lv_lload_n hx hb dX2_meetOf_58 rfl (lv_at hl 1 rfl) ?_
            refine W.lcmp hx hb dX2_meetOf_59 ?_
            refine lv_topi (fun v48 _ => ?_)
            refine lv_if_ne (tgt := 66) hx hb dX2_meetOf_60 (by decide) (fun c49 => ?_) (fun c49 => ?_)
            · have c49 := mt (ax_eq (n := 0) (by decide)).mpr c49
              exact K66 _ _ _ ⟨F9, _, rfl, lv_sub hl [0, 1, 2, 3] rfl, hI, hP, hS, hfr, ⟨by omega, by omega⟩, ⟨by omega, by omega⟩⟩
            · have c49 := (ax_eq (n := 0) (by decide)).mp c49
              refine lv_iload hx hb dX2_meetOf_63 (lv_at hl 3 rfl) ?_
              exact W.iret (v := w33) hx hb hr (fun t ht hW => ⟨⟨w33, F9, rfl, ⟨⟨by omega, by omega⟩, trivial, hI, hfr⟩, by rw [ht]; exact hP, va_K.moved hW.alike hK⟩, hS.F ht⟩) hS.2.2 dX2_meetOf_65
    · intro g H locs hq
      obtain ⟨F9, ls, rfl, hl, hI, hP, hS, hfr, h50, h51⟩ := hq
      have o52 : F9 z1 = .inl (cs 5, 40, .inr (.inr (.inr (.inr f14)))) := (hfr _ (by rw [h2]; decide)).trans o15
      have o53 : F9 a0 = .inr (2, [.ref z1, .ref z3, .ref z5, .int z7, .int z9, .int z11, .int z12]) := (hfr _ (by rw [ha0]; decide)).trans o13
      obtain ⟨v54, ev54⟩ : ∃ y : Int32, w33 + 1 = y := ⟨_, rfl⟩
      have qv54 : v54.toInt = w33.toInt + 1 := by rw [← ev54]; exact th_add rfl (by decide) ⟨by omega, by omega⟩
      refine lv_iinc (v := v54) (lv' := [(5, .int v54), (0, .ref a0), (2, .long w17), (4, .int w18)]) hx hb dX2_meetOf_66 hl (k := 3) rfl ev54 (by decide) rfl (fun ls hl => ?_)
      refine lv_goto (tgt := 26) hx hb dX2_meetOf_69 (by decide) ?_
      exact ih26 _ _ _ _ (by omega) ⟨F9, _, v54, rfl, lv_sub hl [1, 2, 3, 0] rfl, hI, hP, hS, hfr, ⟨by omega, by omega⟩, ⟨by omega, by omega⟩, rfl⟩

set_option maxHeartbeats 4000000 in
set_option maxRecDepth 100000 in
theorem s_X2_findPassed (l : Launch) (dC : Nat → ClassId) (dI : Nat → Nat → Nat) (sz : Nat) {L : List Nat} {K : Nat → Nat} {cs : Nat → ClassId} (hLK : ∀ a {k : Nat}, K a = k → k ≠ 0 → a ∈ L) (D : Nat) (F : Nat → va_E) (a0 : Nat) (ha0 : K a0 = 8) (hI : s_I K cs D F) (haq : ∀ vs z, F a0 = .inr (2, vs) → vs[3]? = some (.int z) → s_AQ cs F a0 z.toInt) : Met l yX2_findPassed (Cond.code yX2_findPassed cX2_findPassed 8 none :: T0) ({ frames := 1, cells := 0, slots := 0, locals := 24 }) (va_Pc [.ref a0] (s_W dC dI sz L F [(cs 0, .int), (cs 1, .byte), (cs 2, .long), (cs 3, .object RX5), (cs 4, .object RX4), (cs 5, .array .int), (cs 6, .char), (cs 7, .boolean)])) (va_Qv (fun (G : Nat → va_E) => True ∧ True ∧ s_I K cs D G ∧ ∀ b, K b ∉ [25] → G b = F b) (fun (G : Nat → va_E) (t : State) => va_P (dC, dI) vwCl (va_pl L G) t.heap ∧ va_K (dC, dI) vwCl [(cs 0, .int), (cs 1, .byte), (cs 2, .long), (cs 3, .object RX5), (cs 4, .object RX4), (cs 5, .array .int), (cs 6, .char), (cs 7, .boolean)] t) (fun q => q ∈ L)) 0 0 (fun q => q ∈ L) := by
  refine Met.ofW (cc := cX2_findPassed) (maxL := 8) (ret := none) (by decide) rfl ?_
  intro p e s m args below meth c s₁ B hml hv
  obtain ⟨rfl, hsz, hP, hK, hD, hN⟩ := hv
  have hx := B.exec
  have hb := B.bytes
  have hr := B.returns
  have hts : ∀ w ∈ T0, w.before _ s = true := fun w h => atoms_spec (ws := Cond.code yX2_findPassed cX2_findPassed 8 none :: T0) B.pre w (List.mem_cons_of_mem _ h)
  have hown : s.vm.findClass RX2 = some m.cls := findClass_of_methodNamed B.named
  have hlocks := B.notSynchronized
  have hS : va_S (fun q => q ∈ L) s.heap s.heap [] := va_S.rf
  have hfr : ∀ b, K b ∉ [25] → F b = F b := fun _ _ => rfl
  have hl := lv_entry ([.ref a0]) (n := 8) (Nat.le_of_ble_eq_true rfl)
  rw [lg_entry_eq]
  generalize (lg_sl ([.ref a0]) ++ List.replicate (8 - (lg_sl ([.ref a0])).length) Slot.unset).toArray = ls at hl ⊢
  have hl : lv_has ls 8 [(0, .ref a0)] := hl
  refine s_gen hP hS (fun H locs hP hS => ?_)
  have hI0 := hI
  obtain ⟨z1, z3, z5, z7, z9, z11, z12, o13, h2, h4, h6, h8, h10, -⟩ := s_op8 hI ha0
  obtain ⟨f14, o15, h16⟩ := s_op42 hI h2
  refine lv_lconst (v := 1) hx hb dX2_findPassed_0 (by decide) ?_
  refine lv_aload_n hx hb dX2_findPassed_1 rfl (lv_at hl 0 rfl) ?_
  refine th_get (D := (dC, dI)) (ci := 2) (v := .int z7) (C := RX2) (T := TX2) (N := 7) hx hb hts inX2 hown hK hP (hLK _ ha0 (by decide)) o13 rfl 3 (by decide) (hts _ T_200) (fun _ h9 => h9) rfl dX2_findPassed_2 ?_
  refine lv_iconst (v := 1) hx hb dX2_findPassed_5 (by decide) ?_
  refine lv_iadd hx hb dX2_findPassed_6 ?_
  refine lv_topi (fun v17 ev17 => ?_)
  have qv17 : v17.toInt = z7.toInt + 1 := by rw [ev17]; exact th_add rfl (by decide) ⟨by omega, by omega⟩
  refine lv_lshl hx hb dX2_findPassed_7 rfl ?_
  refine lv_topl (fun v18 _ => ?_)
  refine lv_lconst (v := 1) hx hb dX2_findPassed_8 (by decide) ?_
  refine lv_lsub hx hb dX2_findPassed_9 ?_
  refine lv_topl (fun v19 ev19 => ?_)
  refine lv_lstore_n (lv' := [(1, .long v19), (0, .ref a0)]) hx hb dX2_findPassed_10 rfl hl (by decide) rfl (fun ls hl => ?_)
  refine lv_aload_n hx hb dX2_findPassed_11 rfl (lv_at hl 1 rfl) ?_
  refine th_get (D := (dC, dI)) (ci := 2) (v := .ref z5) (C := RX2) (T := TX2) (N := 7) hx hb hts inX2 hown hK hP (hLK _ ha0 (by decide)) o13 rfl 2 (by decide) (hts _ T_127) (fun _ h9 => h9) rfl dX2_findPassed_12 ?_
  refine lv_lload_n hx hb dX2_findPassed_15 rfl (lv_at hl 0 rfl) ?_
  refine va_callv (va_runS (As := [.ref z5, .long v19]) (rest := []) ⟨hx, hb, hml, hown, hts⟩ (s_J7_fill_d0a16 l dC dI H.size hLK D F z5 v19 h6 hI) ⟨callB_of 2 hts (ax_gT T_746) rfl rfl rfl (hts _ T_197) (hts _ T_745) (by decide +kernel) ⟨Nat.le_of_ble_eq_true rfl, Nat.le_of_ble_eq_true rfl⟩, hts _ T_747⟩ ⟨fun a U g mk q => ⟨q.1, s_pc (U := U) rfl rfl q.2⟩, fun U hU hW => ⟨rfl, s_pw hU hW hP hK hD hN⟩⟩ rfl rfl hl.1 rfl (lv_room (Nat.le_of_ble_eq_true rfl)) dX2_findPassed_16 ⟨Nat.zero_le _, Nat.zero_le _⟩) hS (fun q _ h => h) (fun q h => h) (fun F20 t H1 locs ht hvm hw hB hz1 hk1 hS => ?_)
  obtain ⟨hP, hK1⟩ := hB
  rw [ht] at hP
  generalize H1 = H at hP hS ⊢
  clear hz1 hk1
  obtain ⟨h21, h22, hI, hfr1⟩ := hw
  have o23 : F20 a0 = .inr (2, [.ref z1, .ref z3, .ref z5, .int z7, .int z9, .int z11, .int z12]) := (hfr1 _ (by rw [ha0]; decide)).trans o13
  have o24 : F20 z1 = .inl (cs 5, 40, .inr (.inr (.inr (.inr f14)))) := (hfr1 _ (by rw [h2]; decide)).trans o15
  have hfr : ∀ b, K b ∉ [25] → F20 b = F b := fun b hb9 => (hfr1 b (fun q => hb9 (s_sub (by decide) q))).trans (hfr b hb9)
  refine lv_aload_n hx hb dX2_findPassed_19 rfl (lv_at hl 1 rfl) ?_
  refine th_get (D := (dC, dI)) (ci := 2) (v := .ref z5) (C := RX2) (T := TX2) (N := 7) hx hb hts inX2 hown hK hP (hLK _ ha0 (by decide)) o23 rfl 2 (by decide) (hts _ T_127) (fun _ h9 => h9) rfl dX2_findPassed_20 ?_
  refine lv_aload_n hx hb dX2_findPassed_23 rfl (lv_at hl 1 rfl) ?_
  refine th_get (D := (dC, dI)) (ci := 2) (v := .int z7) (C := RX2) (T := TX2) (N := 7) hx hb hts inX2 hown hK hP (hLK _ ha0 (by decide)) o23 rfl 3 (by decide) (hts _ T_200) (fun _ h9 => h9) rfl dX2_findPassed_24 ?_
  refine lv_lconst (v := 1) hx hb dX2_findPassed_27 (by decide) ?_
  refine lv_aload_n hx hb dX2_findPassed_28 rfl (lv_at hl 1 rfl) ?_
  refine th_get (D := (dC, dI)) (ci := 2) (v := .int z7) (C := RX2) (T := TX2) (N := 7) hx hb hts inX2 hown hK hP (hLK _ ha0 (by decide)) o23 rfl 3 (by decide) (hts _ T_200) (fun _ h9 => h9) rfl dX2_findPassed_29 ?_
  refine lv_lshl hx hb dX2_findPassed_32 rfl ?_
  refine lv_topl (fun v25 _ => ?_)
  obtain ⟨f26, o27, h28⟩ := s_op25 hI h6
  refine th_last hx hb hK hP hD hS (hLK _ h6 (by decide)) 2 o27 rfl (th_in ⟨by omega, by omega⟩) dX2_findPassed_33 (fun H locs hP hS => ?_)
  have hP : va_P (dC, dI) vwCl (va_pl L (va_up F20 z5 (.inl (cs 2, 41, .inr (.inl (vp_updL f26 (z7 : Int32).toNatClampNeg v25)))))) H := hP
  obtain ⟨F29, hF30⟩ : ∃ G : Nat → va_E, G = va_up F20 z5 (.inl (cs 2, 41, .inr (.inl (vp_updL f26 (z7 : Int32).toNatClampNeg v25)))) := ⟨_, rfl⟩
  rw [← hF30] at hP
  have hI : s_I K cs D F29 := by rw [hF30]; exact s_cl25 hI h6 ⟨_, rfl, trivial⟩
  have hfr : ∀ b, K b ∉ [25] → F29 b = F b := by rw [hF30]; exact s_fr hfr h6 (by decide)
  have o31 : F29 a0 = .inr (2, [.ref z1, .ref z3, .ref z5, .int z7, .int z9, .int z11, .int z12]) := by rw [hF30]; exact th_ne (th_kd ha0 h6 (by decide)) o23
  have o32 : F29 z1 = .inl (cs 5, 40, .inr (.inr (.inr (.inr f14)))) := by rw [hF30]; exact th_ne (th_kd h2 h6 (by decide)) o24
  refine lv_iconst (v := 1) hx hb dX2_findPassed_34 (by decide) ?_
  refine lv_istore_n (lv' := [(3, .int 1), (1, .long v19), (0, .ref a0)]) hx hb dX2_findPassed_35 rfl hl (by decide) rfl (fun ls hl => ?_)
  refine lv_iconst (v := 0) hx hb dX2_findPassed_36 (by decide) ?_
  refine lv_istore (lv' := [(4, .int 0), (3, .int 1), (1, .long v19), (0, .ref a0)]) hx hb dX2_findPassed_37 hl (by decide) rfl (fun ls hl => ?_)
  refine th_loop (fun n g H locs => ∃ (G : Nat → va_E) (ls : Array Slot) (w33 : Int32) (w34 : Int32), g = F0 m 39 ls [] ∧ lv_has ls 8 [(0, .ref a0), (3, .int w33), (4, .int w34)] ∧ s_I K cs D G ∧ va_P (dC, dI) vwCl (va_pl L G) H ∧ va_S (fun q => q ∈ L) s.heap H locs ∧ (∀ b, K b ∉ [25] → G b = F b) ∧ (0 ≤ w33.toInt ∧ w33.toInt ≤ 1) ∧ (0 ≤ w34.toInt ∧ w34.toInt ≤ 1641) ∧ n = (1642 - w34.toInt).toNat) _ ⟨F29, _, 1, 0, rfl, lv_sub hl [3, 1, 0] rfl, hI, hP, hS, hfr, (by decide), (by decide), rfl⟩ (fun n ih39 g H locs hq => ?_)
  obtain ⟨F9, ls, w33, w34, rfl, hl, hI, hP, hS, hfr, h35, h36, hn⟩ := hq
  have o37 : F9 z1 = .inl (cs 5, 40, .inr (.inr (.inr (.inr f14)))) := (hfr _ (by rw [h2]; decide)).trans o15
  have o38 : F9 a0 = .inr (2, [.ref z1, .ref z3, .ref z5, .int z7, .int z9, .int z11, .int z12]) := (hfr _ (by rw [ha0]; decide)).trans o13
  have hn_39 := hn
  obtain ⟨n_39, hn9_39⟩ : ∃ q, q = n := ⟨_, rfl⟩
  refine lv_iload_n hx hb dX2_findPassed_39 rfl (lv_at hl 1 rfl) ?_
  refine lv_if_eq (tgt := 115) hx hb dX2_findPassed_40 (by decide) (fun c39 => ?_) (fun c39 => ?_)
  · have c39 := (ax_eq (n := 0) (by decide)).mp c39
    exact W.vret hx hb hr (fun t ht hW => ⟨⟨F9, rfl, ⟨trivial, trivial, hI, hfr⟩, by rw [ht]; exact hP, va_K.moved hW.alike hK⟩, hS.F ht⟩) hS.2.2 dX2_findPassed_115
  · have c39 := mt (ax_eq (n := 0) (by decide)).mpr c39
    refine lv_iload hx hb dX2_findPassed_43 (lv_at hl 2 rfl) ?_
    refine lv_sipush (v := 1640) hx hb dX2_findPassed_45 (by decide) ?_
    refine lv_icmp_gt (tgt := 115) hx hb dX2_findPassed_48 (by decide) (fun c40 => ?_) (fun c40 => ?_)
    · have c40 := (ax_gt (n := 1640) (by decide)).mp c40
      exact W.vret hx hb hr (fun t ht hW => ⟨⟨F9, rfl, ⟨trivial, trivial, hI, hfr⟩, by rw [ht]; exact hP, va_K.moved hW.alike hK⟩, hS.F ht⟩) hS.2.2 dX2_findPassed_115
    · have c40 := mt (ax_gt (n := 1640) (by decide)).mpr c40
      refine lv_iconst (v := 0) hx hb dX2_findPassed_51 (by decide) ?_
      refine lv_istore_n (lv' := [(3, .int 0), (0, .ref a0), (4, .int w34)]) hx hb dX2_findPassed_52 rfl hl (by decide) rfl (fun ls hl => ?_)
      refine lv_aload_n hx hb dX2_findPassed_53 rfl (lv_at hl 1 rfl) ?_
      refine th_get (D := (dC, dI)) (ci := 2) (v := .int z7) (C := RX2) (T := TX2) (N := 7) hx hb hts inX2 hown hK hP (hLK _ ha0 (by decide)) o38 rfl 3 (by decide) (hts _ T_200) (fun _ h9 => h9) rfl dX2_findPassed_54 ?_
      refine lv_iconst (v := 1) hx hb dX2_findPassed_57 (by decide) ?_
      refine lv_isub hx hb dX2_findPassed_58 ?_
      refine lv_topi (fun v41 ev41 => ?_)
      have qv41 : v41.toInt = z7.toInt - 1 := by rw [ev41]; exact th_sub rfl (by decide) ⟨by omega, by omega⟩
      refine lv_istore (lv' := [(5, .int v41), (3, .int 0), (0, .ref a0), (4, .int w34)]) hx hb dX2_findPassed_59 hl (by decide) rfl (fun ls hl => ?_)
      refine th_loop (fun n g H locs => ∃ (G : Nat → va_E) (ls : Array Slot) (w42 : Int32) (w43 : Int32), g = F0 m 61 ls [] ∧ lv_has ls 8 [(0, .ref a0), (3, .int w42), (4, .int w34), (5, .int w43)] ∧ s_I K cs D G ∧ va_P (dC, dI) vwCl (va_pl L G) H ∧ va_S (fun q => q ∈ L) s.heap H locs ∧ (∀ b, K b ∉ [25] → G b = F b) ∧ (0 ≤ w42.toInt ∧ w42.toInt ≤ 1) ∧ (-1 ≤ w43.toInt ∧ w43.toInt ≤ 39) ∧ (0 ≤ w34.toInt ∧ w34.toInt ≤ 1640) ∧ (w43.toInt < z7.toInt) ∧ n = (w43.toInt - -2).toNat) _ ⟨F9, _, 0, v41, rfl, lv_sub hl [2, 1, 3, 0] rfl, hI, hP, hS, hfr, (by decide), ⟨by omega, by omega⟩, ⟨by omega, by omega⟩, (by omega), rfl⟩ (fun n ih61 g H locs hq => ?_)
      obtain ⟨F9, ls, w42, w43, rfl, hl, hI, hP, hS, hfr, h44, h45, h46, h47, hn⟩ := hq
      have o48 : F9 z1 = .inl (cs 5, 40, .inr (.inr (.inr (.inr f14)))) := (hfr _ (by rw [h2]; decide)).trans o15
      have o49 : F9 a0 = .inr (2, [.ref z1, .ref z3, .ref z5, .int z7, .int z9, .int z11, .int z12]) := (hfr _ (by rw [ha0]; decide)).trans o13
      have hn_61 := hn
      obtain ⟨n_61, hn9_61⟩ : ∃ q, q = n := ⟨_, rfl⟩
      refine th_join (fun g H locs => ∃ (G : Nat → va_E) (ls : Array Slot) (w50 : Int32), g = F0 m 103 ls [] ∧ lv_has ls 8 [(0, .ref a0), (3, .int w50), (4, .int w34), (5, .int w43)] ∧ s_I K cs D G ∧ va_P (dC, dI) vwCl (va_pl L G) H ∧ va_S (fun q => q ∈ L) s.heap H locs ∧ (∀ b, K b ∉ [25] → G b = F b) ∧ (0 ≤ w50.toInt ∧ w50.toInt ≤ 1) ∧ (0 ≤ w34.toInt ∧ w34.toInt ≤ 1640) ∧ (0 ≤ w43.toInt ∧ w43.toInt ≤ 39) ∧ (w43.toInt < z7.toInt)) (fun K103 => ?_) ?_
      · refine lv_iload hx hb dX2_findPassed_61 (lv_at hl 3 rfl) ?_
        refine lv_if_lt (tgt := 109) hx hb dX2_findPassed_63 (by decide) (fun c51 => ?_) (fun c51 => ?_)
        · have c51 := (ax_lt (n := 0) (by decide)).mp c51
          obtain ⟨v52, ev52⟩ : ∃ y : Int32, w34 + 1 = y := ⟨_, rfl⟩
          have qv52 : v52.toInt = w34.toInt + 1 := by rw [← ev52]; exact th_add rfl (by decide) ⟨by omega, by omega⟩
          refine lv_iinc (v := v52) (lv' := [(4, .int v52), (0, .ref a0), (3, .int w42), (5, .int w43)]) hx hb dX2_findPassed_109 hl (k := 2) rfl ev52 (by decide) rfl (fun ls hl => ?_)
          refine lv_goto (tgt := 39) hx hb dX2_findPassed_112 (by decide) ?_
          exact ih39 _ _ _ _ (by omega) ⟨F9, _, w42, v52, rfl, lv_sub hl [1, 2, 0] rfl, hI, hP, hS, hfr, ⟨by omega, by omega⟩, ⟨by omega, by omega⟩, rfl⟩
        · have c51 := mt (ax_lt (n := 0) (by decide)).mpr c51
          refine lv_aload_n hx hb dX2_findPassed_66 rfl (lv_at hl 0 rfl) ?_
          refine lv_iload hx hb dX2_findPassed_67 (lv_at hl 3 rfl) ?_
          refine va_calll (va_runV (As := [.int w43]) (rest := []) ⟨hx, hb, hml, hown, hts⟩ (s_X2_passedBehind l dC dI H.size hLK D F9 a0 w43 ha0 (⟨by omega, by omega⟩) hI (fun vs z q q2 => s_AQt hI0 ha0 (fun b hb9 => hfr b (by rcases hb9 with q | q | q <;> (rw [q]; decide))) (haq vs z ((hfr _ (by rw [ha0]; decide)).symm.trans q) q2)) (fun vs z q q2 => by rw [o49] at q; cases q; cases q2; omega)) (cwV 1 hts (ax_gV T_748 T_750 T_751 T_168 T_749) rfl rfl rfl (by decide +kernel) ⟨Nat.le_of_ble_eq_true rfl, Nat.le_of_ble_eq_true rfl⟩) ⟨fun a U g mk q => ⟨q.1, s_pc (U := U) rfl rfl q.2⟩, s_recv hK hP (hLK _ ha0 (by decide)) (ci := 2) rfl o49, fun U hU hW => ⟨rfl, s_pw hU hW hP hK hD hN⟩⟩ rfl rfl hl.1 rfl (lv_room (Nat.le_of_ble_eq_true rfl)) dX2_findPassed_69 ⟨Nat.zero_le _, Nat.zero_le _⟩) hS (fun q _ h => h) (fun q h => h) (fun r53 F54 t H1 locs ht hvm hw hB hz1 hk1 hS => ?_)
          obtain ⟨hP, hK1⟩ := hB
          rw [ht] at hP
          generalize H1 = H at hP hS ⊢
          clear hz1 hk1
          obtain ⟨h55, h56, hI, hfr1⟩ := hw
          have o57 : F54 a0 = .inr (2, [.ref z1, .ref z3, .ref z5, .int z7, .int z9, .int z11, .int z12]) := (hfr1 _ (by rw [ha0]; decide)).trans o49
          have o58 : F54 z1 = .inl (cs 5, 40, .inr (.inr (.inr (.inr f14)))) := (hfr1 _ (by rw [h2]; decide)).trans o48
          have hfr : ∀ b, K b ∉ [25] → F54 b = F b := fun b hb9 => (hfr1 b (fun q => hb9 (s_sub (by decide) q))).trans (hfr b hb9)
          refine lv_lconst (v := 1) hx hb dX2_findPassed_72 (by decide) ?_
          refine lv_iload hx hb dX2_findPassed_73 (lv_at hl 3 rfl) ?_
          refine lv_lshl hx hb dX2_findPassed_75 rfl ?_
          refine lv_topl (fun v59 _ => ?_)
          refine lv_lor hx hb dX2_findPassed_76 ?_
          refine lv_topl (fun v60 ev60 => ?_)
          refine lv_lstore (lv' := [(6, .long v60), (0, .ref a0), (3, .int w42), (4, .int w34), (5, .int w43)]) hx hb dX2_findPassed_77 hl (by decide) rfl (fun ls hl => ?_)
          refine lv_lload hx hb dX2_findPassed_79 (lv_at hl 0 rfl) ?_
          refine lv_aload_n hx hb dX2_findPassed_81 rfl (lv_at hl 1 rfl) ?_
          refine th_get (D := (dC, dI)) (ci := 2) (v := .ref z5) (C := RX2) (T := TX2) (N := 7) hx hb hts inX2 hown hK hP (hLK _ ha0 (by decide)) o57 rfl 2 (by decide) (hts _ T_127) (fun _ h9 => h9) rfl dX2_findPassed_82 ?_
          refine lv_iload hx hb dX2_findPassed_85 (lv_at hl 4 rfl) ?_
          obtain ⟨f61, o62, h63⟩ := s_op25 hI h6
          refine th_lald hx hb hK hP (hLK _ h6 (by decide)) 2 o62 rfl (th_in ⟨by omega, by omega⟩) dX2_findPassed_87 ?_
          refine lv_topl (fun v64 _ => ?_)
          refine W.lcmp hx hb dX2_findPassed_88 ?_
          refine lv_topi (fun v65 _ => ?_)
          refine lv_if_eq (tgt := 103) hx hb dX2_findPassed_89 (by decide) (fun c66 => ?_) (fun c66 => ?_)
          · have c66 := (ax_eq (n := 0) (by decide)).mp c66
            exact K103 _ _ _ ⟨F54, _, w42, rfl, lv_sub hl [1, 2, 3, 4] rfl, hI, hP, hS, hfr, ⟨by omega, by omega⟩, ⟨by omega, by omega⟩, ⟨by omega, by omega⟩, (by omega)⟩
          · have c66 := mt (ax_eq (n := 0) (by decide)).mpr c66
            refine lv_aload_n hx hb dX2_findPassed_92 rfl (lv_at hl 1 rfl) ?_
            refine th_get (D := (dC, dI)) (ci := 2) (v := .ref z5) (C := RX2) (T := TX2) (N := 7) hx hb hts inX2 hown hK hP (hLK _ ha0 (by decide)) o57 rfl 2 (by decide) (hts _ T_127) (fun _ h9 => h9) rfl dX2_findPassed_93 ?_
            refine lv_iload hx hb dX2_findPassed_96 (lv_at hl 4 rfl) ?_
            refine lv_lload hx hb dX2_findPassed_98 (lv_at hl 0 rfl) ?_
            obtain ⟨f67, o68, h69⟩ := s_op25 hI h6
            refine th_last hx hb hK hP hD hS (hLK _ h6 (by decide)) 2 o68 rfl (th_in ⟨by omega, by omega⟩) dX2_findPassed_100 (fun H locs hP hS => ?_)
            have hP : va_P (dC, dI) vwCl (va_pl L (va_up F54 z5 (.inl (cs 2, 41, .inr (.inl (vp_updL f67 (w43 : Int32).toNatClampNeg v60)))))) H := hP
            obtain ⟨F70, hF71⟩ : ∃ G : Nat → va_E, G = va_up F54 z5 (.inl (cs 2, 41, .inr (.inl (vp_updL f67 (w43 : Int32).toNatClampNeg v60)))) := ⟨_, rfl⟩
            rw [← hF71] at hP
            have hI : s_I K cs D F70 := by rw [hF71]; exact s_cl25 hI h6 ⟨_, rfl, trivial⟩
            have hfr : ∀ b, K b ∉ [25] → F70 b = F b := by rw [hF71]; exact s_fr hfr h6 (by decide)
            have o72 : F70 a0 = .inr (2, [.ref z1, .ref z3, .ref z5, .int z7, .int z9, .int z11, .int z12]) := by rw [hF71]; exact th_ne (th_kd ha0 h6 (by decide)) o57
            have o73 : F70 z1 = .inl (cs 5, 40, .inr (.inr (.inr (.inr f14)))) := by rw [hF71]; exact th_ne (th_kd h2 h6 (by decide)) o58
            refine lv_iconst (v := 1) hx hb dX2_findPassed_101 (by decide) ?_
            refine lv_istore_n (lv' := [(3, .int 1), (6, .long v60), (0, .ref a0), (4, .int w34), (5, .int w43)]) hx hb dX2_findPassed_102 rfl hl (by decide) rfl (fun ls hl => ?_)
            exact K103 _ _ _ ⟨F70, _, 1, rfl, lv_sub hl [2, 0, 3, 4] rfl, hI, hP, hS, hfr, (by decide), ⟨by omega, by omega⟩, ⟨by omega, by omega⟩, (by omega)⟩
      · intro g H locs hq
        obtain ⟨F9, ls, w50, rfl, hl, hI, hP, hS, hfr, h74, h75, h76, h77⟩ := hq
        have o78 : F9 z1 = .inl (cs 5, 40, .inr (.inr (.inr (.inr f14)))) := (hfr _ (by rw [h2]; decide)).trans o15
        have o79 : F9 a0 = .inr (2, [.ref z1, .ref z3, .ref z5, .int z7, .int z9, .int z11, .int z12]) := (hfr _ (by rw [ha0]; decide)).trans o13
        obtain ⟨v80, ev80⟩ : ∃ y : Int32, w43 + (-1) = y := ⟨_, rfl⟩
        have qv80 : v80.toInt = w43.toInt + (-1) := by rw [← ev80]; exact th_add rfl (by decide) ⟨by omega, by omega⟩
        refine lv_iinc (v := v80) (lv' := [(5, .int v80), (0, .ref a0), (3, .int w50), (4, .int w34)]) hx hb dX2_findPassed_103 hl (k := 3) rfl ev80 (by decide) rfl (fun ls hl => ?_)
        refine lv_goto (tgt := 61) hx hb dX2_findPassed_106 (by decide) ?_
        exact ih61 _ _ _ _ (by omega) ⟨F9, _, w50, v80, rfl, lv_sub hl [1, 2, 3, 0] rfl, hI, hP, hS, hfr, ⟨by omega, by omega⟩, ⟨by omega, by omega⟩, ⟨by omega, by omega⟩, (by omega), rfl⟩

set_option maxHeartbeats 4000000 in
set_option maxRecDepth 100000 in
theorem s_X2_findMeets (l : Launch) (dC : Nat → ClassId) (dI : Nat → Nat → Nat) (sz : Nat) {L : List Nat} {K : Nat → Nat} {cs : Nat → ClassId} (hLK : ∀ a {k : Nat}, K a = k → k ≠ 0 → a ∈ L) (D : Nat) (F : Nat → va_E) (a0 : Nat) (ha0 : K a0 = 8) (hI : s_I K cs D F) (hq : s_QG cs F a0 0) (haq : ∀ vs z, F a0 = .inr (2, vs) → vs[3]? = some (.int z) → s_AQ cs F a0 z.toInt) : Met l yX2_findMeets (Cond.code yX2_findMeets cX2_findMeets 2 none :: T0) ({ frames := 2, cells := 0, slots := 0, locals := 51 }) (va_Pc [.ref a0] (s_W dC dI sz L F [(cs 0, .int), (cs 1, .byte), (cs 2, .long), (cs 3, .object RX5), (cs 4, .object RX4), (cs 5, .array .int), (cs 6, .char), (cs 7, .boolean)])) (va_Qv (fun (G : Nat → va_E) => True ∧ (True ∧ s_QG cs G a0 0) ∧ s_I K cs D G ∧ ∀ b, K b ∉ [25, 43] → G b = F b) (fun (G : Nat → va_E) (t : State) => va_P (dC, dI) vwCl (va_pl L G) t.heap ∧ va_K (dC, dI) vwCl [(cs 0, .int), (cs 1, .byte), (cs 2, .long), (cs 3, .object RX5), (cs 4, .object RX4), (cs 5, .array .int), (cs 6, .char), (cs 7, .boolean)] t) (fun q => q ∈ L)) 0 0 (fun q => q ∈ L) := by
  refine Met.ofW (cc := cX2_findMeets) (maxL := 2) (ret := none) (by decide) rfl ?_
  intro p e s m args below meth c s₁ B hml hv
  obtain ⟨rfl, hsz, hP, hK, hD, hN⟩ := hv
  have hx := B.exec
  have hb := B.bytes
  have hr := B.returns
  have hts : ∀ w ∈ T0, w.before _ s = true := fun w h => atoms_spec (ws := Cond.code yX2_findMeets cX2_findMeets 2 none :: T0) B.pre w (List.mem_cons_of_mem _ h)
  have hown : s.vm.findClass RX2 = some m.cls := findClass_of_methodNamed B.named
  have hlocks := B.notSynchronized
  have hS : va_S (fun q => q ∈ L) s.heap s.heap [] := va_S.rf
  have hfr : ∀ b, K b ∉ [25, 43] → F b = F b := fun _ _ => rfl
  have hl := lv_entry ([.ref a0]) (n := 2) (Nat.le_of_ble_eq_true rfl)
  rw [lg_entry_eq]
  generalize (lg_sl ([.ref a0]) ++ List.replicate (2 - (lg_sl ([.ref a0])).length) Slot.unset).toArray = ls at hl ⊢
  have hl : lv_has ls 2 [(0, .ref a0)] := hl
  refine s_gen hP hS (fun H locs hP hS => ?_)
  obtain ⟨z1, z3, z5, z7, z9, z11, z12, o13, h2, h4, h6, h8, h10, -⟩ := s_op8 hI ha0
  obtain ⟨f14, o15, h16⟩ := s_op42 hI h2
  have haq := haq _ _ o13 rfl
  refine lv_aload_n hx hb dX2_findMeets_0 rfl (lv_at hl 0 rfl) ?_
  have hIq := hI
  refine va_callv (va_runV (As := []) (rest := []) ⟨hx, hb, hml, hown, hts⟩ (s_X2_findPassed l dC dI H.size hLK D F a0 ha0 hI (fun vs z q q2 => by rw [o13] at q; cases q; cases q2; exact haq)) (cwV 0 hts (ax_gV T_737 T_739 T_740 T_168 T_738) rfl rfl rfl (by decide +kernel) ⟨Nat.le_of_ble_eq_true rfl, Nat.le_of_ble_eq_true rfl⟩) ⟨fun a U g mk q => ⟨q.1, s_pc (U := U) rfl rfl q.2⟩, s_recv hK hP (hLK _ ha0 (by decide)) (ci := 2) rfl o13, fun U hU hW => ⟨rfl, s_pw hU hW hP hK hD hN⟩⟩ rfl rfl hl.1 rfl (lv_room (Nat.le_of_ble_eq_true rfl)) dX2_findMeets_1 ⟨Nat.zero_le _, Nat.zero_le _⟩) hS (fun q _ h => h) (fun q h => h) (fun F17 t H1 locs ht hvm hw hB hz1 hk1 hS => ?_)
  obtain ⟨hP, hK1⟩ := hB
  rw [ht] at hP
  generalize H1 = H at hP hS ⊢
  clear hz1 hk1
  obtain ⟨h18, h19, hI, hfr1⟩ := hw
  have o20 : F17 a0 = .inr (2, [.ref z1, .ref z3, .ref z5, .int z7, .int z9, .int z11, .int z12]) := (hfr1 _ (by rw [ha0]; decide)).trans o13
  have o21 : F17 z1 = .inl (cs 5, 40, .inr (.inr (.inr (.inr f14)))) := (hfr1 _ (by rw [h2]; decide)).trans o15
  have hq := s_QGt hIq ha0 (fun b hb9 => hfr1 b (by rcases hb9 with q | q | q <;> (rw [q]; decide))) hq
  have haq := s_AQt hIq ha0 (fun b hb9 => hfr1 b (by rcases hb9 with q | q | q <;> (rw [q]; decide))) haq
  have hfr : ∀ b, K b ∉ [25, 43] → F17 b = F b := fun b hb9 => (hfr1 b (fun q => hb9 (s_sub (by decide) q))).trans (hfr b hb9)
  refine lv_iconst (v := 0) hx hb dX2_findMeets_4 (by decide) ?_
  refine lv_istore_n (lv' := [(1, .int 0), (0, .ref a0)]) hx hb dX2_findMeets_5 rfl hl (by decide) rfl (fun ls hl => ?_)
  refine th_loop (fun n g H locs => ∃ (G : Nat → va_E) (ls : Array Slot) (w22 : Int32), g = F0 m 6 ls [] ∧ lv_has ls 2 [(0, .ref a0), (1, .int w22)] ∧ s_I K cs D G ∧ va_P (dC, dI) vwCl (va_pl L G) H ∧ va_S (fun q => q ∈ L) s.heap H locs ∧ (∀ b, K b ∉ [25, 43] → G b = F b) ∧ (0 ≤ w22.toInt ∧ w22.toInt ≤ 40) ∧ s_QG cs G a0 0 ∧ s_AQ cs G a0 z7.toInt ∧ n = (41 - w22.toInt).toNat) _ ⟨F17, _, 0, rfl, lv_sub hl [1, 0] rfl, hI, hP, hS, hfr, (by decide), hq, haq, rfl⟩ (fun n ih6 g H locs hq => ?_)
  obtain ⟨F9, ls, w22, rfl, hl, hI, hP, hS, hfr, h23, h24, h25, hn⟩ := hq
  have o26 : F9 z1 = .inl (cs 5, 40, .inr (.inr (.inr (.inr f14)))) := (hfr _ (by rw [h2]; decide)).trans o15
  have o27 : F9 a0 = .inr (2, [.ref z1, .ref z3, .ref z5, .int z7, .int z9, .int z11, .int z12]) := (hfr _ (by rw [ha0]; decide)).trans o13
  have hq := h24
  have haq := h25
  have hn_6 := hn
  obtain ⟨n_6, hn9_6⟩ : ∃ q, q = n := ⟨_, rfl⟩
  refine th_join (fun g H locs => ∃ (G : Nat → va_E) (ls : Array Slot), g = F0 m 54 ls [] ∧ lv_has ls 2 [(0, .ref a0), (1, .int w22)] ∧ s_I K cs D G ∧ va_P (dC, dI) vwCl (va_pl L G) H ∧ va_S (fun q => q ∈ L) s.heap H locs ∧ (∀ b, K b ∉ [25, 43] → G b = F b) ∧ (0 ≤ w22.toInt ∧ w22.toInt ≤ 39) ∧ s_QG cs G a0 0 ∧ s_AQ cs G a0 z7.toInt) (fun K54 => ?_) ?_
  · refine lv_iload_n hx hb dX2_findMeets_6 rfl (lv_at hl 1 rfl) ?_
    refine lv_aload_n hx hb dX2_findMeets_7 rfl (lv_at hl 0 rfl) ?_
    refine th_get (D := (dC, dI)) (ci := 2) (v := .int z7) (C := RX2) (T := TX2) (N := 7) hx hb hts inX2 hown hK hP (hLK _ ha0 (by decide)) o27 rfl 3 (by decide) (hts _ T_200) (fun _ h9 => h9) rfl dX2_findMeets_8 ?_
    refine lv_icmp_ge (tgt := 60) hx hb dX2_findMeets_11 (by decide) (fun c28 => ?_) (fun c28 => ?_)
    · have c28 := Int32.le_iff_toInt_le.mp c28
      exact W.vret hx hb hr (fun t ht hW => ⟨⟨F9, rfl, ⟨trivial, ⟨trivial, hq⟩, hI, hfr⟩, by rw [ht]; exact hP, va_K.moved hW.alike hK⟩, hS.F ht⟩) hS.2.2 dX2_findMeets_60
    · have c28 := mt Int32.le_iff_toInt_le.mpr c28
      refine lv_aload_n hx hb dX2_findMeets_14 rfl (lv_at hl 0 rfl) ?_
      refine th_get (D := (dC, dI)) (ci := 2) (v := .ref z1) (C := RX2) (T := TX2) (N := 7) hx hb hts inX2 hown hK hP (hLK _ ha0 (by decide)) o27 rfl 0 (by decide) (hts _ T_124) (fun _ h9 => h9) rfl dX2_findMeets_15 ?_
      refine lv_iload_n hx hb dX2_findMeets_18 rfl (lv_at hl 1 rfl) ?_
      obtain ⟨z29, o31, h30⟩ := h16 (w22 : Int32).toNatClampNeg (th_cl ⟨by omega, by omega⟩)
      refine th_aaldA hx hb hK hP (hLK _ h2 (by decide)) 5 o26 rfl (th_in ⟨by omega, by omega⟩) o31 dX2_findMeets_19 ?_
      refine lv_iconst (v := 0) hx hb dX2_findMeets_20 (by decide) ?_
      obtain ⟨f32, o33, h34⟩ := s_op43 hI h30
      refine th_iald hx hb hK hP (hLK _ h30 (by decide)) 0 o33 rfl (ax_in (by decide)) dX2_findMeets_21 ?_
      refine lv_topi (fun v35 ev35 => ?_)
      refine lv_bipush (v := 12) hx hb dX2_findMeets_22 (by decide) ?_
      refine lv_icmp_ne (tgt := 54) hx hb dX2_findMeets_24 (by decide) (fun c36 => ?_) (fun c36 => ?_)
      · have c36 := mt (ax_eq (n := 12) (by decide)).mpr c36
        exact K54 _ _ _ ⟨F9, _, rfl, lv_sub hl [0, 1] rfl, hI, hP, hS, hfr, ⟨by omega, by omega⟩, hq, haq⟩
      · have c36 := (ax_eq (n := 12) (by decide)).mp c36
        refine lv_aload_n hx hb dX2_findMeets_27 rfl (lv_at hl 0 rfl) ?_
        refine th_get (D := (dC, dI)) (ci := 2) (v := .ref z1) (C := RX2) (T := TX2) (N := 7) hx hb hts inX2 hown hK hP (hLK _ ha0 (by decide)) o27 rfl 0 (by decide) (hts _ T_124) (fun _ h9 => h9) rfl dX2_findMeets_28 ?_
        refine lv_iload_n hx hb dX2_findMeets_31 rfl (lv_at hl 1 rfl) ?_
        refine th_aaldA hx hb hK hP (hLK _ h2 (by decide)) 5 o26 rfl (th_in ⟨by omega, by omega⟩) o31 dX2_findMeets_32 ?_
        refine lv_iconst (v := 5) hx hb dX2_findMeets_33 (by decide) ?_
        obtain ⟨f37, o38, h39⟩ := s_op43 hI h30
        refine th_iald hx hb hK hP (hLK _ h30 (by decide)) 0 o38 rfl (ax_in (by decide)) dX2_findMeets_34 ?_
        refine lv_topi (fun v40 ev40 => ?_)
        refine lv_ldc (v := (-1000000)) hx hb hown (hts _ T_736) dX2_findMeets_35 ?_
        refine lv_icmp_eq (tgt := 54) hx hb dX2_findMeets_37 (by decide) (fun c41 => ?_) (fun c41 => ?_)
        · have c41 := (ax_eq (n := (-1000000)) (by decide)).mp c41
          exact K54 _ _ _ ⟨F9, _, rfl, lv_sub hl [0, 1] rfl, hI, hP, hS, hfr, ⟨by omega, by omega⟩, hq, haq⟩
        · have c41 := mt (ax_eq (n := (-1000000)) (by decide)).mpr c41
          refine lv_aload_n hx hb dX2_findMeets_40 rfl (lv_at hl 0 rfl) ?_
          refine th_get (D := (dC, dI)) (ci := 2) (v := .ref z1) (C := RX2) (T := TX2) (N := 7) hx hb hts inX2 hown hK hP (hLK _ ha0 (by decide)) o27 rfl 0 (by decide) (hts _ T_124) (fun _ h9 => h9) rfl dX2_findMeets_41 ?_
          refine lv_iload_n hx hb dX2_findMeets_44 rfl (lv_at hl 1 rfl) ?_
          refine th_aaldA hx hb hK hP (hLK _ h2 (by decide)) 5 o26 rfl (th_in ⟨by omega, by omega⟩) o31 dX2_findMeets_45 ?_
          refine lv_bipush (v := 6) hx hb dX2_findMeets_46 (by decide) ?_
          refine lv_aload_n hx hb dX2_findMeets_48 rfl (lv_at hl 0 rfl) ?_
          refine lv_iload_n hx hb dX2_findMeets_49 rfl (lv_at hl 1 rfl) ?_
          have hIq := hI
          refine va_calli (va_runV (As := [.int w22]) (rest := [.int 6, .ref z29]) ⟨hx, hb, hml, hown, hts⟩ (s_X2_meetOf l dC dI H.size hLK D F9 a0 w22 ha0 (⟨by omega, by omega⟩) hI (fun vs z q q2 => by rw [o27] at q; cases q; cases q2; exact haq) (fun vs z q q2 => by rw [o27] at q; cases q; cases q2; omega)) (cwV 1 hts (ax_gV T_741 T_743 T_744 T_168 T_742) rfl rfl rfl (by decide +kernel) ⟨Nat.le_of_ble_eq_true rfl, Nat.le_of_ble_eq_true rfl⟩) ⟨fun a U g mk q => ⟨q.1, s_pc (U := U) rfl rfl q.2⟩, s_recv hK hP (hLK _ ha0 (by decide)) (ci := 2) rfl o27, fun U hU hW => ⟨rfl, s_pw hU hW hP hK hD hN⟩⟩ rfl rfl hl.1 rfl (lv_room (Nat.le_of_ble_eq_true rfl)) dX2_findMeets_50 ⟨Nat.zero_le _, Nat.zero_le _⟩) hS (fun q _ h => h) (fun q h => h) (fun r42 F43 t H1 locs ht hvm hw hB hz1 hk1 hS => ?_)
          obtain ⟨hP, hK1⟩ := hB
          rw [ht] at hP
          generalize H1 = H at hP hS ⊢
          clear hz1 hk1
          obtain ⟨h44, h45, hI, hfr1⟩ := hw
          have o46 : F43 a0 = .inr (2, [.ref z1, .ref z3, .ref z5, .int z7, .int z9, .int z11, .int z12]) := (hfr1 _ (by rw [ha0]; decide)).trans o27
          have o47 : F43 z1 = .inl (cs 5, 40, .inr (.inr (.inr (.inr f14)))) := (hfr1 _ (by rw [h2]; decide)).trans o26
          have hq := s_QGt hIq ha0 (fun b hb9 => hfr1 b (by rcases hb9 with q | q | q <;> (rw [q]; decide))) hq
          have haq := s_AQt hIq ha0 (fun b hb9 => hfr1 b (by rcases hb9 with q | q | q <;> (rw [q]; decide))) haq
          have hfr : ∀ b, K b ∉ [25, 43] → F43 b = F b := fun b hb9 => (hfr1 b (fun q => hb9 (s_sub (by decide) q))).trans (hfr b hb9)
          obtain ⟨f48, o49, h50⟩ := s_op43 hI h30
          refine th_iast hx hb hK hP hD hS (hLK _ h30 (by decide)) 0 o49 rfl (ax_in (by decide)) dX2_findMeets_53 (fun H locs hP hS => ?_)
          have hIq := hI
          have hP : va_P (dC, dI) vwCl (va_pl L (va_up F43 z29 (.inl (cs 0, 7, .inl (upd f48 (6 : Int32).toNatClampNeg r42))))) H := hP
          obtain ⟨F51, hF52⟩ : ∃ G : Nat → va_E, G = va_up F43 z29 (.inl (cs 0, 7, .inl (upd f48 (6 : Int32).toNatClampNeg r42))) := ⟨_, rfl⟩
          rw [← hF52] at hP
          have hI : s_I K cs D F51 := by rw [hF52]; exact s_cl43 hI h30 ⟨_, rfl, th_updJ (P := fun y => y.toInt ≤ 3) h50 (fun q => absurd q (by decide))⟩
          have hfr : ∀ b, K b ∉ [25, 43] → F51 b = F b := by rw [hF52]; exact s_fr hfr h30 (by decide)
          have o53 : F51 a0 = .inr (2, [.ref z1, .ref z3, .ref z5, .int z7, .int z9, .int z11, .int z12]) := by rw [hF52]; exact th_ne (th_kd ha0 h30 (by decide)) o46
          have o54 : F51 z1 = .inl (cs 5, 40, .inr (.inr (.inr (.inr f14)))) := by rw [hF52]; exact th_ne (th_kd h2 h30 (by decide)) o47
          have hq := s_QGrow hIq ha0 h30 o49 hF52 (by decide) (by decide) hq
          have haq := s_AQrow hIq ha0 h30 o49 hF52 (by decide) (fun q => absurd q (by decide)) haq
          exact K54 _ _ _ ⟨F51, _, rfl, lv_sub hl [0, 1] rfl, hI, hP, hS, hfr, ⟨by omega, by omega⟩, hq, haq⟩
  · intro g H locs hq
    obtain ⟨F9, ls, rfl, hl, hI, hP, hS, hfr, h55, h56, h57⟩ := hq
    have o58 : F9 z1 = .inl (cs 5, 40, .inr (.inr (.inr (.inr f14)))) := (hfr _ (by rw [h2]; decide)).trans o15
    have o59 : F9 a0 = .inr (2, [.ref z1, .ref z3, .ref z5, .int z7, .int z9, .int z11, .int z12]) := (hfr _ (by rw [ha0]; decide)).trans o13
    have hq := h56
    have haq := h57
    obtain ⟨v60, ev60⟩ : ∃ y : Int32, w22 + 1 = y := ⟨_, rfl⟩
    have qv60 : v60.toInt = w22.toInt + 1 := by rw [← ev60]; exact th_add rfl (by decide) ⟨by omega, by omega⟩
    refine lv_iinc (v := v60) (lv' := [(1, .int v60), (0, .ref a0)]) hx hb dX2_findMeets_54 hl (k := 1) rfl ev60 (by decide) rfl (fun ls hl => ?_)
    refine lv_goto (tgt := 6) hx hb dX2_findMeets_57 (by decide) ?_
    exact ih6 _ _ _ _ (by omega) ⟨F9, _, v60, rfl, lv_sub hl [1, 0] rfl, hI, hP, hS, hfr, ⟨by omega, by omega⟩, hq, haq, rfl⟩

