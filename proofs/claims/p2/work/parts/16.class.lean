set_option maxHeartbeats 4000000 in
set_option maxRecDepth 100000 in
theorem s_X6_refuse (l : Launch) (dC : Nat → ClassId) (dI : Nat → Nat → Nat) (sz : Nat) {L : List Nat} {K : Nat → Nat} {cs : Nat → ClassId} (hLK : ∀ a {k : Nat}, K a = k → k ≠ 0 → a ∈ L) (D : Nat) (F : Nat → va_E) (a0 : Nat) (x1 : Int32) (ha0 : K a0 = 7) (hx1 : 0 ≤ x1.toInt ∧ x1.toInt ≤ 5) (hI : s_I K cs D F) : Met l yX6_refuse (Cond.code yX6_refuse cX6_refuse 2 (some .int) :: T0) ({ frames := 0, cells := 0, slots := 0, locals := 0 }) (va_Pc [.ref a0, .int x1] (s_W dC dI sz L F [(cs 0, .int), (cs 1, .byte), (cs 2, .long), (cs 3, .object RX5), (cs 4, .object RX4), (cs 5, .array .int), (cs 6, .char), (cs 7, .boolean)])) (va_Qi (fun (r : Int32) (G : Nat → va_E) => (-1 ≤ r.toInt ∧ r.toInt ≤ -1) ∧ True ∧ s_I K cs D G ∧ ∀ b, K b ∉ [39] → G b = F b) (fun (G : Nat → va_E) (t : State) => va_P (dC, dI) vwCl (va_pl L G) t.heap ∧ va_K (dC, dI) vwCl [(cs 0, .int), (cs 1, .byte), (cs 2, .long), (cs 3, .object RX5), (cs 4, .object RX4), (cs 5, .array .int), (cs 6, .char), (cs 7, .boolean)] t) (fun q => q ∈ L)) 0 0 (fun q => q ∈ L) := by
  refine Met.ofW (cc := cX6_refuse) (maxL := 2) (ret := (some .int)) (by decide) rfl ?_
  intro p e s m args below meth c s₁ B hml hv
  obtain ⟨rfl, hsz, hP, hK, hD, hN⟩ := hv
  have hx := B.exec
  have hb := B.bytes
  have hr := B.returns
  have hts : ∀ w ∈ T0, w.before _ s = true := fun w h => atoms_spec (ws := Cond.code yX6_refuse cX6_refuse 2 (some .int) :: T0) B.pre w (List.mem_cons_of_mem _ h)
  have hown : s.vm.findClass RX6 = some m.cls := findClass_of_methodNamed B.named
  have hlocks := B.notSynchronized
  have hS : va_S (fun q => q ∈ L) s.heap s.heap [] := va_S.rf
  have hfr : ∀ b, K b ∉ [39] → F b = F b := fun _ _ => rfl
  have hl := lv_entry ([.ref a0, .int x1]) (n := 2) (Nat.le_of_ble_eq_true rfl)
  rw [lg_entry_eq]
  generalize (lg_sl ([.ref a0, .int x1]) ++ List.replicate (2 - (lg_sl ([.ref a0, .int x1])).length) Slot.unset).toArray = ls at hl ⊢
  have hl : lv_has ls 2 [(0, .ref a0), (1, .int x1)] := hl
  refine s_gen hP hS (fun H locs hP hS => ?_)
  refine lv_aload_n hx hb dX6_refuse_0 rfl (lv_at hl 0 rfl) ?_
  obtain ⟨z1, z3, z5, z7, z9, z11, z12, z14, z16, z18, z20, z22, z24, z26, o28, h2, h4, h6, h8, h10, h13, h15, h17, h19, h21, h23, h25, h27, -⟩ := s_op7 hI ha0
  refine th_get (D := (dC, dI)) (ci := 6) (v := .ref z24) (C := RX6) (T := TX6) (N := 14) hx hb hts inX6 hown hK hP (hLK _ ha0 (by decide)) o28 rfl 12 (by decide) (hts _ T_183) (fun _ h9 => h9) rfl dX6_refuse_1 ?_
  refine lv_iload_n hx hb dX6_refuse_4 rfl (lv_at hl 1 rfl) ?_
  refine lv_dup2_11 hx hb dX6_refuse_5 rfl rfl ?_
  obtain ⟨f29, o30, h31⟩ := s_op39 hI h25
  refine th_iald hx hb hK hP (hLK _ h25 (by decide)) 0 o30 rfl (th_in ⟨by omega, by omega⟩) dX6_refuse_6 ?_
  refine lv_topi (fun v32 ev32 => ?_)
  refine lv_iconst (v := 1) hx hb dX6_refuse_7 (by decide) ?_
  refine lv_iadd hx hb dX6_refuse_8 ?_
  refine lv_topi (fun v33 ev33 => ?_)
  obtain ⟨f34, o35, h36⟩ := s_op39 hI h25
  refine th_iast hx hb hK hP hD hS (hLK _ h25 (by decide)) 0 o35 rfl (th_in ⟨by omega, by omega⟩) dX6_refuse_9 (fun H locs hP hS => ?_)
  have hP : va_P (dC, dI) vwCl (va_pl L (va_up F z24 (.inl (cs 0, 6, .inl (upd f34 (x1 : Int32).toNatClampNeg v33))))) H := hP
  obtain ⟨F37, hF38⟩ : ∃ G : Nat → va_E, G = va_up F z24 (.inl (cs 0, 6, .inl (upd f34 (x1 : Int32).toNatClampNeg v33))) := ⟨_, rfl⟩
  rw [← hF38] at hP
  have hI : s_I K cs D F37 := by rw [hF38]; exact s_cl39 hI h25 ⟨_, rfl, trivial⟩
  have hfr : ∀ b, K b ∉ [39] → F37 b = F b := by rw [hF38]; exact s_fr hfr h25 (by decide)
  have o39 : F37 a0 = .inr (6, [.ref z1, .int z3, .ref z5, .ref z7, .ref z9, .int z11, .ref z12, .ref z14, .int z16, .int z18, .ref z20, .ref z22, .ref z24, .long z26]) := by rw [hF38]; exact th_ne (th_kd ha0 h25 (by decide)) o28
  refine lv_iconst (v := (-1)) hx hb dX6_refuse_10 (by decide) ?_
  exact W.iret (v := (-1)) hx hb hr (fun t ht hW => ⟨⟨(-1), F37, rfl, ⟨(by decide), trivial, hI, hfr⟩, by rw [ht]; exact hP, va_K.moved hW.alike hK⟩, hS.F ht⟩) hS.2.2 dX6_refuse_11

set_option maxHeartbeats 4000000 in
set_option maxRecDepth 100000 in
theorem s_X6_hasWarp (l : Launch) (dC : Nat → ClassId) (dI : Nat → Nat → Nat) (sz : Nat) {L : List Nat} {K : Nat → Nat} {cs : Nat → ClassId} (hLK : ∀ a {k : Nat}, K a = k → k ≠ 0 → a ∈ L) (D : Nat) (F : Nat → va_E) (a0 : Nat) (x1 : Int32) (ha0 : K a0 = 7) (hI : s_I K cs D F) : Met l yX6_hasWarp (Cond.code yX6_hasWarp cX6_hasWarp 2 (some .boolean) :: T0) ({ frames := 0, cells := 0, slots := 0, locals := 0 }) (va_Pc [.ref a0, .int x1] (s_W dC dI sz L F [(cs 0, .int), (cs 1, .byte), (cs 2, .long), (cs 3, .object RX5), (cs 4, .object RX4), (cs 5, .array .int), (cs 6, .char), (cs 7, .boolean)])) (va_Qi (fun (r : Int32) (G : Nat → va_E) => (0 ≤ r.toInt ∧ r.toInt ≤ 1) ∧ (¬ r = 0 → 0 ≤ x1.toInt ∧ x1.toInt ≤ 3) ∧ s_I K cs D G ∧ ∀ b, K b ∉ ([] : List Nat) → G b = F b) (fun (G : Nat → va_E) (t : State) => va_P (dC, dI) vwCl (va_pl L G) t.heap ∧ va_K (dC, dI) vwCl [(cs 0, .int), (cs 1, .byte), (cs 2, .long), (cs 3, .object RX5), (cs 4, .object RX4), (cs 5, .array .int), (cs 6, .char), (cs 7, .boolean)] t) (fun q => q ∈ L)) 0 0 (fun q => q ∈ L) := by
  refine Met.ofW (cc := cX6_hasWarp) (maxL := 2) (ret := (some .boolean)) (by decide) rfl ?_
  intro p e s m args below meth c s₁ B hml hv
  obtain ⟨rfl, hsz, hP, hK, hD, hN⟩ := hv
  have hx := B.exec
  have hb := B.bytes
  have hr := B.returns
  have hts : ∀ w ∈ T0, w.before _ s = true := fun w h => atoms_spec (ws := Cond.code yX6_hasWarp cX6_hasWarp 2 (some .boolean) :: T0) B.pre w (List.mem_cons_of_mem _ h)
  have hown : s.vm.findClass RX6 = some m.cls := findClass_of_methodNamed B.named
  have hlocks := B.notSynchronized
  have hS : va_S (fun q => q ∈ L) s.heap s.heap [] := va_S.rf
  have hfr : ∀ b, K b ∉ ([] : List Nat) → F b = F b := fun _ _ => rfl
  have hl := lv_entry ([.ref a0, .int x1]) (n := 2) (Nat.le_of_ble_eq_true rfl)
  rw [lg_entry_eq]
  generalize (lg_sl ([.ref a0, .int x1]) ++ List.replicate (2 - (lg_sl ([.ref a0, .int x1])).length) Slot.unset).toArray = ls at hl ⊢
  have hl : lv_has ls 2 [(0, .ref a0), (1, .int x1)] := hl
  refine s_gen hP hS (fun H locs hP hS => ?_)
  refine lv_aload_n hx hb dX6_hasWarp_0 rfl (lv_at hl 0 rfl) ?_
  obtain ⟨z1, z3, z5, z7, z9, z11, z12, z14, z16, z18, z20, z22, z24, z26, o28, h2, h4, h6, h8, h10, h13, h15, h17, h19, h21, h23, h25, h27, -⟩ := s_op7 hI ha0
  refine th_get (D := (dC, dI)) (ci := 6) (v := .int z11) (C := RX6) (T := TX6) (N := 14) hx hb hts inX6 hown hK hP (hLK _ ha0 (by decide)) o28 rfl 5 (by decide) (hts _ T_224) (fun _ h9 => h9) rfl dX6_hasWarp_1 ?_
  refine lv_if_eq (tgt := 26) hx hb dX6_hasWarp_4 (by decide) (fun c29 => ?_) (fun c29 => ?_)
  · have c29 := (ax_eq (n := 0) (by decide)).mp c29
    refine lv_iconst (v := 0) hx hb dX6_hasWarp_26 (by decide) ?_
    exact W.zret (v := 0) (ty := .boolean) hx hb hr (by decide) (fun t ht hW => ⟨⟨0, F, rfl, ⟨(by decide), (fun q => absurd (by decide) q), hI, hfr⟩, by rw [ht]; exact hP, va_K.moved hW.alike hK⟩, hS.F ht⟩) hS.2.2 dX6_hasWarp_27
  · have c29 := mt (ax_eq (n := 0) (by decide)).mpr c29
    refine lv_iload_n hx hb dX6_hasWarp_7 rfl (lv_at hl 1 rfl) ?_
    refine lv_if_lt (tgt := 26) hx hb dX6_hasWarp_8 (by decide) (fun c30 => ?_) (fun c30 => ?_)
    · have c30 := (ax_lt (n := 0) (by decide)).mp c30
      refine lv_iconst (v := 0) hx hb dX6_hasWarp_26 (by decide) ?_
      exact W.zret (v := 0) (ty := .boolean) hx hb hr (by decide) (fun t ht hW => ⟨⟨0, F, rfl, ⟨(by decide), (fun q => absurd (by decide) q), hI, hfr⟩, by rw [ht]; exact hP, va_K.moved hW.alike hK⟩, hS.F ht⟩) hS.2.2 dX6_hasWarp_27
    · have c30 := mt (ax_lt (n := 0) (by decide)).mpr c30
      refine lv_iload_n hx hb dX6_hasWarp_11 rfl (lv_at hl 1 rfl) ?_
      refine lv_aload_n hx hb dX6_hasWarp_12 rfl (lv_at hl 0 rfl) ?_
      refine th_get (D := (dC, dI)) (ci := 6) (v := .ref z7) (C := RX6) (T := TX6) (N := 14) hx hb hts inX6 hown hK hP (hLK _ ha0 (by decide)) o28 rfl 3 (by decide) (hts _ T_170) (fun _ h9 => h9) rfl dX6_hasWarp_13 ?_
      obtain ⟨z31, z33, z35, z37, z39, z41, z42, o43, h32, h34, h36, h38, h40, -⟩ := s_op3 hI h8
      refine th_getN (D := (dC, dI)) (ci := 2) (v := .int z39) (C := RX2) (T := TX2) (N := 7) hx hb hts inX2 hown hK hP (hLK _ h8 (by decide)) o43 rfl 4 (by decide) (va_Nw.use rfl (ax_n55 hN)) (fun _ h9 => h9) rfl dX6_hasWarp_16 ?_
      refine lv_icmp_ge (tgt := 26) hx hb dX6_hasWarp_19 (by decide) (fun c44 => ?_) (fun c44 => ?_)
      · have c44 := Int32.le_iff_toInt_le.mp c44
        refine lv_iconst (v := 0) hx hb dX6_hasWarp_26 (by decide) ?_
        exact W.zret (v := 0) (ty := .boolean) hx hb hr (by decide) (fun t ht hW => ⟨⟨0, F, rfl, ⟨(by decide), (fun q => absurd (by decide) q), hI, hfr⟩, by rw [ht]; exact hP, va_K.moved hW.alike hK⟩, hS.F ht⟩) hS.2.2 dX6_hasWarp_27
      · have c44 := mt Int32.le_iff_toInt_le.mpr c44
        refine lv_iconst (v := 1) hx hb dX6_hasWarp_22 (by decide) ?_
        refine lv_goto (tgt := 27) hx hb dX6_hasWarp_23 (by decide) ?_
        exact W.zret (v := 1) (ty := .boolean) hx hb hr (by decide) (fun t ht hW => ⟨⟨1, F, rfl, ⟨(by decide), (fun q => ⟨by omega, by omega⟩), hI, hfr⟩, by rw [ht]; exact hP, va_K.moved hW.alike hK⟩, hS.F ht⟩) hS.2.2 dX6_hasWarp_27

set_option maxHeartbeats 4000000 in
set_option maxRecDepth 100000 in
theorem s_X6_hasLane (l : Launch) (dC : Nat → ClassId) (dI : Nat → Nat → Nat) (sz : Nat) {L : List Nat} {K : Nat → Nat} {cs : Nat → ClassId} (hLK : ∀ a {k : Nat}, K a = k → k ≠ 0 → a ∈ L) (D : Nat) (F : Nat → va_E) (a0 : Nat) (x1 : Int32) (x2 : Int32) (ha0 : K a0 = 7) (hI : s_I K cs D F) : Met l yX6_hasLane (Cond.code yX6_hasLane cX6_hasLane 3 (some .boolean) :: T0) ({ frames := 1, cells := 0, slots := 0, locals := 21 }) (va_Pc [.ref a0, .int x1, .int x2] (s_W dC dI sz L F [(cs 0, .int), (cs 1, .byte), (cs 2, .long), (cs 3, .object RX5), (cs 4, .object RX4), (cs 5, .array .int), (cs 6, .char), (cs 7, .boolean)])) (va_Qi (fun (r : Int32) (G : Nat → va_E) => (0 ≤ r.toInt ∧ r.toInt ≤ 1) ∧ (¬ r = 0 → 0 ≤ x1.toInt ∧ x1.toInt ≤ 3 ∧ 0 ≤ x2.toInt ∧ x2.toInt ≤ 7) ∧ s_I K cs D G ∧ ∀ b, K b ∉ ([] : List Nat) → G b = F b) (fun (G : Nat → va_E) (t : State) => va_P (dC, dI) vwCl (va_pl L G) t.heap ∧ va_K (dC, dI) vwCl [(cs 0, .int), (cs 1, .byte), (cs 2, .long), (cs 3, .object RX5), (cs 4, .object RX4), (cs 5, .array .int), (cs 6, .char), (cs 7, .boolean)] t) (fun q => q ∈ L)) 0 0 (fun q => q ∈ L) := by
  refine Met.ofW (cc := cX6_hasLane) (maxL := 3) (ret := (some .boolean)) (by decide) rfl ?_
  intro p e s m args below meth c s₁ B hml hv
  obtain ⟨rfl, hsz, hP, hK, hD, hN⟩ := hv
  have hx := B.exec
  have hb := B.bytes
  have hr := B.returns
  have hts : ∀ w ∈ T0, w.before _ s = true := fun w h => atoms_spec (ws := Cond.code yX6_hasLane cX6_hasLane 3 (some .boolean) :: T0) B.pre w (List.mem_cons_of_mem _ h)
  have hown : s.vm.findClass RX6 = some m.cls := findClass_of_methodNamed B.named
  have hlocks := B.notSynchronized
  have hS : va_S (fun q => q ∈ L) s.heap s.heap [] := va_S.rf
  have hfr : ∀ b, K b ∉ ([] : List Nat) → F b = F b := fun _ _ => rfl
  have hl := lv_entry ([.ref a0, .int x1, .int x2]) (n := 3) (Nat.le_of_ble_eq_true rfl)
  rw [lg_entry_eq]
  generalize (lg_sl ([.ref a0, .int x1, .int x2]) ++ List.replicate (3 - (lg_sl ([.ref a0, .int x1, .int x2])).length) Slot.unset).toArray = ls at hl ⊢
  have hl : lv_has ls 3 [(0, .ref a0), (1, .int x1), (2, .int x2)] := hl
  refine s_gen hP hS (fun H locs hP hS => ?_)
  refine lv_aload_n hx hb dX6_hasLane_0 rfl (lv_at hl 0 rfl) ?_
  refine lv_iload_n hx hb dX6_hasLane_1 rfl (lv_at hl 1 rfl) ?_
  obtain ⟨z1, z3, z5, z7, z9, z11, z12, z14, z16, z18, z20, z22, z24, z26, o28, h2, h4, h6, h8, h10, h13, h15, h17, h19, h21, h23, h25, h27, -⟩ := s_op7 hI ha0
  refine va_calli (va_runV (As := [.int x1]) (rest := []) ⟨hx, hb, hml, hown, hts⟩ (s_X6_hasWarp l dC dI H.size hLK D F a0 x1 ha0 hI) (cwV 1 hts (ax_gV T_225 T_226 T_227 T_193 T_16) rfl rfl rfl (by decide +kernel) ⟨Nat.le_of_ble_eq_true rfl, Nat.le_of_ble_eq_true rfl⟩) ⟨fun a U g mk q => ⟨q.1, s_pc (U := U) rfl rfl q.2⟩, s_recv hK hP (hLK _ ha0 (by decide)) (ci := 6) rfl o28, fun U hU hW => ⟨rfl, s_pw hU hW hP hK hD hN⟩⟩ rfl rfl hl.1 rfl (lv_room (Nat.le_of_ble_eq_true rfl)) dX6_hasLane_2 ⟨Nat.zero_le _, Nat.zero_le _⟩) hS (fun q _ h => h) (fun q h => h) (fun r29 F30 t H1 locs ht hvm hw hB hz1 hk1 hS => ?_)
  obtain ⟨hP, hK1⟩ := hB
  rw [ht] at hP
  generalize H1 = H at hP hS ⊢
  clear hz1 hk1
  obtain ⟨h31, h32, hI, hfr1⟩ := hw
  have o33 : F30 a0 = .inr (6, [.ref z1, .int z3, .ref z5, .ref z7, .ref z9, .int z11, .ref z12, .ref z14, .int z16, .int z18, .ref z20, .ref z22, .ref z24, .long z26]) := (hfr1 _ (by rw [ha0]; decide)).trans o28
  have hfr : ∀ b, K b ∉ ([] : List Nat) → F30 b = F b := fun b hb9 => (hfr1 b (fun q => hb9 (s_sub (by decide) q))).trans (hfr b hb9)
  refine lv_if_eq (tgt := 22) hx hb dX6_hasLane_5 (by decide) (fun c34 => ?_) (fun c34 => ?_)
  · have c34 := (ax_eq (n := 0) (by decide)).mp c34
    refine lv_iconst (v := 0) hx hb dX6_hasLane_22 (by decide) ?_
    exact W.zret (v := 0) (ty := .boolean) hx hb hr (by decide) (fun t ht hW => ⟨⟨0, F30, rfl, ⟨(by decide), (fun q => absurd (by decide) q), hI, hfr⟩, by rw [ht]; exact hP, va_K.moved hW.alike hK⟩, hS.F ht⟩) hS.2.2 dX6_hasLane_23
  · have c34 := mt (ax_eq (n := 0) (by decide)).mpr c34
    have h35 := h32 (fun q => c34 (by rw [q]; decide))
    refine lv_iload_n hx hb dX6_hasLane_8 rfl (lv_at hl 2 rfl) ?_
    refine lv_if_lt (tgt := 22) hx hb dX6_hasLane_9 (by decide) (fun c36 => ?_) (fun c36 => ?_)
    · have c36 := (ax_lt (n := 0) (by decide)).mp c36
      refine lv_iconst (v := 0) hx hb dX6_hasLane_22 (by decide) ?_
      exact W.zret (v := 0) (ty := .boolean) hx hb hr (by decide) (fun t ht hW => ⟨⟨0, F30, rfl, ⟨(by decide), (fun q => absurd (by decide) q), hI, hfr⟩, by rw [ht]; exact hP, va_K.moved hW.alike hK⟩, hS.F ht⟩) hS.2.2 dX6_hasLane_23
    · have c36 := mt (ax_lt (n := 0) (by decide)).mpr c36
      refine lv_iload_n hx hb dX6_hasLane_12 rfl (lv_at hl 2 rfl) ?_
      refine lv_bipush (v := 8) hx hb dX6_hasLane_13 (by decide) ?_
      refine lv_icmp_ge (tgt := 22) hx hb dX6_hasLane_15 (by decide) (fun c37 => ?_) (fun c37 => ?_)
      · have c37 := (ax_ge (n := 8) (by decide)).mp c37
        refine lv_iconst (v := 0) hx hb dX6_hasLane_22 (by decide) ?_
        exact W.zret (v := 0) (ty := .boolean) hx hb hr (by decide) (fun t ht hW => ⟨⟨0, F30, rfl, ⟨(by decide), (fun q => absurd (by decide) q), hI, hfr⟩, by rw [ht]; exact hP, va_K.moved hW.alike hK⟩, hS.F ht⟩) hS.2.2 dX6_hasLane_23
      · have c37 := mt (ax_ge (n := 8) (by decide)).mpr c37
        refine lv_iconst (v := 1) hx hb dX6_hasLane_18 (by decide) ?_
        refine lv_goto (tgt := 23) hx hb dX6_hasLane_19 (by decide) ?_
        exact W.zret (v := 1) (ty := .boolean) hx hb hr (by decide) (fun t ht hW => ⟨⟨1, F30, rfl, ⟨(by decide), (fun q => ⟨by omega, by omega, by omega, by omega⟩), hI, hfr⟩, by rw [ht]; exact hP, va_K.moved hW.alike hK⟩, hS.F ht⟩) hS.2.2 dX6_hasLane_23

set_option maxHeartbeats 4000000 in
set_option maxRecDepth 100000 in
theorem s_X6_hasWord (l : Launch) (dC : Nat → ClassId) (dI : Nat → Nat → Nat) (sz : Nat) {L : List Nat} {K : Nat → Nat} {cs : Nat → ClassId} (hLK : ∀ a {k : Nat}, K a = k → k ≠ 0 → a ∈ L) (D : Nat) (F : Nat → va_E) (a0 : Nat) (x1 : Int32) (x2 : Int32) (ha0 : K a0 = 7) (hx1 : 0 ≤ x1.toInt ∧ x1.toInt ≤ 1) (hI : s_I K cs D F) : Met l yX6_hasWord (Cond.code yX6_hasWord cX6_hasWord 3 (some .boolean) :: T0) ({ frames := 0, cells := 0, slots := 0, locals := 0 }) (va_Pc [.ref a0, .int x1, .int x2] (s_W dC dI sz L F [(cs 0, .int), (cs 1, .byte), (cs 2, .long), (cs 3, .object RX5), (cs 4, .object RX4), (cs 5, .array .int), (cs 6, .char), (cs 7, .boolean)])) (va_Qi (fun (r : Int32) (G : Nat → va_E) => (0 ≤ r.toInt ∧ r.toInt ≤ 1) ∧ ((¬ r = 0 → 0 ≤ x2.toInt ∧ x2.toInt ≤ 63) ∧ (r.toInt = 0 ∨ x1.toInt = 0 ∨ x2.toInt ≤ 31)) ∧ s_I K cs D G ∧ ∀ b, K b ∉ ([] : List Nat) → G b = F b) (fun (G : Nat → va_E) (t : State) => va_P (dC, dI) vwCl (va_pl L G) t.heap ∧ va_K (dC, dI) vwCl [(cs 0, .int), (cs 1, .byte), (cs 2, .long), (cs 3, .object RX5), (cs 4, .object RX4), (cs 5, .array .int), (cs 6, .char), (cs 7, .boolean)] t) (fun q => q ∈ L)) 0 0 (fun q => q ∈ L) := by
  refine Met.ofW (cc := cX6_hasWord) (maxL := 3) (ret := (some .boolean)) (by decide) rfl ?_
  intro p e s m args below meth c s₁ B hml hv
  obtain ⟨rfl, hsz, hP, hK, hD, hN⟩ := hv
  have hx := B.exec
  have hb := B.bytes
  have hr := B.returns
  have hts : ∀ w ∈ T0, w.before _ s = true := fun w h => atoms_spec (ws := Cond.code yX6_hasWord cX6_hasWord 3 (some .boolean) :: T0) B.pre w (List.mem_cons_of_mem _ h)
  have hown : s.vm.findClass RX6 = some m.cls := findClass_of_methodNamed B.named
  have hlocks := B.notSynchronized
  have hS : va_S (fun q => q ∈ L) s.heap s.heap [] := va_S.rf
  have hfr : ∀ b, K b ∉ ([] : List Nat) → F b = F b := fun _ _ => rfl
  have hl := lv_entry ([.ref a0, .int x1, .int x2]) (n := 3) (Nat.le_of_ble_eq_true rfl)
  rw [lg_entry_eq]
  generalize (lg_sl ([.ref a0, .int x1, .int x2]) ++ List.replicate (3 - (lg_sl ([.ref a0, .int x1, .int x2])).length) Slot.unset).toArray = ls at hl ⊢
  have hl : lv_has ls 3 [(0, .ref a0), (1, .int x1), (2, .int x2)] := hl
  refine s_gen hP hS (fun H locs hP hS => ?_)
  refine lv_aload_n hx hb dX6_hasWord_0 rfl (lv_at hl 0 rfl) ?_
  obtain ⟨z1, z3, z5, z7, z9, z11, z12, z14, z16, z18, z20, z22, z24, z26, o28, h2, h4, h6, h8, h10, h13, h15, h17, h19, h21, h23, h25, h27, -⟩ := s_op7 hI ha0
  refine th_get (D := (dC, dI)) (ci := 6) (v := .int z11) (C := RX6) (T := TX6) (N := 14) hx hb hts inX6 hown hK hP (hLK _ ha0 (by decide)) o28 rfl 5 (by decide) (hts _ T_224) (fun _ h9 => h9) rfl dX6_hasWord_1 ?_
  refine lv_if_eq (tgt := 30) hx hb dX6_hasWord_4 (by decide) (fun c29 => ?_) (fun c29 => ?_)
  · have c29 := (ax_eq (n := 0) (by decide)).mp c29
    refine lv_iconst (v := 0) hx hb dX6_hasWord_30 (by decide) ?_
    exact W.zret (v := 0) (ty := .boolean) hx hb hr (by decide) (fun t ht hW => ⟨⟨0, F, rfl, ⟨(by decide), ⟨(fun q => absurd (by decide) q), (Or.inl (by decide))⟩, hI, hfr⟩, by rw [ht]; exact hP, va_K.moved hW.alike hK⟩, hS.F ht⟩) hS.2.2 dX6_hasWord_31
  · have c29 := mt (ax_eq (n := 0) (by decide)).mpr c29
    refine lv_iload_n hx hb dX6_hasWord_7 rfl (lv_at hl 2 rfl) ?_
    refine lv_if_lt (tgt := 30) hx hb dX6_hasWord_8 (by decide) (fun c30 => ?_) (fun c30 => ?_)
    · have c30 := (ax_lt (n := 0) (by decide)).mp c30
      refine lv_iconst (v := 0) hx hb dX6_hasWord_30 (by decide) ?_
      exact W.zret (v := 0) (ty := .boolean) hx hb hr (by decide) (fun t ht hW => ⟨⟨0, F, rfl, ⟨(by decide), ⟨(fun q => absurd (by decide) q), (Or.inl (by decide))⟩, hI, hfr⟩, by rw [ht]; exact hP, va_K.moved hW.alike hK⟩, hS.F ht⟩) hS.2.2 dX6_hasWord_31
    · have c30 := mt (ax_lt (n := 0) (by decide)).mpr c30
      refine lv_iload_n hx hb dX6_hasWord_11 rfl (lv_at hl 2 rfl) ?_
      refine lv_iload_n hx hb dX6_hasWord_12 rfl (lv_at hl 1 rfl) ?_
      refine lv_if_eq (tgt := 21) hx hb dX6_hasWord_13 (by decide) (fun c31 => ?_) (fun c31 => ?_)
      · have c31 := (ax_eq (n := 0) (by decide)).mp c31
        refine lv_bipush (v := 64) hx hb dX6_hasWord_21 (by decide) ?_
        refine lv_icmp_ge (tgt := 30) hx hb dX6_hasWord_23 (by decide) (fun c32 => ?_) (fun c32 => ?_)
        · have c32 := (ax_ge (n := 64) (by decide)).mp c32
          refine lv_iconst (v := 0) hx hb dX6_hasWord_30 (by decide) ?_
          exact W.zret (v := 0) (ty := .boolean) hx hb hr (by decide) (fun t ht hW => ⟨⟨0, F, rfl, ⟨(by decide), ⟨(fun q => absurd (by decide) q), (Or.inl (by decide))⟩, hI, hfr⟩, by rw [ht]; exact hP, va_K.moved hW.alike hK⟩, hS.F ht⟩) hS.2.2 dX6_hasWord_31
        · have c32 := mt (ax_ge (n := 64) (by decide)).mpr c32
          refine lv_iconst (v := 1) hx hb dX6_hasWord_26 (by decide) ?_
          refine lv_goto (tgt := 31) hx hb dX6_hasWord_27 (by decide) ?_
          exact W.zret (v := 1) (ty := .boolean) hx hb hr (by decide) (fun t ht hW => ⟨⟨1, F, rfl, ⟨(by decide), ⟨(fun q => ⟨by omega, by omega⟩), (Or.inr (by omega))⟩, hI, hfr⟩, by rw [ht]; exact hP, va_K.moved hW.alike hK⟩, hS.F ht⟩) hS.2.2 dX6_hasWord_31
      · have c31 := mt (ax_eq (n := 0) (by decide)).mpr c31
        refine lv_bipush (v := 32) hx hb dX6_hasWord_16 (by decide) ?_
        refine lv_goto (tgt := 23) hx hb dX6_hasWord_18 (by decide) ?_
        refine lv_icmp_ge (tgt := 30) hx hb dX6_hasWord_23 (by decide) (fun c33 => ?_) (fun c33 => ?_)
        · have c33 := (ax_ge (n := 32) (by decide)).mp c33
          refine lv_iconst (v := 0) hx hb dX6_hasWord_30 (by decide) ?_
          exact W.zret (v := 0) (ty := .boolean) hx hb hr (by decide) (fun t ht hW => ⟨⟨0, F, rfl, ⟨(by decide), ⟨(fun q => absurd (by decide) q), (Or.inl (by decide))⟩, hI, hfr⟩, by rw [ht]; exact hP, va_K.moved hW.alike hK⟩, hS.F ht⟩) hS.2.2 dX6_hasWord_31
        · have c33 := mt (ax_ge (n := 32) (by decide)).mpr c33
          refine lv_iconst (v := 1) hx hb dX6_hasWord_26 (by decide) ?_
          refine lv_goto (tgt := 31) hx hb dX6_hasWord_27 (by decide) ?_
          exact W.zret (v := 1) (ty := .boolean) hx hb hr (by decide) (fun t ht hW => ⟨⟨1, F, rfl, ⟨(by decide), ⟨(fun q => ⟨by omega, by omega⟩), (Or.inr (by omega))⟩, hI, hfr⟩, by rw [ht]; exact hP, va_K.moved hW.alike hK⟩, hS.F ht⟩) hS.2.2 dX6_hasWord_31

set_option maxHeartbeats 4000000 in
set_option maxRecDepth 100000 in
theorem s_X6_end (l : Launch) (dC : Nat → ClassId) (dI : Nat → Nat → Nat) (sz : Nat) {L : List Nat} {K : Nat → Nat} {cs : Nat → ClassId} (hLK : ∀ a {k : Nat}, K a = k → k ≠ 0 → a ∈ L) (D : Nat) (F : Nat → va_E) (a0 : Nat) (x1 : Int32) (ha0 : K a0 = 7) (hI : s_I K cs D F) (hcz : cs 24 = 0) : Met l yX6_end (Cond.code yX6_end cX6_end 2 (some .boolean) :: T0) ({ frames := 1, cells := 0, slots := 0, locals := 21 }) (va_Pc [.ref a0, .int x1] (s_W dC dI sz L F [(cs 0, .int), (cs 1, .byte), (cs 2, .long), (cs 3, .object RX5), (cs 4, .object RX4), (cs 5, .array .int), (cs 6, .char), (cs 7, .boolean)])) (va_Qi (fun (r : Int32) (G : Nat → va_E) => (0 ≤ r.toInt ∧ r.toInt ≤ 1) ∧ ((¬ r = 0 → 0 ≤ x1.toInt ∧ x1.toInt ≤ 1600) ∧ ((0 ≤ x1.toInt ∧ x1.toInt ≤ (y_fi F a0 1).toInt ∧ r.toInt = 1 ∧ (y_fi G a0 1).toInt = x1.toInt) ∨ ((x1.toInt < 0 ∨ (y_fi F a0 1).toInt < x1.toInt) ∧ r.toInt = 0 ∧ (y_fi G a0 1).toInt = (y_fi F a0 1).toInt))) ∧ s_I K cs D G ∧ ∀ b, K b ∉ [7, 39] → G b = F b) (fun (G : Nat → va_E) (t : State) => va_P (dC, dI) vwCl (va_pl L G) t.heap ∧ va_K (dC, dI) vwCl [(cs 0, .int), (cs 1, .byte), (cs 2, .long), (cs 3, .object RX5), (cs 4, .object RX4), (cs 5, .array .int), (cs 6, .char), (cs 7, .boolean)] t) (fun q => q ∈ L)) 0 0 (fun q => q ∈ L) := by
  refine Met.ofW (cc := cX6_end) (maxL := 2) (ret := (some .boolean)) (by decide) rfl ?_
  intro p e s m args below meth c s₁ B hml hv
  obtain ⟨rfl, hsz, hP, hK, hD, hN⟩ := hv
  have hx := B.exec
  have hb := B.bytes
  have hr := B.returns
  have hts : ∀ w ∈ T0, w.before _ s = true := fun w h => atoms_spec (ws := Cond.code yX6_end cX6_end 2 (some .boolean) :: T0) B.pre w (List.mem_cons_of_mem _ h)
  have hown : s.vm.findClass RX6 = some m.cls := findClass_of_methodNamed B.named
  have hlocks := B.notSynchronized
  have hS : va_S (fun q => q ∈ L) s.heap s.heap [] := va_S.rf
  have hfr : ∀ b, K b ∉ [7, 39] → F b = F b := fun _ _ => rfl
  have hl := lv_entry ([.ref a0, .int x1]) (n := 2) (Nat.le_of_ble_eq_true rfl)
  rw [lg_entry_eq]
  generalize (lg_sl ([.ref a0, .int x1]) ++ List.replicate (2 - (lg_sl ([.ref a0, .int x1])).length) Slot.unset).toArray = ls at hl ⊢
  have hl : lv_has ls 2 [(0, .ref a0), (1, .int x1)] := hl
  refine s_gen hP hS (fun H locs hP hS => ?_)
  obtain ⟨z1, z3, z5, z7, z9, z11, z12, z14, z16, z18, z20, z22, z24, z26, o28, h2, h4, h6, h8, h10, h13, h15, h17, h19, h21, h23, h25, h27, -⟩ := s_op7 hI ha0
  refine lv_iload_n hx hb dX6_end_0 rfl (lv_at hl 1 rfl) ?_
  refine lv_if_lt (tgt := 12) hx hb dX6_end_1 (by decide) (fun c29 => ?_) (fun c29 => ?_)
  · have c29 := (ax_lt (n := 0) (by decide)).mp c29
    refine lv_aload_n hx hb dX6_end_12 rfl (lv_at hl 0 rfl) ?_
    refine lv_iconst (v := 0) hx hb dX6_end_13 (by decide) ?_
    refine va_calli (va_runV (As := [.int 0]) (rest := []) ⟨hx, hb, hml, hown, hts⟩ (s_X6_refuse l dC dI H.size hLK D F a0 0 ha0 (by decide) hI) (cwV 1 hts (ax_gV T_194 T_195 T_196 T_193 T_10) rfl rfl rfl (by decide +kernel) ⟨Nat.le_of_ble_eq_true rfl, Nat.le_of_ble_eq_true rfl⟩) ⟨fun a U g mk q => ⟨q.1, s_pc (U := U) rfl rfl q.2⟩, s_recv hK hP (hLK _ ha0 (by decide)) (ci := 6) rfl o28, fun U hU hW => ⟨rfl, s_pw hU hW hP hK hD hN⟩⟩ rfl rfl hl.1 rfl (lv_room (Nat.le_of_ble_eq_true rfl)) dX6_end_14 ⟨Nat.zero_le _, Nat.zero_le _⟩) hS (fun q _ h => h) (fun q h => h) (fun r30 F31 t H1 locs ht hvm hw hB hz1 hk1 hS => ?_)
    obtain ⟨hP, hK1⟩ := hB
    rw [ht] at hP
    generalize H1 = H at hP hS ⊢
    clear hz1 hk1
    obtain ⟨h32, h33, hI, hfr1⟩ := hw
    have o34 : F31 a0 = .inr (6, [.ref z1, .int z3, .ref z5, .ref z7, .ref z9, .int z11, .ref z12, .ref z14, .int z16, .int z18, .ref z20, .ref z22, .ref z24, .long z26]) := (hfr1 _ (by rw [ha0]; decide)).trans o28
    have hfr : ∀ b, K b ∉ [7, 39] → F31 b = F b := fun b hb9 => (hfr1 b (fun q => hb9 (s_sub (by decide) q))).trans (hfr b hb9)
    refine lv_pop hx hb dX6_end_17 rfl ?_
    refine lv_iconst (v := 0) hx hb dX6_end_18 (by decide) ?_
    exact W.zret (v := 0) (ty := .boolean) hx hb hr (by decide) (fun t ht hW => ⟨⟨0, F31, rfl, ⟨(by decide), ⟨(fun q => absurd (by decide) q), (by have q6 := congrArg Int32.toInt (y_fi6 o28); have q7 := congrArg Int32.toInt (y_fi6 o34); have q8 : (0 : Int32).toInt = 0 := (by decide); omega)⟩, hI, hfr⟩, by rw [ht]; exact hP, va_K.moved hW.alike hK⟩, hS.F ht⟩) hS.2.2 dX6_end_19
  · have c29 := mt (ax_lt (n := 0) (by decide)).mpr c29
    refine lv_iload_n hx hb dX6_end_4 rfl (lv_at hl 1 rfl) ?_
    refine lv_aload_n hx hb dX6_end_5 rfl (lv_at hl 0 rfl) ?_
    refine th_get (D := (dC, dI)) (ci := 6) (v := .int z3) (C := RX6) (T := TX6) (N := 14) hx hb hts inX6 hown hK hP (hLK _ ha0 (by decide)) o28 rfl 1 (by decide) (hts _ T_189) (fun _ h9 => h9) rfl dX6_end_6 ?_
    refine lv_icmp_le (tgt := 20) hx hb dX6_end_9 (by decide) (fun c35 => ?_) (fun c35 => ?_)
    · have c35 := Int32.le_iff_toInt_le.mp c35
      refine lv_aload_n hx hb dX6_end_20 rfl (lv_at hl 0 rfl) ?_
      refine lv_iload_n hx hb dX6_end_21 rfl (lv_at hl 1 rfl) ?_
      refine th_put (D := (dC, dI)) (ci := 6) (v := .int x1) (ty := .int) (C := RX6) (T := TX6) (N := 14) hx hb hts inX6 tyX6 tyX6_ok nmX6 hown hK hP hD hS (hLK _ ha0 (by decide)) o28 rfl 1 (by decide) (hts _ T_189) (fun _ h9 => h9) rfl (by decide +kernel) rfl rfl (Nat.le_of_ble_eq_true rfl) dX6_end_22 (fun H locs hP hS => ?_)
      have h36 : (z20 = cs 20 ∧ z22 = cs 22) ∧ s_by cs x1 := ⟨h27.1, Or.inl hcz⟩
      have hP : va_P (dC, dI) vwCl (va_pl L (va_up F a0 (.inr (6, [.ref z1, .int x1, .ref z5, .ref z7, .ref z9, .int z11, .ref z12, .ref z14, .int z16, .int z18, .ref z20, .ref z22, .ref z24, .long z26])))) H := hP
      obtain ⟨F37, hF38⟩ : ∃ G : Nat → va_E, G = va_up F a0 (.inr (6, [.ref z1, .int x1, .ref z5, .ref z7, .ref z9, .int z11, .ref z12, .ref z14, .int z16, .int z18, .ref z20, .ref z22, .ref z24, .long z26])) := ⟨_, rfl⟩
      rw [← hF38] at hP
      have hI : s_I K cs D F37 := by rw [hF38]; exact s_cl7 hI ha0 ⟨z1, x1, z5, z7, z9, z11, z12, z14, z16, z18, z20, z22, z24, z26, rfl, h2, ⟨by omega, by omega⟩, h6, h8, h10, h13, h15, ⟨by omega, by omega⟩, ⟨by omega, by omega⟩, h21, h23, h25, h36, trivial⟩
      have hfr : ∀ b, K b ∉ [7, 39] → F37 b = F b := by rw [hF38]; exact s_fr hfr ha0 (by decide)
      have o39 : F37 a0 = .inr (6, [.ref z1, .int x1, .ref z5, .ref z7, .ref z9, .int z11, .ref z12, .ref z14, .int z16, .int z18, .ref z20, .ref z22, .ref z24, .long z26]) := by rw [hF38]; exact th_up
      refine lv_iconst (v := 1) hx hb dX6_end_25 (by decide) ?_
      exact W.zret (v := 1) (ty := .boolean) hx hb hr (by decide) (fun t ht hW => ⟨⟨1, F37, rfl, ⟨(by decide), ⟨(fun q => ⟨by omega, by omega⟩), (by have q6 := congrArg Int32.toInt (y_fi6 o28); have q7 := congrArg Int32.toInt (y_fi6 o39); have q8 : (1 : Int32).toInt = 1 := (by decide); omega)⟩, hI, hfr⟩, by rw [ht]; exact hP, va_K.moved hW.alike hK⟩, hS.F ht⟩) hS.2.2 dX6_end_26
    · have c35 := mt Int32.le_iff_toInt_le.mpr c35
      refine lv_aload_n hx hb dX6_end_12 rfl (lv_at hl 0 rfl) ?_
      refine lv_iconst (v := 0) hx hb dX6_end_13 (by decide) ?_
      refine va_calli (va_runV (As := [.int 0]) (rest := []) ⟨hx, hb, hml, hown, hts⟩ (s_X6_refuse l dC dI H.size hLK D F a0 0 ha0 (by decide) hI) (cwV 1 hts (ax_gV T_194 T_195 T_196 T_193 T_10) rfl rfl rfl (by decide +kernel) ⟨Nat.le_of_ble_eq_true rfl, Nat.le_of_ble_eq_true rfl⟩) ⟨fun a U g mk q => ⟨q.1, s_pc (U := U) rfl rfl q.2⟩, s_recv hK hP (hLK _ ha0 (by decide)) (ci := 6) rfl o28, fun U hU hW => ⟨rfl, s_pw hU hW hP hK hD hN⟩⟩ rfl rfl hl.1 rfl (lv_room (Nat.le_of_ble_eq_true rfl)) dX6_end_14 ⟨Nat.zero_le _, Nat.zero_le _⟩) hS (fun q _ h => h) (fun q h => h) (fun r40 F41 t H1 locs ht hvm hw hB hz1 hk1 hS => ?_)
      obtain ⟨hP, hK1⟩ := hB
      rw [ht] at hP
      generalize H1 = H at hP hS ⊢
      clear hz1 hk1
      obtain ⟨h42, h43, hI, hfr1⟩ := hw
      have o44 : F41 a0 = .inr (6, [.ref z1, .int z3, .ref z5, .ref z7, .ref z9, .int z11, .ref z12, .ref z14, .int z16, .int z18, .ref z20, .ref z22, .ref z24, .long z26]) := (hfr1 _ (by rw [ha0]; decide)).trans o28
      have hfr : ∀ b, K b ∉ [7, 39] → F41 b = F b := fun b hb9 => (hfr1 b (fun q => hb9 (s_sub (by decide) q))).trans (hfr b hb9)
      refine lv_pop hx hb dX6_end_17 rfl ?_
      refine lv_iconst (v := 0) hx hb dX6_end_18 (by decide) ?_
      exact W.zret (v := 0) (ty := .boolean) hx hb hr (by decide) (fun t ht hW => ⟨⟨0, F41, rfl, ⟨(by decide), ⟨(fun q => absurd (by decide) q), (by have q6 := congrArg Int32.toInt (y_fi6 o28); have q7 := congrArg Int32.toInt (y_fi6 o44); have q8 : (0 : Int32).toInt = 0 := (by decide); omega)⟩, hI, hfr⟩, by rw [ht]; exact hP, va_K.moved hW.alike hK⟩, hS.F ht⟩) hS.2.2 dX6_end_19

set_option maxHeartbeats 4000000 in
set_option maxRecDepth 100000 in
theorem s_X6_fault (l : Launch) (dC : Nat → ClassId) (dI : Nat → Nat → Nat) (sz : Nat) {L : List Nat} {K : Nat → Nat} {cs : Nat → ClassId} (hLK : ∀ a {k : Nat}, K a = k → k ≠ 0 → a ∈ L) (D : Nat) (F : Nat → va_E) (a0 : Nat) (x1 : Int32) (ha0 : K a0 = 7) (hI : s_I K cs D F) : Met l yX6_fault (Cond.code yX6_fault cX6_fault 2 (some .int) :: T0) ({ frames := 0, cells := 0, slots := 0, locals := 0 }) (va_Pc [.ref a0, .int x1] (s_W dC dI sz L F [(cs 0, .int), (cs 1, .byte), (cs 2, .long), (cs 3, .object RX5), (cs 4, .object RX4), (cs 5, .array .int), (cs 6, .char), (cs 7, .boolean)])) (va_Qi (fun (r : Int32) (G : Nat → va_E) => True ∧ True ∧ s_I K cs D G ∧ ∀ b, K b ∉ ([] : List Nat) → G b = F b) (fun (G : Nat → va_E) (t : State) => va_P (dC, dI) vwCl (va_pl L G) t.heap ∧ va_K (dC, dI) vwCl [(cs 0, .int), (cs 1, .byte), (cs 2, .long), (cs 3, .object RX5), (cs 4, .object RX4), (cs 5, .array .int), (cs 6, .char), (cs 7, .boolean)] t) (fun q => q ∈ L)) 0 0 (fun q => q ∈ L) := by
  refine Met.ofW (cc := cX6_fault) (maxL := 2) (ret := (some .int)) (by decide) rfl ?_
  intro p e s m args below meth c s₁ B hml hv
  obtain ⟨rfl, hsz, hP, hK, hD, hN⟩ := hv
  have hx := B.exec
  have hb := B.bytes
  have hr := B.returns
  have hts : ∀ w ∈ T0, w.before _ s = true := fun w h => atoms_spec (ws := Cond.code yX6_fault cX6_fault 2 (some .int) :: T0) B.pre w (List.mem_cons_of_mem _ h)
  have hown : s.vm.findClass RX6 = some m.cls := findClass_of_methodNamed B.named
  have hlocks := B.notSynchronized
  have hS : va_S (fun q => q ∈ L) s.heap s.heap [] := va_S.rf
  have hfr : ∀ b, K b ∉ ([] : List Nat) → F b = F b := fun _ _ => rfl
  have hl := lv_entry ([.ref a0, .int x1]) (n := 2) (Nat.le_of_ble_eq_true rfl)
  rw [lg_entry_eq]
  generalize (lg_sl ([.ref a0, .int x1]) ++ List.replicate (2 - (lg_sl ([.ref a0, .int x1])).length) Slot.unset).toArray = ls at hl ⊢
  have hl : lv_has ls 2 [(0, .ref a0), (1, .int x1)] := hl
  refine s_gen hP hS (fun H locs hP hS => ?_)
  refine lv_iload_n hx hb dX6_fault_0 rfl (lv_at hl 1 rfl) ?_
  refine lv_if_ne (tgt := 12) hx hb dX6_fault_1 (by decide) (fun c1 => ?_) (fun c1 => ?_)
  · have c1 := mt (ax_eq (n := 0) (by decide)).mpr c1
    refine lv_iload_n hx hb dX6_fault_12 rfl (lv_at hl 1 rfl) ?_
    refine lv_iconst (v := 1) hx hb dX6_fault_13 (by decide) ?_
    refine lv_icmp_ne (tgt := 27) hx hb dX6_fault_14 (by decide) (fun c2 => ?_) (fun c2 => ?_)
    · have c2 := mt (ax_eq (n := 1) (by decide)).mpr c2
      refine lv_iconst (v := (-1)) hx hb dX6_fault_27 (by decide) ?_
      exact W.iret (v := (-1)) hx hb hr (fun t ht hW => ⟨⟨(-1), F, rfl, ⟨trivial, trivial, hI, hfr⟩, by rw [ht]; exact hP, va_K.moved hW.alike hK⟩, hS.F ht⟩) hS.2.2 dX6_fault_28
    · have c2 := (ax_eq (n := 1) (by decide)).mp c2
      refine lv_aload_n hx hb dX6_fault_17 rfl (lv_at hl 0 rfl) ?_
      obtain ⟨z3, z5, z7, z9, z11, z13, z14, z16, z18, z20, z22, z24, z26, z28, o30, h4, h6, h8, h10, h12, h15, h17, h19, h21, h23, h25, h27, h29, -⟩ := s_op7 hI ha0
      refine th_get (D := (dC, dI)) (ci := 6) (v := .ref z7) (C := RX6) (T := TX6) (N := 14) hx hb hts inX6 hown hK hP (hLK _ ha0 (by decide)) o30 rfl 2 (by decide) (hts _ T_165) (fun _ h9 => h9) rfl dX6_fault_18 ?_
      obtain ⟨z31, z33, z35, z37, z39, z41, z43, z44, z45, z47, z49, z50, z51, z53, z54, o55, h32, h34, h36, h38, h40, h42, h46, h48, h52, -⟩ := s_op4 hI h8
      refine th_getN (D := (dC, dI)) (ci := 3) (v := .int z54) (C := RX3) (T := TX3) (N := 15) hx hb hts inX3 hown hK hP (hLK _ h8 (by decide)) o55 rfl 14 (by decide) (va_Nw.use rfl (ax_n10 hN)) (fun _ h9 => h9) rfl dX6_fault_21 ?_
      refine lv_goto (tgt := 28) hx hb dX6_fault_24 (by decide) ?_
      exact W.iret (v := z54) hx hb hr (fun t ht hW => ⟨⟨z54, F, rfl, ⟨trivial, trivial, hI, hfr⟩, by rw [ht]; exact hP, va_K.moved hW.alike hK⟩, hS.F ht⟩) hS.2.2 dX6_fault_28
  · have c1 := (ax_eq (n := 0) (by decide)).mp c1
    refine lv_aload_n hx hb dX6_fault_4 rfl (lv_at hl 0 rfl) ?_
    obtain ⟨z56, z58, z60, z62, z64, z66, z67, z69, z71, z73, z75, z77, z79, z81, o83, h57, h59, h61, h63, h65, h68, h70, h72, h74, h76, h78, h80, h82, -⟩ := s_op7 hI ha0
    refine th_get (D := (dC, dI)) (ci := 6) (v := .ref z60) (C := RX6) (T := TX6) (N := 14) hx hb hts inX6 hown hK hP (hLK _ ha0 (by decide)) o83 rfl 2 (by decide) (hts _ T_165) (fun _ h9 => h9) rfl dX6_fault_5 ?_
    obtain ⟨z84, z86, z88, z90, z92, z94, z96, z97, z98, z100, z102, z103, z104, z106, z107, o108, h85, h87, h89, h91, h93, h95, h99, h101, h105, -⟩ := s_op4 hI h61
    refine th_getN (D := (dC, dI)) (ci := 3) (v := .int z106) (C := RX3) (T := TX3) (N := 15) hx hb hts inX3 hown hK hP (hLK _ h61 (by decide)) o108 rfl 13 (by decide) (va_Nw.use rfl (ax_n11 hN)) (fun _ h9 => h9) rfl dX6_fault_8 ?_
    exact W.iret (v := z106) hx hb hr (fun t ht hW => ⟨⟨z106, F, rfl, ⟨trivial, trivial, hI, hfr⟩, by rw [ht]; exact hP, va_K.moved hW.alike hK⟩, hS.F ht⟩) hS.2.2 dX6_fault_11

set_option maxHeartbeats 4000000 in
set_option maxRecDepth 100000 in
theorem s_X6_has (l : Launch) (dC : Nat → ClassId) (dI : Nat → Nat → Nat) (sz : Nat) {L : List Nat} {K : Nat → Nat} {cs : Nat → ClassId} (hLK : ∀ a {k : Nat}, K a = k → k ≠ 0 → a ∈ L) (D : Nat) (F : Nat → va_E) (a0 : Nat) (x1 : Int32) (ha0 : K a0 = 7) (hI : s_I K cs D F) : Met l yX6_has (Cond.code yX6_has cX6_has 2 (some .int) :: T0) ({ frames := 2, cells := 0, slots := 0, locals := 42 }) (va_Pc [.ref a0, .int x1] (s_W dC dI sz L F [(cs 0, .int), (cs 1, .byte), (cs 2, .long), (cs 3, .object RX5), (cs 4, .object RX4), (cs 5, .array .int), (cs 6, .char), (cs 7, .boolean)])) (va_Qi (fun (r : Int32) (G : Nat → va_E) => True ∧ True ∧ s_I K cs D G ∧ ∀ b, K b ∉ ([] : List Nat) → G b = F b) (fun (G : Nat → va_E) (t : State) => va_P (dC, dI) vwCl (va_pl L G) t.heap ∧ va_K (dC, dI) vwCl [(cs 0, .int), (cs 1, .byte), (cs 2, .long), (cs 3, .object RX5), (cs 4, .object RX4), (cs 5, .array .int), (cs 6, .char), (cs 7, .boolean)] t) (fun q => q ∈ L)) 0 0 (fun q => q ∈ L) := by
  refine Met.ofW (cc := cX6_has) (maxL := 2) (ret := (some .int)) (by decide) rfl ?_
  intro p e s m args below meth c s₁ B hml hv
  obtain ⟨rfl, hsz, hP, hK, hD, hN⟩ := hv
  have hx := B.exec
  have hb := B.bytes
  have hr := B.returns
  have hts : ∀ w ∈ T0, w.before _ s = true := fun w h => atoms_spec (ws := Cond.code yX6_has cX6_has 2 (some .int) :: T0) B.pre w (List.mem_cons_of_mem _ h)
  have hown : s.vm.findClass RX6 = some m.cls := findClass_of_methodNamed B.named
  have hlocks := B.notSynchronized
  have hS : va_S (fun q => q ∈ L) s.heap s.heap [] := va_S.rf
  have hfr : ∀ b, K b ∉ ([] : List Nat) → F b = F b := fun _ _ => rfl
  have hl := lv_entry ([.ref a0, .int x1]) (n := 2) (Nat.le_of_ble_eq_true rfl)
  rw [lg_entry_eq]
  generalize (lg_sl ([.ref a0, .int x1]) ++ List.replicate (2 - (lg_sl ([.ref a0, .int x1])).length) Slot.unset).toArray = ls at hl ⊢
  have hl : lv_has ls 2 [(0, .ref a0), (1, .int x1)] := hl
  refine s_gen hP hS (fun H locs hP hS => ?_)
  refine lv_iload_n hx hb dX6_has_0 rfl (lv_at hl 1 rfl) ?_
  refine lv_if_lt (tgt := 10) hx hb dX6_has_1 (by decide) (fun c1 => ?_) (fun c1 => ?_)
  · have c1 := (ax_lt (n := 0) (by decide)).mp c1
    refine lv_iconst (v := (-1)) hx hb dX6_has_10 (by decide) ?_
    exact W.iret (v := (-1)) hx hb hr (fun t ht hW => ⟨⟨(-1), F, rfl, ⟨trivial, trivial, hI, hfr⟩, by rw [ht]; exact hP, va_K.moved hW.alike hK⟩, hS.F ht⟩) hS.2.2 dX6_has_11
  · have c1 := mt (ax_lt (n := 0) (by decide)).mpr c1
    refine lv_iload_n hx hb dX6_has_4 rfl (lv_at hl 1 rfl) ?_
    refine lv_bipush (v := 13) hx hb dX6_has_5 (by decide) ?_
    refine lv_icmp_le (tgt := 12) hx hb dX6_has_7 (by decide) (fun c2 => ?_) (fun c2 => ?_)
    · have c2 := (ax_le (n := 13) (by decide)).mp c2
      refine lv_aload_n hx hb dX6_has_12 rfl (lv_at hl 0 rfl) ?_
      obtain ⟨z3, z5, z7, z9, z11, z13, z14, z16, z18, z20, z22, z24, z26, z28, o30, h4, h6, h8, h10, h12, h15, h17, h19, h21, h23, h25, h27, h29, -⟩ := s_op7 hI ha0
      refine th_get (D := (dC, dI)) (ci := 6) (v := .int z13) (C := RX6) (T := TX6) (N := 14) hx hb hts inX6 hown hK hP (hLK _ ha0 (by decide)) o30 rfl 5 (by decide) (hts _ T_224) (fun _ h9 => h9) rfl dX6_has_13 ?_
      refine lv_if_ne (tgt := 21) hx hb dX6_has_16 (by decide) (fun c31 => ?_) (fun c31 => ?_)
      · have c31 := mt (ax_eq (n := 0) (by decide)).mpr c31
        refine lv_iload_n hx hb dX6_has_21 rfl (lv_at hl 1 rfl) ?_
        by_cases c32 : x1 = 0
        · refine ax_eqi c32 ?_
          refine lv_tableIn (off := 66) (tgt := 88) hx hb dX6_has_22 (by decide) (by decide) (by decide) (by decide) ?_
          have c32 := (ax_eq (n := 0) (by decide)).mp c32
          refine lv_aload_n hx hb dX6_has_88 rfl (lv_at hl 0 rfl) ?_
          refine th_get (D := (dC, dI)) (ci := 6) (v := .ref z9) (C := RX6) (T := TX6) (N := 14) hx hb hts inX6 hown hK hP (hLK _ ha0 (by decide)) o30 rfl 3 (by decide) (hts _ T_170) (fun _ h9 => h9) rfl dX6_has_89 ?_
          obtain ⟨z33, z35, z37, z39, z41, z43, z44, o45, h34, h36, h38, h40, h42, -⟩ := s_op3 hI h10
          refine th_getN (D := (dC, dI)) (ci := 2) (v := .int z39) (C := RX2) (T := TX2) (N := 7) hx hb hts inX2 hown hK hP (hLK _ h10 (by decide)) o45 rfl 3 (by decide) (va_Nw.use rfl (ax_n60 hN)) (fun _ h9 => h9) rfl dX6_has_92 ?_
          exact W.iret (v := z39) hx hb hr (fun t ht hW => ⟨⟨z39, F, rfl, ⟨trivial, trivial, hI, hfr⟩, by rw [ht]; exact hP, va_K.moved hW.alike hK⟩, hS.F ht⟩) hS.2.2 dX6_has_95
        · have c32 := mt (ax_eq (n := 0) (by decide)).mpr c32
          by_cases c46 : x1 = 1
          · refine ax_eqi c46 ?_
            refine lv_tableIn (off := 74) (tgt := 96) hx hb dX6_has_22 (by decide) (by decide) (by decide) (by decide) ?_
            have c46 := (ax_eq (n := 1) (by decide)).mp c46
            refine lv_aload_n hx hb dX6_has_96 rfl (lv_at hl 0 rfl) ?_
            refine th_get (D := (dC, dI)) (ci := 6) (v := .ref z9) (C := RX6) (T := TX6) (N := 14) hx hb hts inX6 hown hK hP (hLK _ ha0 (by decide)) o30 rfl 3 (by decide) (hts _ T_170) (fun _ h9 => h9) rfl dX6_has_97 ?_
            obtain ⟨z47, z49, z51, z53, z55, z57, z58, o59, h48, h50, h52, h54, h56, -⟩ := s_op3 hI h10
            refine th_getN (D := (dC, dI)) (ci := 2) (v := .int z55) (C := RX2) (T := TX2) (N := 7) hx hb hts inX2 hown hK hP (hLK _ h10 (by decide)) o59 rfl 4 (by decide) (va_Nw.use rfl (ax_n55 hN)) (fun _ h9 => h9) rfl dX6_has_100 ?_
            exact W.iret (v := z55) hx hb hr (fun t ht hW => ⟨⟨z55, F, rfl, ⟨trivial, trivial, hI, hfr⟩, by rw [ht]; exact hP, va_K.moved hW.alike hK⟩, hS.F ht⟩) hS.2.2 dX6_has_103
          · have c46 := mt (ax_eq (n := 1) (by decide)).mpr c46
            by_cases c60 : x1 = 2
            · refine ax_eqi c60 ?_
              refine lv_tableIn (off := 82) (tgt := 104) hx hb dX6_has_22 (by decide) (by decide) (by decide) (by decide) ?_
              have c60 := (ax_eq (n := 2) (by decide)).mp c60
              refine lv_aload_n hx hb dX6_has_104 rfl (lv_at hl 0 rfl) ?_
              refine th_get (D := (dC, dI)) (ci := 6) (v := .ref z14) (C := RX6) (T := TX6) (N := 14) hx hb hts inX6 hown hK hP (hLK _ ha0 (by decide)) o30 rfl 6 (by decide) (hts _ T_174) (fun _ h9 => h9) rfl dX6_has_105 ?_
              obtain ⟨z61, z63, z65, z67, z69, z71, z73, z75, z77, z79, z81, z83, z84, z86, z87, o89, h62, h64, h66, h68, h70, h72, h74, h76, h78, h80, h82, h85, h88, -⟩ := s_op5 hI h15
              refine th_getN (D := (dC, dI)) (ci := 4) (v := .int z83) (C := RX4) (T := TX4) (N := 15) hx hb hts inX4 hown hK hP (hLK _ h15 (by decide)) o89 rfl 11 (by decide) (va_Nw.use rfl (ax_n59 hN)) (fun _ h9 => h9) rfl dX6_has_108 ?_
              exact W.iret (v := z83) hx hb hr (fun t ht hW => ⟨⟨z83, F, rfl, ⟨trivial, trivial, hI, hfr⟩, by rw [ht]; exact hP, va_K.moved hW.alike hK⟩, hS.F ht⟩) hS.2.2 dX6_has_111
            · have c60 := mt (ax_eq (n := 2) (by decide)).mpr c60
              by_cases c90 : x1 = 3
              · refine ax_eqi c90 ?_
                refine lv_tableIn (off := 90) (tgt := 112) hx hb dX6_has_22 (by decide) (by decide) (by decide) (by decide) ?_
                have c90 := (ax_eq (n := 3) (by decide)).mp c90
                refine lv_aload_n hx hb dX6_has_112 rfl (lv_at hl 0 rfl) ?_
                refine th_get (D := (dC, dI)) (ci := 6) (v := .ref z14) (C := RX6) (T := TX6) (N := 14) hx hb hts inX6 hown hK hP (hLK _ ha0 (by decide)) o30 rfl 6 (by decide) (hts _ T_174) (fun _ h9 => h9) rfl dX6_has_113 ?_
                obtain ⟨z91, z93, z95, z97, z99, z101, z103, z105, z107, z109, z111, z113, z114, z116, z117, o119, h92, h94, h96, h98, h100, h102, h104, h106, h108, h110, h112, h115, h118, -⟩ := s_op5 hI h15
                refine th_getN (D := (dC, dI)) (ci := 4) (v := .int z114) (C := RX4) (T := TX4) (N := 15) hx hb hts inX4 hown hK hP (hLK _ h15 (by decide)) o119 rfl 12 (by decide) (va_Nw.use rfl (ax_n12 hN)) (fun _ h9 => h9) rfl dX6_has_116 ?_
                exact W.iret (v := z114) hx hb hr (fun t ht hW => ⟨⟨z114, F, rfl, ⟨trivial, trivial, hI, hfr⟩, by rw [ht]; exact hP, va_K.moved hW.alike hK⟩, hS.F ht⟩) hS.2.2 dX6_has_119
              · have c90 := mt (ax_eq (n := 3) (by decide)).mpr c90
                by_cases c120 : x1 = 4
                · refine ax_eqi c120 ?_
                  refine lv_tableIn (off := 98) (tgt := 120) hx hb dX6_has_22 (by decide) (by decide) (by decide) (by decide) ?_
                  have c120 := (ax_eq (n := 4) (by decide)).mp c120
                  refine lv_aload_n hx hb dX6_has_120 rfl (lv_at hl 0 rfl) ?_
                  refine th_get (D := (dC, dI)) (ci := 6) (v := .ref z14) (C := RX6) (T := TX6) (N := 14) hx hb hts inX6 hown hK hP (hLK _ ha0 (by decide)) o30 rfl 6 (by decide) (hts _ T_174) (fun _ h9 => h9) rfl dX6_has_121 ?_
                  obtain ⟨z121, z123, z125, z127, z129, z131, z133, z135, z137, z139, z141, z143, z144, z146, z147, o149, h122, h124, h126, h128, h130, h132, h134, h136, h138, h140, h142, h145, h148, -⟩ := s_op5 hI h15
                  refine va_calli (va_runV (As := []) (rest := []) ⟨hx, hb, hml, hown, hts⟩ (s_X4_living l dC dI H.size hLK D F z14 h15 hI) (cwV 0 hts (ax_gV T_937 T_939 T_940 T_142 T_938) rfl rfl rfl (by decide +kernel) ⟨Nat.le_of_ble_eq_true rfl, Nat.le_of_ble_eq_true rfl⟩) ⟨fun a U g mk q => ⟨q.1, s_pc (U := U) rfl rfl q.2⟩, s_recv hK hP (hLK _ h15 (by decide)) (ci := 4) rfl o149, fun U hU hW => ⟨rfl, s_pw hU hW hP hK hD hN⟩⟩ rfl rfl hl.1 rfl (lv_room (Nat.le_of_ble_eq_true rfl)) dX6_has_124 ⟨Nat.zero_le _, Nat.zero_le _⟩) hS (fun q _ h => h) (fun q h => h) (fun r150 F151 t H1 locs ht hvm hw hB hz1 hk1 hS => ?_)
                  obtain ⟨hP, hK1⟩ := hB
                  rw [ht] at hP
                  generalize H1 = H at hP hS ⊢
                  clear hz1 hk1
                  obtain ⟨h152, h153, hI, hfr1⟩ := hw
                  have o154 : F151 a0 = .inr (6, [.ref z3, .int z5, .ref z7, .ref z9, .ref z11, .int z13, .ref z14, .ref z16, .int z18, .int z20, .ref z22, .ref z24, .ref z26, .long z28]) := (hfr1 _ (by rw [ha0]; decide)).trans o30
                  have o155 : F151 z14 = .inr (4, [.ref z121, .ref z123, .ref z125, .ref z127, .ref z129, .ref z131, .ref z133, .int z135, .int z137, .int z139, .int z141, .int z143, .int z144, .int z146, .int z147]) := (hfr1 _ (by rw [h15]; decide)).trans o149
                  have hfr : ∀ b, K b ∉ ([] : List Nat) → F151 b = F b := fun b hb9 => (hfr1 b (fun q => hb9 (s_sub (by decide) q))).trans (hfr b hb9)
                  exact W.iret (v := r150) hx hb hr (fun t ht hW => ⟨⟨r150, F151, rfl, ⟨trivial, trivial, hI, hfr⟩, by rw [ht]; exact hP, va_K.moved hW.alike hK⟩, hS.F ht⟩) hS.2.2 dX6_has_127
                · have c120 := mt (ax_eq (n := 4) (by decide)).mpr c120
                  by_cases c156 : x1 = 5
                  · refine ax_eqi c156 ?_
                    refine lv_tableIn (off := 106) (tgt := 128) hx hb dX6_has_22 (by decide) (by decide) (by decide) (by decide) ?_
                    have c156 := (ax_eq (n := 5) (by decide)).mp c156
                    refine lv_aload_n hx hb dX6_has_128 rfl (lv_at hl 0 rfl) ?_
                    refine th_get (D := (dC, dI)) (ci := 6) (v := .ref z14) (C := RX6) (T := TX6) (N := 14) hx hb hts inX6 hown hK hP (hLK _ ha0 (by decide)) o30 rfl 6 (by decide) (hts _ T_174) (fun _ h9 => h9) rfl dX6_has_129 ?_
                    obtain ⟨z157, z159, z161, z163, z165, z167, z169, z171, z173, z175, z177, z179, z180, z182, z183, o185, h158, h160, h162, h164, h166, h168, h170, h172, h174, h176, h178, h181, h184, -⟩ := s_op5 hI h15
                    refine va_calli (va_runV (As := []) (rest := []) ⟨hx, hb, hml, hown, hts⟩ (s_X4_waiting l dC dI H.size hLK D F z14 h15 hI) (cwV 0 hts (ax_gV T_941 T_943 T_944 T_142 T_942) rfl rfl rfl (by decide +kernel) ⟨Nat.le_of_ble_eq_true rfl, Nat.le_of_ble_eq_true rfl⟩) ⟨fun a U g mk q => ⟨q.1, s_pc (U := U) rfl rfl q.2⟩, s_recv hK hP (hLK _ h15 (by decide)) (ci := 4) rfl o185, fun U hU hW => ⟨rfl, s_pw hU hW hP hK hD hN⟩⟩ rfl rfl hl.1 rfl (lv_room (Nat.le_of_ble_eq_true rfl)) dX6_has_132 ⟨Nat.zero_le _, Nat.zero_le _⟩) hS (fun q _ h => h) (fun q h => h) (fun r186 F187 t H1 locs ht hvm hw hB hz1 hk1 hS => ?_)
                    obtain ⟨hP, hK1⟩ := hB
                    rw [ht] at hP
                    generalize H1 = H at hP hS ⊢
                    clear hz1 hk1
                    obtain ⟨h188, h189, hI, hfr1⟩ := hw
                    have o190 : F187 a0 = .inr (6, [.ref z3, .int z5, .ref z7, .ref z9, .ref z11, .int z13, .ref z14, .ref z16, .int z18, .int z20, .ref z22, .ref z24, .ref z26, .long z28]) := (hfr1 _ (by rw [ha0]; decide)).trans o30
                    have o191 : F187 z14 = .inr (4, [.ref z157, .ref z159, .ref z161, .ref z163, .ref z165, .ref z167, .ref z169, .int z171, .int z173, .int z175, .int z177, .int z179, .int z180, .int z182, .int z183]) := (hfr1 _ (by rw [h15]; decide)).trans o185
                    have hfr : ∀ b, K b ∉ ([] : List Nat) → F187 b = F b := fun b hb9 => (hfr1 b (fun q => hb9 (s_sub (by decide) q))).trans (hfr b hb9)
                    exact W.iret (v := r186) hx hb hr (fun t ht hW => ⟨⟨r186, F187, rfl, ⟨trivial, trivial, hI, hfr⟩, by rw [ht]; exact hP, va_K.moved hW.alike hK⟩, hS.F ht⟩) hS.2.2 dX6_has_135
                  · have c156 := mt (ax_eq (n := 5) (by decide)).mpr c156
                    by_cases c192 : x1 = 6
                    · refine ax_eqi c192 ?_
                      refine lv_tableIn (off := 114) (tgt := 136) hx hb dX6_has_22 (by decide) (by decide) (by decide) (by decide) ?_
                      have c192 := (ax_eq (n := 6) (by decide)).mp c192
                      refine lv_aload_n hx hb dX6_has_136 rfl (lv_at hl 0 rfl) ?_
                      refine th_get (D := (dC, dI)) (ci := 6) (v := .ref z14) (C := RX6) (T := TX6) (N := 14) hx hb hts inX6 hown hK hP (hLK _ ha0 (by decide)) o30 rfl 6 (by decide) (hts _ T_174) (fun _ h9 => h9) rfl dX6_has_137 ?_
                      obtain ⟨z193, z195, z197, z199, z201, z203, z205, z207, z209, z211, z213, z215, z216, z218, z219, o221, h194, h196, h198, h200, h202, h204, h206, h208, h210, h212, h214, h217, h220, -⟩ := s_op5 hI h15
                      refine va_calli (va_runV (As := []) (rest := []) ⟨hx, hb, hml, hown, hts⟩ (s_X4_racedWords l dC dI H.size hLK D F z14 h15 hI) (cwV 0 hts (ax_gV T_945 T_947 T_948 T_142 T_946) rfl rfl rfl (by decide +kernel) ⟨Nat.le_of_ble_eq_true rfl, Nat.le_of_ble_eq_true rfl⟩) ⟨fun a U g mk q => ⟨q.1, s_pc (U := U) rfl rfl q.2⟩, s_recv hK hP (hLK _ h15 (by decide)) (ci := 4) rfl o221, fun U hU hW => ⟨rfl, s_pw hU hW hP hK hD hN⟩⟩ rfl rfl hl.1 rfl (lv_room (Nat.le_of_ble_eq_true rfl)) dX6_has_140 ⟨Nat.zero_le _, Nat.zero_le _⟩) hS (fun q _ h => h) (fun q h => h) (fun r222 F223 t H1 locs ht hvm hw hB hz1 hk1 hS => ?_)
                      obtain ⟨hP, hK1⟩ := hB
                      rw [ht] at hP
                      generalize H1 = H at hP hS ⊢
                      clear hz1 hk1
                      obtain ⟨h224, h225, hI, hfr1⟩ := hw
                      have o226 : F223 a0 = .inr (6, [.ref z3, .int z5, .ref z7, .ref z9, .ref z11, .int z13, .ref z14, .ref z16, .int z18, .int z20, .ref z22, .ref z24, .ref z26, .long z28]) := (hfr1 _ (by rw [ha0]; decide)).trans o30
                      have o227 : F223 z14 = .inr (4, [.ref z193, .ref z195, .ref z197, .ref z199, .ref z201, .ref z203, .ref z205, .int z207, .int z209, .int z211, .int z213, .int z215, .int z216, .int z218, .int z219]) := (hfr1 _ (by rw [h15]; decide)).trans o221
                      have hfr : ∀ b, K b ∉ ([] : List Nat) → F223 b = F b := fun b hb9 => (hfr1 b (fun q => hb9 (s_sub (by decide) q))).trans (hfr b hb9)
                      exact W.iret (v := r222) hx hb hr (fun t ht hW => ⟨⟨r222, F223, rfl, ⟨trivial, trivial, hI, hfr⟩, by rw [ht]; exact hP, va_K.moved hW.alike hK⟩, hS.F ht⟩) hS.2.2 dX6_has_143
                    · have c192 := mt (ax_eq (n := 6) (by decide)).mpr c192
                      by_cases c228 : x1 = 7
                      · refine ax_eqi c228 ?_
                        refine lv_tableIn (off := 122) (tgt := 144) hx hb dX6_has_22 (by decide) (by decide) (by decide) (by decide) ?_
                        have c228 := (ax_eq (n := 7) (by decide)).mp c228
                        refine lv_aload_n hx hb dX6_has_144 rfl (lv_at hl 0 rfl) ?_
                        refine th_get (D := (dC, dI)) (ci := 6) (v := .ref z14) (C := RX6) (T := TX6) (N := 14) hx hb hts inX6 hown hK hP (hLK _ ha0 (by decide)) o30 rfl 6 (by decide) (hts _ T_174) (fun _ h9 => h9) rfl dX6_has_145 ?_
                        obtain ⟨z229, z231, z233, z235, z237, z239, z241, z243, z245, z247, z249, z251, z252, z254, z255, o257, h230, h232, h234, h236, h238, h240, h242, h244, h246, h248, h250, h253, h256, -⟩ := s_op5 hI h15
                        refine th_getN (D := (dC, dI)) (ci := 4) (v := .int z252) (C := RX4) (T := TX4) (N := 15) hx hb hts inX4 hown hK hP (hLK _ h15 (by decide)) o257 rfl 12 (by decide) (va_Nw.use rfl (ax_n12 hN)) (fun _ h9 => h9) rfl dX6_has_148 ?_
                        refine lv_bipush (v := 30) hx hb dX6_has_151 (by decide) ?_
                        refine va_mmin hx hb (by rw [hml]; exact hl.1.symm) hown (hts _ T_235) (hts _ T_236) (hts _ T_237) (hts _ T_19) (Nat.le_of_ble_eq_true rfl) (Nat.le_of_ble_eq_true rfl) (Nat.zero_le _) (Nat.zero_le _) dX6_has_153 ?_
                        refine lv_topi (fun v258 ev258 => ?_)
                        have qv258 := th_mmin (a := z252.toInt) (b := 30) ev258 rfl (by decide)
                        exact W.iret (v := v258) hx hb hr (fun t ht hW => ⟨⟨v258, F, rfl, ⟨trivial, trivial, hI, hfr⟩, by rw [ht]; exact hP, va_K.moved hW.alike hK⟩, hS.F ht⟩) hS.2.2 dX6_has_156
                      · have c228 := mt (ax_eq (n := 7) (by decide)).mpr c228
                        by_cases c259 : x1 = 8
                        · refine ax_eqi c259 ?_
                          refine lv_tableIn (off := 135) (tgt := 157) hx hb dX6_has_22 (by decide) (by decide) (by decide) (by decide) ?_
                          have c259 := (ax_eq (n := 8) (by decide)).mp c259
                          refine lv_aload_n hx hb dX6_has_157 rfl (lv_at hl 0 rfl) ?_
                          refine th_get (D := (dC, dI)) (ci := 6) (v := .int z20) (C := RX6) (T := TX6) (N := 14) hx hb hts inX6 hown hK hP (hLK _ ha0 (by decide)) o30 rfl 9 (by decide) (hts _ T_238) (fun _ h9 => h9) rfl dX6_has_158 ?_
                          exact W.iret (v := z20) hx hb hr (fun t ht hW => ⟨⟨z20, F, rfl, ⟨trivial, trivial, hI, hfr⟩, by rw [ht]; exact hP, va_K.moved hW.alike hK⟩, hS.F ht⟩) hS.2.2 dX6_has_161
                        · have c259 := mt (ax_eq (n := 8) (by decide)).mpr c259
                          by_cases c260 : x1 = 9
                          · refine ax_eqi c260 ?_
                            refine lv_tableIn (off := 140) (tgt := 162) hx hb dX6_has_22 (by decide) (by decide) (by decide) (by decide) ?_
                            have c260 := (ax_eq (n := 9) (by decide)).mp c260
                            refine lv_aload_n hx hb dX6_has_162 rfl (lv_at hl 0 rfl) ?_
                            refine th_get (D := (dC, dI)) (ci := 6) (v := .ref z14) (C := RX6) (T := TX6) (N := 14) hx hb hts inX6 hown hK hP (hLK _ ha0 (by decide)) o30 rfl 6 (by decide) (hts _ T_174) (fun _ h9 => h9) rfl dX6_has_163 ?_
                            obtain ⟨z261, z263, z265, z267, z269, z271, z273, z275, z277, z279, z281, z283, z284, z286, z287, o289, h262, h264, h266, h268, h270, h272, h274, h276, h278, h280, h282, h285, h288, -⟩ := s_op5 hI h15
                            refine th_getN (D := (dC, dI)) (ci := 4) (v := .int z286) (C := RX4) (T := TX4) (N := 15) hx hb hts inX4 hown hK hP (hLK _ h15 (by decide)) o289 rfl 13 (by decide) (va_Nw.use rfl (ax_n61 hN)) (fun _ h9 => h9) rfl dX6_has_166 ?_
                            exact W.iret (v := z286) hx hb hr (fun t ht hW => ⟨⟨z286, F, rfl, ⟨trivial, trivial, hI, hfr⟩, by rw [ht]; exact hP, va_K.moved hW.alike hK⟩, hS.F ht⟩) hS.2.2 dX6_has_169
                          · have c260 := mt (ax_eq (n := 9) (by decide)).mpr c260
                            by_cases c290 : x1 = 10
                            · refine ax_eqi c290 ?_
                              refine lv_tableIn (off := 148) (tgt := 170) hx hb dX6_has_22 (by decide) (by decide) (by decide) (by decide) ?_
                              have c290 := (ax_eq (n := 10) (by decide)).mp c290
                              refine lv_aload_n hx hb dX6_has_170 rfl (lv_at hl 0 rfl) ?_
                              refine th_get (D := (dC, dI)) (ci := 6) (v := .ref z14) (C := RX6) (T := TX6) (N := 14) hx hb hts inX6 hown hK hP (hLK _ ha0 (by decide)) o30 rfl 6 (by decide) (hts _ T_174) (fun _ h9 => h9) rfl dX6_has_171 ?_
                              obtain ⟨z291, z293, z295, z297, z299, z301, z303, z305, z307, z309, z311, z313, z314, z316, z317, o319, h292, h294, h296, h298, h300, h302, h304, h306, h308, h310, h312, h315, h318, -⟩ := s_op5 hI h15
                              refine th_getN (D := (dC, dI)) (ci := 4) (v := .int z307) (C := RX4) (T := TX4) (N := 15) hx hb hts inX4 hown hK hP (hLK _ h15 (by decide)) o319 rfl 8 (by decide) (va_Nw.use rfl (ax_n52 hN)) (fun _ h9 => h9) rfl dX6_has_174 ?_
                              exact W.iret (v := z307) hx hb hr (fun t ht hW => ⟨⟨z307, F, rfl, ⟨trivial, trivial, hI, hfr⟩, by rw [ht]; exact hP, va_K.moved hW.alike hK⟩, hS.F ht⟩) hS.2.2 dX6_has_177
                            · have c290 := mt (ax_eq (n := 10) (by decide)).mpr c290
                              by_cases c320 : x1 = 11
                              · refine ax_eqi c320 ?_
                                refine lv_tableIn (off := 156) (tgt := 178) hx hb dX6_has_22 (by decide) (by decide) (by decide) (by decide) ?_
                                have c320 := (ax_eq (n := 11) (by decide)).mp c320
                                refine lv_aload_n hx hb dX6_has_178 rfl (lv_at hl 0 rfl) ?_
                                refine th_get (D := (dC, dI)) (ci := 6) (v := .ref z14) (C := RX6) (T := TX6) (N := 14) hx hb hts inX6 hown hK hP (hLK _ ha0 (by decide)) o30 rfl 6 (by decide) (hts _ T_174) (fun _ h9 => h9) rfl dX6_has_179 ?_
                                obtain ⟨z321, z323, z325, z327, z329, z331, z333, z335, z337, z339, z341, z343, z344, z346, z347, o349, h322, h324, h326, h328, h330, h332, h334, h336, h338, h340, h342, h345, h348, -⟩ := s_op5 hI h15
                                refine th_getN (D := (dC, dI)) (ci := 4) (v := .int z339) (C := RX4) (T := TX4) (N := 15) hx hb hts inX4 hown hK hP (hLK _ h15 (by decide)) o349 rfl 9 (by decide) (va_Nw.use rfl (ax_n53 hN)) (fun _ h9 => h9) rfl dX6_has_182 ?_
                                exact W.iret (v := z339) hx hb hr (fun t ht hW => ⟨⟨z339, F, rfl, ⟨trivial, trivial, hI, hfr⟩, by rw [ht]; exact hP, va_K.moved hW.alike hK⟩, hS.F ht⟩) hS.2.2 dX6_has_185
                              · have c320 := mt (ax_eq (n := 11) (by decide)).mpr c320
                                by_cases c350 : x1 = 12
                                · refine ax_eqi c350 ?_
                                  refine lv_tableIn (off := 164) (tgt := 186) hx hb dX6_has_22 (by decide) (by decide) (by decide) (by decide) ?_
                                  have c350 := (ax_eq (n := 12) (by decide)).mp c350
                                  refine lv_aload_n hx hb dX6_has_186 rfl (lv_at hl 0 rfl) ?_
                                  refine th_get (D := (dC, dI)) (ci := 6) (v := .ref z14) (C := RX6) (T := TX6) (N := 14) hx hb hts inX6 hown hK hP (hLK _ ha0 (by decide)) o30 rfl 6 (by decide) (hts _ T_174) (fun _ h9 => h9) rfl dX6_has_187 ?_
                                  obtain ⟨z351, z353, z355, z357, z359, z361, z363, z365, z367, z369, z371, z373, z374, z376, z377, o379, h352, h354, h356, h358, h360, h362, h364, h366, h368, h370, h372, h375, h378, -⟩ := s_op5 hI h15
                                  refine th_getN (D := (dC, dI)) (ci := 4) (v := .int z371) (C := RX4) (T := TX4) (N := 15) hx hb hts inX4 hown hK hP (hLK _ h15 (by decide)) o379 rfl 10 (by decide) (va_Nw.use rfl (ax_n54 hN)) (fun _ h9 => h9) rfl dX6_has_190 ?_
                                  exact W.iret (v := z371) hx hb hr (fun t ht hW => ⟨⟨z371, F, rfl, ⟨trivial, trivial, hI, hfr⟩, by rw [ht]; exact hP, va_K.moved hW.alike hK⟩, hS.F ht⟩) hS.2.2 dX6_has_193
                                · have c350 := mt (ax_eq (n := 12) (by decide)).mpr c350
                                  refine lv_tableOut (tgt := 194) hx hb dX6_has_22 (by omega) (by decide) ?_
                                  refine lv_aload_n hx hb dX6_has_194 rfl (lv_at hl 0 rfl) ?_
                                  refine th_get (D := (dC, dI)) (ci := 6) (v := .ref z14) (C := RX6) (T := TX6) (N := 14) hx hb hts inX6 hown hK hP (hLK _ ha0 (by decide)) o30 rfl 6 (by decide) (hts _ T_174) (fun _ h9 => h9) rfl dX6_has_195 ?_
                                  obtain ⟨z380, z382, z384, z386, z388, z390, z392, z394, z396, z398, z400, z402, z403, z405, z406, o408, h381, h383, h385, h387, h389, h391, h393, h395, h397, h399, h401, h404, h407, -⟩ := s_op5 hI h15
                                  refine th_getN (D := (dC, dI)) (ci := 4) (v := .int z406) (C := RX4) (T := TX4) (N := 15) hx hb hts inX4 hown hK hP (hLK _ h15 (by decide)) o408 rfl 14 (by decide) (va_Nw.use rfl (ax_n62 hN)) (fun _ h9 => h9) rfl dX6_has_198 ?_
                                  refine lv_iconst (v := 0) hx hb dX6_has_201 (by decide) ?_
                                  refine va_mmax hx hb (by rw [hml]; exact hl.1.symm) hown (hts _ T_949) (hts _ T_609) (hts _ T_237) (hts _ T_610) (Nat.le_of_ble_eq_true rfl) (Nat.le_of_ble_eq_true rfl) (Nat.zero_le _) (Nat.zero_le _) dX6_has_202 ?_
                                  refine lv_topi (fun v409 ev409 => ?_)
                                  have qv409 := th_mmax (a := z406.toInt) (b := 0) ev409 rfl (by decide)
                                  exact W.iret (v := v409) hx hb hr (fun t ht hW => ⟨⟨v409, F, rfl, ⟨trivial, trivial, hI, hfr⟩, by rw [ht]; exact hP, va_K.moved hW.alike hK⟩, hS.F ht⟩) hS.2.2 dX6_has_205
      · have c31 := (ax_eq (n := 0) (by decide)).mp c31
        refine lv_iconst (v := 0) hx hb dX6_has_19 (by decide) ?_
        exact W.iret (v := 0) hx hb hr (fun t ht hW => ⟨⟨0, F, rfl, ⟨trivial, trivial, hI, hfr⟩, by rw [ht]; exact hP, va_K.moved hW.alike hK⟩, hS.F ht⟩) hS.2.2 dX6_has_20
    · have c2 := mt (ax_le (n := 13) (by decide)).mpr c2
      refine lv_iconst (v := (-1)) hx hb dX6_has_10 (by decide) ?_
      exact W.iret (v := (-1)) hx hb hr (fun t ht hW => ⟨⟨(-1), F, rfl, ⟨trivial, trivial, hI, hfr⟩, by rw [ht]; exact hP, va_K.moved hW.alike hK⟩, hS.F ht⟩) hS.2.2 dX6_has_11

set_option maxHeartbeats 4000000 in
set_option maxRecDepth 100000 in
theorem s_X6_line (l : Launch) (dC : Nat → ClassId) (dI : Nat → Nat → Nat) (sz : Nat) {L : List Nat} {K : Nat → Nat} {cs : Nat → ClassId} (hLK : ∀ a {k : Nat}, K a = k → k ≠ 0 → a ∈ L) (D : Nat) (F : Nat → va_E) (a0 : Nat) (x1 : Int32) (x2 : Int32) (ha0 : K a0 = 7) (hI : s_I K cs D F) : Met l yX6_line (Cond.code yX6_line cX6_line 3 (some .int) :: T0) ({ frames := 0, cells := 0, slots := 0, locals := 0 }) (va_Pc [.ref a0, .int x1, .int x2] (s_W dC dI sz L F [(cs 0, .int), (cs 1, .byte), (cs 2, .long), (cs 3, .object RX5), (cs 4, .object RX4), (cs 5, .array .int), (cs 6, .char), (cs 7, .boolean)])) (va_Qi (fun (r : Int32) (G : Nat → va_E) => True ∧ True ∧ s_I K cs D G ∧ ∀ b, K b ∉ ([] : List Nat) → G b = F b) (fun (G : Nat → va_E) (t : State) => va_P (dC, dI) vwCl (va_pl L G) t.heap ∧ va_K (dC, dI) vwCl [(cs 0, .int), (cs 1, .byte), (cs 2, .long), (cs 3, .object RX5), (cs 4, .object RX4), (cs 5, .array .int), (cs 6, .char), (cs 7, .boolean)] t) (fun q => q ∈ L)) 0 0 (fun q => q ∈ L) := by
  refine Met.ofW (cc := cX6_line) (maxL := 3) (ret := (some .int)) (by decide) rfl ?_
  intro p e s m args below meth c s₁ B hml hv
  obtain ⟨rfl, hsz, hP, hK, hD, hN⟩ := hv
  have hx := B.exec
  have hb := B.bytes
  have hr := B.returns
  have hts : ∀ w ∈ T0, w.before _ s = true := fun w h => atoms_spec (ws := Cond.code yX6_line cX6_line 3 (some .int) :: T0) B.pre w (List.mem_cons_of_mem _ h)
  have hown : s.vm.findClass RX6 = some m.cls := findClass_of_methodNamed B.named
  have hlocks := B.notSynchronized
  have hS : va_S (fun q => q ∈ L) s.heap s.heap [] := va_S.rf
  have hfr : ∀ b, K b ∉ ([] : List Nat) → F b = F b := fun _ _ => rfl
  have hl := lv_entry ([.ref a0, .int x1, .int x2]) (n := 3) (Nat.le_of_ble_eq_true rfl)
  rw [lg_entry_eq]
  generalize (lg_sl ([.ref a0, .int x1, .int x2]) ++ List.replicate (3 - (lg_sl ([.ref a0, .int x1, .int x2])).length) Slot.unset).toArray = ls at hl ⊢
  have hl : lv_has ls 3 [(0, .ref a0), (1, .int x1), (2, .int x2)] := hl
  refine s_gen hP hS (fun H locs hP hS => ?_)
  refine lv_aload_n hx hb dX6_line_0 rfl (lv_at hl 0 rfl) ?_
  obtain ⟨z1, z3, z5, z7, z9, z11, z12, z14, z16, z18, z20, z22, z24, z26, o28, h2, h4, h6, h8, h10, h13, h15, h17, h19, h21, h23, h25, h27, -⟩ := s_op7 hI ha0
  refine th_get (D := (dC, dI)) (ci := 6) (v := .int z11) (C := RX6) (T := TX6) (N := 14) hx hb hts inX6 hown hK hP (hLK _ ha0 (by decide)) o28 rfl 5 (by decide) (hts _ T_224) (fun _ h9 => h9) rfl dX6_line_1 ?_
  refine lv_if_eq (tgt := 32) hx hb dX6_line_4 (by decide) (fun c29 => ?_) (fun c29 => ?_)
  · have c29 := (ax_eq (n := 0) (by decide)).mp c29
    refine lv_ldc (v := (-1000000)) hx hb hown (hts _ T_228) dX6_line_32 ?_
    exact W.iret (v := (-1000000)) hx hb hr (fun t ht hW => ⟨⟨(-1000000), F, rfl, ⟨trivial, trivial, hI, hfr⟩, by rw [ht]; exact hP, va_K.moved hW.alike hK⟩, hS.F ht⟩) hS.2.2 dX6_line_34
  · have c29 := mt (ax_eq (n := 0) (by decide)).mpr c29
    refine lv_iload_n hx hb dX6_line_7 rfl (lv_at hl 1 rfl) ?_
    refine lv_if_lt (tgt := 32) hx hb dX6_line_8 (by decide) (fun c30 => ?_) (fun c30 => ?_)
    · have c30 := (ax_lt (n := 0) (by decide)).mp c30
      refine lv_ldc (v := (-1000000)) hx hb hown (hts _ T_228) dX6_line_32 ?_
      exact W.iret (v := (-1000000)) hx hb hr (fun t ht hW => ⟨⟨(-1000000), F, rfl, ⟨trivial, trivial, hI, hfr⟩, by rw [ht]; exact hP, va_K.moved hW.alike hK⟩, hS.F ht⟩) hS.2.2 dX6_line_34
    · have c30 := mt (ax_lt (n := 0) (by decide)).mpr c30
      refine lv_iload_n hx hb dX6_line_11 rfl (lv_at hl 1 rfl) ?_
      refine lv_aload_n hx hb dX6_line_12 rfl (lv_at hl 0 rfl) ?_
      refine th_get (D := (dC, dI)) (ci := 6) (v := .ref z7) (C := RX6) (T := TX6) (N := 14) hx hb hts inX6 hown hK hP (hLK _ ha0 (by decide)) o28 rfl 3 (by decide) (hts _ T_170) (fun _ h9 => h9) rfl dX6_line_13 ?_
      obtain ⟨z31, z33, z35, z37, z39, z41, z42, o43, h32, h34, h36, h38, h40, -⟩ := s_op3 hI h8
      refine th_getN (D := (dC, dI)) (ci := 2) (v := .int z37) (C := RX2) (T := TX2) (N := 7) hx hb hts inX2 hown hK hP (hLK _ h8 (by decide)) o43 rfl 3 (by decide) (va_Nw.use rfl (ax_n60 hN)) (fun _ h9 => h9) rfl dX6_line_16 ?_
      refine lv_icmp_ge (tgt := 32) hx hb dX6_line_19 (by decide) (fun c44 => ?_) (fun c44 => ?_)
      · have c44 := Int32.le_iff_toInt_le.mp c44
        refine lv_ldc (v := (-1000000)) hx hb hown (hts _ T_228) dX6_line_32 ?_
        exact W.iret (v := (-1000000)) hx hb hr (fun t ht hW => ⟨⟨(-1000000), F, rfl, ⟨trivial, trivial, hI, hfr⟩, by rw [ht]; exact hP, va_K.moved hW.alike hK⟩, hS.F ht⟩) hS.2.2 dX6_line_34
      · have c44 := mt Int32.le_iff_toInt_le.mpr c44
        refine lv_iload_n hx hb dX6_line_22 rfl (lv_at hl 2 rfl) ?_
        refine lv_if_lt (tgt := 32) hx hb dX6_line_23 (by decide) (fun c45 => ?_) (fun c45 => ?_)
        · have c45 := (ax_lt (n := 0) (by decide)).mp c45
          refine lv_ldc (v := (-1000000)) hx hb hown (hts _ T_228) dX6_line_32 ?_
          exact W.iret (v := (-1000000)) hx hb hr (fun t ht hW => ⟨⟨(-1000000), F, rfl, ⟨trivial, trivial, hI, hfr⟩, by rw [ht]; exact hP, va_K.moved hW.alike hK⟩, hS.F ht⟩) hS.2.2 dX6_line_34
        · have c45 := mt (ax_lt (n := 0) (by decide)).mpr c45
          refine lv_iload_n hx hb dX6_line_26 rfl (lv_at hl 2 rfl) ?_
          refine lv_bipush (v := 7) hx hb dX6_line_27 (by decide) ?_
          refine lv_icmp_lt (tgt := 35) hx hb dX6_line_29 (by decide) (fun c46 => ?_) (fun c46 => ?_)
          · have c46 := (ax_lt (n := 7) (by decide)).mp c46
            refine lv_aload_n hx hb dX6_line_35 rfl (lv_at hl 0 rfl) ?_
            refine th_get (D := (dC, dI)) (ci := 6) (v := .ref z7) (C := RX6) (T := TX6) (N := 14) hx hb hts inX6 hown hK hP (hLK _ ha0 (by decide)) o28 rfl 3 (by decide) (hts _ T_170) (fun _ h9 => h9) rfl dX6_line_36 ?_
            refine th_getN (D := (dC, dI)) (ci := 2) (v := .ref z31) (C := RX2) (T := TX2) (N := 7) hx hb hts inX2 hown hK hP (hLK _ h8 (by decide)) o43 rfl 0 (by decide) (va_Nw.use rfl (ax_n66 hN)) (fun _ h9 => h9) rfl dX6_line_39 ?_
            refine lv_iload_n hx hb dX6_line_42 rfl (lv_at hl 1 rfl) ?_
            obtain ⟨f47, o48, h49⟩ := s_op22 hI h32
            obtain ⟨z50, o52, h51⟩ := h49 (x1 : Int32).toNatClampNeg (th_cl ⟨by omega, by omega⟩)
            refine th_aaldA hx hb hK hP (hLK _ h32 (by decide)) 5 o48 rfl (th_in ⟨by omega, by omega⟩) o52 dX6_line_43 ?_
            refine lv_iload_n hx hb dX6_line_44 rfl (lv_at hl 2 rfl) ?_
            obtain ⟨f53, o54, h55⟩ := s_op23 hI h51
            refine th_iald hx hb hK hP (hLK _ h51 (by decide)) 0 o54 rfl (th_in ⟨by omega, by omega⟩) dX6_line_45 ?_
            refine lv_topi (fun v56 ev56 => ?_)
            exact W.iret (v := v56) hx hb hr (fun t ht hW => ⟨⟨v56, F, rfl, ⟨trivial, trivial, hI, hfr⟩, by rw [ht]; exact hP, va_K.moved hW.alike hK⟩, hS.F ht⟩) hS.2.2 dX6_line_46
          · have c46 := mt (ax_lt (n := 7) (by decide)).mpr c46
            refine lv_ldc (v := (-1000000)) hx hb hown (hts _ T_228) dX6_line_32 ?_
            exact W.iret (v := (-1000000)) hx hb hr (fun t ht hW => ⟨⟨(-1000000), F, rfl, ⟨trivial, trivial, hI, hfr⟩, by rw [ht]; exact hP, va_K.moved hW.alike hK⟩, hS.F ht⟩) hS.2.2 dX6_line_34

set_option maxHeartbeats 4000000 in
set_option maxRecDepth 100000 in
theorem s_X6_lane (l : Launch) (dC : Nat → ClassId) (dI : Nat → Nat → Nat) (sz : Nat) {L : List Nat} {K : Nat → Nat} {cs : Nat → ClassId} (hLK : ∀ a {k : Nat}, K a = k → k ≠ 0 → a ∈ L) (D : Nat) (F : Nat → va_E) (a0 : Nat) (x1 : Int32) (x2 : Int32) (x3 : Int32) (ha0 : K a0 = 7) (hI : s_I K cs D F) : Met l yX6_lane (Cond.code yX6_lane cX6_lane 6 (some .int) :: T0) ({ frames := 2, cells := 0, slots := 0, locals := 43 }) (va_Pc [.ref a0, .int x1, .int x2, .int x3] (s_W dC dI sz L F [(cs 0, .int), (cs 1, .byte), (cs 2, .long), (cs 3, .object RX5), (cs 4, .object RX4), (cs 5, .array .int), (cs 6, .char), (cs 7, .boolean)])) (va_Qi (fun (r : Int32) (G : Nat → va_E) => True ∧ True ∧ s_I K cs D G ∧ ∀ b, K b ∉ ([] : List Nat) → G b = F b) (fun (G : Nat → va_E) (t : State) => va_P (dC, dI) vwCl (va_pl L G) t.heap ∧ va_K (dC, dI) vwCl [(cs 0, .int), (cs 1, .byte), (cs 2, .long), (cs 3, .object RX5), (cs 4, .object RX4), (cs 5, .array .int), (cs 6, .char), (cs 7, .boolean)] t) (fun q => q ∈ L)) 0 0 (fun q => q ∈ L) := by
  refine Met.ofW (cc := cX6_lane) (maxL := 6) (ret := (some .int)) (by decide) rfl ?_
  intro p e s m args below meth c s₁ B hml hv
  obtain ⟨rfl, hsz, hP, hK, hD, hN⟩ := hv
  have hx := B.exec
  have hb := B.bytes
  have hr := B.returns
  have hts : ∀ w ∈ T0, w.before _ s = true := fun w h => atoms_spec (ws := Cond.code yX6_lane cX6_lane 6 (some .int) :: T0) B.pre w (List.mem_cons_of_mem _ h)
  have hown : s.vm.findClass RX6 = some m.cls := findClass_of_methodNamed B.named
  have hlocks := B.notSynchronized
  have hS : va_S (fun q => q ∈ L) s.heap s.heap [] := va_S.rf
  have hfr : ∀ b, K b ∉ ([] : List Nat) → F b = F b := fun _ _ => rfl
  have hl := lv_entry ([.ref a0, .int x1, .int x2, .int x3]) (n := 6) (Nat.le_of_ble_eq_true rfl)
  rw [lg_entry_eq]
  generalize (lg_sl ([.ref a0, .int x1, .int x2, .int x3]) ++ List.replicate (6 - (lg_sl ([.ref a0, .int x1, .int x2, .int x3])).length) Slot.unset).toArray = ls at hl ⊢
  have hl : lv_has ls 6 [(0, .ref a0), (1, .int x1), (2, .int x2), (3, .int x3)] := hl
  refine s_gen hP hS (fun H locs hP hS => ?_)
  refine lv_aload_n hx hb dX6_lane_0 rfl (lv_at hl 0 rfl) ?_
  refine lv_iload_n hx hb dX6_lane_1 rfl (lv_at hl 1 rfl) ?_
  refine lv_iload_n hx hb dX6_lane_2 rfl (lv_at hl 2 rfl) ?_
  obtain ⟨z1, z3, z5, z7, z9, z11, z12, z14, z16, z18, z20, z22, z24, z26, o28, h2, h4, h6, h8, h10, h13, h15, h17, h19, h21, h23, h25, h27, -⟩ := s_op7 hI ha0
  refine va_calli (va_runV (As := [.int x1, .int x2]) (rest := []) ⟨hx, hb, hml, hown, hts⟩ (s_X6_hasLane l dC dI H.size hLK D F a0 x1 x2 ha0 hI) (cwV 2 hts (ax_gV T_229 T_230 T_231 T_193 T_17) rfl rfl rfl (by decide +kernel) ⟨Nat.le_of_ble_eq_true rfl, Nat.le_of_ble_eq_true rfl⟩) ⟨fun a U g mk q => ⟨q.1, s_pc (U := U) rfl rfl q.2⟩, s_recv hK hP (hLK _ ha0 (by decide)) (ci := 6) rfl o28, fun U hU hW => ⟨rfl, s_pw hU hW hP hK hD hN⟩⟩ rfl rfl hl.1 rfl (lv_room (Nat.le_of_ble_eq_true rfl)) dX6_lane_3 ⟨Nat.zero_le _, Nat.zero_le _⟩) hS (fun q _ h => h) (fun q h => h) (fun r29 F30 t H1 locs ht hvm hw hB hz1 hk1 hS => ?_)
  obtain ⟨hP, hK1⟩ := hB
  rw [ht] at hP
  generalize H1 = H at hP hS ⊢
  clear hz1 hk1
  obtain ⟨h31, h32, hI, hfr1⟩ := hw
  have o33 : F30 a0 = .inr (6, [.ref z1, .int z3, .ref z5, .ref z7, .ref z9, .int z11, .ref z12, .ref z14, .int z16, .int z18, .ref z20, .ref z22, .ref z24, .long z26]) := (hfr1 _ (by rw [ha0]; decide)).trans o28
  have hfr : ∀ b, K b ∉ ([] : List Nat) → F30 b = F b := fun b hb9 => (hfr1 b (fun q => hb9 (s_sub (by decide) q))).trans (hfr b hb9)
  refine lv_if_eq (tgt := 19) hx hb dX6_lane_6 (by decide) (fun c34 => ?_) (fun c34 => ?_)
  · have c34 := (ax_eq (n := 0) (by decide)).mp c34
    refine lv_ldc (v := (-1000000)) hx hb hown (hts _ T_228) dX6_lane_19 ?_
    exact W.iret (v := (-1000000)) hx hb hr (fun t ht hW => ⟨⟨(-1000000), F30, rfl, ⟨trivial, trivial, hI, hfr⟩, by rw [ht]; exact hP, va_K.moved hW.alike hK⟩, hS.F ht⟩) hS.2.2 dX6_lane_21
  · have c34 := mt (ax_eq (n := 0) (by decide)).mpr c34
    have h35 := h32 (fun q => c34 (by rw [q]; decide))
    refine lv_iload_n hx hb dX6_lane_9 rfl (lv_at hl 3 rfl) ?_
    refine lv_if_lt (tgt := 19) hx hb dX6_lane_10 (by decide) (fun c36 => ?_) (fun c36 => ?_)
    · have c36 := (ax_lt (n := 0) (by decide)).mp c36
      refine lv_ldc (v := (-1000000)) hx hb hown (hts _ T_228) dX6_lane_19 ?_
      exact W.iret (v := (-1000000)) hx hb hr (fun t ht hW => ⟨⟨(-1000000), F30, rfl, ⟨trivial, trivial, hI, hfr⟩, by rw [ht]; exact hP, va_K.moved hW.alike hK⟩, hS.F ht⟩) hS.2.2 dX6_lane_21
    · have c36 := mt (ax_lt (n := 0) (by decide)).mpr c36
      refine lv_iload_n hx hb dX6_lane_13 rfl (lv_at hl 3 rfl) ?_
      refine lv_bipush (v := 6) hx hb dX6_lane_14 (by decide) ?_
      refine lv_icmp_le (tgt := 22) hx hb dX6_lane_16 (by decide) (fun c37 => ?_) (fun c37 => ?_)
      · have c37 := (ax_le (n := 6) (by decide)).mp c37
        refine lv_aload_n hx hb dX6_lane_22 rfl (lv_at hl 0 rfl) ?_
        refine th_get (D := (dC, dI)) (ci := 6) (v := .ref z12) (C := RX6) (T := TX6) (N := 14) hx hb hts inX6 hown hK hP (hLK _ ha0 (by decide)) o33 rfl 6 (by decide) (hts _ T_174) (fun _ h9 => h9) rfl dX6_lane_23 ?_
        obtain ⟨z38, z40, z42, z44, z46, z48, z50, z52, z54, z56, z58, z60, z61, z63, z64, o66, h39, h41, h43, h45, h47, h49, h51, h53, h55, h57, h59, h62, h65, -⟩ := s_op5 hI h13
        refine th_getN (D := (dC, dI)) (ci := 4) (v := .ref z38) (C := RX4) (T := TX4) (N := 15) hx hb hts inX4 hown hK hP (hLK _ h13 (by decide)) o66 rfl 0 (by decide) (va_Nw.use rfl (ax_n56 hN)) (fun _ h9 => h9) rfl dX6_lane_26 ?_
        refine lv_iload_n hx hb dX6_lane_29 rfl (lv_at hl 1 rfl) ?_
        obtain ⟨f67, o68, h69⟩ := s_op26 hI h39
        obtain ⟨z70, o72, h71⟩ := h69 (x1 : Int32).toNatClampNeg (th_cl ⟨by omega, by omega⟩)
        refine th_aald hx hb hK hP (hLK _ h39 (by decide)) 3 o68 rfl (th_in ⟨by omega, by omega⟩) o72 dX6_lane_30 ?_
        refine lv_astore (lv' := [(4, .ref z70), (0, .ref a0), (1, .int x1), (2, .int x2), (3, .int x3)]) hx hb dX6_lane_31 hl (by decide) rfl (fun ls hl => ?_)
        refine lv_iconst (v := 1) hx hb dX6_lane_33 (by decide) ?_
        refine lv_iload_n hx hb dX6_lane_34 rfl (lv_at hl 3 rfl) ?_
        refine lv_ishl hx hb dX6_lane_35 ?_
        refine lv_topi (fun v73 ev73 => ?_)
        refine lv_istore (lv' := [(5, .int v73), (4, .ref z70), (0, .ref a0), (1, .int x1), (2, .int x2), (3, .int x3)]) hx hb dX6_lane_36 hl (by decide) rfl (fun ls hl => ?_)
        refine lv_iload_n hx hb dX6_lane_38 rfl (lv_at hl 5 rfl) ?_
        by_cases c74 : x3 = 4
        · refine ax_eqi c74 ?_
          refine lv_tableIn (off := 25) (tgt := 64) hx hb dX6_lane_39 (by decide) (by decide) (by decide) (by decide) ?_
          have c74 := (ax_eq (n := 4) (by decide)).mp c74
          refine lv_aload hx hb dX6_lane_64 (lv_at hl 1 rfl) ?_
          obtain ⟨z75, z77, z79, z81, z83, z85, z87, z88, z89, z90, z91, o93, h76, h78, h80, h82, h84, h86, h92, -⟩ := s_op6 hI h71
          refine th_getN (D := (dC, dI)) (ci := 5) (v := .int z87) (C := RX5) (T := TX5) (N := 11) hx hb hts inX5 hown hK hP (hLK _ h71 (by decide)) o93 rfl 6 (by decide) (va_Nw.use rfl (ax_n57 hN)) (fun _ h9 => h9) rfl dX6_lane_66 ?_
          refine lv_iload hx hb dX6_lane_69 (lv_at hl 0 rfl) ?_
          refine lv_iand hx hb dX6_lane_71 ?_
          refine lv_topi (fun v94 ev94 => ?_)
          refine lv_if_eq (tgt := 79) hx hb dX6_lane_72 (by decide) (fun c95 => ?_) (fun c95 => ?_)
          · have c95 := (ax_eq (n := 0) (by decide)).mp c95
            refine lv_iconst (v := 0) hx hb dX6_lane_79 (by decide) ?_
            exact W.iret (v := 0) hx hb hr (fun t ht hW => ⟨⟨0, F30, rfl, ⟨trivial, trivial, hI, hfr⟩, by rw [ht]; exact hP, va_K.moved hW.alike hK⟩, hS.F ht⟩) hS.2.2 dX6_lane_80
          · have c95 := mt (ax_eq (n := 0) (by decide)).mpr c95
            refine lv_iconst (v := 1) hx hb dX6_lane_75 (by decide) ?_
            refine lv_goto (tgt := 80) hx hb dX6_lane_76 (by decide) ?_
            exact W.iret (v := 1) hx hb hr (fun t ht hW => ⟨⟨1, F30, rfl, ⟨trivial, trivial, hI, hfr⟩, by rw [ht]; exact hP, va_K.moved hW.alike hK⟩, hS.F ht⟩) hS.2.2 dX6_lane_80
        · have c74 := mt (ax_eq (n := 4) (by decide)).mpr c74
          by_cases c96 : x3 = 5
          · refine ax_eqi c96 ?_
            refine lv_tableIn (off := 42) (tgt := 81) hx hb dX6_lane_39 (by decide) (by decide) (by decide) (by decide) ?_
            have c96 := (ax_eq (n := 5) (by decide)).mp c96
            refine lv_aload hx hb dX6_lane_81 (lv_at hl 1 rfl) ?_
            obtain ⟨z97, z99, z101, z103, z105, z107, z109, z110, z111, z112, z113, o115, h98, h100, h102, h104, h106, h108, h114, -⟩ := s_op6 hI h71
            refine th_getN (D := (dC, dI)) (ci := 5) (v := .int z110) (C := RX5) (T := TX5) (N := 11) hx hb hts inX5 hown hK hP (hLK _ h71 (by decide)) o115 rfl 7 (by decide) (va_Nw.use rfl (ax_n65 hN)) (fun _ h9 => h9) rfl dX6_lane_83 ?_
            refine lv_iload hx hb dX6_lane_86 (lv_at hl 0 rfl) ?_
            refine lv_iand hx hb dX6_lane_88 ?_
            refine lv_topi (fun v116 ev116 => ?_)
            refine lv_if_eq (tgt := 96) hx hb dX6_lane_89 (by decide) (fun c117 => ?_) (fun c117 => ?_)
            · have c117 := (ax_eq (n := 0) (by decide)).mp c117
              refine lv_iconst (v := 0) hx hb dX6_lane_96 (by decide) ?_
              exact W.iret (v := 0) hx hb hr (fun t ht hW => ⟨⟨0, F30, rfl, ⟨trivial, trivial, hI, hfr⟩, by rw [ht]; exact hP, va_K.moved hW.alike hK⟩, hS.F ht⟩) hS.2.2 dX6_lane_97
            · have c117 := mt (ax_eq (n := 0) (by decide)).mpr c117
              refine lv_iconst (v := 1) hx hb dX6_lane_92 (by decide) ?_
              refine lv_goto (tgt := 97) hx hb dX6_lane_93 (by decide) ?_
              exact W.iret (v := 1) hx hb hr (fun t ht hW => ⟨⟨1, F30, rfl, ⟨trivial, trivial, hI, hfr⟩, by rw [ht]; exact hP, va_K.moved hW.alike hK⟩, hS.F ht⟩) hS.2.2 dX6_lane_97
          · have c96 := mt (ax_eq (n := 5) (by decide)).mpr c96
            by_cases c118 : x3 = 6
            · refine ax_eqi c118 ?_
              refine lv_tableIn (off := 59) (tgt := 98) hx hb dX6_lane_39 (by decide) (by decide) (by decide) (by decide) ?_
              have c118 := (ax_eq (n := 6) (by decide)).mp c118
              refine lv_aload hx hb dX6_lane_98 (lv_at hl 1 rfl) ?_
              obtain ⟨z119, z121, z123, z125, z127, z129, z131, z132, z133, z134, z135, o137, h120, h122, h124, h126, h128, h130, h136, -⟩ := s_op6 hI h71
              refine th_getN (D := (dC, dI)) (ci := 5) (v := .int z131) (C := RX5) (T := TX5) (N := 11) hx hb hts inX5 hown hK hP (hLK _ h71 (by decide)) o137 rfl 6 (by decide) (va_Nw.use rfl (ax_n57 hN)) (fun _ h9 => h9) rfl dX6_lane_100 ?_
              refine lv_iload hx hb dX6_lane_103 (lv_at hl 0 rfl) ?_
              refine lv_iand hx hb dX6_lane_105 ?_
              refine lv_topi (fun v138 ev138 => ?_)
              refine lv_if_eq (tgt := 125) hx hb dX6_lane_106 (by decide) (fun c139 => ?_) (fun c139 => ?_)
              · have c139 := (ax_eq (n := 0) (by decide)).mp c139
                refine lv_aload_n hx hb dX6_lane_125 rfl (lv_at hl 2 rfl) ?_
                refine th_get (D := (dC, dI)) (ci := 6) (v := .ref z7) (C := RX6) (T := TX6) (N := 14) hx hb hts inX6 hown hK hP (hLK _ ha0 (by decide)) o33 rfl 3 (by decide) (hts _ T_170) (fun _ h9 => h9) rfl dX6_lane_126 ?_
                obtain ⟨z140, z142, z144, z146, z148, z150, z151, o152, h141, h143, h145, h147, h149, -⟩ := s_op3 hI h8
                refine th_getN (D := (dC, dI)) (ci := 2) (v := .int z146) (C := RX2) (T := TX2) (N := 7) hx hb hts inX2 hown hK hP (hLK _ h8 (by decide)) o152 rfl 3 (by decide) (va_Nw.use rfl (ax_n60 hN)) (fun _ h9 => h9) rfl dX6_lane_129 ?_
                exact W.iret (v := z146) hx hb hr (fun t ht hW => ⟨⟨z146, F30, rfl, ⟨trivial, trivial, hI, hfr⟩, by rw [ht]; exact hP, va_K.moved hW.alike hK⟩, hS.F ht⟩) hS.2.2 dX6_lane_132
              · have c139 := mt (ax_eq (n := 0) (by decide)).mpr c139
                refine lv_aload hx hb dX6_lane_109 (lv_at hl 1 rfl) ?_
                refine lv_iload_n hx hb dX6_lane_111 rfl (lv_at hl 4 rfl) ?_
                refine lv_aload_n hx hb dX6_lane_112 rfl (lv_at hl 2 rfl) ?_
                refine th_get (D := (dC, dI)) (ci := 6) (v := .ref z12) (C := RX6) (T := TX6) (N := 14) hx hb hts inX6 hown hK hP (hLK _ ha0 (by decide)) o33 rfl 6 (by decide) (hts _ T_174) (fun _ h9 => h9) rfl dX6_lane_113 ?_
                refine th_getN (D := (dC, dI)) (ci := 4) (v := .int z54) (C := RX4) (T := TX4) (N := 15) hx hb hts inX4 hown hK hP (hLK _ h13 (by decide)) o66 rfl 8 (by decide) (va_Nw.use rfl (ax_n52 hN)) (fun _ h9 => h9) rfl dX6_lane_116 ?_
                refine va_calli (va_runV (As := [.int x2, .int z54]) (rest := []) ⟨hx, hb, hml, hown, hts⟩ (s_X5_lineOf l dC dI H.size hLK D F30 z70 x2 z54 h71 (⟨by omega, by omega⟩) hI) (cwV 2 hts (ax_gV T_956 T_958 T_959 T_116 T_957) rfl rfl rfl (by decide +kernel) ⟨Nat.le_of_ble_eq_true rfl, Nat.le_of_ble_eq_true rfl⟩) ⟨fun a U g mk q => ⟨q.1, s_pc (U := U) rfl rfl q.2⟩, s_recv hK hP (hLK _ h71 (by decide)) (ci := 5) rfl o137, fun U hU hW => ⟨rfl, s_pw hU hW hP hK hD hN⟩⟩ rfl rfl hl.1 rfl (lv_room (Nat.le_of_ble_eq_true rfl)) dX6_lane_119 ⟨Nat.zero_le _, Nat.zero_le _⟩) hS (fun q _ h => h) (fun q h => h) (fun r153 F154 t H1 locs ht hvm hw hB hz1 hk1 hS => ?_)
                obtain ⟨hP, hK1⟩ := hB
                rw [ht] at hP
                generalize H1 = H at hP hS ⊢
                clear hz1 hk1
                obtain ⟨h155, h156, hI, hfr1⟩ := hw
                have o157 : F154 a0 = .inr (6, [.ref z1, .int z3, .ref z5, .ref z7, .ref z9, .int z11, .ref z12, .ref z14, .int z16, .int z18, .ref z20, .ref z22, .ref z24, .long z26]) := (hfr1 _ (by rw [ha0]; decide)).trans o33
                have o158 : F154 z12 = .inr (4, [.ref z38, .ref z40, .ref z42, .ref z44, .ref z46, .ref z48, .ref z50, .int z52, .int z54, .int z56, .int z58, .int z60, .int z61, .int z63, .int z64]) := (hfr1 _ (by rw [h13]; decide)).trans o66
                have o159 : F154 z70 = .inr (5, [.ref z119, .ref z121, .ref z123, .ref z125, .ref z127, .int z129, .int z131, .int z132, .int z133, .int z134, .int z135]) := (hfr1 _ (by rw [h71]; decide)).trans o137
                have hfr : ∀ b, K b ∉ ([] : List Nat) → F154 b = F b := fun b hb9 => (hfr1 b (fun q => hb9 (s_sub (by decide) q))).trans (hfr b hb9)
                refine lv_goto (tgt := 132) hx hb dX6_lane_122 (by decide) ?_
                exact W.iret (v := r153) hx hb hr (fun t ht hW => ⟨⟨r153, F154, rfl, ⟨trivial, trivial, hI, hfr⟩, by rw [ht]; exact hP, va_K.moved hW.alike hK⟩, hS.F ht⟩) hS.2.2 dX6_lane_132
            · have c118 := mt (ax_eq (n := 6) (by decide)).mpr c118
              refine lv_tableOut (tgt := 133) hx hb dX6_lane_39 (by omega) (by decide) ?_
              refine lv_aload hx hb dX6_lane_133 (lv_at hl 1 rfl) ?_
              obtain ⟨z160, z162, z164, z166, z168, z170, z172, z173, z174, z175, z176, o178, h161, h163, h165, h167, h169, h171, h177, -⟩ := s_op6 hI h71
              refine th_getN (D := (dC, dI)) (ci := 5) (v := .ref z160) (C := RX5) (T := TX5) (N := 11) hx hb hts inX5 hown hK hP (hLK _ h71 (by decide)) o178 rfl 0 (by decide) (va_Nw.use rfl (ax_n63 hN)) (fun _ h9 => h9) rfl dX6_lane_135 ?_
              refine lv_iload_n hx hb dX6_lane_138 rfl (lv_at hl 4 rfl) ?_
              refine lv_iconst (v := 4) hx hb dX6_lane_139 (by decide) ?_
              refine lv_imul hx hb dX6_lane_140 ?_
              refine lv_topi (fun v179 ev179 => ?_)
              have qv179 : v179.toInt = x2.toInt * 4 := by rw [ev179]; exact th_mul rfl (by decide) ⟨by omega, by omega⟩
              refine lv_iload_n hx hb dX6_lane_141 rfl (lv_at hl 5 rfl) ?_
              refine lv_iadd hx hb dX6_lane_142 ?_
              refine lv_topi (fun v180 ev180 => ?_)
              have qv180 : v180.toInt = v179.toInt + x3.toInt := by rw [ev180]; exact th_add rfl rfl ⟨by omega, by omega⟩
              obtain ⟨f181, o182, h183⟩ := s_op30 hI h161
              refine th_iald hx hb hK hP (hLK _ h161 (by decide)) 0 o182 rfl (th_in ⟨by omega, by omega⟩) dX6_lane_143 ?_
              refine lv_topi (fun v184 ev184 => ?_)
              exact W.iret (v := v184) hx hb hr (fun t ht hW => ⟨⟨v184, F30, rfl, ⟨trivial, trivial, hI, hfr⟩, by rw [ht]; exact hP, va_K.moved hW.alike hK⟩, hS.F ht⟩) hS.2.2 dX6_lane_144
      · have c37 := mt (ax_le (n := 6) (by decide)).mpr c37
        refine lv_ldc (v := (-1000000)) hx hb hown (hts _ T_228) dX6_lane_19 ?_
        exact W.iret (v := (-1000000)) hx hb hr (fun t ht hW => ⟨⟨(-1000000), F30, rfl, ⟨trivial, trivial, hI, hfr⟩, by rw [ht]; exact hP, va_K.moved hW.alike hK⟩, hS.F ht⟩) hS.2.2 dX6_lane_21

set_option maxHeartbeats 4000000 in
set_option maxRecDepth 100000 in
theorem s_X6_warp (l : Launch) (dC : Nat → ClassId) (dI : Nat → Nat → Nat) (sz : Nat) {L : List Nat} {K : Nat → Nat} {cs : Nat → ClassId} (hLK : ∀ a {k : Nat}, K a = k → k ≠ 0 → a ∈ L) (D : Nat) (F : Nat → va_E) (a0 : Nat) (x1 : Int32) (x2 : Int32) (ha0 : K a0 = 7) (hI : s_I K cs D F) : Met l yX6_warp (Cond.code yX6_warp cX6_warp 4 (some .int) :: T0) ({ frames := 2, cells := 0, slots := 0, locals := 43 }) (va_Pc [.ref a0, .int x1, .int x2] (s_W dC dI sz L F [(cs 0, .int), (cs 1, .byte), (cs 2, .long), (cs 3, .object RX5), (cs 4, .object RX4), (cs 5, .array .int), (cs 6, .char), (cs 7, .boolean)])) (va_Qi (fun (r : Int32) (G : Nat → va_E) => True ∧ True ∧ s_I K cs D G ∧ ∀ b, K b ∉ ([] : List Nat) → G b = F b) (fun (G : Nat → va_E) (t : State) => va_P (dC, dI) vwCl (va_pl L G) t.heap ∧ va_K (dC, dI) vwCl [(cs 0, .int), (cs 1, .byte), (cs 2, .long), (cs 3, .object RX5), (cs 4, .object RX4), (cs 5, .array .int), (cs 6, .char), (cs 7, .boolean)] t) (fun q => q ∈ L)) 0 0 (fun q => q ∈ L) := by
  refine Met.ofW (cc := cX6_warp) (maxL := 4) (ret := (some .int)) (by decide) rfl ?_
  intro p e s m args below meth c s₁ B hml hv
  obtain ⟨rfl, hsz, hP, hK, hD, hN⟩ := hv
  have hx := B.exec
  have hb := B.bytes
  have hr := B.returns
  have hts : ∀ w ∈ T0, w.before _ s = true := fun w h => atoms_spec (ws := Cond.code yX6_warp cX6_warp 4 (some .int) :: T0) B.pre w (List.mem_cons_of_mem _ h)
  have hown : s.vm.findClass RX6 = some m.cls := findClass_of_methodNamed B.named
  have hlocks := B.notSynchronized
  have hS : va_S (fun q => q ∈ L) s.heap s.heap [] := va_S.rf
  have hfr : ∀ b, K b ∉ ([] : List Nat) → F b = F b := fun _ _ => rfl
  have hl := lv_entry ([.ref a0, .int x1, .int x2]) (n := 4) (Nat.le_of_ble_eq_true rfl)
  rw [lg_entry_eq]
  generalize (lg_sl ([.ref a0, .int x1, .int x2]) ++ List.replicate (4 - (lg_sl ([.ref a0, .int x1, .int x2])).length) Slot.unset).toArray = ls at hl ⊢
  have hl : lv_has ls 4 [(0, .ref a0), (1, .int x1), (2, .int x2)] := hl
  refine s_gen hP hS (fun H locs hP hS => ?_)
  refine lv_aload_n hx hb dX6_warp_0 rfl (lv_at hl 0 rfl) ?_
  refine lv_iload_n hx hb dX6_warp_1 rfl (lv_at hl 1 rfl) ?_
  obtain ⟨z1, z3, z5, z7, z9, z11, z12, z14, z16, z18, z20, z22, z24, z26, o28, h2, h4, h6, h8, h10, h13, h15, h17, h19, h21, h23, h25, h27, -⟩ := s_op7 hI ha0
  refine va_calli (va_runV (As := [.int x1]) (rest := []) ⟨hx, hb, hml, hown, hts⟩ (s_X6_hasWarp l dC dI H.size hLK D F a0 x1 ha0 hI) (cwV 1 hts (ax_gV T_225 T_226 T_227 T_193 T_16) rfl rfl rfl (by decide +kernel) ⟨Nat.le_of_ble_eq_true rfl, Nat.le_of_ble_eq_true rfl⟩) ⟨fun a U g mk q => ⟨q.1, s_pc (U := U) rfl rfl q.2⟩, s_recv hK hP (hLK _ ha0 (by decide)) (ci := 6) rfl o28, fun U hU hW => ⟨rfl, s_pw hU hW hP hK hD hN⟩⟩ rfl rfl hl.1 rfl (lv_room (Nat.le_of_ble_eq_true rfl)) dX6_warp_2 ⟨Nat.zero_le _, Nat.zero_le _⟩) hS (fun q _ h => h) (fun q h => h) (fun r29 F30 t H1 locs ht hvm hw hB hz1 hk1 hS => ?_)
  obtain ⟨hP, hK1⟩ := hB
  rw [ht] at hP
  generalize H1 = H at hP hS ⊢
  clear hz1 hk1
  obtain ⟨h31, h32, hI, hfr1⟩ := hw
  have o33 : F30 a0 = .inr (6, [.ref z1, .int z3, .ref z5, .ref z7, .ref z9, .int z11, .ref z12, .ref z14, .int z16, .int z18, .ref z20, .ref z22, .ref z24, .long z26]) := (hfr1 _ (by rw [ha0]; decide)).trans o28
  have hfr : ∀ b, K b ∉ ([] : List Nat) → F30 b = F b := fun b hb9 => (hfr1 b (fun q => hb9 (s_sub (by decide) q))).trans (hfr b hb9)
  refine lv_if_ne (tgt := 10) hx hb dX6_warp_5 (by decide) (fun c34 => ?_) (fun c34 => ?_)
  · have c34 := mt (ax_eq (n := 0) (by decide)).mpr c34
    have h35 := h32 (fun q => c34 (by rw [q]; decide))
    refine lv_aload_n hx hb dX6_warp_10 rfl (lv_at hl 0 rfl) ?_
    refine th_get (D := (dC, dI)) (ci := 6) (v := .ref z12) (C := RX6) (T := TX6) (N := 14) hx hb hts inX6 hown hK hP (hLK _ ha0 (by decide)) o33 rfl 6 (by decide) (hts _ T_174) (fun _ h9 => h9) rfl dX6_warp_11 ?_
    obtain ⟨z36, z38, z40, z42, z44, z46, z48, z50, z52, z54, z56, z58, z59, z61, z62, o64, h37, h39, h41, h43, h45, h47, h49, h51, h53, h55, h57, h60, h63, -⟩ := s_op5 hI h13
    refine th_getN (D := (dC, dI)) (ci := 4) (v := .ref z36) (C := RX4) (T := TX4) (N := 15) hx hb hts inX4 hown hK hP (hLK _ h13 (by decide)) o64 rfl 0 (by decide) (va_Nw.use rfl (ax_n56 hN)) (fun _ h9 => h9) rfl dX6_warp_14 ?_
    refine lv_iload_n hx hb dX6_warp_17 rfl (lv_at hl 1 rfl) ?_
    obtain ⟨f65, o66, h67⟩ := s_op26 hI h37
    obtain ⟨z68, o70, h69⟩ := h67 (x1 : Int32).toNatClampNeg (th_cl ⟨by omega, by omega⟩)
    refine th_aald hx hb hK hP (hLK _ h37 (by decide)) 3 o66 rfl (th_in ⟨by omega, by omega⟩) o70 dX6_warp_18 ?_
    refine lv_astore_n (lv' := [(3, .ref z68), (0, .ref a0), (1, .int x1), (2, .int x2)]) hx hb dX6_warp_19 rfl hl (by decide) rfl (fun ls hl => ?_)
    refine lv_iload_n hx hb dX6_warp_20 rfl (lv_at hl 3 rfl) ?_
    by_cases c71 : x2 = 0
    · refine ax_eqi c71 ?_
      refine lv_tableIn (off := 39) (tgt := 60) hx hb dX6_warp_21 (by decide) (by decide) (by decide) (by decide) ?_
      have c71 := (ax_eq (n := 0) (by decide)).mp c71
      refine lv_aload_n hx hb dX6_warp_60 rfl (lv_at hl 0 rfl) ?_
      obtain ⟨z72, z74, z76, z78, z80, z82, z84, z85, z86, z87, z88, o90, h73, h75, h77, h79, h81, h83, h89, -⟩ := s_op6 hI h69
      refine th_getN (D := (dC, dI)) (ci := 5) (v := .int z84) (C := RX5) (T := TX5) (N := 11) hx hb hts inX5 hown hK hP (hLK _ h69 (by decide)) o90 rfl 6 (by decide) (va_Nw.use rfl (ax_n57 hN)) (fun _ h9 => h9) rfl dX6_warp_61 ?_
      exact W.iret (v := z84) hx hb hr (fun t ht hW => ⟨⟨z84, F30, rfl, ⟨trivial, trivial, hI, hfr⟩, by rw [ht]; exact hP, va_K.moved hW.alike hK⟩, hS.F ht⟩) hS.2.2 dX6_warp_64
    · have c71 := mt (ax_eq (n := 0) (by decide)).mpr c71
      by_cases c91 : x2 = 1
      · refine ax_eqi c91 ?_
        refine lv_tableIn (off := 44) (tgt := 65) hx hb dX6_warp_21 (by decide) (by decide) (by decide) (by decide) ?_
        have c91 := (ax_eq (n := 1) (by decide)).mp c91
        refine lv_aload_n hx hb dX6_warp_65 rfl (lv_at hl 0 rfl) ?_
        obtain ⟨z92, z94, z96, z98, z100, z102, z104, z105, z106, z107, z108, o110, h93, h95, h97, h99, h101, h103, h109, -⟩ := s_op6 hI h69
        refine th_getN (D := (dC, dI)) (ci := 5) (v := .int z106) (C := RX5) (T := TX5) (N := 11) hx hb hts inX5 hown hK hP (hLK _ h69 (by decide)) o110 rfl 8 (by decide) (va_Nw.use rfl (ax_n79 hN)) (fun _ h9 => h9) rfl dX6_warp_66 ?_
        exact W.iret (v := z106) hx hb hr (fun t ht hW => ⟨⟨z106, F30, rfl, ⟨trivial, trivial, hI, hfr⟩, by rw [ht]; exact hP, va_K.moved hW.alike hK⟩, hS.F ht⟩) hS.2.2 dX6_warp_69
      · have c91 := mt (ax_eq (n := 1) (by decide)).mpr c91
        by_cases c111 : x2 = 2
        · refine ax_eqi c111 ?_
          refine lv_tableIn (off := 49) (tgt := 70) hx hb dX6_warp_21 (by decide) (by decide) (by decide) (by decide) ?_
          have c111 := (ax_eq (n := 2) (by decide)).mp c111
          refine lv_aload_n hx hb dX6_warp_70 rfl (lv_at hl 0 rfl) ?_
          obtain ⟨z112, z114, z116, z118, z120, z122, z124, z125, z126, z127, z128, o130, h113, h115, h117, h119, h121, h123, h129, -⟩ := s_op6 hI h69
          refine th_getN (D := (dC, dI)) (ci := 5) (v := .int z122) (C := RX5) (T := TX5) (N := 11) hx hb hts inX5 hown hK hP (hLK _ h69 (by decide)) o130 rfl 5 (by decide) (va_Nw.use rfl (ax_n71 hN)) (fun _ h9 => h9) rfl dX6_warp_71 ?_
          exact W.iret (v := z122) hx hb hr (fun t ht hW => ⟨⟨z122, F30, rfl, ⟨trivial, trivial, hI, hfr⟩, by rw [ht]; exact hP, va_K.moved hW.alike hK⟩, hS.F ht⟩) hS.2.2 dX6_warp_74
        · have c111 := mt (ax_eq (n := 2) (by decide)).mpr c111
          by_cases c131 : x2 = 3
          · refine ax_eqi c131 ?_
            refine lv_tableIn (off := 54) (tgt := 75) hx hb dX6_warp_21 (by decide) (by decide) (by decide) (by decide) ?_
            have c131 := (ax_eq (n := 3) (by decide)).mp c131
            refine lv_aload_n hx hb dX6_warp_75 rfl (lv_at hl 0 rfl) ?_
            obtain ⟨z132, z134, z136, z138, z140, z142, z144, z145, z146, z147, z148, o150, h133, h135, h137, h139, h141, h143, h149, -⟩ := s_op6 hI h69
            refine th_getN (D := (dC, dI)) (ci := 5) (v := .int z148) (C := RX5) (T := TX5) (N := 11) hx hb hts inX5 hown hK hP (hLK _ h69 (by decide)) o150 rfl 10 (by decide) (va_Nw.use rfl (ax_n80 hN)) (fun _ h9 => h9) rfl dX6_warp_76 ?_
            exact W.iret (v := z148) hx hb hr (fun t ht hW => ⟨⟨z148, F30, rfl, ⟨trivial, trivial, hI, hfr⟩, by rw [ht]; exact hP, va_K.moved hW.alike hK⟩, hS.F ht⟩) hS.2.2 dX6_warp_79
          · have c131 := mt (ax_eq (n := 3) (by decide)).mpr c131
            by_cases c151 : x2 = 4
            · refine ax_eqi c151 ?_
              refine lv_tableIn (off := 59) (tgt := 80) hx hb dX6_warp_21 (by decide) (by decide) (by decide) (by decide) ?_
              have c151 := (ax_eq (n := 4) (by decide)).mp c151
              refine lv_aload_n hx hb dX6_warp_80 rfl (lv_at hl 0 rfl) ?_
              obtain ⟨z152, z154, z156, z158, z160, z162, z164, z165, z166, z167, z168, o170, h153, h155, h157, h159, h161, h163, h169, -⟩ := s_op6 hI h69
              refine th_getN (D := (dC, dI)) (ci := 5) (v := .int z167) (C := RX5) (T := TX5) (N := 11) hx hb hts inX5 hown hK hP (hLK _ h69 (by decide)) o170 rfl 9 (by decide) (va_Nw.use rfl (ax_n81 hN)) (fun _ h9 => h9) rfl dX6_warp_81 ?_
              exact W.iret (v := z167) hx hb hr (fun t ht hW => ⟨⟨z167, F30, rfl, ⟨trivial, trivial, hI, hfr⟩, by rw [ht]; exact hP, va_K.moved hW.alike hK⟩, hS.F ht⟩) hS.2.2 dX6_warp_84
            · have c151 := mt (ax_eq (n := 4) (by decide)).mpr c151
              by_cases c171 : x2 = 5
              · refine ax_eqi c171 ?_
                refine lv_tableIn (off := 64) (tgt := 85) hx hb dX6_warp_21 (by decide) (by decide) (by decide) (by decide) ?_
                have c171 := (ax_eq (n := 5) (by decide)).mp c171
                refine lv_aload_n hx hb dX6_warp_85 rfl (lv_at hl 1 rfl) ?_
                refine th_get (D := (dC, dI)) (ci := 6) (v := .ref z12) (C := RX6) (T := TX6) (N := 14) hx hb hts inX6 hown hK hP (hLK _ ha0 (by decide)) o33 rfl 6 (by decide) (hts _ T_174) (fun _ h9 => h9) rfl dX6_warp_86 ?_
                refine lv_iload_n hx hb dX6_warp_89 rfl (lv_at hl 2 rfl) ?_
                refine va_calli (va_runV (As := [.int x1]) (rest := []) ⟨hx, hb, hml, hown, hts⟩ (s_X4_canGo l dC dI H.size hLK D F30 z12 x1 h13 (⟨by omega, by omega⟩) hI) (cwV 1 hts (ax_gV T_980 T_699 T_700 T_142 T_698) rfl rfl rfl (by decide +kernel) ⟨Nat.le_of_ble_eq_true rfl, Nat.le_of_ble_eq_true rfl⟩) ⟨fun a U g mk q => ⟨q.1, s_pc (U := U) rfl rfl q.2⟩, s_recv hK hP (hLK _ h13 (by decide)) (ci := 4) rfl o64, fun U hU hW => ⟨rfl, s_pw hU hW hP hK hD hN⟩⟩ rfl rfl hl.1 rfl (lv_room (Nat.le_of_ble_eq_true rfl)) dX6_warp_90 ⟨Nat.zero_le _, Nat.zero_le _⟩) hS (fun q _ h => h) (fun q h => h) (fun r172 F173 t H1 locs ht hvm hw hB hz1 hk1 hS => ?_)
                obtain ⟨hP, hK1⟩ := hB
                rw [ht] at hP
                generalize H1 = H at hP hS ⊢
                clear hz1 hk1
                obtain ⟨h174, h175, hI, hfr1⟩ := hw
                have o176 : F173 a0 = .inr (6, [.ref z1, .int z3, .ref z5, .ref z7, .ref z9, .int z11, .ref z12, .ref z14, .int z16, .int z18, .ref z20, .ref z22, .ref z24, .long z26]) := (hfr1 _ (by rw [ha0]; decide)).trans o33
                have o177 : F173 z12 = .inr (4, [.ref z36, .ref z38, .ref z40, .ref z42, .ref z44, .ref z46, .ref z48, .int z50, .int z52, .int z54, .int z56, .int z58, .int z59, .int z61, .int z62]) := (hfr1 _ (by rw [h13]; decide)).trans o64
                have hfr : ∀ b, K b ∉ ([] : List Nat) → F173 b = F b := fun b hb9 => (hfr1 b (fun q => hb9 (s_sub (by decide) q))).trans (hfr b hb9)
                refine lv_if_eq (tgt := 100) hx hb dX6_warp_93 (by decide) (fun c178 => ?_) (fun c178 => ?_)
                · have c178 := (ax_eq (n := 0) (by decide)).mp c178
                  refine lv_iconst (v := 0) hx hb dX6_warp_100 (by decide) ?_
                  exact W.iret (v := 0) hx hb hr (fun t ht hW => ⟨⟨0, F173, rfl, ⟨trivial, trivial, hI, hfr⟩, by rw [ht]; exact hP, va_K.moved hW.alike hK⟩, hS.F ht⟩) hS.2.2 dX6_warp_101
                · have c178 := mt (ax_eq (n := 0) (by decide)).mpr c178
                  refine lv_iconst (v := 1) hx hb dX6_warp_96 (by decide) ?_
                  refine lv_goto (tgt := 101) hx hb dX6_warp_97 (by decide) ?_
                  exact W.iret (v := 1) hx hb hr (fun t ht hW => ⟨⟨1, F173, rfl, ⟨trivial, trivial, hI, hfr⟩, by rw [ht]; exact hP, va_K.moved hW.alike hK⟩, hS.F ht⟩) hS.2.2 dX6_warp_101
              · have c171 := mt (ax_eq (n := 5) (by decide)).mpr c171
                refine lv_tableOut (tgt := 102) hx hb dX6_warp_21 (by omega) (by decide) ?_
                refine lv_iconst (v := (-1)) hx hb dX6_warp_102 (by decide) ?_
                exact W.iret (v := (-1)) hx hb hr (fun t ht hW => ⟨⟨(-1), F30, rfl, ⟨trivial, trivial, hI, hfr⟩, by rw [ht]; exact hP, va_K.moved hW.alike hK⟩, hS.F ht⟩) hS.2.2 dX6_warp_103
  · have c34 := (ax_eq (n := 0) (by decide)).mp c34
    refine lv_iconst (v := (-1)) hx hb dX6_warp_8 (by decide) ?_
    exact W.iret (v := (-1)) hx hb hr (fun t ht hW => ⟨⟨(-1), F30, rfl, ⟨trivial, trivial, hI, hfr⟩, by rw [ht]; exact hP, va_K.moved hW.alike hK⟩, hS.F ht⟩) hS.2.2 dX6_warp_9

set_option maxHeartbeats 4000000 in
set_option maxRecDepth 100000 in
theorem s_X6_part (l : Launch) (dC : Nat → ClassId) (dI : Nat → Nat → Nat) (sz : Nat) {L : List Nat} {K : Nat → Nat} {cs : Nat → ClassId} (hLK : ∀ a {k : Nat}, K a = k → k ≠ 0 → a ∈ L) (D : Nat) (F : Nat → va_E) (a0 : Nat) (x1 : Int32) (x2 : Int32) (x3 : Int32) (ha0 : K a0 = 7) (hI : s_I K cs D F) : Met l yX6_part (Cond.code yX6_part cX6_part 5 (some .int) :: T0) ({ frames := 1, cells := 0, slots := 0, locals := 21 }) (va_Pc [.ref a0, .int x1, .int x2, .int x3] (s_W dC dI sz L F [(cs 0, .int), (cs 1, .byte), (cs 2, .long), (cs 3, .object RX5), (cs 4, .object RX4), (cs 5, .array .int), (cs 6, .char), (cs 7, .boolean)])) (va_Qi (fun (r : Int32) (G : Nat → va_E) => True ∧ True ∧ s_I K cs D G ∧ ∀ b, K b ∉ ([] : List Nat) → G b = F b) (fun (G : Nat → va_E) (t : State) => va_P (dC, dI) vwCl (va_pl L G) t.heap ∧ va_K (dC, dI) vwCl [(cs 0, .int), (cs 1, .byte), (cs 2, .long), (cs 3, .object RX5), (cs 4, .object RX4), (cs 5, .array .int), (cs 6, .char), (cs 7, .boolean)] t) (fun q => q ∈ L)) 0 0 (fun q => q ∈ L) := by
  refine Met.ofW (cc := cX6_part) (maxL := 5) (ret := (some .int)) (by decide) rfl ?_
  intro p e s m args below meth c s₁ B hml hv
  obtain ⟨rfl, hsz, hP, hK, hD, hN⟩ := hv
  have hx := B.exec
  have hb := B.bytes
  have hr := B.returns
  have hts : ∀ w ∈ T0, w.before _ s = true := fun w h => atoms_spec (ws := Cond.code yX6_part cX6_part 5 (some .int) :: T0) B.pre w (List.mem_cons_of_mem _ h)
  have hown : s.vm.findClass RX6 = some m.cls := findClass_of_methodNamed B.named
  have hlocks := B.notSynchronized
  have hS : va_S (fun q => q ∈ L) s.heap s.heap [] := va_S.rf
  have hfr : ∀ b, K b ∉ ([] : List Nat) → F b = F b := fun _ _ => rfl
  have hl := lv_entry ([.ref a0, .int x1, .int x2, .int x3]) (n := 5) (Nat.le_of_ble_eq_true rfl)
  rw [lg_entry_eq]
  generalize (lg_sl ([.ref a0, .int x1, .int x2, .int x3]) ++ List.replicate (5 - (lg_sl ([.ref a0, .int x1, .int x2, .int x3])).length) Slot.unset).toArray = ls at hl ⊢
  have hl : lv_has ls 5 [(0, .ref a0), (1, .int x1), (2, .int x2), (3, .int x3)] := hl
  refine s_gen hP hS (fun H locs hP hS => ?_)
  refine lv_aload_n hx hb dX6_part_0 rfl (lv_at hl 0 rfl) ?_
  refine lv_iload_n hx hb dX6_part_1 rfl (lv_at hl 1 rfl) ?_
  obtain ⟨z1, z3, z5, z7, z9, z11, z12, z14, z16, z18, z20, z22, z24, z26, o28, h2, h4, h6, h8, h10, h13, h15, h17, h19, h21, h23, h25, h27, -⟩ := s_op7 hI ha0
  refine va_calli (va_runV (As := [.int x1]) (rest := []) ⟨hx, hb, hml, hown, hts⟩ (s_X6_hasWarp l dC dI H.size hLK D F a0 x1 ha0 hI) (cwV 1 hts (ax_gV T_225 T_226 T_227 T_193 T_16) rfl rfl rfl (by decide +kernel) ⟨Nat.le_of_ble_eq_true rfl, Nat.le_of_ble_eq_true rfl⟩) ⟨fun a U g mk q => ⟨q.1, s_pc (U := U) rfl rfl q.2⟩, s_recv hK hP (hLK _ ha0 (by decide)) (ci := 6) rfl o28, fun U hU hW => ⟨rfl, s_pw hU hW hP hK hD hN⟩⟩ rfl rfl hl.1 rfl (lv_room (Nat.le_of_ble_eq_true rfl)) dX6_part_2 ⟨Nat.zero_le _, Nat.zero_le _⟩) hS (fun q _ h => h) (fun q h => h) (fun r29 F30 t H1 locs ht hvm hw hB hz1 hk1 hS => ?_)
  obtain ⟨hP, hK1⟩ := hB
  rw [ht] at hP
  generalize H1 = H at hP hS ⊢
  clear hz1 hk1
  obtain ⟨h31, h32, hI, hfr1⟩ := hw
  have o33 : F30 a0 = .inr (6, [.ref z1, .int z3, .ref z5, .ref z7, .ref z9, .int z11, .ref z12, .ref z14, .int z16, .int z18, .ref z20, .ref z22, .ref z24, .long z26]) := (hfr1 _ (by rw [ha0]; decide)).trans o28
  have hfr : ∀ b, K b ∉ ([] : List Nat) → F30 b = F b := fun b hb9 => (hfr1 b (fun q => hb9 (s_sub (by decide) q))).trans (hfr b hb9)
  refine lv_if_eq (tgt := 28) hx hb dX6_part_5 (by decide) (fun c34 => ?_) (fun c34 => ?_)
  · have c34 := (ax_eq (n := 0) (by decide)).mp c34
    refine lv_iconst (v := (-1)) hx hb dX6_part_28 (by decide) ?_
    exact W.iret (v := (-1)) hx hb hr (fun t ht hW => ⟨⟨(-1), F30, rfl, ⟨trivial, trivial, hI, hfr⟩, by rw [ht]; exact hP, va_K.moved hW.alike hK⟩, hS.F ht⟩) hS.2.2 dX6_part_29
  · have c34 := mt (ax_eq (n := 0) (by decide)).mpr c34
    have h35 := h32 (fun q => c34 (by rw [q]; decide))
    refine lv_iload_n hx hb dX6_part_8 rfl (lv_at hl 2 rfl) ?_
    refine lv_if_lt (tgt := 28) hx hb dX6_part_9 (by decide) (fun c36 => ?_) (fun c36 => ?_)
    · have c36 := (ax_lt (n := 0) (by decide)).mp c36
      refine lv_iconst (v := (-1)) hx hb dX6_part_28 (by decide) ?_
      exact W.iret (v := (-1)) hx hb hr (fun t ht hW => ⟨⟨(-1), F30, rfl, ⟨trivial, trivial, hI, hfr⟩, by rw [ht]; exact hP, va_K.moved hW.alike hK⟩, hS.F ht⟩) hS.2.2 dX6_part_29
    · have c36 := mt (ax_lt (n := 0) (by decide)).mpr c36
      refine lv_iload_n hx hb dX6_part_12 rfl (lv_at hl 2 rfl) ?_
      refine lv_aload_n hx hb dX6_part_13 rfl (lv_at hl 0 rfl) ?_
      refine th_get (D := (dC, dI)) (ci := 6) (v := .ref z12) (C := RX6) (T := TX6) (N := 14) hx hb hts inX6 hown hK hP (hLK _ ha0 (by decide)) o33 rfl 6 (by decide) (hts _ T_174) (fun _ h9 => h9) rfl dX6_part_14 ?_
      obtain ⟨z37, z39, z41, z43, z45, z47, z49, z51, z53, z55, z57, z59, z60, z62, z63, o65, h38, h40, h42, h44, h46, h48, h50, h52, h54, h56, h58, h61, h64, -⟩ := s_op5 hI h13
      refine th_getN (D := (dC, dI)) (ci := 4) (v := .ref z37) (C := RX4) (T := TX4) (N := 15) hx hb hts inX4 hown hK hP (hLK _ h13 (by decide)) o65 rfl 0 (by decide) (va_Nw.use rfl (ax_n56 hN)) (fun _ h9 => h9) rfl dX6_part_17 ?_
      refine lv_iload_n hx hb dX6_part_20 rfl (lv_at hl 1 rfl) ?_
      obtain ⟨f66, o67, h68⟩ := s_op26 hI h38
      obtain ⟨z69, o71, h70⟩ := h68 (x1 : Int32).toNatClampNeg (th_cl ⟨by omega, by omega⟩)
      refine th_aald hx hb hK hP (hLK _ h38 (by decide)) 3 o67 rfl (th_in ⟨by omega, by omega⟩) o71 dX6_part_21 ?_
      obtain ⟨z72, z74, z76, z78, z80, z82, z84, z85, z86, z87, z88, o90, h73, h75, h77, h79, h81, h83, h89, -⟩ := s_op6 hI h70
      refine th_getN (D := (dC, dI)) (ci := 5) (v := .int z82) (C := RX5) (T := TX5) (N := 11) hx hb hts inX5 hown hK hP (hLK _ h70 (by decide)) o90 rfl 5 (by decide) (va_Nw.use rfl (ax_n71 hN)) (fun _ h9 => h9) rfl dX6_part_22 ?_
      refine lv_icmp_lt (tgt := 30) hx hb dX6_part_25 (by decide) (fun c91 => ?_) (fun c91 => ?_)
      · have c91 := Int32.lt_iff_toInt_lt.mp c91
        refine lv_aload_n hx hb dX6_part_30 rfl (lv_at hl 0 rfl) ?_
        refine th_get (D := (dC, dI)) (ci := 6) (v := .ref z12) (C := RX6) (T := TX6) (N := 14) hx hb hts inX6 hown hK hP (hLK _ ha0 (by decide)) o33 rfl 6 (by decide) (hts _ T_174) (fun _ h9 => h9) rfl dX6_part_31 ?_
        refine th_getN (D := (dC, dI)) (ci := 4) (v := .ref z37) (C := RX4) (T := TX4) (N := 15) hx hb hts inX4 hown hK hP (hLK _ h13 (by decide)) o65 rfl 0 (by decide) (va_Nw.use rfl (ax_n56 hN)) (fun _ h9 => h9) rfl dX6_part_34 ?_
        refine lv_iload_n hx hb dX6_part_37 rfl (lv_at hl 1 rfl) ?_
        obtain ⟨f92, o93, h94⟩ := s_op26 hI h38
        obtain ⟨z95, o97, h96⟩ := h94 (x1 : Int32).toNatClampNeg (th_cl ⟨by omega, by omega⟩)
        refine th_aald hx hb hK hP (hLK _ h38 (by decide)) 3 o93 rfl (th_in ⟨by omega, by omega⟩) o97 dX6_part_38 ?_
        refine lv_astore (lv' := [(4, .ref z95), (0, .ref a0), (1, .int x1), (2, .int x2), (3, .int x3)]) hx hb dX6_part_39 hl (by decide) rfl (fun ls hl => ?_)
        refine lv_iload_n hx hb dX6_part_41 rfl (lv_at hl 4 rfl) ?_
        by_cases c98 : x3 = 0
        · refine ax_eqi c98 ?_
          refine lv_tableIn (off := 26) (tgt := 68) hx hb dX6_part_42 (by decide) (by decide) (by decide) (by decide) ?_
          have c98 := (ax_eq (n := 0) (by decide)).mp c98
          refine lv_aload hx hb dX6_part_68 (lv_at hl 0 rfl) ?_
          obtain ⟨z99, z101, z103, z105, z107, z109, z111, z112, z113, z114, z115, o117, h100, h102, h104, h106, h108, h110, h116, -⟩ := s_op6 hI h96
          refine th_getN (D := (dC, dI)) (ci := 5) (v := .ref z103) (C := RX5) (T := TX5) (N := 11) hx hb hts inX5 hown hK hP (hLK _ h96 (by decide)) o117 rfl 2 (by decide) (va_Nw.use rfl (ax_n72 hN)) (fun _ h9 => h9) rfl dX6_part_70 ?_
          refine lv_iload_n hx hb dX6_part_73 rfl (lv_at hl 3 rfl) ?_
          obtain ⟨f118, o119, h120⟩ := s_op32 hI h104
          refine th_iald hx hb hK hP (hLK _ h104 (by decide)) 0 o119 rfl (th_in ⟨by omega, by omega⟩) dX6_part_74 ?_
          refine lv_topi (fun v121 ev121 => ?_)
          exact W.iret (v := v121) hx hb hr (fun t ht hW => ⟨⟨v121, F30, rfl, ⟨trivial, trivial, hI, hfr⟩, by rw [ht]; exact hP, va_K.moved hW.alike hK⟩, hS.F ht⟩) hS.2.2 dX6_part_75
        · have c98 := mt (ax_eq (n := 0) (by decide)).mpr c98
          by_cases c122 : x3 = 1
          · refine ax_eqi c122 ?_
            refine lv_tableIn (off := 34) (tgt := 76) hx hb dX6_part_42 (by decide) (by decide) (by decide) (by decide) ?_
            have c122 := (ax_eq (n := 1) (by decide)).mp c122
            refine lv_aload hx hb dX6_part_76 (lv_at hl 0 rfl) ?_
            obtain ⟨z123, z125, z127, z129, z131, z133, z135, z136, z137, z138, z139, o141, h124, h126, h128, h130, h132, h134, h140, -⟩ := s_op6 hI h96
            refine th_getN (D := (dC, dI)) (ci := 5) (v := .ref z129) (C := RX5) (T := TX5) (N := 11) hx hb hts inX5 hown hK hP (hLK _ h96 (by decide)) o141 rfl 3 (by decide) (va_Nw.use rfl (ax_n73 hN)) (fun _ h9 => h9) rfl dX6_part_78 ?_
            refine lv_iload_n hx hb dX6_part_81 rfl (lv_at hl 3 rfl) ?_
            obtain ⟨f142, o143, h144⟩ := s_op32 hI h130
            refine th_iald hx hb hK hP (hLK _ h130 (by decide)) 0 o143 rfl (th_in ⟨by omega, by omega⟩) dX6_part_82 ?_
            refine lv_topi (fun v145 ev145 => ?_)
            exact W.iret (v := v145) hx hb hr (fun t ht hW => ⟨⟨v145, F30, rfl, ⟨trivial, trivial, hI, hfr⟩, by rw [ht]; exact hP, va_K.moved hW.alike hK⟩, hS.F ht⟩) hS.2.2 dX6_part_83
          · have c122 := mt (ax_eq (n := 1) (by decide)).mpr c122
            by_cases c146 : x3 = 2
            · refine ax_eqi c146 ?_
              refine lv_tableIn (off := 42) (tgt := 84) hx hb dX6_part_42 (by decide) (by decide) (by decide) (by decide) ?_
              have c146 := (ax_eq (n := 2) (by decide)).mp c146
              refine lv_aload hx hb dX6_part_84 (lv_at hl 0 rfl) ?_
              obtain ⟨z147, z149, z151, z153, z155, z157, z159, z160, z161, z162, z163, o165, h148, h150, h152, h154, h156, h158, h164, -⟩ := s_op6 hI h96
              refine th_getN (D := (dC, dI)) (ci := 5) (v := .ref z155) (C := RX5) (T := TX5) (N := 11) hx hb hts inX5 hown hK hP (hLK _ h96 (by decide)) o165 rfl 4 (by decide) (va_Nw.use rfl (ax_n74 hN)) (fun _ h9 => h9) rfl dX6_part_86 ?_
              refine lv_iload_n hx hb dX6_part_89 rfl (lv_at hl 3 rfl) ?_
              obtain ⟨f166, o167, h168⟩ := s_op32 hI h156
              refine th_iald hx hb hK hP (hLK _ h156 (by decide)) 0 o167 rfl (th_in ⟨by omega, by omega⟩) dX6_part_90 ?_
              refine lv_topi (fun v169 ev169 => ?_)
              exact W.iret (v := v169) hx hb hr (fun t ht hW => ⟨⟨v169, F30, rfl, ⟨trivial, trivial, hI, hfr⟩, by rw [ht]; exact hP, va_K.moved hW.alike hK⟩, hS.F ht⟩) hS.2.2 dX6_part_91
            · have c146 := mt (ax_eq (n := 2) (by decide)).mpr c146
              refine lv_tableOut (tgt := 92) hx hb dX6_part_42 (by omega) (by decide) ?_
              refine lv_iconst (v := (-1)) hx hb dX6_part_92 (by decide) ?_
              exact W.iret (v := (-1)) hx hb hr (fun t ht hW => ⟨⟨(-1), F30, rfl, ⟨trivial, trivial, hI, hfr⟩, by rw [ht]; exact hP, va_K.moved hW.alike hK⟩, hS.F ht⟩) hS.2.2 dX6_part_93
      · have c91 := mt Int32.lt_iff_toInt_lt.mpr c91
        refine lv_iconst (v := (-1)) hx hb dX6_part_28 (by decide) ?_
        exact W.iret (v := (-1)) hx hb hr (fun t ht hW => ⟨⟨(-1), F30, rfl, ⟨trivial, trivial, hI, hfr⟩, by rw [ht]; exact hP, va_K.moved hW.alike hK⟩, hS.F ht⟩) hS.2.2 dX6_part_29

set_option maxHeartbeats 4000000 in
set_option maxRecDepth 100000 in
theorem s_X6_word (l : Launch) (dC : Nat → ClassId) (dI : Nat → Nat → Nat) (sz : Nat) {L : List Nat} {K : Nat → Nat} {cs : Nat → ClassId} (hLK : ∀ a {k : Nat}, K a = k → k ≠ 0 → a ∈ L) (D : Nat) (F : Nat → va_E) (a0 : Nat) (x1 : Int32) (x2 : Int32) (ha0 : K a0 = 7) (hx1 : 0 ≤ x1.toInt ∧ x1.toInt ≤ 1) (hI : s_I K cs D F) : Met l yX6_word (Cond.code yX6_word cX6_word 3 (some .int) :: T0) ({ frames := 1, cells := 0, slots := 0, locals := 22 }) (va_Pc [.ref a0, .int x1, .int x2] (s_W dC dI sz L F [(cs 0, .int), (cs 1, .byte), (cs 2, .long), (cs 3, .object RX5), (cs 4, .object RX4), (cs 5, .array .int), (cs 6, .char), (cs 7, .boolean)])) (va_Qi (fun (r : Int32) (G : Nat → va_E) => True ∧ True ∧ s_I K cs D G ∧ ∀ b, K b ∉ ([] : List Nat) → G b = F b) (fun (G : Nat → va_E) (t : State) => va_P (dC, dI) vwCl (va_pl L G) t.heap ∧ va_K (dC, dI) vwCl [(cs 0, .int), (cs 1, .byte), (cs 2, .long), (cs 3, .object RX5), (cs 4, .object RX4), (cs 5, .array .int), (cs 6, .char), (cs 7, .boolean)] t) (fun q => q ∈ L)) 0 0 (fun q => q ∈ L) := by
  refine Met.ofW (cc := cX6_word) (maxL := 3) (ret := (some .int)) (by decide) rfl ?_
  intro p e s m args below meth c s₁ B hml hv
  obtain ⟨rfl, hsz, hP, hK, hD, hN⟩ := hv
  have hx := B.exec
  have hb := B.bytes
  have hr := B.returns
  have hts : ∀ w ∈ T0, w.before _ s = true := fun w h => atoms_spec (ws := Cond.code yX6_word cX6_word 3 (some .int) :: T0) B.pre w (List.mem_cons_of_mem _ h)
  have hown : s.vm.findClass RX6 = some m.cls := findClass_of_methodNamed B.named
  have hlocks := B.notSynchronized
  have hS : va_S (fun q => q ∈ L) s.heap s.heap [] := va_S.rf
  have hfr : ∀ b, K b ∉ ([] : List Nat) → F b = F b := fun _ _ => rfl
  have hl := lv_entry ([.ref a0, .int x1, .int x2]) (n := 3) (Nat.le_of_ble_eq_true rfl)
  rw [lg_entry_eq]
  generalize (lg_sl ([.ref a0, .int x1, .int x2]) ++ List.replicate (3 - (lg_sl ([.ref a0, .int x1, .int x2])).length) Slot.unset).toArray = ls at hl ⊢
  have hl : lv_has ls 3 [(0, .ref a0), (1, .int x1), (2, .int x2)] := hl
  refine s_gen hP hS (fun H locs hP hS => ?_)
  refine lv_aload_n hx hb dX6_word_0 rfl (lv_at hl 0 rfl) ?_
  refine lv_iload_n hx hb dX6_word_1 rfl (lv_at hl 1 rfl) ?_
  refine lv_iload_n hx hb dX6_word_2 rfl (lv_at hl 2 rfl) ?_
  obtain ⟨z1, z3, z5, z7, z9, z11, z12, z14, z16, z18, z20, z22, z24, z26, o28, h2, h4, h6, h8, h10, h13, h15, h17, h19, h21, h23, h25, h27, -⟩ := s_op7 hI ha0
  refine va_calli (va_runV (As := [.int x1, .int x2]) (rest := []) ⟨hx, hb, hml, hown, hts⟩ (s_X6_hasWord l dC dI H.size hLK D F a0 x1 x2 ha0 (⟨by omega, by omega⟩) hI) (cwV 2 hts (ax_gV T_232 T_233 T_234 T_193 T_18) rfl rfl rfl (by decide +kernel) ⟨Nat.le_of_ble_eq_true rfl, Nat.le_of_ble_eq_true rfl⟩) ⟨fun a U g mk q => ⟨q.1, s_pc (U := U) rfl rfl q.2⟩, s_recv hK hP (hLK _ ha0 (by decide)) (ci := 6) rfl o28, fun U hU hW => ⟨rfl, s_pw hU hW hP hK hD hN⟩⟩ rfl rfl hl.1 rfl (lv_room (Nat.le_of_ble_eq_true rfl)) dX6_word_3 ⟨Nat.zero_le _, Nat.zero_le _⟩) hS (fun q _ h => h) (fun q h => h) (fun r29 F30 t H1 locs ht hvm hw hB hz1 hk1 hS => ?_)
  obtain ⟨hP, hK1⟩ := hB
  rw [ht] at hP
  generalize H1 = H at hP hS ⊢
  clear hz1 hk1
  obtain ⟨h31, h32, hI, hfr1⟩ := hw
  have o33 : F30 a0 = .inr (6, [.ref z1, .int z3, .ref z5, .ref z7, .ref z9, .int z11, .ref z12, .ref z14, .int z16, .int z18, .ref z20, .ref z22, .ref z24, .long z26]) := (hfr1 _ (by rw [ha0]; decide)).trans o28
  have hfr : ∀ b, K b ∉ ([] : List Nat) → F30 b = F b := fun b hb9 => (hfr1 b (fun q => hb9 (s_sub (by decide) q))).trans (hfr b hb9)
  obtain ⟨h32, h34⟩ := h32
  have h34 : (r29.toInt = 0 ∨ x1.toInt = 0 ∨ x2.toInt ≤ 31) := h34
  refine lv_if_ne (tgt := 12) hx hb dX6_word_6 (by decide) (fun c35 => ?_) (fun c35 => ?_)
  · have c35 := mt (ax_eq (n := 0) (by decide)).mpr c35
    have h36 := h32 (fun q => c35 (by rw [q]; decide))
    refine lv_iload_n hx hb dX6_word_12 rfl (lv_at hl 1 rfl) ?_
    refine lv_if_eq (tgt := 28) hx hb dX6_word_13 (by decide) (fun c37 => ?_) (fun c37 => ?_)
    · have c37 := (ax_eq (n := 0) (by decide)).mp c37
      refine lv_aload_n hx hb dX6_word_28 rfl (lv_at hl 0 rfl) ?_
      refine th_get (D := (dC, dI)) (ci := 6) (v := .ref z12) (C := RX6) (T := TX6) (N := 14) hx hb hts inX6 hown hK hP (hLK _ ha0 (by decide)) o33 rfl 6 (by decide) (hts _ T_174) (fun _ h9 => h9) rfl dX6_word_29 ?_
      obtain ⟨z38, z40, z42, z44, z46, z48, z50, z52, z54, z56, z58, z60, z61, z63, z64, o66, h39, h41, h43, h45, h47, h49, h51, h53, h55, h57, h59, h62, h65, -⟩ := s_op5 hI h13
      refine th_getN (D := (dC, dI)) (ci := 4) (v := .ref z40) (C := RX4) (T := TX4) (N := 15) hx hb hts inX4 hown hK hP (hLK _ h13 (by decide)) o66 rfl 1 (by decide) (va_Nw.use rfl (ax_n58 hN)) (fun _ h9 => h9) rfl dX6_word_32 ?_
      refine lv_iload_n hx hb dX6_word_35 rfl (lv_at hl 2 rfl) ?_
      obtain ⟨f67, o68, h69⟩ := s_op24 hI h41
      refine th_iald hx hb hK hP (hLK _ h41 (by decide)) 0 o68 rfl (th_in ⟨by omega, by omega⟩) dX6_word_36 ?_
      refine lv_topi (fun v70 ev70 => ?_)
      exact W.iret (v := v70) hx hb hr (fun t ht hW => ⟨⟨v70, F30, rfl, ⟨trivial, trivial, hI, hfr⟩, by rw [ht]; exact hP, va_K.moved hW.alike hK⟩, hS.F ht⟩) hS.2.2 dX6_word_37
    · have c37 := mt (ax_eq (n := 0) (by decide)).mpr c37
      refine lv_aload_n hx hb dX6_word_16 rfl (lv_at hl 0 rfl) ?_
      refine th_get (D := (dC, dI)) (ci := 6) (v := .ref z12) (C := RX6) (T := TX6) (N := 14) hx hb hts inX6 hown hK hP (hLK _ ha0 (by decide)) o33 rfl 6 (by decide) (hts _ T_174) (fun _ h9 => h9) rfl dX6_word_17 ?_
      obtain ⟨z71, z73, z75, z77, z79, z81, z83, z85, z87, z89, z91, z93, z94, z96, z97, o99, h72, h74, h76, h78, h80, h82, h84, h86, h88, h90, h92, h95, h98, -⟩ := s_op5 hI h13
      refine th_getN (D := (dC, dI)) (ci := 4) (v := .ref z75) (C := RX4) (T := TX4) (N := 15) hx hb hts inX4 hown hK hP (hLK _ h13 (by decide)) o99 rfl 2 (by decide) (va_Nw.use rfl (ax_n75 hN)) (fun _ h9 => h9) rfl dX6_word_20 ?_
      refine lv_iload_n hx hb dX6_word_23 rfl (lv_at hl 2 rfl) ?_
      obtain ⟨f100, o101, h102⟩ := s_op27 hI h76
      refine th_iald hx hb hK hP (hLK _ h76 (by decide)) 0 o101 rfl (th_in ⟨by omega, by omega⟩) dX6_word_24 ?_
      refine lv_topi (fun v103 ev103 => ?_)
      refine lv_goto (tgt := 37) hx hb dX6_word_25 (by decide) ?_
      exact W.iret (v := v103) hx hb hr (fun t ht hW => ⟨⟨v103, F30, rfl, ⟨trivial, trivial, hI, hfr⟩, by rw [ht]; exact hP, va_K.moved hW.alike hK⟩, hS.F ht⟩) hS.2.2 dX6_word_37
  · have c35 := (ax_eq (n := 0) (by decide)).mp c35
    refine lv_ldc (v := (-1000000)) hx hb hown (hts _ T_228) dX6_word_9 ?_
    exact W.iret (v := (-1000000)) hx hb hr (fun t ht hW => ⟨⟨(-1000000), F30, rfl, ⟨trivial, trivial, hI, hfr⟩, by rw [ht]; exact hP, va_K.moved hW.alike hK⟩, hS.F ht⟩) hS.2.2 dX6_word_11

set_option maxHeartbeats 4000000 in
set_option maxRecDepth 100000 in
theorem s_X6_raced (l : Launch) (dC : Nat → ClassId) (dI : Nat → Nat → Nat) (sz : Nat) {L : List Nat} {K : Nat → Nat} {cs : Nat → ClassId} (hLK : ∀ a {k : Nat}, K a = k → k ≠ 0 → a ∈ L) (D : Nat) (F : Nat → va_E) (a0 : Nat) (x1 : Int32) (x2 : Int32) (ha0 : K a0 = 7) (hx1 : 0 ≤ x1.toInt ∧ x1.toInt ≤ 1) (hI : s_I K cs D F) : Met l yX6_raced (Cond.code yX6_raced cX6_raced 3 (some .int) :: T0) ({ frames := 1, cells := 0, slots := 0, locals := 22 }) (va_Pc [.ref a0, .int x1, .int x2] (s_W dC dI sz L F [(cs 0, .int), (cs 1, .byte), (cs 2, .long), (cs 3, .object RX5), (cs 4, .object RX4), (cs 5, .array .int), (cs 6, .char), (cs 7, .boolean)])) (va_Qi (fun (r : Int32) (G : Nat → va_E) => True ∧ True ∧ s_I K cs D G ∧ ∀ b, K b ∉ ([] : List Nat) → G b = F b) (fun (G : Nat → va_E) (t : State) => va_P (dC, dI) vwCl (va_pl L G) t.heap ∧ va_K (dC, dI) vwCl [(cs 0, .int), (cs 1, .byte), (cs 2, .long), (cs 3, .object RX5), (cs 4, .object RX4), (cs 5, .array .int), (cs 6, .char), (cs 7, .boolean)] t) (fun q => q ∈ L)) 0 0 (fun q => q ∈ L) := by
  refine Met.ofW (cc := cX6_raced) (maxL := 3) (ret := (some .int)) (by decide) rfl ?_
  intro p e s m args below meth c s₁ B hml hv
  obtain ⟨rfl, hsz, hP, hK, hD, hN⟩ := hv
  have hx := B.exec
  have hb := B.bytes
  have hr := B.returns
  have hts : ∀ w ∈ T0, w.before _ s = true := fun w h => atoms_spec (ws := Cond.code yX6_raced cX6_raced 3 (some .int) :: T0) B.pre w (List.mem_cons_of_mem _ h)
  have hown : s.vm.findClass RX6 = some m.cls := findClass_of_methodNamed B.named
  have hlocks := B.notSynchronized
  have hS : va_S (fun q => q ∈ L) s.heap s.heap [] := va_S.rf
  have hfr : ∀ b, K b ∉ ([] : List Nat) → F b = F b := fun _ _ => rfl
  have hl := lv_entry ([.ref a0, .int x1, .int x2]) (n := 3) (Nat.le_of_ble_eq_true rfl)
  rw [lg_entry_eq]
  generalize (lg_sl ([.ref a0, .int x1, .int x2]) ++ List.replicate (3 - (lg_sl ([.ref a0, .int x1, .int x2])).length) Slot.unset).toArray = ls at hl ⊢
  have hl : lv_has ls 3 [(0, .ref a0), (1, .int x1), (2, .int x2)] := hl
  refine s_gen hP hS (fun H locs hP hS => ?_)
  refine lv_aload_n hx hb dX6_raced_0 rfl (lv_at hl 0 rfl) ?_
  refine lv_iload_n hx hb dX6_raced_1 rfl (lv_at hl 1 rfl) ?_
  refine lv_iload_n hx hb dX6_raced_2 rfl (lv_at hl 2 rfl) ?_
  obtain ⟨z1, z3, z5, z7, z9, z11, z12, z14, z16, z18, z20, z22, z24, z26, o28, h2, h4, h6, h8, h10, h13, h15, h17, h19, h21, h23, h25, h27, -⟩ := s_op7 hI ha0
  refine va_calli (va_runV (As := [.int x1, .int x2]) (rest := []) ⟨hx, hb, hml, hown, hts⟩ (s_X6_hasWord l dC dI H.size hLK D F a0 x1 x2 ha0 (⟨by omega, by omega⟩) hI) (cwV 2 hts (ax_gV T_232 T_233 T_234 T_193 T_18) rfl rfl rfl (by decide +kernel) ⟨Nat.le_of_ble_eq_true rfl, Nat.le_of_ble_eq_true rfl⟩) ⟨fun a U g mk q => ⟨q.1, s_pc (U := U) rfl rfl q.2⟩, s_recv hK hP (hLK _ ha0 (by decide)) (ci := 6) rfl o28, fun U hU hW => ⟨rfl, s_pw hU hW hP hK hD hN⟩⟩ rfl rfl hl.1 rfl (lv_room (Nat.le_of_ble_eq_true rfl)) dX6_raced_3 ⟨Nat.zero_le _, Nat.zero_le _⟩) hS (fun q _ h => h) (fun q h => h) (fun r29 F30 t H1 locs ht hvm hw hB hz1 hk1 hS => ?_)
  obtain ⟨hP, hK1⟩ := hB
  rw [ht] at hP
  generalize H1 = H at hP hS ⊢
  clear hz1 hk1
  obtain ⟨h31, h32, hI, hfr1⟩ := hw
  have o33 : F30 a0 = .inr (6, [.ref z1, .int z3, .ref z5, .ref z7, .ref z9, .int z11, .ref z12, .ref z14, .int z16, .int z18, .ref z20, .ref z22, .ref z24, .long z26]) := (hfr1 _ (by rw [ha0]; decide)).trans o28
  have hfr : ∀ b, K b ∉ ([] : List Nat) → F30 b = F b := fun b hb9 => (hfr1 b (fun q => hb9 (s_sub (by decide) q))).trans (hfr b hb9)
  obtain ⟨h32, h34⟩ := h32
  have h34 : (r29.toInt = 0 ∨ x1.toInt = 0 ∨ x2.toInt ≤ 31) := h34
  refine lv_if_ne (tgt := 11) hx hb dX6_raced_6 (by decide) (fun c35 => ?_) (fun c35 => ?_)
  · have c35 := mt (ax_eq (n := 0) (by decide)).mpr c35
    have h36 := h32 (fun q => c35 (by rw [q]; decide))
    refine lv_aload_n hx hb dX6_raced_11 rfl (lv_at hl 0 rfl) ?_
    refine th_get (D := (dC, dI)) (ci := 6) (v := .ref z12) (C := RX6) (T := TX6) (N := 14) hx hb hts inX6 hown hK hP (hLK _ ha0 (by decide)) o33 rfl 6 (by decide) (hts _ T_174) (fun _ h9 => h9) rfl dX6_raced_12 ?_
    obtain ⟨z37, z39, z41, z43, z45, z47, z49, z51, z53, z55, z57, z59, z60, z62, z63, o65, h38, h40, h42, h44, h46, h48, h50, h52, h54, h56, h58, h61, h64, -⟩ := s_op5 hI h13
    refine th_getN (D := (dC, dI)) (ci := 4) (v := .ref z47) (C := RX4) (T := TX4) (N := 15) hx hb hts inX4 hown hK hP (hLK _ h13 (by decide)) o65 rfl 5 (by decide) (va_Nw.use rfl (ax_n78 hN)) (fun _ h9 => h9) rfl dX6_raced_15 ?_
    refine lv_iload_n hx hb dX6_raced_18 rfl (lv_at hl 1 rfl) ?_
    refine lv_if_eq (tgt := 29) hx hb dX6_raced_19 (by decide) (fun c66 => ?_) (fun c66 => ?_)
    · have c66 := (ax_eq (n := 0) (by decide)).mp c66
      refine lv_iload_n hx hb dX6_raced_29 rfl (lv_at hl 2 rfl) ?_
      obtain ⟨f67, o68, h69⟩ := s_op28 hI h48
      refine th_iald hx hb hK hP (hLK _ h48 (by decide)) 0 o68 rfl (th_in ⟨by omega, by omega⟩) dX6_raced_30 ?_
      refine lv_topi (fun v70 ev70 => ?_)
      exact W.iret (v := v70) hx hb hr (fun t ht hW => ⟨⟨v70, F30, rfl, ⟨trivial, trivial, hI, hfr⟩, by rw [ht]; exact hP, va_K.moved hW.alike hK⟩, hS.F ht⟩) hS.2.2 dX6_raced_31
    · have c66 := mt (ax_eq (n := 0) (by decide)).mpr c66
      refine lv_bipush (v := 64) hx hb dX6_raced_22 (by decide) ?_
      refine lv_iload_n hx hb dX6_raced_24 rfl (lv_at hl 2 rfl) ?_
      refine lv_iadd hx hb dX6_raced_25 ?_
      refine lv_topi (fun v71 ev71 => ?_)
      have qv71 : v71.toInt = 64 + x2.toInt := by rw [ev71]; exact th_add (by decide) rfl ⟨by omega, by omega⟩
      refine lv_goto (tgt := 30) hx hb dX6_raced_26 (by decide) ?_
      obtain ⟨f72, o73, h74⟩ := s_op28 hI h48
      refine th_iald hx hb hK hP (hLK _ h48 (by decide)) 0 o73 rfl (th_in ⟨by omega, by omega⟩) dX6_raced_30 ?_
      refine lv_topi (fun v75 ev75 => ?_)
      exact W.iret (v := v75) hx hb hr (fun t ht hW => ⟨⟨v75, F30, rfl, ⟨trivial, trivial, hI, hfr⟩, by rw [ht]; exact hP, va_K.moved hW.alike hK⟩, hS.F ht⟩) hS.2.2 dX6_raced_31
  · have c35 := (ax_eq (n := 0) (by decide)).mp c35
    refine lv_iconst (v := (-1)) hx hb dX6_raced_9 (by decide) ?_
    exact W.iret (v := (-1)) hx hb hr (fun t ht hW => ⟨⟨(-1), F30, rfl, ⟨trivial, trivial, hI, hfr⟩, by rw [ht]; exact hP, va_K.moved hW.alike hK⟩, hS.F ht⟩) hS.2.2 dX6_raced_10

set_option maxHeartbeats 4000000 in
set_option maxRecDepth 100000 in
theorem s_X6_kept (l : Launch) (dC : Nat → ClassId) (dI : Nat → Nat → Nat) (sz : Nat) {L : List Nat} {K : Nat → Nat} {cs : Nat → ClassId} (hLK : ∀ a {k : Nat}, K a = k → k ≠ 0 → a ∈ L) (D : Nat) (F : Nat → va_E) (a0 : Nat) (x1 : Int32) (x2 : Int32) (ha0 : K a0 = 7) (hI : s_I K cs D F) : Met l yX6_kept (Cond.code yX6_kept cX6_kept 4 (some .int) :: T0) ({ frames := 1, cells := 0, slots := 0, locals := 13 }) (va_Pc [.ref a0, .int x1, .int x2] (s_W dC dI sz L F [(cs 0, .int), (cs 1, .byte), (cs 2, .long), (cs 3, .object RX5), (cs 4, .object RX4), (cs 5, .array .int), (cs 6, .char), (cs 7, .boolean)])) (va_Qi (fun (r : Int32) (G : Nat → va_E) => True ∧ True ∧ s_I K cs D G ∧ ∀ b, K b ∉ ([] : List Nat) → G b = F b) (fun (G : Nat → va_E) (t : State) => va_P (dC, dI) vwCl (va_pl L G) t.heap ∧ va_K (dC, dI) vwCl [(cs 0, .int), (cs 1, .byte), (cs 2, .long), (cs 3, .object RX5), (cs 4, .object RX4), (cs 5, .array .int), (cs 6, .char), (cs 7, .boolean)] t) (fun q => q ∈ L)) 0 0 (fun q => q ∈ L) := by
  refine Met.ofW (cc := cX6_kept) (maxL := 4) (ret := (some .int)) (by decide) rfl ?_
  intro p e s m args below meth c s₁ B hml hv
  obtain ⟨rfl, hsz, hP, hK, hD, hN⟩ := hv
  have hx := B.exec
  have hb := B.bytes
  have hr := B.returns
  have hts : ∀ w ∈ T0, w.before _ s = true := fun w h => atoms_spec (ws := Cond.code yX6_kept cX6_kept 4 (some .int) :: T0) B.pre w (List.mem_cons_of_mem _ h)
  have hown : s.vm.findClass RX6 = some m.cls := findClass_of_methodNamed B.named
  have hlocks := B.notSynchronized
  have hS : va_S (fun q => q ∈ L) s.heap s.heap [] := va_S.rf
  have hfr : ∀ b, K b ∉ ([] : List Nat) → F b = F b := fun _ _ => rfl
  have hl := lv_entry ([.ref a0, .int x1, .int x2]) (n := 4) (Nat.le_of_ble_eq_true rfl)
  rw [lg_entry_eq]
  generalize (lg_sl ([.ref a0, .int x1, .int x2]) ++ List.replicate (4 - (lg_sl ([.ref a0, .int x1, .int x2])).length) Slot.unset).toArray = ls at hl ⊢
  have hl : lv_has ls 4 [(0, .ref a0), (1, .int x1), (2, .int x2)] := hl
  refine s_gen hP hS (fun H locs hP hS => ?_)
  refine lv_aload_n hx hb dX6_kept_0 rfl (lv_at hl 0 rfl) ?_
  obtain ⟨z1, z3, z5, z7, z9, z11, z12, z14, z16, z18, z20, z22, z24, z26, o28, h2, h4, h6, h8, h10, h13, h15, h17, h19, h21, h23, h25, h27, -⟩ := s_op7 hI ha0
  refine th_get (D := (dC, dI)) (ci := 6) (v := .ref z12) (C := RX6) (T := TX6) (N := 14) hx hb hts inX6 hown hK hP (hLK _ ha0 (by decide)) o28 rfl 6 (by decide) (hts _ T_174) (fun _ h9 => h9) rfl dX6_kept_1 ?_
  obtain ⟨z29, z31, z33, z35, z37, z39, z41, z43, z45, z47, z49, z51, z52, z54, z55, o57, h30, h32, h34, h36, h38, h40, h42, h44, h46, h48, h50, h53, h56, -⟩ := s_op5 hI h13
  refine th_getN (D := (dC, dI)) (ci := 4) (v := .int z52) (C := RX4) (T := TX4) (N := 15) hx hb hts inX4 hown hK hP (hLK _ h13 (by decide)) o57 rfl 12 (by decide) (va_Nw.use rfl (ax_n12 hN)) (fun _ h9 => h9) rfl dX6_kept_4 ?_
  refine lv_bipush (v := 30) hx hb dX6_kept_7 (by decide) ?_
  refine va_mmin hx hb (by rw [hml]; exact hl.1.symm) hown (hts _ T_235) (hts _ T_236) (hts _ T_237) (hts _ T_19) (Nat.le_of_ble_eq_true rfl) (Nat.le_of_ble_eq_true rfl) (Nat.zero_le _) (Nat.zero_le _) dX6_kept_9 ?_
  refine lv_topi (fun v58 ev58 => ?_)
  have qv58 := th_mmin (a := z52.toInt) (b := 30) ev58 rfl (by decide)
  refine lv_istore_n (lv' := [(3, .int v58), (0, .ref a0), (1, .int x1), (2, .int x2)]) hx hb dX6_kept_12 rfl hl (by decide) rfl (fun ls hl => ?_)
  refine lv_aload_n hx hb dX6_kept_13 rfl (lv_at hl 1 rfl) ?_
  refine th_get (D := (dC, dI)) (ci := 6) (v := .int z11) (C := RX6) (T := TX6) (N := 14) hx hb hts inX6 hown hK hP (hLK _ ha0 (by decide)) o28 rfl 5 (by decide) (hts _ T_224) (fun _ h9 => h9) rfl dX6_kept_14 ?_
  refine lv_if_eq (tgt := 38) hx hb dX6_kept_17 (by decide) (fun c59 => ?_) (fun c59 => ?_)
  · have c59 := (ax_eq (n := 0) (by decide)).mp c59
    refine lv_iconst (v := (-1)) hx hb dX6_kept_38 (by decide) ?_
    exact W.iret (v := (-1)) hx hb hr (fun t ht hW => ⟨⟨(-1), F, rfl, ⟨trivial, trivial, hI, hfr⟩, by rw [ht]; exact hP, va_K.moved hW.alike hK⟩, hS.F ht⟩) hS.2.2 dX6_kept_39
  · have c59 := mt (ax_eq (n := 0) (by decide)).mpr c59
    refine lv_iload_n hx hb dX6_kept_20 rfl (lv_at hl 2 rfl) ?_
    refine lv_if_lt (tgt := 38) hx hb dX6_kept_21 (by decide) (fun c60 => ?_) (fun c60 => ?_)
    · have c60 := (ax_lt (n := 0) (by decide)).mp c60
      refine lv_iconst (v := (-1)) hx hb dX6_kept_38 (by decide) ?_
      exact W.iret (v := (-1)) hx hb hr (fun t ht hW => ⟨⟨(-1), F, rfl, ⟨trivial, trivial, hI, hfr⟩, by rw [ht]; exact hP, va_K.moved hW.alike hK⟩, hS.F ht⟩) hS.2.2 dX6_kept_39
    · have c60 := mt (ax_lt (n := 0) (by decide)).mpr c60
      refine lv_iload_n hx hb dX6_kept_24 rfl (lv_at hl 2 rfl) ?_
      refine lv_iload_n hx hb dX6_kept_25 rfl (lv_at hl 0 rfl) ?_
      refine lv_icmp_ge (tgt := 38) hx hb dX6_kept_26 (by decide) (fun c61 => ?_) (fun c61 => ?_)
      · have c61 := Int32.le_iff_toInt_le.mp c61
        refine lv_iconst (v := (-1)) hx hb dX6_kept_38 (by decide) ?_
        exact W.iret (v := (-1)) hx hb hr (fun t ht hW => ⟨⟨(-1), F, rfl, ⟨trivial, trivial, hI, hfr⟩, by rw [ht]; exact hP, va_K.moved hW.alike hK⟩, hS.F ht⟩) hS.2.2 dX6_kept_39
      · have c61 := mt Int32.le_iff_toInt_le.mpr c61
        refine lv_iload_n hx hb dX6_kept_29 rfl (lv_at hl 3 rfl) ?_
        refine lv_if_lt (tgt := 38) hx hb dX6_kept_30 (by decide) (fun c62 => ?_) (fun c62 => ?_)
        · have c62 := (ax_lt (n := 0) (by decide)).mp c62
          refine lv_iconst (v := (-1)) hx hb dX6_kept_38 (by decide) ?_
          exact W.iret (v := (-1)) hx hb hr (fun t ht hW => ⟨⟨(-1), F, rfl, ⟨trivial, trivial, hI, hfr⟩, by rw [ht]; exact hP, va_K.moved hW.alike hK⟩, hS.F ht⟩) hS.2.2 dX6_kept_39
        · have c62 := mt (ax_lt (n := 0) (by decide)).mpr c62
          refine lv_iload_n hx hb dX6_kept_33 rfl (lv_at hl 3 rfl) ?_
          refine lv_iconst (v := 5) hx hb dX6_kept_34 (by decide) ?_
          refine lv_icmp_lt (tgt := 40) hx hb dX6_kept_35 (by decide) (fun c63 => ?_) (fun c63 => ?_)
          · have c63 := (ax_lt (n := 5) (by decide)).mp c63
            refine lv_aload_n hx hb dX6_kept_40 rfl (lv_at hl 1 rfl) ?_
            refine th_get (D := (dC, dI)) (ci := 6) (v := .ref z12) (C := RX6) (T := TX6) (N := 14) hx hb hts inX6 hown hK hP (hLK _ ha0 (by decide)) o28 rfl 6 (by decide) (hts _ T_174) (fun _ h9 => h9) rfl dX6_kept_41 ?_
            refine th_getN (D := (dC, dI)) (ci := 4) (v := .ref z41) (C := RX4) (T := TX4) (N := 15) hx hb hts inX4 hown hK hP (hLK _ h13 (by decide)) o57 rfl 6 (by decide) (va_Nw.use rfl (ax_n64 hN)) (fun _ h9 => h9) rfl dX6_kept_44 ?_
            refine lv_aload_n hx hb dX6_kept_47 rfl (lv_at hl 1 rfl) ?_
            refine th_get (D := (dC, dI)) (ci := 6) (v := .ref z12) (C := RX6) (T := TX6) (N := 14) hx hb hts inX6 hown hK hP (hLK _ ha0 (by decide)) o28 rfl 6 (by decide) (hts _ T_174) (fun _ h9 => h9) rfl dX6_kept_48 ?_
            refine th_getN (D := (dC, dI)) (ci := 4) (v := .int z52) (C := RX4) (T := TX4) (N := 15) hx hb hts inX4 hown hK hP (hLK _ h13 (by decide)) o57 rfl 12 (by decide) (va_Nw.use rfl (ax_n12 hN)) (fun _ h9 => h9) rfl dX6_kept_51 ?_
            refine lv_iload_n hx hb dX6_kept_54 rfl (lv_at hl 0 rfl) ?_
            refine lv_isub hx hb dX6_kept_55 ?_
            refine lv_topi (fun v64 ev64 => ?_)
            have qv64 : v64.toInt = z52.toInt - v58.toInt := by rw [ev64]; exact th_sub rfl rfl (by have q8 := th_lo z52; have q9 := th_hi z52; exact ⟨by omega, by omega⟩)
            refine lv_iload_n hx hb dX6_kept_56 rfl (lv_at hl 2 rfl) ?_
            refine lv_iadd hx hb dX6_kept_57 ?_
            refine lv_topi (fun v65 ev65 => ?_)
            have qv65 : v65.toInt = v64.toInt + x1.toInt := by rw [ev65]; have q9 := th_hi z52; exact th_add rfl rfl ⟨by omega, by omega⟩
            have pv65 : 0 ≤ v65.toInt := by omega
            refine lv_bipush (v := 30) hx hb dX6_kept_58 (by decide) ?_
            refine lv_irem hx hb dX6_kept_60 (by decide) ?_
            refine lv_topi (fun v66 ev66 => ?_)
            have qv66 : v66.toInt = v65.toInt % 30 := by rw [ev66]; exact th_rem rfl (by decide) (by omega) (by decide)
            refine lv_iconst (v := 5) hx hb dX6_kept_61 (by decide) ?_
            refine lv_imul hx hb dX6_kept_62 ?_
            refine lv_topi (fun v67 ev67 => ?_)
            have qv67 : v67.toInt = v66.toInt * 5 := by rw [ev67]; exact th_mul rfl (by decide) ⟨by omega, by omega⟩
            refine lv_iload_n hx hb dX6_kept_63 rfl (lv_at hl 3 rfl) ?_
            refine lv_iadd hx hb dX6_kept_64 ?_
            refine lv_topi (fun v68 ev68 => ?_)
            have qv68 : v68.toInt = v67.toInt + x2.toInt := by rw [ev68]; exact th_add rfl rfl ⟨by omega, by omega⟩
            obtain ⟨f69, o70, h71⟩ := s_op29 hI h42
            refine th_iald hx hb hK hP (hLK _ h42 (by decide)) 0 o70 rfl (th_in ⟨by omega, by omega⟩) dX6_kept_65 ?_
            refine lv_topi (fun v72 ev72 => ?_)
            exact W.iret (v := v72) hx hb hr (fun t ht hW => ⟨⟨v72, F, rfl, ⟨trivial, trivial, hI, hfr⟩, by rw [ht]; exact hP, va_K.moved hW.alike hK⟩, hS.F ht⟩) hS.2.2 dX6_kept_66
          · have c63 := mt (ax_lt (n := 5) (by decide)).mpr c63
            refine lv_iconst (v := (-1)) hx hb dX6_kept_38 (by decide) ?_
            exact W.iret (v := (-1)) hx hb hr (fun t ht hW => ⟨⟨(-1), F, rfl, ⟨trivial, trivial, hI, hfr⟩, by rw [ht]; exact hP, va_K.moved hW.alike hK⟩, hS.F ht⟩) hS.2.2 dX6_kept_39

set_option maxHeartbeats 4000000 in
set_option maxRecDepth 100000 in
theorem s_X6_seed (l : Launch) (dC : Nat → ClassId) (dI : Nat → Nat → Nat) (sz : Nat) {L : List Nat} {K : Nat → Nat} {cs : Nat → ClassId} (hLK : ∀ a {k : Nat}, K a = k → k ≠ 0 → a ∈ L) (D : Nat) (F : Nat → va_E) (a0 : Nat) (x1 : Int32) (ha0 : K a0 = 7) (hI : s_I K cs D F) : Met l yX6_seed (Cond.code yX6_seed cX6_seed 2 (some .boolean) :: T0) ({ frames := 1, cells := 0, slots := 0, locals := 21 }) (va_Pc [.ref a0, .int x1] (s_W dC dI sz L F [(cs 0, .int), (cs 1, .byte), (cs 2, .long), (cs 3, .object RX5), (cs 4, .object RX4), (cs 5, .array .int), (cs 6, .char), (cs 7, .boolean)])) (va_Qi (fun (r : Int32) (G : Nat → va_E) => (0 ≤ r.toInt ∧ r.toInt ≤ 1) ∧ ((¬ r = 0 → 0 ≤ x1.toInt ∧ x1.toInt ≤ 2147483647) ∧ ((x1.toInt < 0 ∧ r.toInt = 0) ∨ (0 ≤ x1.toInt ∧ r.toInt = 1))) ∧ s_I K cs D G ∧ ∀ b, K b ∉ [7, 39] → G b = F b) (fun (G : Nat → va_E) (t : State) => va_P (dC, dI) vwCl (va_pl L G) t.heap ∧ va_K (dC, dI) vwCl [(cs 0, .int), (cs 1, .byte), (cs 2, .long), (cs 3, .object RX5), (cs 4, .object RX4), (cs 5, .array .int), (cs 6, .char), (cs 7, .boolean)] t) (fun q => q ∈ L)) 0 0 (fun q => q ∈ L) := by
  refine Met.ofW (cc := cX6_seed) (maxL := 2) (ret := (some .boolean)) (by decide) rfl ?_
  intro p e s m args below meth c s₁ B hml hv
  obtain ⟨rfl, hsz, hP, hK, hD, hN⟩ := hv
  have hx := B.exec
  have hb := B.bytes
  have hr := B.returns
  have hts : ∀ w ∈ T0, w.before _ s = true := fun w h => atoms_spec (ws := Cond.code yX6_seed cX6_seed 2 (some .boolean) :: T0) B.pre w (List.mem_cons_of_mem _ h)
  have hown : s.vm.findClass RX6 = some m.cls := findClass_of_methodNamed B.named
  have hlocks := B.notSynchronized
  have hS : va_S (fun q => q ∈ L) s.heap s.heap [] := va_S.rf
  have hfr : ∀ b, K b ∉ [7, 39] → F b = F b := fun _ _ => rfl
  have hl := lv_entry ([.ref a0, .int x1]) (n := 2) (Nat.le_of_ble_eq_true rfl)
  rw [lg_entry_eq]
  generalize (lg_sl ([.ref a0, .int x1]) ++ List.replicate (2 - (lg_sl ([.ref a0, .int x1])).length) Slot.unset).toArray = ls at hl ⊢
  have hl : lv_has ls 2 [(0, .ref a0), (1, .int x1)] := hl
  refine s_gen hP hS (fun H locs hP hS => ?_)
  refine lv_iload_n hx hb dX6_seed_0 rfl (lv_at hl 1 rfl) ?_
  refine lv_if_ge (tgt := 12) hx hb dX6_seed_1 (by decide) (fun c1 => ?_) (fun c1 => ?_)
  · have c1 := (ax_ge (n := 0) (by decide)).mp c1
    refine lv_aload_n hx hb dX6_seed_12 rfl (lv_at hl 0 rfl) ?_
    refine lv_iload_n hx hb dX6_seed_13 rfl (lv_at hl 1 rfl) ?_
    refine lv_i2l hx hb dX6_seed_14 rfl ?_
    refine lv_topl (fun v2 ev2 => ?_)
    obtain ⟨z3, z5, z7, z9, z11, z13, z14, z16, z18, z20, z22, z24, z26, z28, o30, h4, h6, h8, h10, h12, h15, h17, h19, h21, h23, h25, h27, h29, -⟩ := s_op7 hI ha0
    refine th_put (D := (dC, dI)) (ci := 6) (v := .long v2) (ty := .long) (C := RX6) (T := TX6) (N := 14) hx hb hts inX6 tyX6 tyX6_ok nmX6 hown hK hP hD hS (hLK _ ha0 (by decide)) o30 rfl 13 (by decide) (hts _ T_184) (fun _ h9 => h9) rfl (by decide +kernel) rfl rfl (Nat.le_of_ble_eq_true rfl) dX6_seed_15 (fun H locs hP hS => ?_)
    have hP : va_P (dC, dI) vwCl (va_pl L (va_up F a0 (.inr (6, [.ref z3, .int z5, .ref z7, .ref z9, .ref z11, .int z13, .ref z14, .ref z16, .int z18, .int z20, .ref z22, .ref z24, .ref z26, .long v2])))) H := hP
    obtain ⟨F31, hF32⟩ : ∃ G : Nat → va_E, G = va_up F a0 (.inr (6, [.ref z3, .int z5, .ref z7, .ref z9, .ref z11, .int z13, .ref z14, .ref z16, .int z18, .int z20, .ref z22, .ref z24, .ref z26, .long v2])) := ⟨_, rfl⟩
    rw [← hF32] at hP
    have hI : s_I K cs D F31 := by rw [hF32]; exact s_cl7 hI ha0 ⟨z3, z5, z7, z9, z11, z13, z14, z16, z18, z20, z22, z24, z26, v2, rfl, h4, ⟨by omega, by omega⟩, h8, h10, h12, h15, h17, ⟨by omega, by omega⟩, ⟨by omega, by omega⟩, h23, h25, h27, h29, trivial⟩
    have hfr : ∀ b, K b ∉ [7, 39] → F31 b = F b := by rw [hF32]; exact s_fr hfr ha0 (by decide)
    have o33 : F31 a0 = .inr (6, [.ref z3, .int z5, .ref z7, .ref z9, .ref z11, .int z13, .ref z14, .ref z16, .int z18, .int z20, .ref z22, .ref z24, .ref z26, .long v2]) := by rw [hF32]; exact th_up
    refine lv_iconst (v := 1) hx hb dX6_seed_18 (by decide) ?_
    exact W.zret (v := 1) (ty := .boolean) hx hb hr (by decide) (fun t ht hW => ⟨⟨1, F31, rfl, ⟨(by decide), ⟨(fun q => ⟨by omega, by have q9 := th_hi x1; omega⟩), (by have q8 : (1 : Int32).toInt = 1 := (by decide); omega)⟩, hI, hfr⟩, by rw [ht]; exact hP, va_K.moved hW.alike hK⟩, hS.F ht⟩) hS.2.2 dX6_seed_19
  · have c1 := mt (ax_ge (n := 0) (by decide)).mpr c1
    refine lv_aload_n hx hb dX6_seed_4 rfl (lv_at hl 0 rfl) ?_
    refine lv_iconst (v := 5) hx hb dX6_seed_5 (by decide) ?_
    obtain ⟨z34, z36, z38, z40, z42, z44, z45, z47, z49, z51, z53, z55, z57, z59, o61, h35, h37, h39, h41, h43, h46, h48, h50, h52, h54, h56, h58, h60, -⟩ := s_op7 hI ha0
    refine va_calli (va_runV (As := [.int 5]) (rest := []) ⟨hx, hb, hml, hown, hts⟩ (s_X6_refuse l dC dI H.size hLK D F a0 5 ha0 (by decide) hI) (cwV 1 hts (ax_gV T_194 T_195 T_196 T_193 T_10) rfl rfl rfl (by decide +kernel) ⟨Nat.le_of_ble_eq_true rfl, Nat.le_of_ble_eq_true rfl⟩) ⟨fun a U g mk q => ⟨q.1, s_pc (U := U) rfl rfl q.2⟩, s_recv hK hP (hLK _ ha0 (by decide)) (ci := 6) rfl o61, fun U hU hW => ⟨rfl, s_pw hU hW hP hK hD hN⟩⟩ rfl rfl hl.1 rfl (lv_room (Nat.le_of_ble_eq_true rfl)) dX6_seed_6 ⟨Nat.zero_le _, Nat.zero_le _⟩) hS (fun q _ h => h) (fun q h => h) (fun r62 F63 t H1 locs ht hvm hw hB hz1 hk1 hS => ?_)
    obtain ⟨hP, hK1⟩ := hB
    rw [ht] at hP
    generalize H1 = H at hP hS ⊢
    clear hz1 hk1
    obtain ⟨h64, h65, hI, hfr1⟩ := hw
    have o66 : F63 a0 = .inr (6, [.ref z34, .int z36, .ref z38, .ref z40, .ref z42, .int z44, .ref z45, .ref z47, .int z49, .int z51, .ref z53, .ref z55, .ref z57, .long z59]) := (hfr1 _ (by rw [ha0]; decide)).trans o61
    have hfr : ∀ b, K b ∉ [7, 39] → F63 b = F b := fun b hb9 => (hfr1 b (fun q => hb9 (s_sub (by decide) q))).trans (hfr b hb9)
    refine lv_pop hx hb dX6_seed_9 rfl ?_
    refine lv_iconst (v := 0) hx hb dX6_seed_10 (by decide) ?_
    exact W.zret (v := 0) (ty := .boolean) hx hb hr (by decide) (fun t ht hW => ⟨⟨0, F63, rfl, ⟨(by decide), ⟨(fun q => absurd (by decide) q), (by have q8 : (0 : Int32).toInt = 0 := (by decide); omega)⟩, hI, hfr⟩, by rw [ht]; exact hP, va_K.moved hW.alike hK⟩, hS.F ht⟩) hS.2.2 dX6_seed_11

set_option maxHeartbeats 4000000 in
set_option maxRecDepth 100000 in
theorem s_X6_status (l : Launch) (dC : Nat → ClassId) (dI : Nat → Nat → Nat) (sz : Nat) {L : List Nat} {K : Nat → Nat} {cs : Nat → ClassId} (hLK : ∀ a {k : Nat}, K a = k → k ≠ 0 → a ∈ L) (D : Nat) (F : Nat → va_E) (a0 : Nat) (x1 : Int32) (ha0 : K a0 = 7) (hI : s_I K cs D F) : Met l yX6_status (Cond.code yX6_status cX6_status 2 (some .int) :: T0) ({ frames := 0, cells := 0, slots := 0, locals := 0 }) (va_Pc [.ref a0, .int x1] (s_W dC dI sz L F [(cs 0, .int), (cs 1, .byte), (cs 2, .long), (cs 3, .object RX5), (cs 4, .object RX4), (cs 5, .array .int), (cs 6, .char), (cs 7, .boolean)])) (va_Qi (fun (r : Int32) (G : Nat → va_E) => True ∧ True ∧ s_I K cs D G ∧ ∀ b, K b ∉ ([] : List Nat) → G b = F b) (fun (G : Nat → va_E) (t : State) => va_P (dC, dI) vwCl (va_pl L G) t.heap ∧ va_K (dC, dI) vwCl [(cs 0, .int), (cs 1, .byte), (cs 2, .long), (cs 3, .object RX5), (cs 4, .object RX4), (cs 5, .array .int), (cs 6, .char), (cs 7, .boolean)] t) (fun q => q ∈ L)) 0 0 (fun q => q ∈ L) := by
  refine Met.ofW (cc := cX6_status) (maxL := 2) (ret := (some .int)) (by decide) rfl ?_
  intro p e s m args below meth c s₁ B hml hv
  obtain ⟨rfl, hsz, hP, hK, hD, hN⟩ := hv
  have hx := B.exec
  have hb := B.bytes
  have hr := B.returns
  have hts : ∀ w ∈ T0, w.before _ s = true := fun w h => atoms_spec (ws := Cond.code yX6_status cX6_status 2 (some .int) :: T0) B.pre w (List.mem_cons_of_mem _ h)
  have hown : s.vm.findClass RX6 = some m.cls := findClass_of_methodNamed B.named
  have hlocks := B.notSynchronized
  have hS : va_S (fun q => q ∈ L) s.heap s.heap [] := va_S.rf
  have hfr : ∀ b, K b ∉ ([] : List Nat) → F b = F b := fun _ _ => rfl
  have hl := lv_entry ([.ref a0, .int x1]) (n := 2) (Nat.le_of_ble_eq_true rfl)
  rw [lg_entry_eq]
  generalize (lg_sl ([.ref a0, .int x1]) ++ List.replicate (2 - (lg_sl ([.ref a0, .int x1])).length) Slot.unset).toArray = ls at hl ⊢
  have hl : lv_has ls 2 [(0, .ref a0), (1, .int x1)] := hl
  refine s_gen hP hS (fun H locs hP hS => ?_)
  refine th_join (fun g H locs => ∃ (G : Nat → va_E) (ls : Array Slot), g = F0 m 10 ls [] ∧ lv_has ls 2 [] ∧ s_I K cs D G ∧ va_P (dC, dI) vwCl (va_pl L G) H ∧ va_S (fun q => q ∈ L) s.heap H locs ∧ (∀ b, K b ∉ ([] : List Nat) → G b = F b)) (fun K10 => ?_) ?_
  · refine lv_iload_n hx hb dX6_status_0 rfl (lv_at hl 1 rfl) ?_
    refine lv_if_lt (tgt := 10) hx hb dX6_status_1 (by decide) (fun c1 => ?_) (fun c1 => ?_)
    · have c1 := (ax_lt (n := 0) (by decide)).mp c1
      exact K10 _ _ _ ⟨F, _, rfl, lv_sub hl [] rfl, hI, hP, hS, hfr⟩
    · have c1 := mt (ax_lt (n := 0) (by decide)).mpr c1
      refine lv_iload_n hx hb dX6_status_4 rfl (lv_at hl 1 rfl) ?_
      refine lv_bipush (v := 6) hx hb dX6_status_5 (by decide) ?_
      refine lv_icmp_lt (tgt := 14) hx hb dX6_status_7 (by decide) (fun c2 => ?_) (fun c2 => ?_)
      · have c2 := (ax_lt (n := 6) (by decide)).mp c2
        refine lv_aload_n hx hb dX6_status_14 rfl (lv_at hl 0 rfl) ?_
        obtain ⟨z3, z5, z7, z9, z11, z13, z14, z16, z18, z20, z22, z24, z26, z28, o30, h4, h6, h8, h10, h12, h15, h17, h19, h21, h23, h25, h27, h29, -⟩ := s_op7 hI ha0
        refine th_get (D := (dC, dI)) (ci := 6) (v := .ref z26) (C := RX6) (T := TX6) (N := 14) hx hb hts inX6 hown hK hP (hLK _ ha0 (by decide)) o30 rfl 12 (by decide) (hts _ T_183) (fun _ h9 => h9) rfl dX6_status_15 ?_
        refine lv_iload_n hx hb dX6_status_18 rfl (lv_at hl 1 rfl) ?_
        obtain ⟨f31, o32, h33⟩ := s_op39 hI h27
        refine th_iald hx hb hK hP (hLK _ h27 (by decide)) 0 o32 rfl (th_in ⟨by omega, by omega⟩) dX6_status_19 ?_
        refine lv_topi (fun v34 ev34 => ?_)
        exact W.iret (v := v34) hx hb hr (fun t ht hW => ⟨⟨v34, F, rfl, ⟨trivial, trivial, hI, hfr⟩, by rw [ht]; exact hP, va_K.moved hW.alike hK⟩, hS.F ht⟩) hS.2.2 dX6_status_20
      · have c2 := mt (ax_lt (n := 6) (by decide)).mpr c2
        exact K10 _ _ _ ⟨F, _, rfl, lv_sub hl [] rfl, hI, hP, hS, hfr⟩
  · intro g H locs hq
    obtain ⟨F9, ls, rfl, hl, hI, hP, hS, hfr⟩ := hq
    refine lv_iconst (v := (-1)) hx hb dX6_status_10 (by decide) ?_
    refine lv_goto (tgt := 20) hx hb dX6_status_11 (by decide) ?_
    exact W.iret (v := (-1)) hx hb hr (fun t ht hW => ⟨⟨(-1), F9, rfl, ⟨trivial, trivial, hI, hfr⟩, by rw [ht]; exact hP, va_K.moved hW.alike hK⟩, hS.F ht⟩) hS.2.2 dX6_status_20

set_option maxHeartbeats 4000000 in
set_option maxRecDepth 100000 in
theorem s_X6_layout (l : Launch) (dC : Nat → ClassId) (dI : Nat → Nat → Nat) (sz : Nat) {L : List Nat} {K : Nat → Nat} {cs : Nat → ClassId} (hLK : ∀ a {k : Nat}, K a = k → k ≠ 0 → a ∈ L) (D : Nat) (F : Nat → va_E) (x0 : Int32) (x1 : Int32) (x2 : Int32) (hx0 : 0 ≤ x0.toInt ∧ x0.toInt ≤ 1) (hx1 : 0 ≤ x1.toInt ∧ x1.toInt ≤ 1) (hx2 : 0 ≤ x2.toInt ∧ x2.toInt ≤ 3) (hI : s_I K cs D F) : Met l yX6_layout (Cond.code yX6_layout cX6_layout 3 (some .int) :: T0) ({ frames := 0, cells := 0, slots := 0, locals := 0 }) (va_Pc [.int x0, .int x1, .int x2] (s_W dC dI sz L F [(cs 0, .int), (cs 1, .byte), (cs 2, .long), (cs 3, .object RX5), (cs 4, .object RX4), (cs 5, .array .int), (cs 6, .char), (cs 7, .boolean)])) (va_Qi (fun (r : Int32) (G : Nat → va_E) => (0 ≤ r.toInt ∧ r.toInt ≤ 15) ∧ True ∧ s_I K cs D G ∧ ∀ b, K b ∉ ([] : List Nat) → G b = F b) (fun (G : Nat → va_E) (t : State) => va_P (dC, dI) vwCl (va_pl L G) t.heap ∧ va_K (dC, dI) vwCl [(cs 0, .int), (cs 1, .byte), (cs 2, .long), (cs 3, .object RX5), (cs 4, .object RX4), (cs 5, .array .int), (cs 6, .char), (cs 7, .boolean)] t) (fun q => q ∈ L)) 0 0 (fun q => q ∈ L) := by
  refine Met.ofW (cc := cX6_layout) (maxL := 3) (ret := (some .int)) (by decide) rfl ?_
  intro p e s m args below meth c s₁ B hml hv
  obtain ⟨rfl, hsz, hP, hK, hD, hN⟩ := hv
  have hx := B.exec
  have hb := B.bytes
  have hr := B.returns
  have hts : ∀ w ∈ T0, w.before _ s = true := fun w h => atoms_spec (ws := Cond.code yX6_layout cX6_layout 3 (some .int) :: T0) B.pre w (List.mem_cons_of_mem _ h)
  have hown : s.vm.findClass RX6 = some m.cls := findClass_of_methodNamed B.named
  have hlocks := B.notSynchronized
  have hS : va_S (fun q => q ∈ L) s.heap s.heap [] := va_S.rf
  have hfr : ∀ b, K b ∉ ([] : List Nat) → F b = F b := fun _ _ => rfl
  have hl := lv_entry ([.int x0, .int x1, .int x2]) (n := 3) (Nat.le_of_ble_eq_true rfl)
  rw [lg_entry_eq]
  generalize (lg_sl ([.int x0, .int x1, .int x2]) ++ List.replicate (3 - (lg_sl ([.int x0, .int x1, .int x2])).length) Slot.unset).toArray = ls at hl ⊢
  have hl : lv_has ls 3 [(0, .int x0), (1, .int x1), (2, .int x2)] := hl
  refine s_gen hP hS (fun H locs hP hS => ?_)
  refine lv_iload_n hx hb dX6_layout_0 rfl (lv_at hl 0 rfl) ?_
  refine lv_iconst (v := 2) hx hb dX6_layout_1 (by decide) ?_
  refine lv_imul hx hb dX6_layout_2 ?_
  refine lv_topi (fun v1 ev1 => ?_)
  have qv1 : v1.toInt = x0.toInt * 2 := by rw [ev1]; exact th_mul rfl (by decide) ⟨by omega, by omega⟩
  refine lv_iload_n hx hb dX6_layout_3 rfl (lv_at hl 1 rfl) ?_
  refine lv_iadd hx hb dX6_layout_4 ?_
  refine lv_topi (fun v2 ev2 => ?_)
  have qv2 : v2.toInt = v1.toInt + x1.toInt := by rw [ev2]; exact th_add rfl rfl ⟨by omega, by omega⟩
  refine lv_iconst (v := 4) hx hb dX6_layout_5 (by decide) ?_
  refine lv_imul hx hb dX6_layout_6 ?_
  refine lv_topi (fun v3 ev3 => ?_)
  have qv3 : v3.toInt = v2.toInt * 4 := by rw [ev3]; exact th_mul rfl (by decide) ⟨by omega, by omega⟩
  refine lv_iload_n hx hb dX6_layout_7 rfl (lv_at hl 2 rfl) ?_
  refine lv_iadd hx hb dX6_layout_8 ?_
  refine lv_topi (fun v4 ev4 => ?_)
  have qv4 : v4.toInt = v3.toInt + x2.toInt := by rw [ev4]; exact th_add rfl rfl ⟨by omega, by omega⟩
  exact W.iret (v := v4) hx hb hr (fun t ht hW => ⟨⟨v4, F, rfl, ⟨⟨by omega, by omega⟩, trivial, hI, hfr⟩, by rw [ht]; exact hP, va_K.moved hW.alike hK⟩, hS.F ht⟩) hS.2.2 dX6_layout_9

set_option maxHeartbeats 4000000 in
set_option maxRecDepth 100000 in
theorem s_X6_isMode (l : Launch) (dC : Nat → ClassId) (dI : Nat → Nat → Nat) (sz : Nat) {L : List Nat} {K : Nat → Nat} {cs : Nat → ClassId} (hLK : ∀ a {k : Nat}, K a = k → k ≠ 0 → a ∈ L) (D : Nat) (F : Nat → va_E) (x0 : Int32)  (hI : s_I K cs D F) : Met l yX6_isMode (Cond.code yX6_isMode cX6_isMode 1 (some .boolean) :: T0) ({ frames := 0, cells := 0, slots := 0, locals := 0 }) (va_Pc [.int x0] (s_W dC dI sz L F [(cs 0, .int), (cs 1, .byte), (cs 2, .long), (cs 3, .object RX5), (cs 4, .object RX4), (cs 5, .array .int), (cs 6, .char), (cs 7, .boolean)])) (va_Qi (fun (r : Int32) (G : Nat → va_E) => (0 ≤ r.toInt ∧ r.toInt ≤ 1) ∧ (¬ r = 0 → 0 ≤ x0.toInt ∧ x0.toInt ≤ 1) ∧ s_I K cs D G ∧ ∀ b, K b ∉ ([] : List Nat) → G b = F b) (fun (G : Nat → va_E) (t : State) => va_P (dC, dI) vwCl (va_pl L G) t.heap ∧ va_K (dC, dI) vwCl [(cs 0, .int), (cs 1, .byte), (cs 2, .long), (cs 3, .object RX5), (cs 4, .object RX4), (cs 5, .array .int), (cs 6, .char), (cs 7, .boolean)] t) (fun q => q ∈ L)) 0 0 (fun q => q ∈ L) := by
  refine Met.ofW (cc := cX6_isMode) (maxL := 1) (ret := (some .boolean)) (by decide) rfl ?_
  intro p e s m args below meth c s₁ B hml hv
  obtain ⟨rfl, hsz, hP, hK, hD, hN⟩ := hv
  have hx := B.exec
  have hb := B.bytes
  have hr := B.returns
  have hts : ∀ w ∈ T0, w.before _ s = true := fun w h => atoms_spec (ws := Cond.code yX6_isMode cX6_isMode 1 (some .boolean) :: T0) B.pre w (List.mem_cons_of_mem _ h)
  have hown : s.vm.findClass RX6 = some m.cls := findClass_of_methodNamed B.named
  have hlocks := B.notSynchronized
  have hS : va_S (fun q => q ∈ L) s.heap s.heap [] := va_S.rf
  have hfr : ∀ b, K b ∉ ([] : List Nat) → F b = F b := fun _ _ => rfl
  have hl := lv_entry ([.int x0]) (n := 1) (Nat.le_of_ble_eq_true rfl)
  rw [lg_entry_eq]
  generalize (lg_sl ([.int x0]) ++ List.replicate (1 - (lg_sl ([.int x0])).length) Slot.unset).toArray = ls at hl ⊢
  have hl : lv_has ls 1 [(0, .int x0)] := hl
  refine s_gen hP hS (fun H locs hP hS => ?_)
  refine lv_iload_n hx hb dX6_isMode_0 rfl (lv_at hl 0 rfl) ?_
  refine lv_if_eq (tgt := 9) hx hb dX6_isMode_1 (by decide) (fun c1 => ?_) (fun c1 => ?_)
  · have c1 := (ax_eq (n := 0) (by decide)).mp c1
    refine lv_iconst (v := 1) hx hb dX6_isMode_9 (by decide) ?_
    refine lv_goto (tgt := 14) hx hb dX6_isMode_10 (by decide) ?_
    exact W.zret (v := 1) (ty := .boolean) hx hb hr (by decide) (fun t ht hW => ⟨⟨1, F, rfl, ⟨(by decide), (fun q => ⟨by omega, by omega⟩), hI, hfr⟩, by rw [ht]; exact hP, va_K.moved hW.alike hK⟩, hS.F ht⟩) hS.2.2 dX6_isMode_14
  · have c1 := mt (ax_eq (n := 0) (by decide)).mpr c1
    refine lv_iload_n hx hb dX6_isMode_4 rfl (lv_at hl 0 rfl) ?_
    refine lv_iconst (v := 1) hx hb dX6_isMode_5 (by decide) ?_
    refine lv_icmp_ne (tgt := 13) hx hb dX6_isMode_6 (by decide) (fun c2 => ?_) (fun c2 => ?_)
    · have c2 := mt (ax_eq (n := 1) (by decide)).mpr c2
      refine lv_iconst (v := 0) hx hb dX6_isMode_13 (by decide) ?_
      exact W.zret (v := 0) (ty := .boolean) hx hb hr (by decide) (fun t ht hW => ⟨⟨0, F, rfl, ⟨(by decide), (fun q => absurd (by decide) q), hI, hfr⟩, by rw [ht]; exact hP, va_K.moved hW.alike hK⟩, hS.F ht⟩) hS.2.2 dX6_isMode_14
    · have c2 := (ax_eq (n := 1) (by decide)).mp c2
      refine lv_iconst (v := 1) hx hb dX6_isMode_9 (by decide) ?_
      refine lv_goto (tgt := 14) hx hb dX6_isMode_10 (by decide) ?_
      exact W.zret (v := 1) (ty := .boolean) hx hb hr (by decide) (fun t ht hW => ⟨⟨1, F, rfl, ⟨(by decide), (fun q => ⟨by omega, by omega⟩), hI, hfr⟩, by rw [ht]; exact hP, va_K.moved hW.alike hK⟩, hS.F ht⟩) hS.2.2 dX6_isMode_14

set_option maxHeartbeats 4000000 in
set_option maxRecDepth 100000 in
theorem s_X6_isOrder (l : Launch) (dC : Nat → ClassId) (dI : Nat → Nat → Nat) (sz : Nat) {L : List Nat} {K : Nat → Nat} {cs : Nat → ClassId} (hLK : ∀ a {k : Nat}, K a = k → k ≠ 0 → a ∈ L) (D : Nat) (F : Nat → va_E) (x0 : Int32)  (hI : s_I K cs D F) : Met l yX6_isOrder (Cond.code yX6_isOrder cX6_isOrder 1 (some .boolean) :: T0) ({ frames := 0, cells := 0, slots := 0, locals := 0 }) (va_Pc [.int x0] (s_W dC dI sz L F [(cs 0, .int), (cs 1, .byte), (cs 2, .long), (cs 3, .object RX5), (cs 4, .object RX4), (cs 5, .array .int), (cs 6, .char), (cs 7, .boolean)])) (va_Qi (fun (r : Int32) (G : Nat → va_E) => (0 ≤ r.toInt ∧ r.toInt ≤ 1) ∧ (¬ r = 0 → 0 ≤ x0.toInt ∧ x0.toInt ≤ 1) ∧ s_I K cs D G ∧ ∀ b, K b ∉ ([] : List Nat) → G b = F b) (fun (G : Nat → va_E) (t : State) => va_P (dC, dI) vwCl (va_pl L G) t.heap ∧ va_K (dC, dI) vwCl [(cs 0, .int), (cs 1, .byte), (cs 2, .long), (cs 3, .object RX5), (cs 4, .object RX4), (cs 5, .array .int), (cs 6, .char), (cs 7, .boolean)] t) (fun q => q ∈ L)) 0 0 (fun q => q ∈ L) := by
  refine Met.ofW (cc := cX6_isOrder) (maxL := 1) (ret := (some .boolean)) (by decide) rfl ?_
  intro p e s m args below meth c s₁ B hml hv
  obtain ⟨rfl, hsz, hP, hK, hD, hN⟩ := hv
  have hx := B.exec
  have hb := B.bytes
  have hr := B.returns
  have hts : ∀ w ∈ T0, w.before _ s = true := fun w h => atoms_spec (ws := Cond.code yX6_isOrder cX6_isOrder 1 (some .boolean) :: T0) B.pre w (List.mem_cons_of_mem _ h)
  have hown : s.vm.findClass RX6 = some m.cls := findClass_of_methodNamed B.named
  have hlocks := B.notSynchronized
  have hS : va_S (fun q => q ∈ L) s.heap s.heap [] := va_S.rf
  have hfr : ∀ b, K b ∉ ([] : List Nat) → F b = F b := fun _ _ => rfl
  have hl := lv_entry ([.int x0]) (n := 1) (Nat.le_of_ble_eq_true rfl)
  rw [lg_entry_eq]
  generalize (lg_sl ([.int x0]) ++ List.replicate (1 - (lg_sl ([.int x0])).length) Slot.unset).toArray = ls at hl ⊢
  have hl : lv_has ls 1 [(0, .int x0)] := hl
  refine s_gen hP hS (fun H locs hP hS => ?_)
  refine lv_iload_n hx hb dX6_isOrder_0 rfl (lv_at hl 0 rfl) ?_
  refine lv_if_eq (tgt := 9) hx hb dX6_isOrder_1 (by decide) (fun c1 => ?_) (fun c1 => ?_)
  · have c1 := (ax_eq (n := 0) (by decide)).mp c1
    refine lv_iconst (v := 1) hx hb dX6_isOrder_9 (by decide) ?_
    refine lv_goto (tgt := 14) hx hb dX6_isOrder_10 (by decide) ?_
    exact W.zret (v := 1) (ty := .boolean) hx hb hr (by decide) (fun t ht hW => ⟨⟨1, F, rfl, ⟨(by decide), (fun q => ⟨by omega, by omega⟩), hI, hfr⟩, by rw [ht]; exact hP, va_K.moved hW.alike hK⟩, hS.F ht⟩) hS.2.2 dX6_isOrder_14
  · have c1 := mt (ax_eq (n := 0) (by decide)).mpr c1
    refine lv_iload_n hx hb dX6_isOrder_4 rfl (lv_at hl 0 rfl) ?_
    refine lv_iconst (v := 1) hx hb dX6_isOrder_5 (by decide) ?_
    refine lv_icmp_ne (tgt := 13) hx hb dX6_isOrder_6 (by decide) (fun c2 => ?_) (fun c2 => ?_)
    · have c2 := mt (ax_eq (n := 1) (by decide)).mpr c2
      refine lv_iconst (v := 0) hx hb dX6_isOrder_13 (by decide) ?_
      exact W.zret (v := 0) (ty := .boolean) hx hb hr (by decide) (fun t ht hW => ⟨⟨0, F, rfl, ⟨(by decide), (fun q => absurd (by decide) q), hI, hfr⟩, by rw [ht]; exact hP, va_K.moved hW.alike hK⟩, hS.F ht⟩) hS.2.2 dX6_isOrder_14
    · have c2 := (ax_eq (n := 1) (by decide)).mp c2
      refine lv_iconst (v := 1) hx hb dX6_isOrder_9 (by decide) ?_
      refine lv_goto (tgt := 14) hx hb dX6_isOrder_10 (by decide) ?_
      exact W.zret (v := 1) (ty := .boolean) hx hb hr (by decide) (fun t ht hW => ⟨⟨1, F, rfl, ⟨(by decide), (fun q => ⟨by omega, by omega⟩), hI, hfr⟩, by rw [ht]; exact hP, va_K.moved hW.alike hK⟩, hS.F ht⟩) hS.2.2 dX6_isOrder_14

