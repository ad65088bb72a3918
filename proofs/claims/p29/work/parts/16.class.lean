set_option maxHeartbeats 4000000 in
set_option maxRecDepth 100000 in
theorem s_X6_refuse (l : Launch) (dC : Nat → ClassId) (dI : Nat → Nat → Nat) (sz : Nat) {L : List Nat} {K : Nat → Nat} {cs : Nat → ClassId} (hLK : ∀ a {k : Nat}, K a = k → k ≠ 0 → a ∈ L) (D : Nat) (F : Nat → va_E) (a0 : Nat) (x1 : Int32) (ha0 : K a0 = 7) (hx1 : 0 ≤ x1.toInt ∧ x1.toInt ≤ 5) (hI : s_I K cs D F) : Met l yX6_refuse (Cond.code yX6_refuse cX6_refuse 2 (some .int) :: T0) ({ frames := 0, cells := 0, slots := 0, locals := 0 }) (va_Pc [.ref a0, .int x1] (s_W dC dI sz L F [(cs 0, .int), (cs 1, .byte), (cs 2, .long), (cs 3, .object RX5), (cs 4, .object RX4), (cs 5, .array .int), (cs 6, .char), (cs 7, .boolean)])) (va_Qi (fun (r : Int32) (G : Nat → va_E) => (-1 ≤ r.toInt ∧ r.toInt ≤ -1) ∧ True ∧ s_I K cs D G ∧ ∀ b, K b ∉ [39] → G b = F b) (fun (G : Nat → va_E) (t : State) => va_P (dC, dI) vwCl (va_pl L G) t.heap ∧ va_K (dC, dI) vwCl [(cs 0, .int), (cs 1, .byte), (cs 2, .long), (cs 3, .object RX5), (cs 4, .object RX4), (cs 5, .array .int), (cs 6, .char), (cs 7, .boolean)] t) (fun q => q ∈ L)) 0 0 (fun q => q ∈ L) := by
  refine Met.ofW (cc := cX6_refuse) (maxL := 2) (ret := (some .int)) (by decide) rfl ?_
  intro p e s m args below meth c s₁ B hml hv
  obtain ⟨rfl, hsz, hP, hK, hD, hN⟩ := hv
  have hx := B.exec
  have hb := B.bytes
  have hr := B.returns
  have hts : ∀ w ∈ T0, w.before _ s = true := fun w h => atoms_spec (ws := Cond.code yX6_refuse cX6_refuse 2 (some .int) :: T0) B.pre w (List.mem_cons_of_mem _ h)
  have hown : s.vm.findClass RX6 = some m.cls := findClass_of_methodNamed B.named
  have hlocks := B.notSynchronized
  have hS : va_S (fun q => q ∈ L) s.heap s.heap [] := va_S.rf
  have hfr : ∀ b, K b ∉ [39] → F b = F b := fun _ _ => rfl
  have hl := lv_entry ([.ref a0, .int x1]) (n := 2) (Nat.le_of_ble_eq_true rfl)
  rw [lg_entry_eq]
  generalize (lg_sl ([.ref a0, .int x1]) ++ List.replicate (2 - (lg_sl ([.ref a0, .int x1])).length) Slot.unset).toArray = ls at hl ⊢
  have hl : lv_has ls 2 [(0, .ref a0), (1, .int x1)] := hl
  refine s_gen hP hS (fun H locs hP hS => ?_)
  refine lv_aload_n hx hb dX6_refuse_0 rfl (lv_at hl 0 rfl) ?_
  obtain ⟨z1, z3, z5, z7, z9, z11, z12, z14, z16, z18, z20, z22, z24, z26, o27, h2, h4, h6, h8, h10, h13, h15, h17, h19, h21, h23, h25, -⟩ := s_op7 hI ha0
  refine th_get (D := (dC, dI)) (ci := 6) (v := .ref z24) (C := RX6) (T := TX6) (N := 14) hx hb hts inX6 hown hK hP (hLK _ ha0 (by decide)) o27 rfl 12 (by decide) (hts _ T_183) (fun _ h9 => h9) rfl dX6_refuse_1 ?_
  refine lv_iload_n hx hb dX6_refuse_4 rfl (lv_at hl 1 rfl) ?_
  refine lv_dup2_11 hx hb dX6_refuse_5 rfl rfl ?_
  obtain ⟨f28, o29, h30⟩ := s_op39 hI h25
  refine th_iald hx hb hK hP (hLK _ h25 (by decide)) 0 o29 rfl (th_in ⟨by omega, by omega⟩) dX6_refuse_6 ?_
  refine lv_topi (fun v31 ev31 => ?_)
  refine lv_iconst (v := 1) hx hb dX6_refuse_7 (by decide) ?_
  refine lv_iadd hx hb dX6_refuse_8 ?_
  refine lv_topi (fun v32 ev32 => ?_)
  obtain ⟨f33, o34, h35⟩ := s_op39 hI h25
  refine th_iast hx hb hK hP hD hS (hLK _ h25 (by decide)) 0 o34 rfl (th_in ⟨by omega, by omega⟩) dX6_refuse_9 (fun H locs hP hS => ?_)
  have hP : va_P (dC, dI) vwCl (va_pl L (va_up F z24 (.inl (cs 0, 6, .inl (upd f33 (x1 : Int32).toNatClampNeg v32))))) H := hP
  obtain ⟨F36, hF37⟩ : ∃ G : Nat → va_E, G = va_up F z24 (.inl (cs 0, 6, .inl (upd f33 (x1 : Int32).toNatClampNeg v32))) := ⟨_, rfl⟩
  rw [← hF37] at hP
  have hI : s_I K cs D F36 := by rw [hF37]; exact s_cl39 hI h25 ⟨_, rfl, trivial⟩
  have hfr : ∀ b, K b ∉ [39] → F36 b = F b := by rw [hF37]; exact s_fr hfr h25 (by decide)
  have o38 : F36 a0 = .inr (6, [.ref z1, .int z3, .ref z5, .ref z7, .ref z9, .int z11, .ref z12, .ref z14, .int z16, .int z18, .ref z20, .ref z22, .ref z24, .long z26]) := by rw [hF37]; exact th_ne (th_kd ha0 h25 (by decide)) o27
  refine lv_iconst (v := (-1)) hx hb dX6_refuse_10 (by decide) ?_
  exact W.iret (v := (-1)) hx hb hr (fun t ht hW => ⟨⟨(-1), F36, rfl, ⟨(by decide), trivial, hI, hfr⟩, by rw [ht]; exact hP, va_K.moved hW.alike hK⟩, hS.F ht⟩) hS.2.2 dX6_refuse_11

set_option maxHeartbeats 4000000 in
set_option maxRecDepth 100000 in
theorem s_X6_hasWarp (l : Launch) (dC : Nat → ClassId) (dI : Nat → Nat → Nat) (sz : Nat) {L : List Nat} {K : Nat → Nat} {cs : Nat → ClassId} (hLK : ∀ a {k : Nat}, K a = k → k ≠ 0 → a ∈ L) (D : Nat) (F : Nat → va_E) (a0 : Nat) (x1 : Int32) (ha0 : K a0 = 7) (hI : s_I K cs D F) : Met l yX6_hasWarp (Cond.code yX6_hasWarp cX6_hasWarp 2 (some .boolean) :: T0) ({ frames := 0, cells := 0, slots := 0, locals := 0 }) (va_Pc [.ref a0, .int x1] (s_W dC dI sz L F [(cs 0, .int), (cs 1, .byte), (cs 2, .long), (cs 3, .object RX5), (cs 4, .object RX4), (cs 5, .array .int), (cs 6, .char), (cs 7, .boolean)])) (va_Qi (fun (r : Int32) (G : Nat → va_E) => (0 ≤ r.toInt ∧ r.toInt ≤ 1) ∧ (¬ r = 0 → 0 ≤ x1.toInt ∧ x1.toInt ≤ 3) ∧ s_I K cs D G ∧ ∀ b, K b ∉ ([] : List Nat) → G b = F b) (fun (G : Nat → va_E) (t : State) => va_P (dC, dI) vwCl (va_pl L G) t.heap ∧ va_K (dC, dI) vwCl [(cs 0, .int), (cs 1, .byte), (cs 2, .long), (cs 3, .object RX5), (cs 4, .object RX4), (cs 5, .array .int), (cs 6, .char), (cs 7, .boolean)] t) (fun q => q ∈ L)) 0 0 (fun q => q ∈ L) := by
  refine Met.ofW (cc := cX6_hasWarp) (maxL := 2) (ret := (some .boolean)) (by decide) rfl ?_
  intro p e s m args below meth c s₁ B hml hv
  obtain ⟨rfl, hsz, hP, hK, hD, hN⟩ := hv
  have hx := B.exec
  have hb := B.bytes
  have hr := B.returns
  have hts : ∀ w ∈ T0, w.before _ s = true := fun w h => atoms_spec (ws := Cond.code yX6_hasWarp cX6_hasWarp 2 (some .boolean) :: T0) B.pre w (List.mem_cons_of_mem _ h)
  have hown : s.vm.findClass RX6 = some m.cls := findClass_of_methodNamed B.named
  have hlocks := B.notSynchronized
  have hS : va_S (fun q => q ∈ L) s.heap s.heap [] := va_S.rf
  have hfr : ∀ b, K b ∉ ([] : List Nat) → F b = F b := fun _ _ => rfl
  have hl := lv_entry ([.ref a0, .int x1]) (n := 2) (Nat.le_of_ble_eq_true rfl)
  rw [lg_entry_eq]
  generalize (lg_sl ([.ref a0, .int x1]) ++ List.replicate (2 - (lg_sl ([.ref a0, .int x1])).length) Slot.unset).toArray = ls at hl ⊢
  have hl : lv_has ls 2 [(0, .ref a0), (1, .int x1)] := hl
  refine s_gen hP hS (fun H locs hP hS => ?_)
  refine lv_aload_n hx hb dX6_hasWarp_0 rfl (lv_at hl 0 rfl) ?_
  obtain ⟨z1, z3, z5, z7, z9, z11, z12, z14, z16, z18, z20, z22, z24, z26, o27, h2, h4, h6, h8, h10, h13, h15, h17, h19, h21, h23, h25, -⟩ := s_op7 hI ha0
  refine th_get (D := (dC, dI)) (ci := 6) (v := .int z11) (C := RX6) (T := TX6) (N := 14) hx hb hts inX6 hown hK hP (hLK _ ha0 (by decide)) o27 rfl 5 (by decide) (hts _ T_224) (fun _ h9 => h9) rfl dX6_hasWarp_1 ?_
  refine lv_if_eq (tgt := 26) hx hb dX6_hasWarp_4 (by decide) (fun c28 => ?_) (fun c28 => ?_)
  · have c28 := (ax_eq (n := 0) (by decide)).mp c28
    refine lv_iconst (v := 0) hx hb dX6_hasWarp_26 (by decide) ?_
    exact W.zret (v := 0) (ty := .boolean) hx hb hr (by decide) (fun t ht hW => ⟨⟨0, F, rfl, ⟨(by decide), (fun q => absurd (by decide) q), hI, hfr⟩, by rw [ht]; exact hP, va_K.moved hW.alike hK⟩, hS.F ht⟩) hS.2.2 dX6_hasWarp_27
  · have c28 := mt (ax_eq (n := 0) (by decide)).mpr c28
    refine lv_iload_n hx hb dX6_hasWarp_7 rfl (lv_at hl 1 rfl) ?_
    refine lv_if_lt (tgt := 26) hx hb dX6_hasWarp_8 (by decide) (fun c29 => ?_) (fun c29 => ?_)
    · have c29 := (ax_lt (n := 0) (by decide)).mp c29
      refine lv_iconst (v := 0) hx hb dX6_hasWarp_26 (by decide) ?_
      exact W.zret (v := 0) (ty := .boolean) hx hb hr (by decide) (fun t ht hW => ⟨⟨0, F, rfl, ⟨(by decide), (fun q => absurd (by decide) q), hI, hfr⟩, by rw [ht]; exact hP, va_K.moved hW.alike hK⟩, hS.F ht⟩) hS.2.2 dX6_hasWarp_27
    · have c29 := mt (ax_lt (n := 0) (by decide)).mpr c29
      refine lv_iload_n hx hb dX6_hasWarp_11 rfl (lv_at hl 1 rfl) ?_
      refine lv_aload_n hx hb dX6_hasWarp_12 rfl (lv_at hl 0 rfl) ?_
      refine th_get (D := (dC, dI)) (ci := 6) (v := .ref z7) (C := RX6) (T := TX6) (N := 14) hx hb hts inX6 hown hK hP (hLK _ ha0 (by decide)) o27 rfl 3 (by decide) (hts _ T_170) (fun _ h9 => h9) rfl dX6_hasWarp_13 ?_
      obtain ⟨z30, z32, z34, z36, z38, z40, z41, o42, h31, h33, h35, h37, h39, -⟩ := s_op3 hI h8
      refine th_getN (D := (dC, dI)) (ci := 2) (v := .int z38) (C := RX2) (T := TX2) (N := 7) hx hb hts inX2 hown hK hP (hLK _ h8 (by decide)) o42 rfl 4 (by decide) (va_Nw.use rfl (ax_n55 hN)) (fun _ h9 => h9) rfl dX6_hasWarp_16 ?_
      refine lv_icmp_ge (tgt := 26) hx hb dX6_hasWarp_19 (by decide) (fun c43 => ?_) (fun c43 => ?_)
      · have c43 := Int32.le_iff_toInt_le.mp c43
        refine lv_iconst (v := 0) hx hb dX6_hasWarp_26 (by decide) ?_
        exact W.zret (v := 0) (ty := .boolean) hx hb hr (by decide) (fun t ht hW => ⟨⟨0, F, rfl, ⟨(by decide), (fun q => absurd (by decide) q), hI, hfr⟩, by rw [ht]; exact hP, va_K.moved hW.alike hK⟩, hS.F ht⟩) hS.2.2 dX6_hasWarp_27
      · have c43 := mt Int32.le_iff_toInt_le.mpr c43
        refine lv_iconst (v := 1) hx hb dX6_hasWarp_22 (by decide) ?_
        refine lv_goto (tgt := 27) hx hb dX6_hasWarp_23 (by decide) ?_
        exact W.zret (v := 1) (ty := .boolean) hx hb hr (by decide) (fun t ht hW => ⟨⟨1, F, rfl, ⟨(by decide), (fun q => ⟨by omega, by omega⟩), hI, hfr⟩, by rw [ht]; exact hP, va_K.moved hW.alike hK⟩, hS.F ht⟩) hS.2.2 dX6_hasWarp_27

set_option maxHeartbeats 4000000 in
set_option maxRecDepth 100000 in
theorem s_X6_hasLane (l : Launch) (dC : Nat → ClassId) (dI : Nat → Nat → Nat) (sz : Nat) {L : List Nat} {K : Nat → Nat} {cs : Nat → ClassId} (hLK : ∀ a {k : Nat}, K a = k → k ≠ 0 → a ∈ L) (D : Nat) (F : Nat → va_E) (a0 : Nat) (x1 : Int32) (x2 : Int32) (ha0 : K a0 = 7) (hI : s_I K cs D F) : Met l yX6_hasLane (Cond.code yX6_hasLane cX6_hasLane 3 (some .boolean) :: T0) ({ frames := 1, cells := 0, slots := 0, locals := 21 }) (va_Pc [.ref a0, .int x1, .int x2] (s_W dC dI sz L F [(cs 0, .int), (cs 1, .byte), (cs 2, .long), (cs 3, .object RX5), (cs 4, .object RX4), (cs 5, .array .int), (cs 6, .char), (cs 7, .boolean)])) (va_Qi (fun (r : Int32) (G : Nat → va_E) => (0 ≤ r.toInt ∧ r.toInt ≤ 1) ∧ (¬ r = 0 → 0 ≤ x1.toInt ∧ x1.toInt ≤ 3 ∧ 0 ≤ x2.toInt ∧ x2.toInt ≤ 7) ∧ s_I K cs D G ∧ ∀ b, K b ∉ ([] : List Nat) → G b = F b) (fun (G : Nat → va_E) (t : State) => va_P (dC, dI) vwCl (va_pl L G) t.heap ∧ va_K (dC, dI) vwCl [(cs 0, .int), (cs 1, .byte), (cs 2, .long), (cs 3, .object RX5), (cs 4, .object RX4), (cs 5, .array .int), (cs 6, .char), (cs 7, .boolean)] t) (fun q => q ∈ L)) 0 0 (fun q => q ∈ L) := by
  refine Met.ofW (cc := cX6_hasLane) (maxL := 3) (ret := (some .boolean)) (by decide) rfl ?_
  intro p e s m args below meth c s₁ B hml hv
  obtain ⟨rfl, hsz, hP, hK, hD, hN⟩ := hv
  have hx := B.exec
  have hb := B.bytes
  have hr := B.returns
  have hts : ∀ w ∈ T0, w.before _ s = true := fun w h => atoms_spec (ws := Cond.code yX6_hasLane cX6_hasLane 3 (some .boolean) :: T0) B.pre w (List.mem_cons_of_mem _ h)
  have hown : s.vm.findClass RX6 = some m.cls := findClass_of_methodNamed B.named
  have hlocks := B.notSynchronized
  have hS : va_S (fun q => q ∈ L) s.heap s.heap [] := va_S.rf
  have hfr : ∀ b, K b ∉ ([] : List Nat) → F b = F b := fun _ _ => rfl
  have hl := lv_entry ([.ref a0, .int x1, .int x2]) (n := 3) (Nat.le_of_ble_eq_true rfl)
  rw [lg_entry_eq]
  generalize (lg_sl ([.ref a0, .int x1, .int x2]) ++ List.replicate (3 - (lg_sl ([.ref a0, .int x1, .int x2])).length) Slot.unset).toArray = ls at hl ⊢
  have hl : lv_has ls 3 [(0, .ref a0), (1, .int x1), (2, .int x2)] := hl
  refine s_gen hP hS (fun H locs hP hS => ?_)
  refine lv_aload_n hx hb dX6_hasLane_0 rfl (lv_at hl 0 rfl) ?_
  refine lv_iload_n hx hb dX6_hasLane_1 rfl (lv_at hl 1 rfl) ?_
  obtain ⟨z1, z3, z5, z7, z9, z11, z12, z14, z16, z18, z20, z22, z24, z26, o27, h2, h4, h6, h8, h10, h13, h15, h17, h19, h21, h23, h25, -⟩ := s_op7 hI ha0
  refine va_calli (va_runV (As := [.int x1]) (rest := []) ⟨hx, hb, hml, hown, hts⟩ (s_X6_hasWarp l dC dI H.size hLK D F a0 x1 ha0 hI) (cwV 1 hts (ax_gV T_225 T_226 T_227 T_193 T_16) rfl rfl rfl (by decide +kernel) ⟨Nat.le_of_ble_eq_true rfl, Nat.le_of_ble_eq_true rfl⟩) ⟨fun a U g mk q => ⟨q.1, s_pc rfl rfl q.2⟩, s_recv hK hP (hLK _ ha0 (by decide)) (ci := 6) rfl o27, fun U hU hW => ⟨rfl, s_pw hU hW hP hK hD hN⟩⟩ rfl rfl hl.1 rfl (lv_room (Nat.le_of_ble_eq_true rfl)) dX6_hasLane_2 ⟨Nat.zero_le _, Nat.zero_le _⟩) hS (fun q _ h => h) (fun q h => h) (fun r28 F29 t H1 locs ht hvm hw hB hz1 hk1 hS => ?_)
  obtain ⟨hP, hK1⟩ := hB
  rw [ht] at hP
  generalize H1 = H at hP hS ⊢
  obtain ⟨h30, h31, hI, hfr1⟩ := hw
  have o32 : F29 a0 = .inr (6, [.ref z1, .int z3, .ref z5, .ref z7, .ref z9, .int z11, .ref z12, .ref z14, .int z16, .int z18, .ref z20, .ref z22, .ref z24, .long z26]) := (hfr1 _ (by rw [ha0]; decide)).trans o27
  have hfr : ∀ b, K b ∉ ([] : List Nat) → F29 b = F b := fun b hb9 => (hfr1 b (fun q => hb9 (s_sub (by decide) q))).trans (hfr b hb9)
  refine lv_if_eq (tgt := 22) hx hb dX6_hasLane_5 (by decide) (fun c33 => ?_) (fun c33 => ?_)
  · have c33 := (ax_eq (n := 0) (by decide)).mp c33
    refine lv_iconst (v := 0) hx hb dX6_hasLane_22 (by decide) ?_
    exact W.zret (v := 0) (ty := .boolean) hx hb hr (by decide) (fun t ht hW => ⟨⟨0, F29, rfl, ⟨(by decide), (fun q => absurd (by decide) q), hI, hfr⟩, by rw [ht]; exact hP, va_K.moved hW.alike hK⟩, hS.F ht⟩) hS.2.2 dX6_hasLane_23
  · have c33 := mt (ax_eq (n := 0) (by decide)).mpr c33
    have h34 := h31 (fun q => c33 (by rw [q]; decide))
    refine lv_iload_n hx hb dX6_hasLane_8 rfl (lv_at hl 2 rfl) ?_
    refine lv_if_lt (tgt := 22) hx hb dX6_hasLane_9 (by decide) (fun c35 => ?_) (fun c35 => ?_)
    · have c35 := (ax_lt (n := 0) (by decide)).mp c35
      refine lv_iconst (v := 0) hx hb dX6_hasLane_22 (by decide) ?_
      exact W.zret (v := 0) (ty := .boolean) hx hb hr (by decide) (fun t ht hW => ⟨⟨0, F29, rfl, ⟨(by decide), (fun q => absurd (by decide) q), hI, hfr⟩, by rw [ht]; exact hP, va_K.moved hW.alike hK⟩, hS.F ht⟩) hS.2.2 dX6_hasLane_23
    · have c35 := mt (ax_lt (n := 0) (by decide)).mpr c35
      refine lv_iload_n hx hb dX6_hasLane_12 rfl (lv_at hl 2 rfl) ?_
      refine lv_bipush (v := 8) hx hb dX6_hasLane_13 (by decide) ?_
      refine lv_icmp_ge (tgt := 22) hx hb dX6_hasLane_15 (by decide) (fun c36 => ?_) (fun c36 => ?_)
      · have c36 := (ax_ge (n := 8) (by decide)).mp c36
        refine lv_iconst (v := 0) hx hb dX6_hasLane_22 (by decide) ?_
        exact W.zret (v := 0) (ty := .boolean) hx hb hr (by decide) (fun t ht hW => ⟨⟨0, F29, rfl, ⟨(by decide), (fun q => absurd (by decide) q), hI, hfr⟩, by rw [ht]; exact hP, va_K.moved hW.alike hK⟩, hS.F ht⟩) hS.2.2 dX6_hasLane_23
      · have c36 := mt (ax_ge (n := 8) (by decide)).mpr c36
        refine lv_iconst (v := 1) hx hb dX6_hasLane_18 (by decide) ?_
        refine lv_goto (tgt := 23) hx hb dX6_hasLane_19 (by decide) ?_
        exact W.zret (v := 1) (ty := .boolean) hx hb hr (by decide) (fun t ht hW => ⟨⟨1, F29, rfl, ⟨(by decide), (fun q => ⟨by omega, by omega, by omega, by omega⟩), hI, hfr⟩, by rw [ht]; exact hP, va_K.moved hW.alike hK⟩, hS.F ht⟩) hS.2.2 dX6_hasLane_23

set_option maxHeartbeats 4000000 in
set_option maxRecDepth 100000 in
theorem s_X6_hasWord (l : Launch) (dC : Nat → ClassId) (dI : Nat → Nat → Nat) (sz : Nat) {L : List Nat} {K : Nat → Nat} {cs : Nat → ClassId} (hLK : ∀ a {k : Nat}, K a = k → k ≠ 0 → a ∈ L) (D : Nat) (F : Nat → va_E) (a0 : Nat) (x1 : Int32) (x2 : Int32) (ha0 : K a0 = 7) (hx1 : 0 ≤ x1.toInt ∧ x1.toInt ≤ 1) (hI : s_I K cs D F) : Met l yX6_hasWord (Cond.code yX6_hasWord cX6_hasWord 3 (some .boolean) :: T0) ({ frames := 0, cells := 0, slots := 0, locals := 0 }) (va_Pc [.ref a0, .int x1, .int x2] (s_W dC dI sz L F [(cs 0, .int), (cs 1, .byte), (cs 2, .long), (cs 3, .object RX5), (cs 4, .object RX4), (cs 5, .array .int), (cs 6, .char), (cs 7, .boolean)])) (va_Qi (fun (r : Int32) (G : Nat → va_E) => (0 ≤ r.toInt ∧ r.toInt ≤ 1) ∧ ((¬ r = 0 → 0 ≤ x2.toInt ∧ x2.toInt ≤ 63) ∧ (r = 0 ∨ x1.toInt = 0 ∨ x2.toInt ≤ 31)) ∧ s_I K cs D G ∧ ∀ b, K b ∉ ([] : List Nat) → G b = F b) (fun (G : Nat → va_E) (t : State) => va_P (dC, dI) vwCl (va_pl L G) t.heap ∧ va_K (dC, dI) vwCl [(cs 0, .int), (cs 1, .byte), (cs 2, .long), (cs 3, .object RX5), (cs 4, .object RX4), (cs 5, .array .int), (cs 6, .char), (cs 7, .boolean)] t) (fun q => q ∈ L)) 0 0 (fun q => q ∈ L) := by
  refine Met.ofW (cc := cX6_hasWord) (maxL := 3) (ret := (some .boolean)) (by decide) rfl ?_
  intro p e s m args below meth c s₁ B hml hv
  obtain ⟨rfl, hsz, hP, hK, hD, hN⟩ := hv
  have hx := B.exec
  have hb := B.bytes
  have hr := B.returns
  have hts : ∀ w ∈ T0, w.before _ s = true := fun w h => atoms_spec (ws := Cond.code yX6_hasWord cX6_hasWord 3 (some .boolean) :: T0) B.pre w (List.mem_cons_of_mem _ h)
  have hown : s.vm.findClass RX6 = some m.cls := findClass_of_methodNamed B.named
  have hlocks := B.notSynchronized
  have hS : va_S (fun q => q ∈ L) s.heap s.heap [] := va_S.rf
  have hfr : ∀ b, K b ∉ ([] : List Nat) → F b = F b := fun _ _ => rfl
  have hl := lv_entry ([.ref a0, .int x1, .int x2]) (n := 3) (Nat.le_of_ble_eq_true rfl)
  rw [lg_entry_eq]
  generalize (lg_sl ([.ref a0, .int x1, .int x2]) ++ List.replicate (3 - (lg_sl ([.ref a0, .int x1, .int x2])).length) Slot.unset).toArray = ls at hl ⊢
  have hl : lv_has ls 3 [(0, .ref a0), (1, .int x1), (2, .int x2)] := hl
  refine s_gen hP hS (fun H locs hP hS => ?_)
  refine lv_aload_n hx hb dX6_hasWord_0 rfl (lv_at hl 0 rfl) ?_
  obtain ⟨z1, z3, z5, z7, z9, z11, z12, z14, z16, z18, z20, z22, z24, z26, o27, h2, h4, h6, h8, h10, h13, h15, h17, h19, h21, h23, h25, -⟩ := s_op7 hI ha0
  refine th_get (D := (dC, dI)) (ci := 6) (v := .int z11) (C := RX6) (T := TX6) (N := 14) hx hb hts inX6 hown hK hP (hLK _ ha0 (by decide)) o27 rfl 5 (by decide) (hts _ T_224) (fun _ h9 => h9) rfl dX6_hasWord_1 ?_
  refine lv_if_eq (tgt := 30) hx hb dX6_hasWord_4 (by decide) (fun c28 => ?_) (fun c28 => ?_)
  · have c28 := (ax_eq (n := 0) (by decide)).mp c28
    refine lv_iconst (v := 0) hx hb dX6_hasWord_30 (by decide) ?_
    exact W.zret (v := 0) (ty := .boolean) hx hb hr (by decide) (fun t ht hW => ⟨⟨0, F, rfl, ⟨(by decide), ⟨(fun q => absurd (by decide) q), (Or.inl rfl)⟩, hI, hfr⟩, by rw [ht]; exact hP, va_K.moved hW.alike hK⟩, hS.F ht⟩) hS.2.2 dX6_hasWord_31
  · have c28 := mt (ax_eq (n := 0) (by decide)).mpr c28
    refine lv_iload_n hx hb dX6_hasWord_7 rfl (lv_at hl 2 rfl) ?_
    refine lv_if_lt (tgt := 30) hx hb dX6_hasWord_8 (by decide) (fun c29 => ?_) (fun c29 => ?_)
    · have c29 := (ax_lt (n := 0) (by decide)).mp c29
      refine lv_iconst (v := 0) hx hb dX6_hasWord_30 (by decide) ?_
      exact W.zret (v := 0) (ty := .boolean) hx hb hr (by decide) (fun t ht hW => ⟨⟨0, F, rfl, ⟨(by decide), ⟨(fun q => absurd (by decide) q), (Or.inl rfl)⟩, hI, hfr⟩, by rw [ht]; exact hP, va_K.moved hW.alike hK⟩, hS.F ht⟩) hS.2.2 dX6_hasWord_31
    · have c29 := mt (ax_lt (n := 0) (by decide)).mpr c29
      refine lv_iload_n hx hb dX6_hasWord_11 rfl (lv_at hl 2 rfl) ?_
      refine lv_iload_n hx hb dX6_hasWord_12 rfl (lv_at hl 1 rfl) ?_
      refine lv_if_eq (tgt := 21) hx hb dX6_hasWord_13 (by decide) (fun c30 => ?_) (fun c30 => ?_)
      · have c30 := (ax_eq (n := 0) (by decide)).mp c30
        refine lv_bipush (v := 64) hx hb dX6_hasWord_21 (by decide) ?_
        refine lv_icmp_ge (tgt := 30) hx hb dX6_hasWord_23 (by decide) (fun c31 => ?_) (fun c31 => ?_)
        · have c31 := (ax_ge (n := 64) (by decide)).mp c31
          refine lv_iconst (v := 0) hx hb dX6_hasWord_30 (by decide) ?_
          exact W.zret (v := 0) (ty := .boolean) hx hb hr (by decide) (fun t ht hW => ⟨⟨0, F, rfl, ⟨(by decide), ⟨(fun q => absurd (by decide) q), (Or.inl rfl)⟩, hI, hfr⟩, by rw [ht]; exact hP, va_K.moved hW.alike hK⟩, hS.F ht⟩) hS.2.2 dX6_hasWord_31
        · have c31 := mt (ax_ge (n := 64) (by decide)).mpr c31
          refine lv_iconst (v := 1) hx hb dX6_hasWord_26 (by decide) ?_
          refine lv_goto (tgt := 31) hx hb dX6_hasWord_27 (by decide) ?_
          exact W.zret (v := 1) (ty := .boolean) hx hb hr (by decide) (fun t ht hW => ⟨⟨1, F, rfl, ⟨(by decide), ⟨(fun q => ⟨by omega, by omega⟩), (Or.inr (by omega))⟩, hI, hfr⟩, by rw [ht]; exact hP, va_K.moved hW.alike hK⟩, hS.F ht⟩) hS.2.2 dX6_hasWord_31
      · have c30 := mt (ax_eq (n := 0) (by decide)).mpr c30
        refine lv_bipush (v := 32) hx hb dX6_hasWord_16 (by decide) ?_
        refine lv_goto (tgt := 23) hx hb dX6_hasWord_18 (by decide) ?_
        refine lv_icmp_ge (tgt := 30) hx hb dX6_hasWord_23 (by decide) (fun c32 => ?_) (fun c32 => ?_)
        · have c32 := (ax_ge (n := 32) (by decide)).mp c32
          refine lv_iconst (v := 0) hx hb dX6_hasWord_30 (by decide) ?_
          exact W.zret (v := 0) (ty := .boolean) hx hb hr (by decide) (fun t ht hW => ⟨⟨0, F, rfl, ⟨(by decide), ⟨(fun q => absurd (by decide) q), (Or.inl rfl)⟩, hI, hfr⟩, by rw [ht]; exact hP, va_K.moved hW.alike hK⟩, hS.F ht⟩) hS.2.2 dX6_hasWord_31
        · have c32 := mt (ax_ge (n := 32) (by decide)).mpr c32
          refine lv_iconst (v := 1) hx hb dX6_hasWord_26 (by decide) ?_
          refine lv_goto (tgt := 31) hx hb dX6_hasWord_27 (by decide) ?_
          exact W.zret (v := 1) (ty := .boolean) hx hb hr (by decide) (fun t ht hW => ⟨⟨1, F, rfl, ⟨(by decide), ⟨(fun q => ⟨by omega, by omega⟩), (Or.inr (by omega))⟩, hI, hfr⟩, by rw [ht]; exact hP, va_K.moved hW.alike hK⟩, hS.F ht⟩) hS.2.2 dX6_hasWord_31

set_option maxHeartbeats 4000000 in
set_option maxRecDepth 100000 in
theorem s_X6_end (l : Launch) (dC : Nat → ClassId) (dI : Nat → Nat → Nat) (sz : Nat) {L : List Nat} {K : Nat → Nat} {cs : Nat → ClassId} (hLK : ∀ a {k : Nat}, K a = k → k ≠ 0 → a ∈ L) (D : Nat) (F : Nat → va_E) (a0 : Nat) (x1 : Int32) (ha0 : K a0 = 7) (hI : s_I K cs D F) : Met l yX6_end (Cond.code yX6_end cX6_end 2 (some .boolean) :: T0) ({ frames := 1, cells := 0, slots := 0, locals := 21 }) (va_Pc [.ref a0, .int x1] (s_W dC dI sz L F [(cs 0, .int), (cs 1, .byte), (cs 2, .long), (cs 3, .object RX5), (cs 4, .object RX4), (cs 5, .array .int), (cs 6, .char), (cs 7, .boolean)])) (va_Qi (fun (r : Int32) (G : Nat → va_E) => (0 ≤ r.toInt ∧ r.toInt ≤ 1) ∧ (¬ r = 0 → 0 ≤ x1.toInt ∧ x1.toInt ≤ 1600) ∧ s_I K cs D G ∧ ∀ b, K b ∉ [7, 39] → G b = F b) (fun (G : Nat → va_E) (t : State) => va_P (dC, dI) vwCl (va_pl L G) t.heap ∧ va_K (dC, dI) vwCl [(cs 0, .int), (cs 1, .byte), (cs 2, .long), (cs 3, .object RX5), (cs 4, .object RX4), (cs 5, .array .int), (cs 6, .char), (cs 7, .boolean)] t) (fun q => q ∈ L)) 0 0 (fun q => q ∈ L) := by
  refine Met.ofW (cc := cX6_end) (maxL := 2) (ret := (some .boolean)) (by decide) rfl ?_
  intro p e s m args below meth c s₁ B hml hv
  obtain ⟨rfl, hsz, hP, hK, hD, hN⟩ := hv
  have hx := B.exec
  have hb := B.bytes
  have hr := B.returns
  have hts : ∀ w ∈ T0, w.before _ s = true := fun w h => atoms_spec (ws := Cond.code yX6_end cX6_end 2 (some .boolean) :: T0) B.pre w (List.mem_cons_of_mem _ h)
  have hown : s.vm.findClass RX6 = some m.cls := findClass_of_methodNamed B.named
  have hlocks := B.notSynchronized
  have hS : va_S (fun q => q ∈ L) s.heap s.heap [] := va_S.rf
  have hfr : ∀ b, K b ∉ [7, 39] → F b = F b := fun _ _ => rfl
  have hl := lv_entry ([.ref a0, .int x1]) (n := 2) (Nat.le_of_ble_eq_true rfl)
  rw [lg_entry_eq]
  generalize (lg_sl ([.ref a0, .int x1]) ++ List.replicate (2 - (lg_sl ([.ref a0, .int x1])).length) Slot.unset).toArray = ls at hl ⊢
  have hl : lv_has ls 2 [(0, .ref a0), (1, .int x1)] := hl
  refine s_gen hP hS (fun H locs hP hS => ?_)
  refine th_join (fun g H locs => ∃ (G : Nat → va_E) (ls : Array Slot), g = F0 m 12 ls [] ∧ lv_has ls 2 [(0, .ref a0)] ∧ s_I K cs D G ∧ va_P (dC, dI) vwCl (va_pl L G) H ∧ va_S (fun q => q ∈ L) s.heap H locs ∧ (∀ b, K b ∉ [7, 39] → G b = F b)) (fun K12 => ?_) ?_
  · refine lv_iload_n hx hb dX6_end_0 rfl (lv_at hl 1 rfl) ?_
    refine lv_if_lt (tgt := 12) hx hb dX6_end_1 (by decide) (fun c1 => ?_) (fun c1 => ?_)
    · have c1 := (ax_lt (n := 0) (by decide)).mp c1
      exact K12 _ _ _ ⟨F, _, rfl, lv_sub hl [0] rfl, hI, hP, hS, hfr⟩
    · have c1 := mt (ax_lt (n := 0) (by decide)).mpr c1
      refine lv_iload_n hx hb dX6_end_4 rfl (lv_at hl 1 rfl) ?_
      refine lv_aload_n hx hb dX6_end_5 rfl (lv_at hl 0 rfl) ?_
      obtain ⟨z2, z4, z6, z8, z10, z12, z13, z15, z17, z19, z21, z23, z25, z27, o28, h3, h5, h7, h9, h11, h14, h16, h18, h20, h22, h24, h26, -⟩ := s_op7 hI ha0
      refine th_get (D := (dC, dI)) (ci := 6) (v := .int z4) (C := RX6) (T := TX6) (N := 14) hx hb hts inX6 hown hK hP (hLK _ ha0 (by decide)) o28 rfl 1 (by decide) (hts _ T_189) (fun _ h9 => h9) rfl dX6_end_6 ?_
      refine lv_icmp_le (tgt := 20) hx hb dX6_end_9 (by decide) (fun c29 => ?_) (fun c29 => ?_)
      · have c29 := Int32.le_iff_toInt_le.mp c29
        refine lv_aload_n hx hb dX6_end_20 rfl (lv_at hl 0 rfl) ?_
        refine lv_iload_n hx hb dX6_end_21 rfl (lv_at hl 1 rfl) ?_
        refine th_put (D := (dC, dI)) (ci := 6) (v := .int x1) (ty := .int) (C := RX6) (T := TX6) (N := 14) hx hb hts inX6 tyX6 tyX6_ok nmX6 hown hK hP hD hS (hLK _ ha0 (by decide)) o28 rfl 1 (by decide) (hts _ T_189) (fun _ h9 => h9) rfl (by decide +kernel) rfl rfl (Nat.le_of_ble_eq_true rfl) dX6_end_22 (fun H locs hP hS => ?_)
        have hP : va_P (dC, dI) vwCl (va_pl L (va_up F a0 (.inr (6, [.ref z2, .int x1, .ref z6, .ref z8, .ref z10, .int z12, .ref z13, .ref z15, .int z17, .int z19, .ref z21, .ref z23, .ref z25, .long z27])))) H := hP
        obtain ⟨F30, hF31⟩ : ∃ G : Nat → va_E, G = va_up F a0 (.inr (6, [.ref z2, .int x1, .ref z6, .ref z8, .ref z10, .int z12, .ref z13, .ref z15, .int z17, .int z19, .ref z21, .ref z23, .ref z25, .long z27])) := ⟨_, rfl⟩
        rw [← hF31] at hP
        have hI : s_I K cs D F30 := by rw [hF31]; exact s_cl7 hI ha0 ⟨z2, x1, z6, z8, z10, z12, z13, z15, z17, z19, z21, z23, z25, z27, rfl, h3, ⟨by omega, by omega⟩, h7, h9, h11, h14, h16, ⟨by omega, by omega⟩, ⟨by omega, by omega⟩, h22, h24, h26, trivial⟩
        have hfr : ∀ b, K b ∉ [7, 39] → F30 b = F b := by rw [hF31]; exact s_fr hfr ha0 (by decide)
        have o32 : F30 a0 = .inr (6, [.ref z2, .int x1, .ref z6, .ref z8, .ref z10, .int z12, .ref z13, .ref z15, .int z17, .int z19, .ref z21, .ref z23, .ref z25, .long z27]) := by rw [hF31]; exact th_up
        refine lv_iconst (v := 1) hx hb dX6_end_25 (by decide) ?_
        exact W.zret (v := 1) (ty := .boolean) hx hb hr (by decide) (fun t ht hW => ⟨⟨1, F30, rfl, ⟨(by decide), (fun q => ⟨by omega, by omega⟩), hI, hfr⟩, by rw [ht]; exact hP, va_K.moved hW.alike hK⟩, hS.F ht⟩) hS.2.2 dX6_end_26
      · have c29 := mt Int32.le_iff_toInt_le.mpr c29
        exact K12 _ _ _ ⟨F, _, rfl, lv_sub hl [0] rfl, hI, hP, hS, hfr⟩
  · intro g H locs hq
    obtain ⟨F9, ls, rfl, hl, hI, hP, hS, hfr⟩ := hq
    refine lv_aload_n hx hb dX6_end_12 rfl (lv_at hl 0 rfl) ?_
    refine lv_iconst (v := 0) hx hb dX6_end_13 (by decide) ?_
    obtain ⟨z33, z35, z37, z39, z41, z43, z44, z46, z48, z50, z52, z54, z56, z58, o59, h34, h36, h38, h40, h42, h45, h47, h49, h51, h53, h55, h57, -⟩ := s_op7 hI ha0
    refine va_calli (va_runV (As := [.int 0]) (rest := []) ⟨hx, hb, hml, hown, hts⟩ (s_X6_refuse l dC dI H.size hLK D F9 a0 0 ha0 (by decide) hI) (cwV 1 hts (ax_gV T_194 T_195 T_196 T_193 T_10) rfl rfl rfl (by decide +kernel) ⟨Nat.le_of_ble_eq_true rfl, Nat.le_of_ble_eq_true rfl⟩) ⟨fun a U g mk q => ⟨q.1, s_pc rfl rfl q.2⟩, s_recv hK hP (hLK _ ha0 (by decide)) (ci := 6) rfl o59, fun U hU hW => ⟨rfl, s_pw hU hW hP hK hD hN⟩⟩ rfl rfl hl.1 rfl (lv_room (Nat.le_of_ble_eq_true rfl)) dX6_end_14 ⟨Nat.zero_le _, Nat.zero_le _⟩) hS (fun q _ h => h) (fun q h => h) (fun r60 F61 t H1 locs ht hvm hw hB hz1 hk1 hS => ?_)
    obtain ⟨hP, hK1⟩ := hB
    rw [ht] at hP
    generalize H1 = H at hP hS ⊢
    obtain ⟨h62, h63, hI, hfr1⟩ := hw
    have o64 : F61 a0 = .inr (6, [.ref z33, .int z35, .ref z37, .ref z39, .ref z41, .int z43, .ref z44, .ref z46, .int z48, .int z50, .ref z52, .ref z54, .ref z56, .long z58]) := (hfr1 _ (by rw [ha0]; decide)).trans o59
    have hfr : ∀ b, K b ∉ [7, 39] → F61 b = F b := fun b hb9 => (hfr1 b (fun q => hb9 (s_sub (by decide) q))).trans (hfr b hb9)
    refine lv_pop hx hb dX6_end_17 rfl ?_
    refine lv_iconst (v := 0) hx hb dX6_end_18 (by decide) ?_
    exact W.zret (v := 0) (ty := .boolean) hx hb hr (by decide) (fun t ht hW => ⟨⟨0, F61, rfl, ⟨(by decide), (fun q => absurd (by decide) q), hI, hfr⟩, by rw [ht]; exact hP, va_K.moved hW.alike hK⟩, hS.F ht⟩) hS.2.2 dX6_end_19

set_option maxHeartbeats 4000000 in
set_option maxRecDepth 100000 in
theorem s_X6_fault (l : Launch) (dC : Nat → ClassId) (dI : Nat → Nat → Nat) (sz : Nat) {L : List Nat} {K : Nat → Nat} {cs : Nat → ClassId} (hLK : ∀ a {k : Nat}, K a = k → k ≠ 0 → a ∈ L) (D : Nat) (F : Nat → va_E) (a0 : Nat) (x1 : Int32) (ha0 : K a0 = 7) (hI : s_I K cs D F) : Met l yX6_fault (Cond.code yX6_fault cX6_fault 2 (some .int) :: T0) ({ frames := 0, cells := 0, slots := 0, locals := 0 }) (va_Pc [.ref a0, .int x1] (s_W dC dI sz L F [(cs 0, .int), (cs 1, .byte), (cs 2, .long), (cs 3, .object RX5), (cs 4, .object RX4), (cs 5, .array .int), (cs 6, .char), (cs 7, .boolean)])) (va_Qi (fun (r : Int32) (G : Nat → va_E) => True ∧ True ∧ s_I K cs D G ∧ ∀ b, K b ∉ ([] : List Nat) → G b = F b) (fun (G : Nat → va_E) (t : State) => va_P (dC, dI) vwCl (va_pl L G) t.heap ∧ va_K (dC, dI) vwCl [(cs 0, .int), (cs 1, .byte), (cs 2, .long), (cs 3, .object RX5), (cs 4, .object RX4), (cs 5, .array .int), (cs 6, .char), (cs 7, .boolean)] t) (fun q => q ∈ L)) 0 0 (fun q => q ∈ L) := by
  refine Met.ofW (cc := cX6_fault) (maxL := 2) (ret := (some .int)) (by decide) rfl ?_
  intro p e s m args below meth c s₁ B hml hv
  obtain ⟨rfl, hsz, hP, hK, hD, hN⟩ := hv
  have hx := B.exec
  have hb := B.bytes
  have hr := B.returns
  have hts : ∀ w ∈ T0, w.before _ s = true := fun w h => atoms_spec (ws := Cond.code yX6_fault cX6_fault 2 (some .int) :: T0) B.pre w (List.mem_cons_of_mem _ h)
  have hown : s.vm.findClass RX6 = some m.cls := findClass_of_methodNamed B.named
  have hlocks := B.notSynchronized
  have hS : va_S (fun q => q ∈ L) s.heap s.heap [] := va_S.rf
  have hfr : ∀ b, K b ∉ ([] : List Nat) → F b = F b := fun _ _ => rfl
  have hl := lv_entry ([.ref a0, .int x1]) (n := 2) (Nat.le_of_ble_eq_true rfl)
  rw [lg_entry_eq]
  generalize (lg_sl ([.ref a0, .int x1]) ++ List.replicate (2 - (lg_sl ([.ref a0, .int x1])).length) Slot.unset).toArray = ls at hl ⊢
  have hl : lv_has ls 2 [(0, .ref a0), (1, .int x1)] := hl
  refine s_gen hP hS (fun H locs hP hS => ?_)
  refine lv_iload_n hx hb dX6_fault_0 rfl (lv_at hl 1 rfl) ?_
  refine lv_if_ne (tgt := 12) hx hb dX6_fault_1 (by decide) (fun c1 => ?_) (fun c1 => ?_)
  · have c1 := mt (ax_eq (n := 0) (by decide)).mpr c1
    refine lv_iload_n hx hb dX6_fault_12 rfl (lv_at hl 1 rfl) ?_
    refine lv_iconst (v := 1) hx hb dX6_fault_13 (by decide) ?_
    refine lv_icmp_ne (tgt := 27) hx hb dX6_fault_14 (by decide) (fun c2 => ?_) (fun c2 => ?_)
    · have c2 := mt (ax_eq (n := 1) (by decide)).mpr c2
      refine lv_iconst (v := (-1)) hx hb dX6_fault_27 (by decide) ?_
      exact W.iret (v := (-1)) hx hb hr (fun t ht hW => ⟨⟨(-1), F, rfl, ⟨trivial, trivial, hI, hfr⟩, by rw [ht]; exact hP, va_K.moved hW.alike hK⟩, hS.F ht⟩) hS.2.2 dX6_fault_28
    · have c2 := (ax_eq (n := 1) (by decide)).mp c2
      refine lv_aload_n hx hb dX6_fault_17 rfl (lv_at hl 0 rfl) ?_
      obtain ⟨z3, z5, z7, z9, z11, z13, z14, z16, z18, z20, z22, z24, z26, z28, o29, h4, h6, h8, h10, h12, h15, h17, h19, h21, h23, h25, h27, -⟩ := s_op7 hI ha0
      refine th_get (D := (dC, dI)) (ci := 6) (v := .ref z7) (C := RX6) (T := TX6) (N := 14) hx hb hts inX6 hown hK hP (hLK _ ha0 (by decide)) o29 rfl 2 (by decide) (hts _ T_165) (fun _ h9 => h9) rfl dX6_fault_18 ?_
      obtain ⟨z30, z32, z34, z36, z38, z40, z42, z43, z44, z46, z48, z49, z50, z52, z53, o54, h31, h33, h35, h37, h39, h41, h45, h47, h51, -⟩ := s_op4 hI h8
      refine th_getN (D := (dC, dI)) (ci := 3) (v := .int z53) (C := RX3) (T := TX3) (N := 15) hx hb hts inX3 hown hK hP (hLK _ h8 (by decide)) o54 rfl 14 (by decide) (va_Nw.use rfl (ax_n10 hN)) (fun _ h9 => h9) rfl dX6_fault_21 ?_
      refine lv_goto (tgt := 28) hx hb dX6_fault_24 (by decide) ?_
      exact W.iret (v := z53) hx hb hr (fun t ht hW => ⟨⟨z53, F, rfl, ⟨trivial, trivial, hI, hfr⟩, by rw [ht]; exact hP, va_K.moved hW.alike hK⟩, hS.F ht⟩) hS.2.2 dX6_fault_28
  · have c1 := (ax_eq (n := 0) (by decide)).mp c1
    refine lv_aload_n hx hb dX6_fault_4 rfl (lv_at hl 0 rfl) ?_
    obtain ⟨z55, z57, z59, z61, z63, z65, z66, z68, z70, z72, z74, z76, z78, z80, o81, h56, h58, h60, h62, h64, h67, h69, h71, h73, h75, h77, h79, -⟩ := s_op7 hI ha0
    refine th_get (D := (dC, dI)) (ci := 6) (v := .ref z59) (C := RX6) (T := TX6) (N := 14) hx hb hts inX6 hown hK hP (hLK _ ha0 (by decide)) o81 rfl 2 (by decide) (hts _ T_165) (fun _ h9 => h9) rfl dX6_fault_5 ?_
    obtain ⟨z82, z84, z86, z88, z90, z92, z94, z95, z96, z98, z100, z101, z102, z104, z105, o106, h83, h85, h87, h89, h91, h93, h97, h99, h103, -⟩ := s_op4 hI h60
    refine th_getN (D := (dC, dI)) (ci := 3) (v := .int z104) (C := RX3) (T := TX3) (N := 15) hx hb hts inX3 hown hK hP (hLK _ h60 (by decide)) o106 rfl 13 (by decide) (va_Nw.use rfl (ax_n11 hN)) (fun _ h9 => h9) rfl dX6_fault_8 ?_
    exact W.iret (v := z104) hx hb hr (fun t ht hW => ⟨⟨z104, F, rfl, ⟨trivial, trivial, hI, hfr⟩, by rw [ht]; exact hP, va_K.moved hW.alike hK⟩, hS.F ht⟩) hS.2.2 dX6_fault_11

set_option maxHeartbeats 4000000 in
set_option maxRecDepth 100000 in
theorem s_X6_has (l : Launch) (dC : Nat → ClassId) (dI : Nat → Nat → Nat) (sz : Nat) {L : List Nat} {K : Nat → Nat} {cs : Nat → ClassId} (hLK : ∀ a {k : Nat}, K a = k → k ≠ 0 → a ∈ L) (D : Nat) (F : Nat → va_E) (a0 : Nat) (x1 : Int32) (ha0 : K a0 = 7) (hI : s_I K cs D F) : Met l yX6_has (Cond.code yX6_has cX6_has 2 (some .int) :: T0) ({ frames := 2, cells := 0, slots := 0, locals := 42 }) (va_Pc [.ref a0, .int x1] (s_W dC dI sz L F [(cs 0, .int), (cs 1, .byte), (cs 2, .long), (cs 3, .object RX5), (cs 4, .object RX4), (cs 5, .array .int), (cs 6, .char), (cs 7, .boolean)])) (va_Qi (fun (r : Int32) (G : Nat → va_E) => True ∧ True ∧ s_I K cs D G ∧ ∀ b, K b ∉ ([] : List Nat) → G b = F b) (fun (G : Nat → va_E) (t : State) => va_P (dC, dI) vwCl (va_pl L G) t.heap ∧ va_K (dC, dI) vwCl [(cs 0, .int), (cs 1, .byte), (cs 2, .long), (cs 3, .object RX5), (cs 4, .object RX4), (cs 5, .array .int), (cs 6, .char), (cs 7, .boolean)] t) (fun q => q ∈ L)) 0 0 (fun q => q ∈ L) := by
  refine Met.ofW (cc := cX6_has) (maxL := 2) (ret := (some .int)) (by decide) rfl ?_
  intro p e s m args below meth c s₁ B hml hv
  obtain ⟨rfl, hsz, hP, hK, hD, hN⟩ := hv
  have hx := B.exec
  have hb := B.bytes
  have hr := B.returns
  have hts : ∀ w ∈ T0, w.before _ s = true := fun w h => atoms_spec (ws := Cond.code yX6_has cX6_has 2 (some .int) :: T0) B.pre w (List.mem_cons_of_mem _ h)
  have hown : s.vm.findClass RX6 = some m.cls := findClass_of_methodNamed B.named
  have hlocks := B.notSynchronized
  have hS : va_S (fun q => q ∈ L) s.heap s.heap [] := va_S.rf
  have hfr : ∀ b, K b ∉ ([] : List Nat) → F b = F b := fun _ _ => rfl
  have hl := lv_entry ([.ref a0, .int x1]) (n := 2) (Nat.le_of_ble_eq_true rfl)
  rw [lg_entry_eq]
  generalize (lg_sl ([.ref a0, .int x1]) ++ List.replicate (2 - (lg_sl ([.ref a0, .int x1])).length) Slot.unset).toArray = ls at hl ⊢
  have hl : lv_has ls 2 [(0, .ref a0), (1, .int x1)] := hl
  refine s_gen hP hS (fun H locs hP hS => ?_)
  refine lv_iload_n hx hb dX6_has_0 rfl (lv_at hl 1 rfl) ?_
  refine lv_if_lt (tgt := 10) hx hb dX6_has_1 (by decide) (fun c1 => ?_) (fun c1 => ?_)
  · have c1 := (ax_lt (n := 0) (by decide)).mp c1
    refine lv_iconst (v := (-1)) hx hb dX6_has_10 (by decide) ?_
    exact W.iret (v := (-1)) hx hb hr (fun t ht hW => ⟨⟨(-1), F, rfl, ⟨trivial, trivial, hI, hfr⟩, by rw [ht]; exact hP, va_K.moved hW.alike hK⟩, hS.F ht⟩) hS.2.2 dX6_has_11
  · have c1 := mt (ax_lt (n := 0) (by decide)).mpr c1
    refine lv_iload_n hx hb dX6_has_4 rfl (lv_at hl 1 rfl) ?_
    refine lv_bipush (v := 13) hx hb dX6_has_5 (by decide) ?_
    refine lv_icmp_le (tgt := 12) hx hb dX6_has_7 (by decide) (fun c2 => ?_) (fun c2 => ?_)
    · have c2 := (ax_le (n := 13) (by decide)).mp c2
      refine lv_aload_n hx hb dX6_has_12 rfl (lv_at hl 0 rfl) ?_
      obtain ⟨z3, z5, z7, z9, z11, z13, z14, z16, z18, z20, z22, z24, z26, z28, o29, h4, h6, h8, h10, h12, h15, h17, h19, h21, h23, h25, h27, -⟩ := s_op7 hI ha0
      refine th_get (D := (dC, dI)) (ci := 6) (v := .int z13) (C := RX6) (T := TX6) (N := 14) hx hb hts inX6 hown hK hP (hLK _ ha0 (by decide)) o29 rfl 5 (by decide) (hts _ T_224) (fun _ h9 => h9) rfl dX6_has_13 ?_
      refine lv_if_ne (tgt := 21) hx hb dX6_has_16 (by decide) (fun c30 => ?_) (fun c30 => ?_)
      · have c30 := mt (ax_eq (n := 0) (by decide)).mpr c30
        refine lv_iload_n hx hb dX6_has_21 rfl (lv_at hl 1 rfl) ?_
        by_cases c31 : x1 = 0
        · refine ax_eqi c31 ?_
          refine lv_tableIn (off := 66) (tgt := 88) hx hb dX6_has_22 (by decide) (by decide) (by decide) (by decide) ?_
          have c31 := (ax_eq (n := 0) (by decide)).mp c31
          refine lv_aload_n hx hb dX6_has_88 rfl (lv_at hl 0 rfl) ?_
          refine th_get (D := (dC, dI)) (ci := 6) (v := .ref z9) (C := RX6) (T := TX6) (N := 14) hx hb hts inX6 hown hK hP (hLK _ ha0 (by decide)) o29 rfl 3 (by decide) (hts _ T_170) (fun _ h9 => h9) rfl dX6_has_89 ?_
          obtain ⟨z32, z34, z36, z38, z40, z42, z43, o44, h33, h35, h37, h39, h41, -⟩ := s_op3 hI h10
          refine th_getN (D := (dC, dI)) (ci := 2) (v := .int z38) (C := RX2) (T := TX2) (N := 7) hx hb hts inX2 hown hK hP (hLK _ h10 (by decide)) o44 rfl 3 (by decide) (va_Nw.use rfl (ax_n60 hN)) (fun _ h9 => h9) rfl dX6_has_92 ?_
          exact W.iret (v := z38) hx hb hr (fun t ht hW => ⟨⟨z38, F, rfl, ⟨trivial, trivial, hI, hfr⟩, by rw [ht]; exact hP, va_K.moved hW.alike hK⟩, hS.F ht⟩) hS.2.2 dX6_has_95
        · have c31 := mt (ax_eq (n := 0) (by decide)).mpr c31
          by_cases c45 : x1 = 1
          · refine ax_eqi c45 ?_
            refine lv_tableIn (off := 74) (tgt := 96) hx hb dX6_has_22 (by decide) (by decide) (by decide) (by decide) ?_
            have c45 := (ax_eq (n := 1) (by decide)).mp c45
            refine lv_aload_n hx hb dX6_has_96 rfl (lv_at hl 0 rfl) ?_
            refine th_get (D := (dC, dI)) (ci := 6) (v := .ref z9) (C := RX6) (T := TX6) (N := 14) hx hb hts inX6 hown hK hP (hLK _ ha0 (by decide)) o29 rfl 3 (by decide) (hts _ T_170) (fun _ h9 => h9) rfl dX6_has_97 ?_
            obtain ⟨z46, z48, z50, z52, z54, z56, z57, o58, h47, h49, h51, h53, h55, -⟩ := s_op3 hI h10
            refine th_getN (D := (dC, dI)) (ci := 2) (v := .int z54) (C := RX2) (T := TX2) (N := 7) hx hb hts inX2 hown hK hP (hLK _ h10 (by decide)) o58 rfl 4 (by decide) (va_Nw.use rfl (ax_n55 hN)) (fun _ h9 => h9) rfl dX6_has_100 ?_
            exact W.iret (v := z54) hx hb hr (fun t ht hW => ⟨⟨z54, F, rfl, ⟨trivial, trivial, hI, hfr⟩, by rw [ht]; exact hP, va_K.moved hW.alike hK⟩, hS.F ht⟩) hS.2.2 dX6_has_103
          · have c45 := mt (ax_eq (n := 1) (by decide)).mpr c45
            by_cases c59 : x1 = 2
            · refine ax_eqi c59 ?_
              refine lv_tableIn (off := 82) (tgt := 104) hx hb dX6_has_22 (by decide) (by decide) (by decide) (by decide) ?_
              have c59 := (ax_eq (n := 2) (by decide)).mp c59
              refine lv_aload_n hx hb dX6_has_104 rfl (lv_at hl 0 rfl) ?_
              refine th_get (D := (dC, dI)) (ci := 6) (v := .ref z14) (C := RX6) (T := TX6) (N := 14) hx hb hts inX6 hown hK hP (hLK _ ha0 (by decide)) o29 rfl 6 (by decide) (hts _ T_174) (fun _ h9 => h9) rfl dX6_has_105 ?_
              obtain ⟨z60, z62, z64, z66, z68, z70, z72, z74, z76, z77, z78, z80, z81, z83, z84, o86, h61, h63, h65, h67, h69, h71, h73, h75, h79, h82, h85, -⟩ := s_op5 hI h15
              refine th_getN (D := (dC, dI)) (ci := 4) (v := .int z80) (C := RX4) (T := TX4) (N := 15) hx hb hts inX4 hown hK hP (hLK _ h15 (by decide)) o86 rfl 11 (by decide) (va_Nw.use rfl (ax_n59 hN)) (fun _ h9 => h9) rfl dX6_has_108 ?_
              exact W.iret (v := z80) hx hb hr (fun t ht hW => ⟨⟨z80, F, rfl, ⟨trivial, trivial, hI, hfr⟩, by rw [ht]; exact hP, va_K.moved hW.alike hK⟩, hS.F ht⟩) hS.2.2 dX6_has_111
            · have c59 := mt (ax_eq (n := 2) (by decide)).mpr c59
              by_cases c87 : x1 = 3
              · refine ax_eqi c87 ?_
                refine lv_tableIn (off := 90) (tgt := 112) hx hb dX6_has_22 (by decide) (by decide) (by decide) (by decide) ?_
                have c87 := (ax_eq (n := 3) (by decide)).mp c87
                refine lv_aload_n hx hb dX6_has_112 rfl (lv_at hl 0 rfl) ?_
                refine th_get (D := (dC, dI)) (ci := 6) (v := .ref z14) (C := RX6) (T := TX6) (N := 14) hx hb hts inX6 hown hK hP (hLK _ ha0 (by decide)) o29 rfl 6 (by decide) (hts _ T_174) (fun _ h9 => h9) rfl dX6_has_113 ?_
                obtain ⟨z88, z90, z92, z94, z96, z98, z100, z102, z104, z105, z106, z108, z109, z111, z112, o114, h89, h91, h93, h95, h97, h99, h101, h103, h107, h110, h113, -⟩ := s_op5 hI h15
                refine th_getN (D := (dC, dI)) (ci := 4) (v := .int z109) (C := RX4) (T := TX4) (N := 15) hx hb hts inX4 hown hK hP (hLK _ h15 (by decide)) o114 rfl 12 (by decide) (va_Nw.use rfl (ax_n12 hN)) (fun _ h9 => h9) rfl dX6_has_116 ?_
                exact W.iret (v := z109) hx hb hr (fun t ht hW => ⟨⟨z109, F, rfl, ⟨trivial, trivial, hI, hfr⟩, by rw [ht]; exact hP, va_K.moved hW.alike hK⟩, hS.F ht⟩) hS.2.2 dX6_has_119
              · have c87 := mt (ax_eq (n := 3) (by decide)).mpr c87
                by_cases c115 : x1 = 4
                · refine ax_eqi c115 ?_
                  refine lv_tableIn (off := 98) (tgt := 120) hx hb dX6_has_22 (by decide) (by decide) (by decide) (by decide) ?_
                  have c115 := (ax_eq (n := 4) (by decide)).mp c115
                  refine lv_aload_n hx hb dX6_has_120 rfl (lv_at hl 0 rfl) ?_
                  refine th_get (D := (dC, dI)) (ci := 6) (v := .ref z14) (C := RX6) (T := TX6) (N := 14) hx hb hts inX6 hown hK hP (hLK _ ha0 (by decide)) o29 rfl 6 (by decide) (hts _ T_174) (fun _ h9 => h9) rfl dX6_has_121 ?_
                  obtain ⟨z116, z118, z120, z122, z124, z126, z128, z130, z132, z133, z134, z136, z137, z139, z140, o142, h117, h119, h121, h123, h125, h127, h129, h131, h135, h138, h141, -⟩ := s_op5 hI h15
                  refine va_calli (va_runV (As := []) (rest := []) ⟨hx, hb, hml, hown, hts⟩ (s_X4_living l dC dI H.size hLK D F z14 h15 hI) (cwV 0 hts (ax_gV T_937 T_939 T_940 T_142 T_938) rfl rfl rfl (by decide +kernel) ⟨Nat.le_of_ble_eq_true rfl, Nat.le_of_ble_eq_true rfl⟩) ⟨fun a U g mk q => ⟨q.1, s_pc rfl rfl q.2⟩, s_recv hK hP (hLK _ h15 (by decide)) (ci := 4) rfl o142, fun U hU hW => ⟨rfl, s_pw hU hW hP hK hD hN⟩⟩ rfl rfl hl.1 rfl (lv_room (Nat.le_of_ble_eq_true rfl)) dX6_has_124 ⟨Nat.zero_le _, Nat.zero_le _⟩) hS (fun q _ h => h) (fun q h => h) (fun r143 F144 t H1 locs ht hvm hw hB hz1 hk1 hS => ?_)
                  obtain ⟨hP, hK1⟩ := hB
                  rw [ht] at hP
                  generalize H1 = H at hP hS ⊢
                  obtain ⟨h145, h146, hI, hfr1⟩ := hw
                  have o147 : F144 a0 = .inr (6, [.ref z3, .int z5, .ref z7, .ref z9, .ref z11, .int z13, .ref z14, .ref z16, .int z18, .int z20, .ref z22, .ref z24, .ref z26, .long z28]) := (hfr1 _ (by rw [ha0]; decide)).trans o29
                  have o148 : F144 z14 = .inr (4, [.ref z116, .ref z118, .ref z120, .ref z122, .ref z124, .ref z126, .ref z128, .int z130, .int z132, .int z133, .int z134, .int z136, .int z137, .int z139, .int z140]) := (hfr1 _ (by rw [h15]; decide)).trans o142
                  have hfr : ∀ b, K b ∉ ([] : List Nat) → F144 b = F b := fun b hb9 => (hfr1 b (fun q => hb9 (s_sub (by decide) q))).trans (hfr b hb9)
                  exact W.iret (v := r143) hx hb hr (fun t ht hW => ⟨⟨r143, F144, rfl, ⟨trivial, trivial, hI, hfr⟩, by rw [ht]; exact hP, va_K.moved hW.alike hK⟩, hS.F ht⟩) hS.2.2 dX6_has_127
                · have c115 := mt (ax_eq (n := 4) (by decide)).mpr c115
                  by_cases c149 : x1 = 5
                  · refine ax_eqi c149 ?_
                    refine lv_tableIn (off := 106) (tgt := 128) hx hb dX6_has_22 (by decide) (by decide) (by decide) (by decide) ?_
                    have c149 := (ax_eq (n := 5) (by decide)).mp c149
                    refine lv_aload_n hx hb dX6_has_128 rfl (lv_at hl 0 rfl) ?_
                    refine th_get (D := (dC, dI)) (ci := 6) (v := .ref z14) (C := RX6) (T := TX6) (N := 14) hx hb hts inX6 hown hK hP (hLK _ ha0 (by decide)) o29 rfl 6 (by decide) (hts _ T_174) (fun _ h9 => h9) rfl dX6_has_129 ?_
                    obtain ⟨z150, z152, z154, z156, z158, z160, z162, z164, z166, z167, z168, z170, z171, z173, z174, o176, h151, h153, h155, h157, h159, h161, h163, h165, h169, h172, h175, -⟩ := s_op5 hI h15
                    refine va_calli (va_runV (As := []) (rest := []) ⟨hx, hb, hml, hown, hts⟩ (s_X4_waiting l dC dI H.size hLK D F z14 h15 hI) (cwV 0 hts (ax_gV T_941 T_943 T_944 T_142 T_942) rfl rfl rfl (by decide +kernel) ⟨Nat.le_of_ble_eq_true rfl, Nat.le_of_ble_eq_true rfl⟩) ⟨fun a U g mk q => ⟨q.1, s_pc rfl rfl q.2⟩, s_recv hK hP (hLK _ h15 (by decide)) (ci := 4) rfl o176, fun U hU hW => ⟨rfl, s_pw hU hW hP hK hD hN⟩⟩ rfl rfl hl.1 rfl (lv_room (Nat.le_of_ble_eq_true rfl)) dX6_has_132 ⟨Nat.zero_le _, Nat.zero_le _⟩) hS (fun q _ h => h) (fun q h => h) (fun r177 F178 t H1 locs ht hvm hw hB hz1 hk1 hS => ?_)
                    obtain ⟨hP, hK1⟩ := hB
                    rw [ht] at hP
                    generalize H1 = H at hP hS ⊢
                    obtain ⟨h179, h180, hI, hfr1⟩ := hw
                    have o181 : F178 a0 = .inr (6, [.ref z3, .int z5, .ref z7, .ref z9, .ref z11, .int z13, .ref z14, .ref z16, .int z18, .int z20, .ref z22, .ref z24, .ref z26, .long z28]) := (hfr1 _ (by rw [ha0]; decide)).trans o29
                    have o182 : F178 z14 = .inr (4, [.ref z150, .ref z152, .ref z154, .ref z156, .ref z158, .ref z160, .ref z162, .int z164, .int z166, .int z167, .int z168, .int z170, .int z171, .int z173, .int z174]) := (hfr1 _ (by rw [h15]; decide)).trans o176
                    have hfr : ∀ b, K b ∉ ([] : List Nat) → F178 b = F b := fun b hb9 => (hfr1 b (fun q => hb9 (s_sub (by decide) q))).trans (hfr b hb9)
                    exact W.iret (v := r177) hx hb hr (fun t ht hW => ⟨⟨r177, F178, rfl, ⟨trivial, trivial, hI, hfr⟩, by rw [ht]; exact hP, va_K.moved hW.alike hK⟩, hS.F ht⟩) hS.2.2 dX6_has_135
                  · have c149 := mt (ax_eq (n := 5) (by decide)).mpr c149
                    by_cases c183 : x1 = 6
                    · refine ax_eqi c183 ?_
                      refine lv_tableIn (off := 114) (tgt := 136) hx hb dX6_has_22 (by decide) (by decide) (by decide) (by decide) ?_
                      have c183 := (ax_eq (n := 6) (by decide)).mp c183
                      refine lv_aload_n hx hb dX6_has_136 rfl (lv_at hl 0 rfl) ?_
                      refine th_get (D := (dC, dI)) (ci := 6) (v := .ref z14) (C := RX6) (T := TX6) (N := 14) hx hb hts inX6 hown hK hP (hLK _ ha0 (by decide)) o29 rfl 6 (by decide) (hts _ T_174) (fun _ h9 => h9) rfl dX6_has_137 ?_
                      obtain ⟨z184, z186, z188, z190, z192, z194, z196, z198, z200, z201, z202, z204, z205, z207, z208, o210, h185, h187, h189, h191, h193, h195, h197, h199, h203, h206, h209, -⟩ := s_op5 hI h15
                      refine va_calli (va_runV (As := []) (rest := []) ⟨hx, hb, hml, hown, hts⟩ (s_X4_racedWords l dC dI H.size hLK D F z14 h15 hI) (cwV 0 hts (ax_gV T_945 T_947 T_948 T_142 T_946) rfl rfl rfl (by decide +kernel) ⟨Nat.le_of_ble_eq_true rfl, Nat.le_of_ble_eq_true rfl⟩) ⟨fun a U g mk q => ⟨q.1, s_pc rfl rfl q.2⟩, s_recv hK hP (hLK _ h15 (by decide)) (ci := 4) rfl o210, fun U hU hW => ⟨rfl, s_pw hU hW hP hK hD hN⟩⟩ rfl rfl hl.1 rfl (lv_room (Nat.le_of_ble_eq_true rfl)) dX6_has_140 ⟨Nat.zero_le _, Nat.zero_le _⟩) hS (fun q _ h => h) (fun q h => h) (fun r211 F212 t H1 locs ht hvm hw hB hz1 hk1 hS => ?_)
                      obtain ⟨hP, hK1⟩ := hB
                      rw [ht] at hP
                      generalize H1 = H at hP hS ⊢
                      obtain ⟨h213, h214, hI, hfr1⟩ := hw
                      have o215 : F212 a0 = .inr (6, [.ref z3, .int z5, .ref z7, .ref z9, .ref z11, .int z13, .ref z14, .ref z16, .int z18, .int z20, .ref z22, .ref z24, .ref z26, .long z28]) := (hfr1 _ (by rw [ha0]; decide)).trans o29
                      have o216 : F212 z14 = .inr (4, [.ref z184, .ref z186, .ref z188, .ref z190, .ref z192, .ref z194, .ref z196, .int z198, .int z200, .int z201, .int z202, .int z204, .int z205, .int z207, .int z208]) := (hfr1 _ (by rw [h15]; decide)).trans o210
                      have hfr : ∀ b, K b ∉ ([] : List Nat) → F212 b = F b := fun b hb9 => (hfr1 b (fun q => hb9 (s_sub (by decide) q))).trans (hfr b hb9)
                      exact W.iret (v := r211) hx hb hr (fun t ht hW => ⟨⟨r211, F212, rfl, ⟨trivial, trivial, hI, hfr⟩, by rw [ht]; exact hP, va_K.moved hW.alike hK⟩, hS.F ht⟩) hS.2.2 dX6_has_143
                    · have c183 := mt (ax_eq (n := 6) (by decide)).mpr c183
                      by_cases c217 : x1 = 7
                      · refine ax_eqi c217 ?_
                        refine lv_tableIn (off := 122) (tgt := 144) hx hb dX6_has_22 (by decide) (by decide) (by decide) (by decide) ?_
                        have c217 := (ax_eq (n := 7) (by decide)).mp c217
                        refine lv_aload_n hx hb dX6_has_144 rfl (lv_at hl 0 rfl) ?_
                        refine th_get (D := (dC, dI)) (ci := 6) (v := .ref z14) (C := RX6) (T := TX6) (N := 14) hx hb hts inX6 hown hK hP (hLK _ ha0 (by decide)) o29 rfl 6 (by decide) (hts _ T_174) (fun _ h9 => h9) rfl dX6_has_145 ?_
                        obtain ⟨z218, z220, z222, z224, z226, z228, z230, z232, z234, z235, z236, z238, z239, z241, z242, o244, h219, h221, h223, h225, h227, h229, h231, h233, h237, h240, h243, -⟩ := s_op5 hI h15
                        refine th_getN (D := (dC, dI)) (ci := 4) (v := .int z239) (C := RX4) (T := TX4) (N := 15) hx hb hts inX4 hown hK hP (hLK _ h15 (by decide)) o244 rfl 12 (by decide) (va_Nw.use rfl (ax_n12 hN)) (fun _ h9 => h9) rfl dX6_has_148 ?_
                        refine lv_bipush (v := 30) hx hb dX6_has_151 (by decide) ?_
                        refine va_mmin hx hb (by rw [hml]; exact hl.1.symm) hown (hts _ T_235) (hts _ T_236) (hts _ T_237) (hts _ T_19) (Nat.le_of_ble_eq_true rfl) (Nat.le_of_ble_eq_true rfl) (Nat.zero_le _) (Nat.zero_le _) dX6_has_153 ?_
                        refine lv_topi (fun v245 ev245 => ?_)
                        have qv245 := th_mmin (a := z239.toInt) (b := 30) ev245 rfl (by decide)
                        exact W.iret (v := v245) hx hb hr (fun t ht hW => ⟨⟨v245, F, rfl, ⟨trivial, trivial, hI, hfr⟩, by rw [ht]; exact hP, va_K.moved hW.alike hK⟩, hS.F ht⟩) hS.2.2 dX6_has_156
                      · have c217 := mt (ax_eq (n := 7) (by decide)).mpr c217
                        by_cases c246 : x1 = 8
                        · refine ax_eqi c246 ?_
                          refine lv_tableIn (off := 135) (tgt := 157) hx hb dX6_has_22 (by decide) (by decide) (by decide) (by decide) ?_
                          have c246 := (ax_eq (n := 8) (by decide)).mp c246
                          refine lv_aload_n hx hb dX6_has_157 rfl (lv_at hl 0 rfl) ?_
                          refine th_get (D := (dC, dI)) (ci := 6) (v := .int z20) (C := RX6) (T := TX6) (N := 14) hx hb hts inX6 hown hK hP (hLK _ ha0 (by decide)) o29 rfl 9 (by decide) (hts _ T_238) (fun _ h9 => h9) rfl dX6_has_158 ?_
                          exact W.iret (v := z20) hx hb hr (fun t ht hW => ⟨⟨z20, F, rfl, ⟨trivial, trivial, hI, hfr⟩, by rw [ht]; exact hP, va_K.moved hW.alike hK⟩, hS.F ht⟩) hS.2.2 dX6_has_161
                        · have c246 := mt (ax_eq (n := 8) (by decide)).mpr c246
                          by_cases c247 : x1 = 9
                          · refine ax_eqi c247 ?_
                            refine lv_tableIn (off := 140) (tgt := 162) hx hb dX6_has_22 (by decide) (by decide) (by decide) (by decide) ?_
                            have c247 := (ax_eq (n := 9) (by decide)).mp c247
                            refine lv_aload_n hx hb dX6_has_162 rfl (lv_at hl 0 rfl) ?_
                            refine th_get (D := (dC, dI)) (ci := 6) (v := .ref z14) (C := RX6) (T := TX6) (N := 14) hx hb hts inX6 hown hK hP (hLK _ ha0 (by decide)) o29 rfl 6 (by decide) (hts _ T_174) (fun _ h9 => h9) rfl dX6_has_163 ?_
                            obtain ⟨z248, z250, z252, z254, z256, z258, z260, z262, z264, z265, z266, z268, z269, z271, z272, o274, h249, h251, h253, h255, h257, h259, h261, h263, h267, h270, h273, -⟩ := s_op5 hI h15
                            refine th_getN (D := (dC, dI)) (ci := 4) (v := .int z271) (C := RX4) (T := TX4) (N := 15) hx hb hts inX4 hown hK hP (hLK _ h15 (by decide)) o274 rfl 13 (by decide) (va_Nw.use rfl (ax_n61 hN)) (fun _ h9 => h9) rfl dX6_has_166 ?_
                            exact W.iret (v := z271) hx hb hr (fun t ht hW => ⟨⟨z271, F, rfl, ⟨trivial, trivial, hI, hfr⟩, by rw [ht]; exact hP, va_K.moved hW.alike hK⟩, hS.F ht⟩) hS.2.2 dX6_has_169
                          · have c247 := mt (ax_eq (n := 9) (by decide)).mpr c247
                            by_cases c275 : x1 = 10
                            · refine ax_eqi c275 ?_
                              refine lv_tableIn (off := 148) (tgt := 170) hx hb dX6_has_22 (by decide) (by decide) (by decide) (by decide) ?_
                              have c275 := (ax_eq (n := 10) (by decide)).mp c275
                              refine lv_aload_n hx hb dX6_has_170 rfl (lv_at hl 0 rfl) ?_
                              refine th_get (D := (dC, dI)) (ci := 6) (v := .ref z14) (C := RX6) (T := TX6) (N := 14) hx hb hts inX6 hown hK hP (hLK _ ha0 (by decide)) o29 rfl 6 (by decide) (hts _ T_174) (fun _ h9 => h9) rfl dX6_has_171 ?_
                              obtain ⟨z276, z278, z280, z282, z284, z286, z288, z290, z292, z293, z294, z296, z297, z299, z300, o302, h277, h279, h281, h283, h285, h287, h289, h291, h295, h298, h301, -⟩ := s_op5 hI h15
                              refine th_getN (D := (dC, dI)) (ci := 4) (v := .int z292) (C := RX4) (T := TX4) (N := 15) hx hb hts inX4 hown hK hP (hLK _ h15 (by decide)) o302 rfl 8 (by decide) (va_Nw.use rfl (ax_n52 hN)) (fun _ h9 => h9) rfl dX6_has_174 ?_
                              exact W.iret (v := z292) hx hb hr (fun t ht hW => ⟨⟨z292, F, rfl, ⟨trivial, trivial, hI, hfr⟩, by rw [ht]; exact hP, va_K.moved hW.alike hK⟩, hS.F ht⟩) hS.2.2 dX6_has_177
                            · have c275 := mt (ax_eq (n := 10) (by decide)).mpr c275
                              by_cases c303 : x1 = 11
                              · refine ax_eqi c303 ?_
                                refine lv_tableIn (off := 156) (tgt := 178) hx hb dX6_has_22 (by decide) (by decide) (by decide) (by decide) ?_
                                have c303 := (ax_eq (n := 11) (by decide)).mp c303
                                refine lv_aload_n hx hb dX6_has_178 rfl (lv_at hl 0 rfl) ?_
                                refine th_get (D := (dC, dI)) (ci := 6) (v := .ref z14) (C := RX6) (T := TX6) (N := 14) hx hb hts inX6 hown hK hP (hLK _ ha0 (by decide)) o29 rfl 6 (by decide) (hts _ T_174) (fun _ h9 => h9) rfl dX6_has_179 ?_
                                obtain ⟨z304, z306, z308, z310, z312, z314, z316, z318, z320, z321, z322, z324, z325, z327, z328, o330, h305, h307, h309, h311, h313, h315, h317, h319, h323, h326, h329, -⟩ := s_op5 hI h15
                                refine th_getN (D := (dC, dI)) (ci := 4) (v := .int z321) (C := RX4) (T := TX4) (N := 15) hx hb hts inX4 hown hK hP (hLK _ h15 (by decide)) o330 rfl 9 (by decide) (va_Nw.use rfl (ax_n53 hN)) (fun _ h9 => h9) rfl dX6_has_182 ?_
                                exact W.iret (v := z321) hx hb hr (fun t ht hW => ⟨⟨z321, F, rfl, ⟨trivial, trivial, hI, hfr⟩, by rw [ht]; exact hP, va_K.moved hW.alike hK⟩, hS.F ht⟩) hS.2.2 dX6_has_185
                              · have c303 := mt (ax_eq (n := 11) (by decide)).mpr c303
                                by_cases c331 : x1 = 12
                                · refine ax_eqi c331 ?_
                                  refine lv_tableIn (off := 164) (tgt := 186) hx hb dX6_has_22 (by decide) (by decide) (by decide) (by decide) ?_
                                  have c331 := (ax_eq (n := 12) (by decide)).mp c331
                                  refine lv_aload_n hx hb dX6_has_186 rfl (lv_at hl 0 rfl) ?_
                                  refine th_get (D := (dC, dI)) (ci := 6) (v := .ref z14) (C := RX6) (T := TX6) (N := 14) hx hb hts inX6 hown hK hP (hLK _ ha0 (by decide)) o29 rfl 6 (by decide) (hts _ T_174) (fun _ h9 => h9) rfl dX6_has_187 ?_
                                  obtain ⟨z332, z334, z336, z338, z340, z342, z344, z346, z348, z349, z350, z352, z353, z355, z356, o358, h333, h335, h337, h339, h341, h343, h345, h347, h351, h354, h357, -⟩ := s_op5 hI h15
                                  refine th_getN (D := (dC, dI)) (ci := 4) (v := .int z350) (C := RX4) (T := TX4) (N := 15) hx hb hts inX4 hown hK hP (hLK _ h15 (by decide)) o358 rfl 10 (by decide) (va_Nw.use rfl (ax_n54 hN)) (fun _ h9 => h9) rfl dX6_has_190 ?_
                                  exact W.iret (v := z350) hx hb hr (fun t ht hW => ⟨⟨z350, F, rfl, ⟨trivial, trivial, hI, hfr⟩, by rw [ht]; exact hP, va_K.moved hW.alike hK⟩, hS.F ht⟩) hS.2.2 dX6_has_193
                                · have c331 := mt (ax_eq (n := 12) (by decide)).mpr c331
                                  refine lv_tableOut (tgt := 194) hx hb dX6_has_22 (by omega) (by decide) ?_
                                  refine lv_aload_n hx hb dX6_has_194 rfl (lv_at hl 0 rfl) ?_
                                  refine th_get (D := (dC, dI)) (ci := 6) (v := .ref z14) (C := RX6) (T := TX6) (N := 14) hx hb hts inX6 hown hK hP (hLK _ ha0 (by decide)) o29 rfl 6 (by decide) (hts _ T_174) (fun _ h9 => h9) rfl dX6_has_195 ?_
                                  obtain ⟨z359, z361, z363, z365, z367, z369, z371, z373, z375, z376, z377, z379, z380, z382, z383, o385, h360, h362, h364, h366, h368, h370, h372, h374, h378, h381, h384, -⟩ := s_op5 hI h15
                                  refine th_getN (D := (dC, dI)) (ci := 4) (v := .int z383) (C := RX4) (T := TX4) (N := 15) hx hb hts inX4 hown hK hP (hLK _ h15 (by decide)) o385 rfl 14 (by decide) (va_Nw.use rfl (ax_n62 hN)) (fun _ h9 => h9) rfl dX6_has_198 ?_
                                  refine lv_iconst (v := 0) hx hb dX6_has_201 (by decide) ?_
                                  refine va_mmax hx hb (by rw [hml]; exact hl.1.symm) hown (hts _ T_949) (hts _ T_609) (hts _ T_237) (hts _ T_610) (Nat.le_of_ble_eq_true rfl) (Nat.le_of_ble_eq_true rfl) (Nat.zero_le _) (Nat.zero_le _) dX6_has_202 ?_
                                  refine lv_topi (fun v386 ev386 => ?_)
                                  have qv386 := th_mmax (a := z383.toInt) (b := 0) ev386 rfl (by decide)
                                  exact W.iret (v := v386) hx hb hr (fun t ht hW => ⟨⟨v386, F, rfl, ⟨trivial, trivial, hI, hfr⟩, by rw [ht]; exact hP, va_K.moved hW.alike hK⟩, hS.F ht⟩) hS.2.2 dX6_has_205
      · have c30 := (ax_eq (n := 0) (by decide)).mp c30
        refine lv_iconst (v := 0) hx hb dX6_has_19 (by decide) ?_
        exact W.iret (v := 0) hx hb hr (fun t ht hW => ⟨⟨0, F, rfl, ⟨trivial, trivial, hI, hfr⟩, by rw [ht]; exact hP, va_K.moved hW.alike hK⟩, hS.F ht⟩) hS.2.2 dX6_has_20
    · have c2 := mt (ax_le (n := 13) (by decide)).mpr c2
      refine lv_iconst (v := (-1)) hx hb dX6_has_10 (by decide) ?_
      exact W.iret (v := (-1)) hx hb hr (fun t ht hW => ⟨⟨(-1), F, rfl, ⟨trivial, trivial, hI, hfr⟩, by rw [ht]; exact hP, va_K.moved hW.alike hK⟩, hS.F ht⟩) hS.2.2 dX6_has_11

set_option maxHeartbeats 4000000 in
set_option maxRecDepth 100000 in
theorem s_X6_line (l : Launch) (dC : Nat → ClassId) (dI : Nat → Nat → Nat) (sz : Nat) {L : List Nat} {K : Nat → Nat} {cs : Nat → ClassId} (hLK : ∀ a {k : Nat}, K a = k → k ≠ 0 → a ∈ L) (D : Nat) (F : Nat → va_E) (a0 : Nat) (x1 : Int32) (x2 : Int32) (ha0 : K a0 = 7) (hI : s_I K cs D F) : Met l yX6_line (Cond.code yX6_line cX6_line 3 (some .int) :: T0) ({ frames := 0, cells := 0, slots := 0, locals := 0 }) (va_Pc [.ref a0, .int x1, .int x2] (s_W dC dI sz L F [(cs 0, .int), (cs 1, .byte), (cs 2, .long), (cs 3, .object RX5), (cs 4, .object RX4), (cs 5, .array .int), (cs 6, .char), (cs 7, .boolean)])) (va_Qi (fun (r : Int32) (G : Nat → va_E) => True ∧ True ∧ s_I K cs D G ∧ ∀ b, K b ∉ ([] : List Nat) → G b = F b) (fun (G : Nat → va_E) (t : State) => va_P (dC, dI) vwCl (va_pl L G) t.heap ∧ va_K (dC, dI) vwCl [(cs 0, .int), (cs 1, .byte), (cs 2, .long), (cs 3, .object RX5), (cs 4, .object RX4), (cs 5, .array .int), (cs 6, .char), (cs 7, .boolean)] t) (fun q => q ∈ L)) 0 0 (fun q => q ∈ L) := by
  refine Met.ofW (cc := cX6_line) (maxL := 3) (ret := (some .int)) (by decide) rfl ?_
  intro p e s m args below meth c s₁ B hml hv
  obtain ⟨rfl, hsz, hP, hK, hD, hN⟩ := hv
  have hx := B.exec
  have hb := B.bytes
  have hr := B.returns
  have hts : ∀ w ∈ T0, w.before _ s = true := fun w h => atoms_spec (ws := Cond.code yX6_line cX6_line 3 (some .int) :: T0) B.pre w (List.mem_cons_of_mem _ h)
  have hown : s.vm.findClass RX6 = some m.cls := findClass_of_methodNamed B.named
  have hlocks := B.notSynchronized
  have hS : va_S (fun q => q ∈ L) s.heap s.heap [] := va_S.rf
  have hfr : ∀ b, K b ∉ ([] : List Nat) → F b = F b := fun _ _ => rfl
  have hl := lv_entry ([.ref a0, .int x1, .int x2]) (n := 3) (Nat.le_of_ble_eq_true rfl)
  rw [lg_entry_eq]
  generalize (lg_sl ([.ref a0, .int x1, .int x2]) ++ List.replicate (3 - (lg_sl ([.ref a0, .int x1, .int x2])).length) Slot.unset).toArray = ls at hl ⊢
  have hl : lv_has ls 3 [(0, .ref a0), (1, .int x1), (2, .int x2)] := hl
  refine s_gen hP hS (fun H locs hP hS => ?_)
  refine lv_aload_n hx hb dX6_line_0 rfl (lv_at hl 0 rfl) ?_
  obtain ⟨z1, z3, z5, z7, z9, z11, z12, z14, z16, z18, z20, z22, z24, z26, o27, h2, h4, h6, h8, h10, h13, h15, h17, h19, h21, h23, h25, -⟩ := s_op7 hI ha0
  refine th_get (D := (dC, dI)) (ci := 6) (v := .int z11) (C := RX6) (T := TX6) (N := 14) hx hb hts inX6 hown hK hP (hLK _ ha0 (by decide)) o27 rfl 5 (by decide) (hts _ T_224) (fun _ h9 => h9) rfl dX6_line_1 ?_
  refine lv_if_eq (tgt := 32) hx hb dX6_line_4 (by decide) (fun c28 => ?_) (fun c28 => ?_)
  · have c28 := (ax_eq (n := 0) (by decide)).mp c28
    refine lv_ldc (v := (-1000000)) hx hb hown (hts _ T_228) dX6_line_32 ?_
    exact W.iret (v := (-1000000)) hx hb hr (fun t ht hW => ⟨⟨(-1000000), F, rfl, ⟨trivial, trivial, hI, hfr⟩, by rw [ht]; exact hP, va_K.moved hW.alike hK⟩, hS.F ht⟩) hS.2.2 dX6_line_34
  · have c28 := mt (ax_eq (n := 0) (by decide)).mpr c28
    refine lv_iload_n hx hb dX6_line_7 rfl (lv_at hl 1 rfl) ?_
    refine lv_if_lt (tgt := 32) hx hb dX6_line_8 (by decide) (fun c29 => ?_) (fun c29 => ?_)
    · have c29 := (ax_lt (n := 0) (by decide)).mp c29
      refine lv_ldc (v := (-1000000)) hx hb hown (hts _ T_228) dX6_line_32 ?_
      exact W.iret (v := (-1000000)) hx hb hr (fun t ht hW => ⟨⟨(-1000000), F, rfl, ⟨trivial, trivial, hI, hfr⟩, by rw [ht]; exact hP, va_K.moved hW.alike hK⟩, hS.F ht⟩) hS.2.2 dX6_line_34
    · have c29 := mt (ax_lt (n := 0) (by decide)).mpr c29
      refine lv_iload_n hx hb dX6_line_11 rfl (lv_at hl 1 rfl) ?_
      refine lv_aload_n hx hb dX6_line_12 rfl (lv_at hl 0 rfl) ?_
      refine th_get (D := (dC, dI)) (ci := 6) (v := .ref z7) (C := RX6) (T := TX6) (N := 14) hx hb hts inX6 hown hK hP (hLK _ ha0 (by decide)) o27 rfl 3 (by decide) (hts _ T_170) (fun _ h9 => h9) rfl dX6_line_13 ?_
      obtain ⟨z30, z32, z34, z36, z38, z40, z41, o42, h31, h33, h35, h37, h39, -⟩ := s_op3 hI h8
      refine th_getN (D := (dC, dI)) (ci := 2) (v := .int z36) (C := RX2) (T := TX2) (N := 7) hx hb hts inX2 hown hK hP (hLK _ h8 (by decide)) o42 rfl 3 (by decide) (va_Nw.use rfl (ax_n60 hN)) (fun _ h9 => h9) rfl dX6_line_16 ?_
      refine lv_icmp_ge (tgt := 32) hx hb dX6_line_19 (by decide) (fun c43 => ?_) (fun c43 => ?_)
      · have c43 := Int32.le_iff_toInt_le.mp c43
        refine lv_ldc (v := (-1000000)) hx hb hown (hts _ T_228) dX6_line_32 ?_
        exact W.iret (v := (-1000000)) hx hb hr (fun t ht hW => ⟨⟨(-1000000), F, rfl, ⟨trivial, trivial, hI, hfr⟩, by rw [ht]; exact hP, va_K.moved hW.alike hK⟩, hS.F ht⟩) hS.2.2 dX6_line_34
      · have c43 := mt Int32.le_iff_toInt_le.mpr c43
        refine lv_iload_n hx hb dX6_line_22 rfl (lv_at hl 2 rfl) ?_
        refine lv_if_lt (tgt := 32) hx hb dX6_line_23 (by decide) (fun c44 => ?_) (fun c44 => ?_)
        · have c44 := (ax_lt (n := 0) (by decide)).mp c44
          refine lv_ldc (v := (-1000000)) hx hb hown (hts _ T_228) dX6_line_32 ?_
          exact W.iret (v := (-1000000)) hx hb hr (fun t ht hW => ⟨⟨(-1000000), F, rfl, ⟨trivial, trivial, hI, hfr⟩, by rw [ht]; exact hP, va_K.moved hW.alike hK⟩, hS.F ht⟩) hS.2.2 dX6_line_34
        · have c44 := mt (ax_lt (n := 0) (by decide)).mpr c44
          refine lv_iload_n hx hb dX6_line_26 rfl (lv_at hl 2 rfl) ?_
          refine lv_bipush (v := 7) hx hb dX6_line_27 (by decide) ?_
          refine lv_icmp_lt (tgt := 35) hx hb dX6_line_29 (by decide) (fun c45 => ?_) (fun c45 => ?_)
          · have c45 := (ax_lt (n := 7) (by decide)).mp c45
            refine lv_aload_n hx hb dX6_line_35 rfl (lv_at hl 0 rfl) ?_
            refine th_get (D := (dC, dI)) (ci := 6) (v := .ref z7) (C := RX6) (T := TX6) (N := 14) hx hb hts inX6 hown hK hP (hLK _ ha0 (by decide)) o27 rfl 3 (by decide) (hts _ T_170) (fun _ h9 => h9) rfl dX6_line_36 ?_
            refine th_getN (D := (dC, dI)) (ci := 2) (v := .ref z30) (C := RX2) (T := TX2) (N := 7) hx hb hts inX2 hown hK hP (hLK _ h8 (by decide)) o42 rfl 0 (by decide) (va_Nw.use rfl (ax_n66 hN)) (fun _ h9 => h9) rfl dX6_line_39 ?_
            refine lv_iload_n hx hb dX6_line_42 rfl (lv_at hl 1 rfl) ?_
            obtain ⟨f46, o47, h48⟩ := s_op22 hI h31
            obtain ⟨z49, o51, h50⟩ := h48 (x1 : Int32).toNatClampNeg (th_cl ⟨by omega, by omega⟩)
            refine th_aaldA hx hb hK hP (hLK _ h31 (by decide)) 5 o47 rfl (th_in ⟨by omega, by omega⟩) o51 dX6_line_43 ?_
            refine lv_iload_n hx hb dX6_line_44 rfl (lv_at hl 2 rfl) ?_
            obtain ⟨f52, o53, h54⟩ := s_op23 hI h50
            refine th_iald hx hb hK hP (hLK _ h50 (by decide)) 0 o53 rfl (th_in ⟨by omega, by omega⟩) dX6_line_45 ?_
            refine lv_topi (fun v55 ev55 => ?_)
            exact W.iret (v := v55) hx hb hr (fun t ht hW => ⟨⟨v55, F, rfl, ⟨trivial, trivial, hI, hfr⟩, by rw [ht]; exact hP, va_K.moved hW.alike hK⟩, hS.F ht⟩) hS.2.2 dX6_line_46
          · have c45 := mt (ax_lt (n := 7) (by decide)).mpr c45
            refine lv_ldc (v := (-1000000)) hx hb hown (hts _ T_228) dX6_line_32 ?_
            exact W.iret (v := (-1000000)) hx hb hr (fun t ht hW => ⟨⟨(-1000000), F, rfl, ⟨trivial, trivial, hI, hfr⟩, by rw [ht]; exact hP, va_K.moved hW.alike hK⟩, hS.F ht⟩) hS.2.2 dX6_line_34

set_option maxHeartbeats 4000000 in
set_option maxRecDepth 100000 in
theorem s_X6_lane (l : Launch) (dC : Nat → ClassId) (dI : Nat → Nat → Nat) (sz : Nat) {L : List Nat} {K : Nat → Nat} {cs : Nat → ClassId} (hLK : ∀ a {k : Nat}, K a = k → k ≠ 0 → a ∈ L) (D : Nat) (F : Nat → va_E) (a0 : Nat) (x1 : Int32) (x2 : Int32) (x3 : Int32) (ha0 : K a0 = 7) (hI : s_I K cs D F) : Met l yX6_lane (Cond.code yX6_lane cX6_lane 6 (some .int) :: T0) ({ frames := 2, cells := 0, slots := 0, locals := 43 }) (va_Pc [.ref a0, .int x1, .int x2, .int x3] (s_W dC dI sz L F [(cs 0, .int), (cs 1, .byte), (cs 2, .long), (cs 3, .object RX5), (cs 4, .object RX4), (cs 5, .array .int), (cs 6, .char), (cs 7, .boolean)])) (va_Qi (fun (r : Int32) (G : Nat → va_E) => True ∧ True ∧ s_I K cs D G ∧ ∀ b, K b ∉ ([] : List Nat) → G b = F b) (fun (G : Nat → va_E) (t : State) => va_P (dC, dI) vwCl (va_pl L G) t.heap ∧ va_K (dC, dI) vwCl [(cs 0, .int), (cs 1, .byte), (cs 2, .long), (cs 3, .object RX5), (cs 4, .object RX4), (cs 5, .array .int), (cs 6, .char), (cs 7, .boolean)] t) (fun q => q ∈ L)) 0 0 (fun q => q ∈ L) := by
  refine Met.ofW (cc := cX6_lane) (maxL := 6) (ret := (some .int)) (by decide) rfl ?_
  intro p e s m args below meth c s₁ B hml hv
  obtain ⟨rfl, hsz, hP, hK, hD, hN⟩ := hv
  have hx := B.exec
  have hb := B.bytes
  have hr := B.returns
  have hts : ∀ w ∈ T0, w.before _ s = true := fun w h => atoms_spec (ws := Cond.code yX6_lane cX6_lane 6 (some .int) :: T0) B.pre w (List.mem_cons_of_mem _ h)
  have hown : s.vm.findClass RX6 = some m.cls := findClass_of_methodNamed B.named
  have hlocks := B.notSynchronized
  have hS : va_S (fun q => q ∈ L) s.heap s.heap [] := va_S.rf
  have hfr : ∀ b, K b ∉ ([] : List Nat) → F b = F b := fun _ _ => rfl
  have hl := lv_entry ([.ref a0, .int x1, .int x2, .int x3]) (n := 6) (Nat.le_of_ble_eq_true rfl)
  rw [lg_entry_eq]
  generalize (lg_sl ([.ref a0, .int x1, .int x2, .int x3]) ++ List.replicate (6 - (lg_sl ([.ref a0, .int x1, .int x2, .int x3])).length) Slot.unset).toArray = ls at hl ⊢
  have hl : lv_has ls 6 [(0, .ref a0), (1, .int x1), (2, .int x2), (3, .int x3)] := hl
  refine s_gen hP hS (fun H locs hP hS => ?_)
  refine lv_aload_n hx hb dX6_lane_0 rfl (lv_at hl 0 rfl) ?_
  refine lv_iload_n hx hb dX6_lane_1 rfl (lv_at hl 1 rfl) ?_
  refine lv_iload_n hx hb dX6_lane_2 rfl (lv_at hl 2 rfl) ?_
  obtain ⟨z1, z3, z5, z7, z9, z11, z12, z14, z16, z18, z20, z22, z24, z26, o27, h2, h4, h6, h8, h10, h13, h15, h17, h19, h21, h23, h25, -⟩ := s_op7 hI ha0
  refine va_calli (va_runV (As := [.int x1, .int x2]) (rest := []) ⟨hx, hb, hml, hown, hts⟩ (s_X6_hasLane l dC dI H.size hLK D F a0 x1 x2 ha0 hI) (cwV 2 hts (ax_gV T_229 T_230 T_231 T_193 T_17) rfl rfl rfl (by decide +kernel) ⟨Nat.le_of_ble_eq_true rfl, Nat.le_of_ble_eq_true rfl⟩) ⟨fun a U g mk q => ⟨q.1, s_pc rfl rfl q.2⟩, s_recv hK hP (hLK _ ha0 (by decide)) (ci := 6) rfl o27, fun U hU hW => ⟨rfl, s_pw hU hW hP hK hD hN⟩⟩ rfl rfl hl.1 rfl (lv_room (Nat.le_of_ble_eq_true rfl)) dX6_lane_3 ⟨Nat.zero_le _, Nat.zero_le _⟩) hS (fun q _ h => h) (fun q h => h) (fun r28 F29 t H1 locs ht hvm hw hB hz1 hk1 hS => ?_)
  obtain ⟨hP, hK1⟩ := hB
  rw [ht] at hP
  generalize H1 = H at hP hS ⊢
  obtain ⟨h30, h31, hI, hfr1⟩ := hw
  have o32 : F29 a0 = .inr (6, [.ref z1, .int z3, .ref z5, .ref z7, .ref z9, .int z11, .ref z12, .ref z14, .int z16, .int z18, .ref z20, .ref z22, .ref z24, .long z26]) := (hfr1 _ (by rw [ha0]; decide)).trans o27
  have hfr : ∀ b, K b ∉ ([] : List Nat) → F29 b = F b := fun b hb9 => (hfr1 b (fun q => hb9 (s_sub (by decide) q))).trans (hfr b hb9)
  refine lv_if_eq (tgt := 19) hx hb dX6_lane_6 (by decide) (fun c33 => ?_) (fun c33 => ?_)
  · have c33 := (ax_eq (n := 0) (by decide)).mp c33
    refine lv_ldc (v := (-1000000)) hx hb hown (hts _ T_228) dX6_lane_19 ?_
    exact W.iret (v := (-1000000)) hx hb hr (fun t ht hW => ⟨⟨(-1000000), F29, rfl, ⟨trivial, trivial, hI, hfr⟩, by rw [ht]; exact hP, va_K.moved hW.alike hK⟩, hS.F ht⟩) hS.2.2 dX6_lane_21
  · have c33 := mt (ax_eq (n := 0) (by decide)).mpr c33
    have h34 := h31 (fun q => c33 (by rw [q]; decide))
    refine lv_iload_n hx hb dX6_lane_9 rfl (lv_at hl 3 rfl) ?_
    refine lv_if_lt (tgt := 19) hx hb dX6_lane_10 (by decide) (fun c35 => ?_) (fun c35 => ?_)
    · have c35 := (ax_lt (n := 0) (by decide)).mp c35
      refine lv_ldc (v := (-1000000)) hx hb hown (hts _ T_228) dX6_lane_19 ?_
      exact W.iret (v := (-1000000)) hx hb hr (fun t ht hW => ⟨⟨(-1000000), F29, rfl, ⟨trivial, trivial, hI, hfr⟩, by rw [ht]; exact hP, va_K.moved hW.alike hK⟩, hS.F ht⟩) hS.2.2 dX6_lane_21
    · have c35 := mt (ax_lt (n := 0) (by decide)).mpr c35
      refine lv_iload_n hx hb dX6_lane_13 rfl (lv_at hl 3 rfl) ?_
      refine lv_bipush (v := 6) hx hb dX6_lane_14 (by decide) ?_
      refine lv_icmp_le (tgt := 22) hx hb dX6_lane_16 (by decide) (fun c36 => ?_) (fun c36 => ?_)
      · have c36 := (ax_le (n := 6) (by decide)).mp c36
        refine lv_aload_n hx hb dX6_lane_22 rfl (lv_at hl 0 rfl) ?_
        refine th_get (D := (dC, dI)) (ci := 6) (v := .ref z12) (C := RX6) (T := TX6) (N := 14) hx hb hts inX6 hown hK hP (hLK _ ha0 (by decide)) o32 rfl 6 (by decide) (hts _ T_174) (fun _ h9 => h9) rfl dX6_lane_23 ?_
        obtain ⟨z37, z39, z41, z43, z45, z47, z49, z51, z53, z54, z55, z57, z58, z60, z61, o63, h38, h40, h42, h44, h46, h48, h50, h52, h56, h59, h62, -⟩ := s_op5 hI h13
        refine th_getN (D := (dC, dI)) (ci := 4) (v := .ref z37) (C := RX4) (T := TX4) (N := 15) hx hb hts inX4 hown hK hP (hLK _ h13 (by decide)) o63 rfl 0 (by decide) (va_Nw.use rfl (ax_n56 hN)) (fun _ h9 => h9) rfl dX6_lane_26 ?_
        refine lv_iload_n hx hb dX6_lane_29 rfl (lv_at hl 1 rfl) ?_
        obtain ⟨f64, o65, h66⟩ := s_op26 hI h38
        obtain ⟨z67, o69, h68⟩ := h66 (x1 : Int32).toNatClampNeg (th_cl ⟨by omega, by omega⟩)
        refine th_aald hx hb hK hP (hLK _ h38 (by decide)) 3 o65 rfl (th_in ⟨by omega, by omega⟩) o69 dX6_lane_30 ?_
        refine lv_astore (lv' := [(4, .ref z67), (0, .ref a0), (1, .int x1), (2, .int x2), (3, .int x3)]) hx hb dX6_lane_31 hl (by decide) rfl (fun ls hl => ?_)
        refine lv_iconst (v := 1) hx hb dX6_lane_33 (by decide) ?_
        refine lv_iload_n hx hb dX6_lane_34 rfl (lv_at hl 3 rfl) ?_
        refine lv_ishl hx hb dX6_lane_35 ?_
        refine lv_topi (fun v70 ev70 => ?_)
        refine lv_istore (lv' := [(5, .int v70), (4, .ref z67), (0, .ref a0), (1, .int x1), (2, .int x2), (3, .int x3)]) hx hb dX6_lane_36 hl (by decide) rfl (fun ls hl => ?_)
        refine lv_iload_n hx hb dX6_lane_38 rfl (lv_at hl 5 rfl) ?_
        by_cases c71 : x3 = 4
        · refine ax_eqi c71 ?_
          refine lv_tableIn (off := 25) (tgt := 64) hx hb dX6_lane_39 (by decide) (by decide) (by decide) (by decide) ?_
          have c71 := (ax_eq (n := 4) (by decide)).mp c71
          refine lv_aload hx hb dX6_lane_64 (lv_at hl 1 rfl) ?_
          obtain ⟨z72, z74, z76, z78, z80, z82, z84, z85, z86, z87, z88, o90, h73, h75, h77, h79, h81, h83, h89, -⟩ := s_op6 hI h68
          refine th_getN (D := (dC, dI)) (ci := 5) (v := .int z84) (C := RX5) (T := TX5) (N := 11) hx hb hts inX5 hown hK hP (hLK _ h68 (by decide)) o90 rfl 6 (by decide) (va_Nw.use rfl (ax_n57 hN)) (fun _ h9 => h9) rfl dX6_lane_66 ?_
          refine lv_iload hx hb dX6_lane_69 (lv_at hl 0 rfl) ?_
          refine lv_iand hx hb dX6_lane_71 ?_
          refine lv_topi (fun v91 ev91 => ?_)
          refine lv_if_eq (tgt := 79) hx hb dX6_lane_72 (by decide) (fun c92 => ?_) (fun c92 => ?_)
          · have c92 := (ax_eq (n := 0) (by decide)).mp c92
            refine lv_iconst (v := 0) hx hb dX6_lane_79 (by decide) ?_
            exact W.iret (v := 0) hx hb hr (fun t ht hW => ⟨⟨0, F29, rfl, ⟨trivial, trivial, hI, hfr⟩, by rw [ht]; exact hP, va_K.moved hW.alike hK⟩, hS.F ht⟩) hS.2.2 dX6_lane_80
          · have c92 := mt (ax_eq (n := 0) (by decide)).mpr c92
            refine lv_iconst (v := 1) hx hb dX6_lane_75 (by decide) ?_
            refine lv_goto (tgt := 80) hx hb dX6_lane_76 (by decide) ?_
            exact W.iret (v := 1) hx hb hr (fun t ht hW => ⟨⟨1, F29, rfl, ⟨trivial, trivial, hI, hfr⟩, by rw [ht]; exact hP, va_K.moved hW.alike hK⟩, hS.F ht⟩) hS.2.2 dX6_lane_80
        · have c71 := mt (ax_eq (n := 4) (by decide)).mpr c71
          by_cases c93 : x3 = 5
          · refine ax_eqi c93 ?_
            refine lv_tableIn (off := 42) (tgt := 81) hx hb dX6_lane_39 (by decide) (by decide) (by decide) (by decide) ?_
            have c93 := (ax_eq (n := 5) (by decide)).mp c93
            refine lv_aload hx hb dX6_lane_81 (lv_at hl 1 rfl) ?_
            obtain ⟨z94, z96, z98, z100, z102, z104, z106, z107, z108, z109, z110, o112, h95, h97, h99, h101, h103, h105, h111, -⟩ := s_op6 hI h68
            refine th_getN (D := (dC, dI)) (ci := 5) (v := .int z107) (C := RX5) (T := TX5) (N := 11) hx hb hts inX5 hown hK hP (hLK _ h68 (by decide)) o112 rfl 7 (by decide) (va_Nw.use rfl (ax_n65 hN)) (fun _ h9 => h9) rfl dX6_lane_83 ?_
            refine lv_iload hx hb dX6_lane_86 (lv_at hl 0 rfl) ?_
            refine lv_iand hx hb dX6_lane_88 ?_
            refine lv_topi (fun v113 ev113 => ?_)
            refine lv_if_eq (tgt := 96) hx hb dX6_lane_89 (by decide) (fun c114 => ?_) (fun c114 => ?_)
            · have c114 := (ax_eq (n := 0) (by decide)).mp c114
              refine lv_iconst (v := 0) hx hb dX6_lane_96 (by decide) ?_
              exact W.iret (v := 0) hx hb hr (fun t ht hW => ⟨⟨0, F29, rfl, ⟨trivial, trivial, hI, hfr⟩, by rw [ht]; exact hP, va_K.moved hW.alike hK⟩, hS.F ht⟩) hS.2.2 dX6_lane_97
            · have c114 := mt (ax_eq (n := 0) (by decide)).mpr c114
              refine lv_iconst (v := 1) hx hb dX6_lane_92 (by decide) ?_
              refine lv_goto (tgt := 97) hx hb dX6_lane_93 (by decide) ?_
              exact W.iret (v := 1) hx hb hr (fun t ht hW => ⟨⟨1, F29, rfl, ⟨trivial, trivial, hI, hfr⟩, by rw [ht]; exact hP, va_K.moved hW.alike hK⟩, hS.F ht⟩) hS.2.2 dX6_lane_97
          · have c93 := mt (ax_eq (n := 5) (by decide)).mpr c93
            by_cases c115 : x3 = 6
            · refine ax_eqi c115 ?_
              refine lv_tableIn (off := 59) (tgt := 98) hx hb dX6_lane_39 (by decide) (by decide) (by decide) (by decide) ?_
              have c115 := (ax_eq (n := 6) (by decide)).mp c115
              refine lv_aload hx hb dX6_lane_98 (lv_at hl 1 rfl) ?_
              obtain ⟨z116, z118, z120, z122, z124, z126, z128, z129, z130, z131, z132, o134, h117, h119, h121, h123, h125, h127, h133, -⟩ := s_op6 hI h68
              refine th_getN (D := (dC, dI)) (ci := 5) (v := .int z128) (C := RX5) (T := TX5) (N := 11) hx hb hts inX5 hown hK hP (hLK _ h68 (by decide)) o134 rfl 6 (by decide) (va_Nw.use rfl (ax_n57 hN)) (fun _ h9 => h9) rfl dX6_lane_100 ?_
              refine lv_iload hx hb dX6_lane_103 (lv_at hl 0 rfl) ?_
              refine lv_iand hx hb dX6_lane_105 ?_
              refine lv_topi (fun v135 ev135 => ?_)
              refine lv_if_eq (tgt := 125) hx hb dX6_lane_106 (by decide) (fun c136 => ?_) (fun c136 => ?_)
              · have c136 := (ax_eq (n := 0) (by decide)).mp c136
                refine lv_aload_n hx hb dX6_lane_125 rfl (lv_at hl 2 rfl) ?_
                refine th_get (D := (dC, dI)) (ci := 6) (v := .ref z7) (C := RX6) (T := TX6) (N := 14) hx hb hts inX6 hown hK hP (hLK _ ha0 (by decide)) o32 rfl 3 (by decide) (hts _ T_170) (fun _ h9 => h9) rfl dX6_lane_126 ?_
                obtain ⟨z137, z139, z141, z143, z145, z147, z148, o149, h138, h140, h142, h144, h146, -⟩ := s_op3 hI h8
                refine th_getN (D := (dC, dI)) (ci := 2) (v := .int z143) (C := RX2) (T := TX2) (N := 7) hx hb hts inX2 hown hK hP (hLK _ h8 (by decide)) o149 rfl 3 (by decide) (va_Nw.use rfl (ax_n60 hN)) (fun _ h9 => h9) rfl dX6_lane_129 ?_
                exact W.iret (v := z143) hx hb hr (fun t ht hW => ⟨⟨z143, F29, rfl, ⟨trivial, trivial, hI, hfr⟩, by rw [ht]; exact hP, va_K.moved hW.alike hK⟩, hS.F ht⟩) hS.2.2 dX6_lane_132
              · have c136 := mt (ax_eq (n := 0) (by decide)).mpr c136
                refine lv_aload hx hb dX6_lane_109 (lv_at hl 1 rfl) ?_
                refine lv_iload_n hx hb dX6_lane_111 rfl (lv_at hl 4 rfl) ?_
                refine lv_aload_n hx hb dX6_lane_112 rfl (lv_at hl 2 rfl) ?_
                refine th_get (D := (dC, dI)) (ci := 6) (v := .ref z12) (C := RX6) (T := TX6) (N := 14) hx hb hts inX6 hown hK hP (hLK _ ha0 (by decide)) o32 rfl 6 (by decide) (hts _ T_174) (fun _ h9 => h9) rfl dX6_lane_113 ?_
                refine th_getN (D := (dC, dI)) (ci := 4) (v := .int z53) (C := RX4) (T := TX4) (N := 15) hx hb hts inX4 hown hK hP (hLK _ h13 (by decide)) o63 rfl 8 (by decide) (va_Nw.use rfl (ax_n52 hN)) (fun _ h9 => h9) rfl dX6_lane_116 ?_
                refine va_calli (va_runV (As := [.int x2, .int z53]) (rest := []) ⟨hx, hb, hml, hown, hts⟩ (s_X5_lineOf l dC dI H.size hLK D F29 z67 x2 z53 h68 (⟨by omega, by omega⟩) hI) (cwV 2 hts (ax_gV T_956 T_958 T_959 T_116 T_957) rfl rfl rfl (by decide +kernel) ⟨Nat.le_of_ble_eq_true rfl, Nat.le_of_ble_eq_true rfl⟩) ⟨fun a U g mk q => ⟨q.1, s_pc rfl rfl q.2⟩, s_recv hK hP (hLK _ h68 (by decide)) (ci := 5) rfl o134, fun U hU hW => ⟨rfl, s_pw hU hW hP hK hD hN⟩⟩ rfl rfl hl.1 rfl (lv_room (Nat.le_of_ble_eq_true rfl)) dX6_lane_119 ⟨Nat.zero_le _, Nat.zero_le _⟩) hS (fun q _ h => h) (fun q h => h) (fun r150 F151 t H1 locs ht hvm hw hB hz1 hk1 hS => ?_)
                obtain ⟨hP, hK1⟩ := hB
                rw [ht] at hP
                generalize H1 = H at hP hS ⊢
                obtain ⟨h152, h153, hI, hfr1⟩ := hw
                have o154 : F151 a0 = .inr (6, [.ref z1, .int z3, .ref z5, .ref z7, .ref z9, .int z11, .ref z12, .ref z14, .int z16, .int z18, .ref z20, .ref z22, .ref z24, .long z26]) := (hfr1 _ (by rw [ha0]; decide)).trans o32
                have o155 : F151 z12 = .inr (4, [.ref z37, .ref z39, .ref z41, .ref z43, .ref z45, .ref z47, .ref z49, .int z51, .int z53, .int z54, .int z55, .int z57, .int z58, .int z60, .int z61]) := (hfr1 _ (by rw [h13]; decide)).trans o63
                have o156 : F151 z67 = .inr (5, [.ref z116, .ref z118, .ref z120, .ref z122, .ref z124, .int z126, .int z128, .int z129, .int z130, .int z131, .int z132]) := (hfr1 _ (by rw [h68]; decide)).trans o134
                have hfr : ∀ b, K b ∉ ([] : List Nat) → F151 b = F b := fun b hb9 => (hfr1 b (fun q => hb9 (s_sub (by decide) q))).trans (hfr b hb9)
                refine lv_goto (tgt := 132) hx hb dX6_lane_122 (by decide) ?_
                exact W.iret (v := r150) hx hb hr (fun t ht hW => ⟨⟨r150, F151, rfl, ⟨trivial, trivial, hI, hfr⟩, by rw [ht]; exact hP, va_K.moved hW.alike hK⟩, hS.F ht⟩) hS.2.2 dX6_lane_132
            · have c115 := mt (ax_eq (n := 6) (by decide)).mpr c115
              refine lv_tableOut (tgt := 133) hx hb dX6_lane_39 (by omega) (by decide) ?_
              refine lv_aload hx hb dX6_lane_133 (lv_at hl 1 rfl) ?_
              obtain ⟨z157, z159, z161, z163, z165, z167, z169, z170, z171, z172, z173, o175, h158, h160, h162, h164, h166, h168, h174, -⟩ := s_op6 hI h68
              refine th_getN (D := (dC, dI)) (ci := 5) (v := .ref z157) (C := RX5) (T := TX5) (N := 11) hx hb hts inX5 hown hK hP (hLK _ h68 (by decide)) o175 rfl 0 (by decide) (va_Nw.use rfl (ax_n63 hN)) (fun _ h9 => h9) rfl dX6_lane_135 ?_
              refine lv_iload_n hx hb dX6_lane_138 rfl (lv_at hl 4 rfl) ?_
              refine lv_iconst (v := 4) hx hb dX6_lane_139 (by decide) ?_
              refine lv_imul hx hb dX6_lane_140 ?_
              refine lv_topi (fun v176 ev176 => ?_)
              have qv176 : v176.toInt = x2.toInt * 4 := by rw [ev176]; exact th_mul rfl (by decide) ⟨by omega, by omega⟩
              refine lv_iload_n hx hb dX6_lane_141 rfl (lv_at hl 5 rfl) ?_
              refine lv_iadd hx hb dX6_lane_142 ?_
              refine lv_topi (fun v177 ev177 => ?_)
              have qv177 : v177.toInt = v176.toInt + x3.toInt := by rw [ev177]; exact th_add rfl rfl ⟨by omega, by omega⟩
              obtain ⟨f178, o179, h180⟩ := s_op30 hI h158
              refine th_iald hx hb hK hP (hLK _ h158 (by decide)) 0 o179 rfl (th_in ⟨by omega, by omega⟩) dX6_lane_143 ?_
              refine lv_topi (fun v181 ev181 => ?_)
              exact W.iret (v := v181) hx hb hr (fun t ht hW => ⟨⟨v181, F29, rfl, ⟨trivial, trivial, hI, hfr⟩, by rw [ht]; exact hP, va_K.moved hW.alike hK⟩, hS.F ht⟩) hS.2.2 dX6_lane_144
      · have c36 := mt (ax_le (n := 6) (by decide)).mpr c36
        refine lv_ldc (v := (-1000000)) hx hb hown (hts _ T_228) dX6_lane_19 ?_
        exact W.iret (v := (-1000000)) hx hb hr (fun t ht hW => ⟨⟨(-1000000), F29, rfl, ⟨trivial, trivial, hI, hfr⟩, by rw [ht]; exact hP, va_K.moved hW.alike hK⟩, hS.F ht⟩) hS.2.2 dX6_lane_21

set_option maxHeartbeats 4000000 in
set_option maxRecDepth 100000 in
theorem s_X6_warp (l : Launch) (dC : Nat → ClassId) (dI : Nat → Nat → Nat) (sz : Nat) {L : List Nat} {K : Nat → Nat} {cs : Nat → ClassId} (hLK : ∀ a {k : Nat}, K a = k → k ≠ 0 → a ∈ L) (D : Nat) (F : Nat → va_E) (a0 : Nat) (x1 : Int32) (x2 : Int32) (ha0 : K a0 = 7) (hI : s_I K cs D F) : Met l yX6_warp (Cond.code yX6_warp cX6_warp 4 (some .int) :: T0) ({ frames := 2, cells := 0, slots := 0, locals := 43 }) (va_Pc [.ref a0, .int x1, .int x2] (s_W dC dI sz L F [(cs 0, .int), (cs 1, .byte), (cs 2, .long), (cs 3, .object RX5), (cs 4, .object RX4), (cs 5, .array .int), (cs 6, .char), (cs 7, .boolean)])) (va_Qi (fun (r : Int32) (G : Nat → va_E) => True ∧ True ∧ s_I K cs D G ∧ ∀ b, K b ∉ ([] : List Nat) → G b = F b) (fun (G : Nat → va_E) (t : State) => va_P (dC, dI) vwCl (va_pl L G) t.heap ∧ va_K (dC, dI) vwCl [(cs 0, .int), (cs 1, .byte), (cs 2, .long), (cs 3, .object RX5), (cs 4, .object RX4), (cs 5, .array .int), (cs 6, .char), (cs 7, .boolean)] t) (fun q => q ∈ L)) 0 0 (fun q => q ∈ L) := by
  refine Met.ofW (cc := cX6_warp) (maxL := 4) (ret := (some .int)) (by decide) rfl ?_
  intro p e s m args below meth c s₁ B hml hv
  obtain ⟨rfl, hsz, hP, hK, hD, hN⟩ := hv
  have hx := B.exec
  have hb := B.bytes
  have hr := B.returns
  have hts : ∀ w ∈ T0, w.before _ s = true := fun w h => atoms_spec (ws := Cond.code yX6_warp cX6_warp 4 (some .int) :: T0) B.pre w (List.mem_cons_of_mem _ h)
  have hown : s.vm.findClass RX6 = some m.cls := findClass_of_methodNamed B.named
  have hlocks := B.notSynchronized
  have hS : va_S (fun q => q ∈ L) s.heap s.heap [] := va_S.rf
  have hfr : ∀ b, K b ∉ ([] : List Nat) → F b = F b := fun _ _ => rfl
  have hl := lv_entry ([.ref a0, .int x1, .int x2]) (n := 4) (Nat.le_of_ble_eq_true rfl)
  rw [lg_entry_eq]
  generalize (lg_sl ([.ref a0, .int x1, .int x2]) ++ List.replicate (4 - (lg_sl ([.ref a0, .int x1, .int x2])).length) Slot.unset).toArray = ls at hl ⊢
  have hl : lv_has ls 4 [(0, .ref a0), (1, .int x1), (2, .int x2)] := hl
  refine s_gen hP hS (fun H locs hP hS => ?_)
  refine lv_aload_n hx hb dX6_warp_0 rfl (lv_at hl 0 rfl) ?_
  refine lv_iload_n hx hb dX6_warp_1 rfl (lv_at hl 1 rfl) ?_
  obtain ⟨z1, z3, z5, z7, z9, z11, z12, z14, z16, z18, z20, z22, z24, z26, o27, h2, h4, h6, h8, h10, h13, h15, h17, h19, h21, h23, h25, -⟩ := s_op7 hI ha0
  refine va_calli (va_runV (As := [.int x1]) (rest := []) ⟨hx, hb, hml, hown, hts⟩ (s_X6_hasWarp l dC dI H.size hLK D F a0 x1 ha0 hI) (cwV 1 hts (ax_gV T_225 T_226 T_227 T_193 T_16) rfl rfl rfl (by decide +kernel) ⟨Nat.le_of_ble_eq_true rfl, Nat.le_of_ble_eq_true rfl⟩) ⟨fun a U g mk q => ⟨q.1, s_pc rfl rfl q.2⟩, s_recv hK hP (hLK _ ha0 (by decide)) (ci := 6) rfl o27, fun U hU hW => ⟨rfl, s_pw hU hW hP hK hD hN⟩⟩ rfl rfl hl.1 rfl (lv_room (Nat.le_of_ble_eq_true rfl)) dX6_warp_2 ⟨Nat.zero_le _, Nat.zero_le _⟩) hS (fun q _ h => h) (fun q h => h) (fun r28 F29 t H1 locs ht hvm hw hB hz1 hk1 hS => ?_)
  obtain ⟨hP, hK1⟩ := hB
  rw [ht] at hP
  generalize H1 = H at hP hS ⊢
  obtain ⟨h30, h31, hI, hfr1⟩ := hw
  have o32 : F29 a0 = .inr (6, [.ref z1, .int z3, .ref z5, .ref z7, .ref z9, .int z11, .ref z12, .ref z14, .int z16, .int z18, .ref z20, .ref z22, .ref z24, .long z26]) := (hfr1 _ (by rw [ha0]; decide)).trans o27
  have hfr : ∀ b, K b ∉ ([] : List Nat) → F29 b = F b := fun b hb9 => (hfr1 b (fun q => hb9 (s_sub (by decide) q))).trans (hfr b hb9)
  refine lv_if_ne (tgt := 10) hx hb dX6_warp_5 (by decide) (fun c33 => ?_) (fun c33 => ?_)
  · have c33 := mt (ax_eq (n := 0) (by decide)).mpr c33
    have h34 := h31 (fun q => c33 (by rw [q]; decide))
    refine lv_aload_n hx hb dX6_warp_10 rfl (lv_at hl 0 rfl) ?_
    refine th_get (D := (dC, dI)) (ci := 6) (v := .ref z12) (C := RX6) (T := TX6) (N := 14) hx hb hts inX6 hown hK hP (hLK _ ha0 (by decide)) o32 rfl 6 (by decide) (hts _ T_174) (fun _ h9 => h9) rfl dX6_warp_11 ?_
    obtain ⟨z35, z37, z39, z41, z43, z45, z47, z49, z51, z52, z53, z55, z56, z58, z59, o61, h36, h38, h40, h42, h44, h46, h48, h50, h54, h57, h60, -⟩ := s_op5 hI h13
    refine th_getN (D := (dC, dI)) (ci := 4) (v := .ref z35) (C := RX4) (T := TX4) (N := 15) hx hb hts inX4 hown hK hP (hLK _ h13 (by decide)) o61 rfl 0 (by decide) (va_Nw.use rfl (ax_n56 hN)) (fun _ h9 => h9) rfl dX6_warp_14 ?_
    refine lv_iload_n hx hb dX6_warp_17 rfl (lv_at hl 1 rfl) ?_
    obtain ⟨f62, o63, h64⟩ := s_op26 hI h36
    obtain ⟨z65, o67, h66⟩ := h64 (x1 : Int32).toNatClampNeg (th_cl ⟨by omega, by omega⟩)
    refine th_aald hx hb hK hP (hLK _ h36 (by decide)) 3 o63 rfl (th_in ⟨by omega, by omega⟩) o67 dX6_warp_18 ?_
    refine lv_astore_n (lv' := [(3, .ref z65), (0, .ref a0), (1, .int x1), (2, .int x2)]) hx hb dX6_warp_19 rfl hl (by decide) rfl (fun ls hl => ?_)
    refine lv_iload_n hx hb dX6_warp_20 rfl (lv_at hl 3 rfl) ?_
    by_cases c68 : x2 = 0
    · refine ax_eqi c68 ?_
      refine lv_tableIn (off := 39) (tgt := 60) hx hb dX6_warp_21 (by decide) (by decide) (by decide) (by decide) ?_
      have c68 := (ax_eq (n := 0) (by decide)).mp c68
      refine lv_aload_n hx hb dX6_warp_60 rfl (lv_at hl 0 rfl) ?_
      obtain ⟨z69, z71, z73, z75, z77, z79, z81, z82, z83, z84, z85, o87, h70, h72, h74, h76, h78, h80, h86, -⟩ := s_op6 hI h66
      refine th_getN (D := (dC, dI)) (ci := 5) (v := .int z81) (C := RX5) (T := TX5) (N := 11) hx hb hts inX5 hown hK hP (hLK _ h66 (by decide)) o87 rfl 6 (by decide) (va_Nw.use rfl (ax_n57 hN)) (fun _ h9 => h9) rfl dX6_warp_61 ?_
      exact W.iret (v := z81) hx hb hr (fun t ht hW => ⟨⟨z81, F29, rfl, ⟨trivial, trivial, hI, hfr⟩, by rw [ht]; exact hP, va_K.moved hW.alike hK⟩, hS.F ht⟩) hS.2.2 dX6_warp_64
    · have c68 := mt (ax_eq (n := 0) (by decide)).mpr c68
      by_cases c88 : x2 = 1
      · refine ax_eqi c88 ?_
        refine lv_tableIn (off := 44) (tgt := 65) hx hb dX6_warp_21 (by decide) (by decide) (by decide) (by decide) ?_
        have c88 := (ax_eq (n := 1) (by decide)).mp c88
        refine lv_aload_n hx hb dX6_warp_65 rfl (lv_at hl 0 rfl) ?_
        obtain ⟨z89, z91, z93, z95, z97, z99, z101, z102, z103, z104, z105, o107, h90, h92, h94, h96, h98, h100, h106, -⟩ := s_op6 hI h66
        refine th_getN (D := (dC, dI)) (ci := 5) (v := .int z103) (C := RX5) (T := TX5) (N := 11) hx hb hts inX5 hown hK hP (hLK _ h66 (by decide)) o107 rfl 8 (by decide) (va_Nw.use rfl (ax_n79 hN)) (fun _ h9 => h9) rfl dX6_warp_66 ?_
        exact W.iret (v := z103) hx hb hr (fun t ht hW => ⟨⟨z103, F29, rfl, ⟨trivial, trivial, hI, hfr⟩, by rw [ht]; exact hP, va_K.moved hW.alike hK⟩, hS.F ht⟩) hS.2.2 dX6_warp_69
      · have c88 := mt (ax_eq (n := 1) (by decide)).mpr c88
        by_cases c108 : x2 = 2
        · refine ax_eqi c108 ?_
          refine lv_tableIn (off := 49) (tgt := 70) hx hb dX6_warp_21 (by decide) (by decide) (by decide) (by decide) ?_
          have c108 := (ax_eq (n := 2) (by decide)).mp c108
          refine lv_aload_n hx hb dX6_warp_70 rfl (lv_at hl 0 rfl) ?_
          obtain ⟨z109, z111, z113, z115, z117, z119, z121, z122, z123, z124, z125, o127, h110, h112, h114, h116, h118, h120, h126, -⟩ := s_op6 hI h66
          refine th_getN (D := (dC, dI)) (ci := 5) (v := .int z119) (C := RX5) (T := TX5) (N := 11) hx hb hts inX5 hown hK hP (hLK _ h66 (by decide)) o127 rfl 5 (by decide) (va_Nw.use rfl (ax_n71 hN)) (fun _ h9 => h9) rfl dX6_warp_71 ?_
          exact W.iret (v := z119) hx hb hr (fun t ht hW => ⟨⟨z119, F29, rfl, ⟨trivial, trivial, hI, hfr⟩, by rw [ht]; exact hP, va_K.moved hW.alike hK⟩, hS.F ht⟩) hS.2.2 dX6_warp_74
        · have c108 := mt (ax_eq (n := 2) (by decide)).mpr c108
          by_cases c128 : x2 = 3
          · refine ax_eqi c128 ?_
            refine lv_tableIn (off := 54) (tgt := 75) hx hb dX6_warp_21 (by decide) (by decide) (by decide) (by decide) ?_
            have c128 := (ax_eq (n := 3) (by decide)).mp c128
            refine lv_aload_n hx hb dX6_warp_75 rfl (lv_at hl 0 rfl) ?_
            obtain ⟨z129, z131, z133, z135, z137, z139, z141, z142, z143, z144, z145, o147, h130, h132, h134, h136, h138, h140, h146, -⟩ := s_op6 hI h66
            refine th_getN (D := (dC, dI)) (ci := 5) (v := .int z145) (C := RX5) (T := TX5) (N := 11) hx hb hts inX5 hown hK hP (hLK _ h66 (by decide)) o147 rfl 10 (by decide) (va_Nw.use rfl (ax_n80 hN)) (fun _ h9 => h9) rfl dX6_warp_76 ?_
            exact W.iret (v := z145) hx hb hr (fun t ht hW => ⟨⟨z145, F29, rfl, ⟨trivial, trivial, hI, hfr⟩, by rw [ht]; exact hP, va_K.moved hW.alike hK⟩, hS.F ht⟩) hS.2.2 dX6_warp_79
          · have c128 := mt (ax_eq (n := 3) (by decide)).mpr c128
            by_cases c148 : x2 = 4
            · refine ax_eqi c148 ?_
              refine lv_tableIn (off := 59) (tgt := 80) hx hb dX6_warp_21 (by decide) (by decide) (by decide) (by decide) ?_
              have c148 := (ax_eq (n := 4) (by decide)).mp c148
              refine lv_aload_n hx hb dX6_warp_80 rfl (lv_at hl 0 rfl) ?_
              obtain ⟨z149, z151, z153, z155, z157, z159, z161, z162, z163, z164, z165, o167, h150, h152, h154, h156, h158, h160, h166, -⟩ := s_op6 hI h66
              refine th_getN (D := (dC, dI)) (ci := 5) (v := .int z164) (C := RX5) (T := TX5) (N := 11) hx hb hts inX5 hown hK hP (hLK _ h66 (by decide)) o167 rfl 9 (by decide) (va_Nw.use rfl (ax_n81 hN)) (fun _ h9 => h9) rfl dX6_warp_81 ?_
              exact W.iret (v := z164) hx hb hr (fun t ht hW => ⟨⟨z164, F29, rfl, ⟨trivial, trivial, hI, hfr⟩, by rw [ht]; exact hP, va_K.moved hW.alike hK⟩, hS.F ht⟩) hS.2.2 dX6_warp_84
            · have c148 := mt (ax_eq (n := 4) (by decide)).mpr c148
              by_cases c168 : x2 = 5
              · refine ax_eqi c168 ?_
                refine lv_tableIn (off := 64) (tgt := 85) hx hb dX6_warp_21 (by decide) (by decide) (by decide) (by decide) ?_
                have c168 := (ax_eq (n := 5) (by decide)).mp c168
                refine lv_aload_n hx hb dX6_warp_85 rfl (lv_at hl 1 rfl) ?_
                refine th_get (D := (dC, dI)) (ci := 6) (v := .ref z12) (C := RX6) (T := TX6) (N := 14) hx hb hts inX6 hown hK hP (hLK _ ha0 (by decide)) o32 rfl 6 (by decide) (hts _ T_174) (fun _ h9 => h9) rfl dX6_warp_86 ?_
                refine lv_iload_n hx hb dX6_warp_89 rfl (lv_at hl 2 rfl) ?_
                refine va_calli (va_runV (As := [.int x1]) (rest := []) ⟨hx, hb, hml, hown, hts⟩ (s_X4_canGo l dC dI H.size hLK D F29 z12 x1 h13 (⟨by omega, by omega⟩) hI) (cwV 1 hts (ax_gV T_980 T_699 T_700 T_142 T_698) rfl rfl rfl (by decide +kernel) ⟨Nat.le_of_ble_eq_true rfl, Nat.le_of_ble_eq_true rfl⟩) ⟨fun a U g mk q => ⟨q.1, s_pc rfl rfl q.2⟩, s_recv hK hP (hLK _ h13 (by decide)) (ci := 4) rfl o61, fun U hU hW => ⟨rfl, s_pw hU hW hP hK hD hN⟩⟩ rfl rfl hl.1 rfl (lv_room (Nat.le_of_ble_eq_true rfl)) dX6_warp_90 ⟨Nat.zero_le _, Nat.zero_le _⟩) hS (fun q _ h => h) (fun q h => h) (fun r169 F170 t H1 locs ht hvm hw hB hz1 hk1 hS => ?_)
                obtain ⟨hP, hK1⟩ := hB
                rw [ht] at hP
                generalize H1 = H at hP hS ⊢
                obtain ⟨h171, h172, hI, hfr1⟩ := hw
                have o173 : F170 a0 = .inr (6, [.ref z1, .int z3, .ref z5, .ref z7, .ref z9, .int z11, .ref z12, .ref z14, .int z16, .int z18, .ref z20, .ref z22, .ref z24, .long z26]) := (hfr1 _ (by rw [ha0]; decide)).trans o32
                have o174 : F170 z12 = .inr (4, [.ref z35, .ref z37, .ref z39, .ref z41, .ref z43, .ref z45, .ref z47, .int z49, .int z51, .int z52, .int z53, .int z55, .int z56, .int z58, .int z59]) := (hfr1 _ (by rw [h13]; decide)).trans o61
                have hfr : ∀ b, K b ∉ ([] : List Nat) → F170 b = F b := fun b hb9 => (hfr1 b (fun q => hb9 (s_sub (by decide) q))).trans (hfr b hb9)
                refine lv_if_eq (tgt := 100) hx hb dX6_warp_93 (by decide) (fun c175 => ?_) (fun c175 => ?_)
                · have c175 := (ax_eq (n := 0) (by decide)).mp c175
                  refine lv_iconst (v := 0) hx hb dX6_warp_100 (by decide) ?_
                  exact W.iret (v := 0) hx hb hr (fun t ht hW => ⟨⟨0, F170, rfl, ⟨trivial, trivial, hI, hfr⟩, by rw [ht]; exact hP, va_K.moved hW.alike hK⟩, hS.F ht⟩) hS.2.2 dX6_warp_101
                · have c175 := mt (ax_eq (n := 0) (by decide)).mpr c175
                  refine lv_iconst (v := 1) hx hb dX6_warp_96 (by decide) ?_
                  refine lv_goto (tgt := 101) hx hb dX6_warp_97 (by decide) ?_
                  exact W.iret (v := 1) hx hb hr (fun t ht hW => ⟨⟨1, F170, rfl, ⟨trivial, trivial, hI, hfr⟩, by rw [ht]; exact hP, va_K.moved hW.alike hK⟩, hS.F ht⟩) hS.2.2 dX6_warp_101
              · have c168 := mt (ax_eq (n := 5) (by decide)).mpr c168
                refine lv_tableOut (tgt := 102) hx hb dX6_warp_21 (by omega) (by decide) ?_
                refine lv_iconst (v := (-1)) hx hb dX6_warp_102 (by decide) ?_
                exact W.iret (v := (-1)) hx hb hr (fun t ht hW => ⟨⟨(-1), F29, rfl, ⟨trivial, trivial, hI, hfr⟩, by rw [ht]; exact hP, va_K.moved hW.alike hK⟩, hS.F ht⟩) hS.2.2 dX6_warp_103
  · have c33 := (ax_eq (n := 0) (by decide)).mp c33
    refine lv_iconst (v := (-1)) hx hb dX6_warp_8 (by decide) ?_
    exact W.iret (v := (-1)) hx hb hr (fun t ht hW => ⟨⟨(-1), F29, rfl, ⟨trivial, trivial, hI, hfr⟩, by rw [ht]; exact hP, va_K.moved hW.alike hK⟩, hS.F ht⟩) hS.2.2 dX6_warp_9

set_option maxHeartbeats 4000000 in
set_option maxRecDepth 100000 in
theorem s_X6_part (l : Launch) (dC : Nat → ClassId) (dI : Nat → Nat → Nat) (sz : Nat) {L : List Nat} {K : Nat → Nat} {cs : Nat → ClassId} (hLK : ∀ a {k : Nat}, K a = k → k ≠ 0 → a ∈ L) (D : Nat) (F : Nat → va_E) (a0 : Nat) (x1 : Int32) (x2 : Int32) (x3 : Int32) (ha0 : K a0 = 7) (hI : s_I K cs D F) : Met l yX6_part (Cond.code yX6_part cX6_part 5 (some .int) :: T0) ({ frames := 1, cells := 0, slots := 0, locals := 21 }) (va_Pc [.ref a0, .int x1, .int x2, .int x3] (s_W dC dI sz L F [(cs 0, .int), (cs 1, .byte), (cs 2, .long), (cs 3, .object RX5), (cs 4, .object RX4), (cs 5, .array .int), (cs 6, .char), (cs 7, .boolean)])) (va_Qi (fun (r : Int32) (G : Nat → va_E) => True ∧ True ∧ s_I K cs D G ∧ ∀ b, K b ∉ ([] : List Nat) → G b = F b) (fun (G : Nat → va_E) (t : State) => va_P (dC, dI) vwCl (va_pl L G) t.heap ∧ va_K (dC, dI) vwCl [(cs 0, .int), (cs 1, .byte), (cs 2, .long), (cs 3, .object RX5), (cs 4, .object RX4), (cs 5, .array .int), (cs 6, .char), (cs 7, .boolean)] t) (fun q => q ∈ L)) 0 0 (fun q => q ∈ L) := by
  refine Met.ofW (cc := cX6_part) (maxL := 5) (ret := (some .int)) (by decide) rfl ?_
  intro p e s m args below meth c s₁ B hml hv
  obtain ⟨rfl, hsz, hP, hK, hD, hN⟩ := hv
  have hx := B.exec
  have hb := B.bytes
  have hr := B.returns
  have hts : ∀ w ∈ T0, w.before _ s = true := fun w h => atoms_spec (ws := Cond.code yX6_part cX6_part 5 (some .int) :: T0) B.pre w (List.mem_cons_of_mem _ h)
  have hown : s.vm.findClass RX6 = some m.cls := findClass_of_methodNamed B.named
  have hlocks := B.notSynchronized
  have hS : va_S (fun q => q ∈ L) s.heap s.heap [] := va_S.rf
  have hfr : ∀ b, K b ∉ ([] : List Nat) → F b = F b := fun _ _ => rfl
  have hl := lv_entry ([.ref a0, .int x1, .int x2, .int x3]) (n := 5) (Nat.le_of_ble_eq_true rfl)
  rw [lg_entry_eq]
  generalize (lg_sl ([.ref a0, .int x1, .int x2, .int x3]) ++ List.replicate (5 - (lg_sl ([.ref a0, .int x1, .int x2, .int x3])).length) Slot.unset).toArray = ls at hl ⊢
  have hl : lv_has ls 5 [(0, .ref a0), (1, .int x1), (2, .int x2), (3, .int x3)] := hl
  refine s_gen hP hS (fun H locs hP hS => ?_)
  refine lv_aload_n hx hb dX6_part_0 rfl (lv_at hl 0 rfl) ?_
  refine lv_iload_n hx hb dX6_part_1 rfl (lv_at hl 1 rfl) ?_
  obtain ⟨z1, z3, z5, z7, z9, z11, z12, z14, z16, z18, z20, z22, z24, z26, o27, h2, h4, h6, h8, h10, h13, h15, h17, h19, h21, h23, h25, -⟩ := s_op7 hI ha0
  refine va_calli (va_runV (As := [.int x1]) (rest := []) ⟨hx, hb, hml, hown, hts⟩ (s_X6_hasWarp l dC dI H.size hLK D F a0 x1 ha0 hI) (cwV 1 hts (ax_gV T_225 T_226 T_227 T_193 T_16) rfl rfl rfl (by decide +kernel) ⟨Nat.le_of_ble_eq_true rfl, Nat.le_of_ble_eq_true rfl⟩) ⟨fun a U g mk q => ⟨q.1, s_pc rfl rfl q.2⟩, s_recv hK hP (hLK _ ha0 (by decide)) (ci := 6) rfl o27, fun U hU hW => ⟨rfl, s_pw hU hW hP hK hD hN⟩⟩ rfl rfl hl.1 rfl (lv_room (Nat.le_of_ble_eq_true rfl)) dX6_part_2 ⟨Nat.zero_le _, Nat.zero_le _⟩) hS (fun q _ h => h) (fun q h => h) (fun r28 F29 t H1 locs ht hvm hw hB hz1 hk1 hS => ?_)
  obtain ⟨hP, hK1⟩ := hB
  rw [ht] at hP
  generalize H1 = H at hP hS ⊢
  obtain ⟨h30, h31, hI, hfr1⟩ := hw
  have o32 : F29 a0 = .inr (6, [.ref z1, .int z3, .ref z5, .ref z7, .ref z9, .int z11, .ref z12, .ref z14, .int z16, .int z18, .ref z20, .ref z22, .ref z24, .long z26]) := (hfr1 _ (by rw [ha0]; decide)).trans o27
  have hfr : ∀ b, K b ∉ ([] : List Nat) → F29 b = F b := fun b hb9 => (hfr1 b (fun q => hb9 (s_sub (by decide) q))).trans (hfr b hb9)
  refine lv_if_eq (tgt := 28) hx hb dX6_part_5 (by decide) (fun c33 => ?_) (fun c33 => ?_)
  · have c33 := (ax_eq (n := 0) (by decide)).mp c33
    refine lv_iconst (v := (-1)) hx hb dX6_part_28 (by decide) ?_
    exact W.iret (v := (-1)) hx hb hr (fun t ht hW => ⟨⟨(-1), F29, rfl, ⟨trivial, trivial, hI, hfr⟩, by rw [ht]; exact hP, va_K.moved hW.alike hK⟩, hS.F ht⟩) hS.2.2 dX6_part_29
  · have c33 := mt (ax_eq (n := 0) (by decide)).mpr c33
    have h34 := h31 (fun q => c33 (by rw [q]; decide))
    refine lv_iload_n hx hb dX6_part_8 rfl (lv_at hl 2 rfl) ?_
    refine lv_if_lt (tgt := 28) hx hb dX6_part_9 (by decide) (fun c35 => ?_) (fun c35 => ?_)
    · have c35 := (ax_lt (n := 0) (by decide)).mp c35
      refine lv_iconst (v := (-1)) hx hb dX6_part_28 (by decide) ?_
      exact W.iret (v := (-1)) hx hb hr (fun t ht hW => ⟨⟨(-1), F29, rfl, ⟨trivial, trivial, hI, hfr⟩, by rw [ht]; exact hP, va_K.moved hW.alike hK⟩, hS.F ht⟩) hS.2.2 dX6_part_29
    · have c35 := mt (ax_lt (n := 0) (by decide)).mpr c35
      refine lv_iload_n hx hb dX6_part_12 rfl (lv_at hl 2 rfl) ?_
      refine lv_aload_n hx hb dX6_part_13 rfl (lv_at hl 0 rfl) ?_
      refine th_get (D := (dC, dI)) (ci := 6) (v := .ref z12) (C := RX6) (T := TX6) (N := 14) hx hb hts inX6 hown hK hP (hLK _ ha0 (by decide)) o32 rfl 6 (by decide) (hts _ T_174) (fun _ h9 => h9) rfl dX6_part_14 ?_
      obtain ⟨z36, z38, z40, z42, z44, z46, z48, z50, z52, z53, z54, z56, z57, z59, z60, o62, h37, h39, h41, h43, h45, h47, h49, h51, h55, h58, h61, -⟩ := s_op5 hI h13
      refine th_getN (D := (dC, dI)) (ci := 4) (v := .ref z36) (C := RX4) (T := TX4) (N := 15) hx hb hts inX4 hown hK hP (hLK _ h13 (by decide)) o62 rfl 0 (by decide) (va_Nw.use rfl (ax_n56 hN)) (fun _ h9 => h9) rfl dX6_part_17 ?_
      refine lv_iload_n hx hb dX6_part_20 rfl (lv_at hl 1 rfl) ?_
      obtain ⟨f63, o64, h65⟩ := s_op26 hI h37
      obtain ⟨z66, o68, h67⟩ := h65 (x1 : Int32).toNatClampNeg (th_cl ⟨by omega, by omega⟩)
      refine th_aald hx hb hK hP (hLK _ h37 (by decide)) 3 o64 rfl (th_in ⟨by omega, by omega⟩) o68 dX6_part_21 ?_
      obtain ⟨z69, z71, z73, z75, z77, z79, z81, z82, z83, z84, z85, o87, h70, h72, h74, h76, h78, h80, h86, -⟩ := s_op6 hI h67
      refine th_getN (D := (dC, dI)) (ci := 5) (v := .int z79) (C := RX5) (T := TX5) (N := 11) hx hb hts inX5 hown hK hP (hLK _ h67 (by decide)) o87 rfl 5 (by decide) (va_Nw.use rfl (ax_n71 hN)) (fun _ h9 => h9) rfl dX6_part_22 ?_
      refine lv_icmp_lt (tgt := 30) hx hb dX6_part_25 (by decide) (fun c88 => ?_) (fun c88 => ?_)
      · have c88 := Int32.lt_iff_toInt_lt.mp c88
        refine lv_aload_n hx hb dX6_part_30 rfl (lv_at hl 0 rfl) ?_
        refine th_get (D := (dC, dI)) (ci := 6) (v := .ref z12) (C := RX6) (T := TX6) (N := 14) hx hb hts inX6 hown hK hP (hLK _ ha0 (by decide)) o32 rfl 6 (by decide) (hts _ T_174) (fun _ h9 => h9) rfl dX6_part_31 ?_
        refine th_getN (D := (dC, dI)) (ci := 4) (v := .ref z36) (C := RX4) (T := TX4) (N := 15) hx hb hts inX4 hown hK hP (hLK _ h13 (by decide)) o62 rfl 0 (by decide) (va_Nw.use rfl (ax_n56 hN)) (fun _ h9 => h9) rfl dX6_part_34 ?_
        refine lv_iload_n hx hb dX6_part_37 rfl (lv_at hl 1 rfl) ?_
        obtain ⟨f89, o90, h91⟩ := s_op26 hI h37
        obtain ⟨z92, o94, h93⟩ := h91 (x1 : Int32).toNatClampNeg (th_cl ⟨by omega, by omega⟩)
        refine th_aald hx hb hK hP (hLK _ h37 (by decide)) 3 o90 rfl (th_in ⟨by omega, by omega⟩) o94 dX6_part_38 ?_
        refine lv_astore (lv' := [(4, .ref z92), (0, .ref a0), (1, .int x1), (2, .int x2), (3, .int x3)]) hx hb dX6_part_39 hl (by decide) rfl (fun ls hl => ?_)
        refine lv_iload_n hx hb dX6_part_41 rfl (lv_at hl 4 rfl) ?_
        by_cases c95 : x3 = 0
        · refine ax_eqi c95 ?_
          refine lv_tableIn (off := 26) (tgt := 68) hx hb dX6_part_42 (by decide) (by decide) (by decide) (by decide) ?_
          have c95 := (ax_eq (n := 0) (by decide)).mp c95
          refine lv_aload hx hb dX6_part_68 (lv_at hl 0 rfl) ?_
          obtain ⟨z96, z98, z100, z102, z104, z106, z108, z109, z110, z111, z112, o114, h97, h99, h101, h103, h105, h107, h113, -⟩ := s_op6 hI h93
          refine th_getN (D := (dC, dI)) (ci := 5) (v := .ref z100) (C := RX5) (T := TX5) (N := 11) hx hb hts inX5 hown hK hP (hLK _ h93 (by decide)) o114 rfl 2 (by decide) (va_Nw.use rfl (ax_n72 hN)) (fun _ h9 => h9) rfl dX6_part_70 ?_
          refine lv_iload_n hx hb dX6_part_73 rfl (lv_at hl 3 rfl) ?_
          obtain ⟨f115, o116, h117⟩ := s_op32 hI h101
          refine th_iald hx hb hK hP (hLK _ h101 (by decide)) 0 o116 rfl (th_in ⟨by omega, by omega⟩) dX6_part_74 ?_
          refine lv_topi (fun v118 ev118 => ?_)
          exact W.iret (v := v118) hx hb hr (fun t ht hW => ⟨⟨v118, F29, rfl, ⟨trivial, trivial, hI, hfr⟩, by rw [ht]; exact hP, va_K.moved hW.alike hK⟩, hS.F ht⟩) hS.2.2 dX6_part_75
        · have c95 := mt (ax_eq (n := 0) (by decide)).mpr c95
          by_cases c119 : x3 = 1
          · refine ax_eqi c119 ?_
            refine lv_tableIn (off := 34) (tgt := 76) hx hb dX6_part_42 (by decide) (by decide) (by decide) (by decide) ?_
            have c119 := (ax_eq (n := 1) (by decide)).mp c119
            refine lv_aload hx hb dX6_part_76 (lv_at hl 0 rfl) ?_
            obtain ⟨z120, z122, z124, z126, z128, z130, z132, z133, z134, z135, z136, o138, h121, h123, h125, h127, h129, h131, h137, -⟩ := s_op6 hI h93
            refine th_getN (D := (dC, dI)) (ci := 5) (v := .ref z126) (C := RX5) (T := TX5) (N := 11) hx hb hts inX5 hown hK hP (hLK _ h93 (by decide)) o138 rfl 3 (by decide) (va_Nw.use rfl (ax_n73 hN)) (fun _ h9 => h9) rfl dX6_part_78 ?_
            refine lv_iload_n hx hb dX6_part_81 rfl (lv_at hl 3 rfl) ?_
            obtain ⟨f139, o140, h141⟩ := s_op32 hI h127
            refine th_iald hx hb hK hP (hLK _ h127 (by decide)) 0 o140 rfl (th_in ⟨by omega, by omega⟩) dX6_part_82 ?_
            refine lv_topi (fun v142 ev142 => ?_)
            exact W.iret (v := v142) hx hb hr (fun t ht hW => ⟨⟨v142, F29, rfl, ⟨trivial, trivial, hI, hfr⟩, by rw [ht]; exact hP, va_K.moved hW.alike hK⟩, hS.F ht⟩) hS.2.2 dX6_part_83
          · have c119 := mt (ax_eq (n := 1) (by decide)).mpr c119
            by_cases c143 : x3 = 2
            · refine ax_eqi c143 ?_
              refine lv_tableIn (off := 42) (tgt := 84) hx hb dX6_part_42 (by decide) (by decide) (by decide) (by decide) ?_
              have c143 := (ax_eq (n := 2) (by decide)).mp c143
              refine lv_aload hx hb dX6_part_84 (lv_at hl 0 rfl) ?_
              obtain ⟨z144, z146, z148, z150, z152, z154, z156, z157, z158, z159, z160, o162, h145, h147, h149, h151, h153, h155, h161, -⟩ := s_op6 hI h93
              refine th_getN (D := (dC, dI)) (ci := 5) (v := .ref z152) (C := RX5) (T := TX5) (N := 11) hx hb hts inX5 hown hK hP (hLK _ h93 (by decide)) o162 rfl 4 (by decide) (va_Nw.use rfl (ax_n74 hN)) (fun _ h9 => h9) rfl dX6_part_86 ?_
              refine lv_iload_n hx hb dX6_part_89 rfl (lv_at hl 3 rfl) ?_
              obtain ⟨f163, o164, h165⟩ := s_op32 hI h153
              refine th_iald hx hb hK hP (hLK _ h153 (by decide)) 0 o164 rfl (th_in ⟨by omega, by omega⟩) dX6_part_90 ?_
              refine lv_topi (fun v166 ev166 => ?_)
              exact W.iret (v := v166) hx hb hr (fun t ht hW => ⟨⟨v166, F29, rfl, ⟨trivial, trivial, hI, hfr⟩, by rw [ht]; exact hP, va_K.moved hW.alike hK⟩, hS.F ht⟩) hS.2.2 dX6_part_91
            · have c143 := mt (ax_eq (n := 2) (by decide)).mpr c143
              refine lv_tableOut (tgt := 92) hx hb dX6_part_42 (by omega) (by decide) ?_
              refine lv_iconst (v := (-1)) hx hb dX6_part_92 (by decide) ?_
              exact W.iret (v := (-1)) hx hb hr (fun t ht hW => ⟨⟨(-1), F29, rfl, ⟨trivial, trivial, hI, hfr⟩, by rw [ht]; exact hP, va_K.moved hW.alike hK⟩, hS.F ht⟩) hS.2.2 dX6_part_93
      · have c88 := mt Int32.lt_iff_toInt_lt.mpr c88
        refine lv_iconst (v := (-1)) hx hb dX6_part_28 (by decide) ?_
        exact W.iret (v := (-1)) hx hb hr (fun t ht hW => ⟨⟨(-1), F29, rfl, ⟨trivial, trivial, hI, hfr⟩, by rw [ht]; exact hP, va_K.moved hW.alike hK⟩, hS.F ht⟩) hS.2.2 dX6_part_29

set_option maxHeartbeats 4000000 in
set_option maxRecDepth 100000 in
theorem s_X6_word (l : Launch) (dC : Nat → ClassId) (dI : Nat → Nat → Nat) (sz : Nat) {L : List Nat} {K : Nat → Nat} {cs : Nat → ClassId} (hLK : ∀ a {k : Nat}, K a = k → k ≠ 0 → a ∈ L) (D : Nat) (F : Nat → va_E) (a0 : Nat) (x1 : Int32) (x2 : Int32) (ha0 : K a0 = 7) (hx1 : 0 ≤ x1.toInt ∧ x1.toInt ≤ 1) (hI : s_I K cs D F) : Met l yX6_word (Cond.code yX6_word cX6_word 3 (some .int) :: T0) ({ frames := 1, cells := 0, slots := 0, locals := 22 }) (va_Pc [.ref a0, .int x1, .int x2] (s_W dC dI sz L F [(cs 0, .int), (cs 1, .byte), (cs 2, .long), (cs 3, .object RX5), (cs 4, .object RX4), (cs 5, .array .int), (cs 6, .char), (cs 7, .boolean)])) (va_Qi (fun (r : Int32) (G : Nat → va_E) => True ∧ True ∧ s_I K cs D G ∧ ∀ b, K b ∉ ([] : List Nat) → G b = F b) (fun (G : Nat → va_E) (t : State) => va_P (dC, dI) vwCl (va_pl L G) t.heap ∧ va_K (dC, dI) vwCl [(cs 0, .int), (cs 1, .byte), (cs 2, .long), (cs 3, .object RX5), (cs 4, .object RX4), (cs 5, .array .int), (cs 6, .char), (cs 7, .boolean)] t) (fun q => q ∈ L)) 0 0 (fun q => q ∈ L) := by
  refine Met.ofW (cc := cX6_word) (maxL := 3) (ret := (some .int)) (by decide) rfl ?_
  intro p e s m args below meth c s₁ B hml hv
  obtain ⟨rfl, hsz, hP, hK, hD, hN⟩ := hv
  have hx := B.exec
  have hb := B.bytes
  have hr := B.returns
  have hts : ∀ w ∈ T0, w.before _ s = true := fun w h => atoms_spec (ws := Cond.code yX6_word cX6_word 3 (some .int) :: T0) B.pre w (List.mem_cons_of_mem _ h)
  have hown : s.vm.findClass RX6 = some m.cls := findClass_of_methodNamed B.named
  have hlocks := B.notSynchronized
  have hS : va_S (fun q => q ∈ L) s.heap s.heap [] := va_S.rf
  have hfr : ∀ b, K b ∉ ([] : List Nat) → F b = F b := fun _ _ => rfl
  have hl := lv_entry ([.ref a0, .int x1, .int x2]) (n := 3) (Nat.le_of_ble_eq_true rfl)
  rw [lg_entry_eq]
  generalize (lg_sl ([.ref a0, .int x1, .int x2]) ++ List.replicate (3 - (lg_sl ([.ref a0, .int x1, .int x2])).length) Slot.unset).toArray = ls at hl ⊢
  have hl : lv_has ls 3 [(0, .ref a0), (1, .int x1), (2, .int x2)] := hl
  refine s_gen hP hS (fun H locs hP hS => ?_)
  refine lv_aload_n hx hb dX6_word_0 rfl (lv_at hl 0 rfl) ?_
  refine lv_iload_n hx hb dX6_word_1 rfl (lv_at hl 1 rfl) ?_
  refine lv_iload_n hx hb dX6_word_2 rfl (lv_at hl 2 rfl) ?_
  obtain ⟨z1, z3, z5, z7, z9, z11, z12, z14, z16, z18, z20, z22, z24, z26, o27, h2, h4, h6, h8, h10, h13, h15, h17, h19, h21, h23, h25, -⟩ := s_op7 hI ha0
  refine va_calli (va_runV (As := [.int x1, .int x2]) (rest := []) ⟨hx, hb, hml, hown, hts⟩ (s_X6_hasWord l dC dI H.size hLK D F a0 x1 x2 ha0 (⟨by omega, by omega⟩) hI) (cwV 2 hts (ax_gV T_232 T_233 T_234 T_193 T_18) rfl rfl rfl (by decide +kernel) ⟨Nat.le_of_ble_eq_true rfl, Nat.le_of_ble_eq_true rfl⟩) ⟨fun a U g mk q => ⟨q.1, s_pc rfl rfl q.2⟩, s_recv hK hP (hLK _ ha0 (by decide)) (ci := 6) rfl o27, fun U hU hW => ⟨rfl, s_pw hU hW hP hK hD hN⟩⟩ rfl rfl hl.1 rfl (lv_room (Nat.le_of_ble_eq_true rfl)) dX6_word_3 ⟨Nat.zero_le _, Nat.zero_le _⟩) hS (fun q _ h => h) (fun q h => h) (fun r28 F29 t H1 locs ht hvm hw hB hz1 hk1 hS => ?_)
  obtain ⟨hP, hK1⟩ := hB
  rw [ht] at hP
  generalize H1 = H at hP hS ⊢
  obtain ⟨h30, h31, hI, hfr1⟩ := hw
  have o32 : F29 a0 = .inr (6, [.ref z1, .int z3, .ref z5, .ref z7, .ref z9, .int z11, .ref z12, .ref z14, .int z16, .int z18, .ref z20, .ref z22, .ref z24, .long z26]) := (hfr1 _ (by rw [ha0]; decide)).trans o27
  have hfr : ∀ b, K b ∉ ([] : List Nat) → F29 b = F b := fun b hb9 => (hfr1 b (fun q => hb9 (s_sub (by decide) q))).trans (hfr b hb9)
  obtain ⟨h31, h33⟩ := h31
  have h33 : (r28 = 0 ∨ x1.toInt = 0 ∨ x2.toInt ≤ 31) := h33
  refine lv_if_ne (tgt := 12) hx hb dX6_word_6 (by decide) (fun c34 => ?_) (fun c34 => ?_)
  · have c34 := mt (ax_eq (n := 0) (by decide)).mpr c34
    have h35 := h31 (fun q => c34 (by rw [q]; decide))
    refine lv_iload_n hx hb dX6_word_12 rfl (lv_at hl 1 rfl) ?_
    refine lv_if_eq (tgt := 28) hx hb dX6_word_13 (by decide) (fun c36 => ?_) (fun c36 => ?_)
    · have c36 := (ax_eq (n := 0) (by decide)).mp c36
      refine lv_aload_n hx hb dX6_word_28 rfl (lv_at hl 0 rfl) ?_
      refine th_get (D := (dC, dI)) (ci := 6) (v := .ref z12) (C := RX6) (T := TX6) (N := 14) hx hb hts inX6 hown hK hP (hLK _ ha0 (by decide)) o32 rfl 6 (by decide) (hts _ T_174) (fun _ h9 => h9) rfl dX6_word_29 ?_
      obtain ⟨z37, z39, z41, z43, z45, z47, z49, z51, z53, z54, z55, z57, z58, z60, z61, o63, h38, h40, h42, h44, h46, h48, h50, h52, h56, h59, h62, -⟩ := s_op5 hI h13
      refine th_getN (D := (dC, dI)) (ci := 4) (v := .ref z39) (C := RX4) (T := TX4) (N := 15) hx hb hts inX4 hown hK hP (hLK _ h13 (by decide)) o63 rfl 1 (by decide) (va_Nw.use rfl (ax_n58 hN)) (fun _ h9 => h9) rfl dX6_word_32 ?_
      refine lv_iload_n hx hb dX6_word_35 rfl (lv_at hl 2 rfl) ?_
      obtain ⟨f64, o65, h66⟩ := s_op24 hI h40
      refine th_iald hx hb hK hP (hLK _ h40 (by decide)) 0 o65 rfl (th_in ⟨by omega, by omega⟩) dX6_word_36 ?_
      refine lv_topi (fun v67 ev67 => ?_)
      exact W.iret (v := v67) hx hb hr (fun t ht hW => ⟨⟨v67, F29, rfl, ⟨trivial, trivial, hI, hfr⟩, by rw [ht]; exact hP, va_K.moved hW.alike hK⟩, hS.F ht⟩) hS.2.2 dX6_word_37
    · have c36 := mt (ax_eq (n := 0) (by decide)).mpr c36
      refine lv_aload_n hx hb dX6_word_16 rfl (lv_at hl 0 rfl) ?_
      refine th_get (D := (dC, dI)) (ci := 6) (v := .ref z12) (C := RX6) (T := TX6) (N := 14) hx hb hts inX6 hown hK hP (hLK _ ha0 (by decide)) o32 rfl 6 (by decide) (hts _ T_174) (fun _ h9 => h9) rfl dX6_word_17 ?_
      obtain ⟨z68, z70, z72, z74, z76, z78, z80, z82, z84, z85, z86, z88, z89, z91, z92, o94, h69, h71, h73, h75, h77, h79, h81, h83, h87, h90, h93, -⟩ := s_op5 hI h13
      refine th_getN (D := (dC, dI)) (ci := 4) (v := .ref z72) (C := RX4) (T := TX4) (N := 15) hx hb hts inX4 hown hK hP (hLK _ h13 (by decide)) o94 rfl 2 (by decide) (va_Nw.use rfl (ax_n75 hN)) (fun _ h9 => h9) rfl dX6_word_20 ?_
      refine lv_iload_n hx hb dX6_word_23 rfl (lv_at hl 2 rfl) ?_
      obtain ⟨f95, o96, h97⟩ := s_op27 hI h73
      refine th_iald hx hb hK hP (hLK _ h73 (by decide)) 0 o96 rfl (th_in ⟨by omega, by omega⟩) dX6_word_24 ?_
      refine lv_topi (fun v98 ev98 => ?_)
      refine lv_goto (tgt := 37) hx hb dX6_word_25 (by decide) ?_
      exact W.iret (v := v98) hx hb hr (fun t ht hW => ⟨⟨v98, F29, rfl, ⟨trivial, trivial, hI, hfr⟩, by rw [ht]; exact hP, va_K.moved hW.alike hK⟩, hS.F ht⟩) hS.2.2 dX6_word_37
  · have c34 := (ax_eq (n := 0) (by decide)).mp c34
    refine lv_ldc (v := (-1000000)) hx hb hown (hts _ T_228) dX6_word_9 ?_
    exact W.iret (v := (-1000000)) hx hb hr (fun t ht hW => ⟨⟨(-1000000), F29, rfl, ⟨trivial, trivial, hI, hfr⟩, by rw [ht]; exact hP, va_K.moved hW.alike hK⟩, hS.F ht⟩) hS.2.2 dX6_word_11

set_option maxHeartbeats 4000000 in
set_option maxRecDepth 100000 in
theorem s_X6_raced (l : Launch) (dC : Nat → ClassId) (dI : Nat → Nat → Nat) (sz : Nat) {L : List Nat} {K : Nat → Nat} {cs : Nat → ClassId} (hLK : ∀ a {k : Nat}, K a = k → k ≠ 0 → a ∈ L) (D : Nat) (F : Nat → va_E) (a0 : Nat) (x1 : Int32) (x2 : Int32) (ha0 : K a0 = 7) (hx1 : 0 ≤ x1.toInt ∧ x1.toInt ≤ 1) (hI : s_I K cs D F) : Met l yX6_raced (Cond.code yX6_raced cX6_raced 3 (some .int) :: T0) ({ frames := 1, cells := 0, slots := 0, locals := 22 }) (va_Pc [.ref a0, .int x1, .int x2] (s_W dC dI sz L F [(cs 0, .int), (cs 1, .byte), (cs 2, .long), (cs 3, .object RX5), (cs 4, .object RX4), (cs 5, .array .int), (cs 6, .char), (cs 7, .boolean)])) (va_Qi (fun (r : Int32) (G : Nat → va_E) => True ∧ True ∧ s_I K cs D G ∧ ∀ b, K b ∉ ([] : List Nat) → G b = F b) (fun (G : Nat → va_E) (t : State) => va_P (dC, dI) vwCl (va_pl L G) t.heap ∧ va_K (dC, dI) vwCl [(cs 0, .int), (cs 1, .byte), (cs 2, .long), (cs 3, .object RX5), (cs 4, .object RX4), (cs 5, .array .int), (cs 6, .char), (cs 7, .boolean)] t) (fun q => q ∈ L)) 0 0 (fun q => q ∈ L) := by
  refine Met.ofW (cc := cX6_raced) (maxL := 3) (ret := (some .int)) (by decide) rfl ?_
  intro p e s m args below meth c s₁ B hml hv
  obtain ⟨rfl, hsz, hP, hK, hD, hN⟩ := hv
  have hx := B.exec
  have hb := B.bytes
  have hr := B.returns
  have hts : ∀ w ∈ T0, w.before _ s = true := fun w h => atoms_spec (ws := Cond.code yX6_raced cX6_raced 3 (some .int) :: T0) B.pre w (List.mem_cons_of_mem _ h)
  have hown : s.vm.findClass RX6 = some m.cls := findClass_of_methodNamed B.named
  have hlocks := B.notSynchronized
  have hS : va_S (fun q => q ∈ L) s.heap s.heap [] := va_S.rf
  have hfr : ∀ b, K b ∉ ([] : List Nat) → F b = F b := fun _ _ => rfl
  have hl := lv_entry ([.ref a0, .int x1, .int x2]) (n := 3) (Nat.le_of_ble_eq_true rfl)
  rw [lg_entry_eq]
  generalize (lg_sl ([.ref a0, .int x1, .int x2]) ++ List.replicate (3 - (lg_sl ([.ref a0, .int x1, .int x2])).length) Slot.unset).toArray = ls at hl ⊢
  have hl : lv_has ls 3 [(0, .ref a0), (1, .int x1), (2, .int x2)] := hl
  refine s_gen hP hS (fun H locs hP hS => ?_)
  refine lv_aload_n hx hb dX6_raced_0 rfl (lv_at hl 0 rfl) ?_
  refine lv_iload_n hx hb dX6_raced_1 rfl (lv_at hl 1 rfl) ?_
  refine lv_iload_n hx hb dX6_raced_2 rfl (lv_at hl 2 rfl) ?_
  obtain ⟨z1, z3, z5, z7, z9, z11, z12, z14, z16, z18, z20, z22, z24, z26, o27, h2, h4, h6, h8, h10, h13, h15, h17, h19, h21, h23, h25, -⟩ := s_op7 hI ha0
  refine va_calli (va_runV (As := [.int x1, .int x2]) (rest := []) ⟨hx, hb, hml, hown, hts⟩ (s_X6_hasWord l dC dI H.size hLK D F a0 x1 x2 ha0 (⟨by omega, by omega⟩) hI) (cwV 2 hts (ax_gV T_232 T_233 T_234 T_193 T_18) rfl rfl rfl (by decide +kernel) ⟨Nat.le_of_ble_eq_true rfl, Nat.le_of_ble_eq_true rfl⟩) ⟨fun a U g mk q => ⟨q.1, s_pc rfl rfl q.2⟩, s_recv hK hP (hLK _ ha0 (by decide)) (ci := 6) rfl o27, fun U hU hW => ⟨rfl, s_pw hU hW hP hK hD hN⟩⟩ rfl rfl hl.1 rfl (lv_room (Nat.le_of_ble_eq_true rfl)) dX6_raced_3 ⟨Nat.zero_le _, Nat.zero_le _⟩) hS (fun q _ h => h) (fun q h => h) (fun r28 F29 t H1 locs ht hvm hw hB hz1 hk1 hS => ?_)
  obtain ⟨hP, hK1⟩ := hB
  rw [ht] at hP
  generalize H1 = H at hP hS ⊢
  obtain ⟨h30, h31, hI, hfr1⟩ := hw
  have o32 : F29 a0 = .inr (6, [.ref z1, .int z3, .ref z5, .ref z7, .ref z9, .int z11, .ref z12, .ref z14, .int z16, .int z18, .ref z20, .ref z22, .ref z24, .long z26]) := (hfr1 _ (by rw [ha0]; decide)).trans o27
  have hfr : ∀ b, K b ∉ ([] : List Nat) → F29 b = F b := fun b hb9 => (hfr1 b (fun q => hb9 (s_sub (by decide) q))).trans (hfr b hb9)
  obtain ⟨h31, h33⟩ := h31
  have h33 : (r28 = 0 ∨ x1.toInt = 0 ∨ x2.toInt ≤ 31) := h33
  refine lv_if_ne (tgt := 11) hx hb dX6_raced_6 (by decide) (fun c34 => ?_) (fun c34 => ?_)
  · have c34 := mt (ax_eq (n := 0) (by decide)).mpr c34
    have h35 := h31 (fun q => c34 (by rw [q]; decide))
    refine lv_aload_n hx hb dX6_raced_11 rfl (lv_at hl 0 rfl) ?_
    refine th_get (D := (dC, dI)) (ci := 6) (v := .ref z12) (C := RX6) (T := TX6) (N := 14) hx hb hts inX6 hown hK hP (hLK _ ha0 (by decide)) o32 rfl 6 (by decide) (hts _ T_174) (fun _ h9 => h9) rfl dX6_raced_12 ?_
    obtain ⟨z36, z38, z40, z42, z44, z46, z48, z50, z52, z53, z54, z56, z57, z59, z60, o62, h37, h39, h41, h43, h45, h47, h49, h51, h55, h58, h61, -⟩ := s_op5 hI h13
    refine th_getN (D := (dC, dI)) (ci := 4) (v := .ref z46) (C := RX4) (T := TX4) (N := 15) hx hb hts inX4 hown hK hP (hLK _ h13 (by decide)) o62 rfl 5 (by decide) (va_Nw.use rfl (ax_n78 hN)) (fun _ h9 => h9) rfl dX6_raced_15 ?_
    refine lv_iload_n hx hb dX6_raced_18 rfl (lv_at hl 1 rfl) ?_
    refine lv_if_eq (tgt := 29) hx hb dX6_raced_19 (by decide) (fun c63 => ?_) (fun c63 => ?_)
    · have c63 := (ax_eq (n := 0) (by decide)).mp c63
      refine lv_iload_n hx hb dX6_raced_29 rfl (lv_at hl 2 rfl) ?_
      obtain ⟨f64, o65, h66⟩ := s_op28 hI h47
      refine th_iald hx hb hK hP (hLK _ h47 (by decide)) 0 o65 rfl (th_in ⟨by omega, by omega⟩) dX6_raced_30 ?_
      refine lv_topi (fun v67 ev67 => ?_)
      exact W.iret (v := v67) hx hb hr (fun t ht hW => ⟨⟨v67, F29, rfl, ⟨trivial, trivial, hI, hfr⟩, by rw [ht]; exact hP, va_K.moved hW.alike hK⟩, hS.F ht⟩) hS.2.2 dX6_raced_31
    · have c63 := mt (ax_eq (n := 0) (by decide)).mpr c63
      refine lv_bipush (v := 64) hx hb dX6_raced_22 (by decide) ?_
      refine lv_iload_n hx hb dX6_raced_24 rfl (lv_at hl 2 rfl) ?_
      refine lv_iadd hx hb dX6_raced_25 ?_
      refine lv_topi (fun v68 ev68 => ?_)
      have qv68 : v68.toInt = 64 + x2.toInt := by rw [ev68]; exact th_add (by decide) rfl ⟨by omega, by omega⟩
      refine lv_goto (tgt := 30) hx hb dX6_raced_26 (by decide) ?_
      obtain ⟨f69, o70, h71⟩ := s_op28 hI h47
      refine th_iald hx hb hK hP (hLK _ h47 (by decide)) 0 o70 rfl (th_in ⟨by omega, by omega⟩) dX6_raced_30 ?_
      refine lv_topi (fun v72 ev72 => ?_)
      exact W.iret (v := v72) hx hb hr (fun t ht hW => ⟨⟨v72, F29, rfl, ⟨trivial, trivial, hI, hfr⟩, by rw [ht]; exact hP, va_K.moved hW.alike hK⟩, hS.F ht⟩) hS.2.2 dX6_raced_31
  · have c34 := (ax_eq (n := 0) (by decide)).mp c34
    refine lv_iconst (v := (-1)) hx hb dX6_raced_9 (by decide) ?_
    exact W.iret (v := (-1)) hx hb hr (fun t ht hW => ⟨⟨(-1), F29, rfl, ⟨trivial, trivial, hI, hfr⟩, by rw [ht]; exact hP, va_K.moved hW.alike hK⟩, hS.F ht⟩) hS.2.2 dX6_raced_10

set_option maxHeartbeats 4000000 in
set_option maxRecDepth 100000 in
theorem s_X6_kept (l : Launch) (dC : Nat → ClassId) (dI : Nat → Nat → Nat) (sz : Nat) {L : List Nat} {K : Nat → Nat} {cs : Nat → ClassId} (hLK : ∀ a {k : Nat}, K a = k → k ≠ 0 → a ∈ L) (D : Nat) (F : Nat → va_E) (a0 : Nat) (x1 : Int32) (x2 : Int32) (ha0 : K a0 = 7) (hI : s_I K cs D F) : Met l yX6_kept (Cond.code yX6_kept cX6_kept 4 (some .int) :: T0) ({ frames := 1, cells := 0, slots := 0, locals := 13 }) (va_Pc [.ref a0, .int x1, .int x2] (s_W dC dI sz L F [(cs 0, .int), (cs 1, .byte), (cs 2, .long), (cs 3, .object RX5), (cs 4, .object RX4), (cs 5, .array .int), (cs 6, .char), (cs 7, .boolean)])) (va_Qi (fun (r : Int32) (G : Nat → va_E) => True ∧ True ∧ s_I K cs D G ∧ ∀ b, K b ∉ ([] : List Nat) → G b = F b) (fun (G : Nat → va_E) (t : State) => va_P (dC, dI) vwCl (va_pl L G) t.heap ∧ va_K (dC, dI) vwCl [(cs 0, .int), (cs 1, .byte), (cs 2, .long), (cs 3, .object RX5), (cs 4, .object RX4), (cs 5, .array .int), (cs 6, .char), (cs 7, .boolean)] t) (fun q => q ∈ L)) 0 0 (fun q => q ∈ L) := by
  refine Met.ofW (cc := cX6_kept) (maxL := 4) (ret := (some .int)) (by decide) rfl ?_
  intro p e s m args below meth c s₁ B hml hv
  obtain ⟨rfl, hsz, hP, hK, hD, hN⟩ := hv
  have hx := B.exec
  have hb := B.bytes
  have hr := B.returns
  have hts : ∀ w ∈ T0, w.before _ s = true := fun w h => atoms_spec (ws := Cond.code yX6_kept cX6_kept 4 (some .int) :: T0) B.pre w (List.mem_cons_of_mem _ h)
  have hown : s.vm.findClass RX6 = some m.cls := findClass_of_methodNamed B.named
  have hlocks := B.notSynchronized
  have hS : va_S (fun q => q ∈ L) s.heap s.heap [] := va_S.rf
  have hfr : ∀ b, K b ∉ ([] : List Nat) → F b = F b := fun _ _ => rfl
  have hl := lv_entry ([.ref a0, .int x1, .int x2]) (n := 4) (Nat.le_of_ble_eq_true rfl)
  rw [lg_entry_eq]
  generalize (lg_sl ([.ref a0, .int x1, .int x2]) ++ List.replicate (4 - (lg_sl ([.ref a0, .int x1, .int x2])).length) Slot.unset).toArray = ls at hl ⊢
  have hl : lv_has ls 4 [(0, .ref a0), (1, .int x1), (2, .int x2)] := hl
  refine s_gen hP hS (fun H locs hP hS => ?_)
  refine lv_aload_n hx hb dX6_kept_0 rfl (lv_at hl 0 rfl) ?_
  obtain ⟨z1, z3, z5, z7, z9, z11, z12, z14, z16, z18, z20, z22, z24, z26, o27, h2, h4, h6, h8, h10, h13, h15, h17, h19, h21, h23, h25, -⟩ := s_op7 hI ha0
  refine th_get (D := (dC, dI)) (ci := 6) (v := .ref z12) (C := RX6) (T := TX6) (N := 14) hx hb hts inX6 hown hK hP (hLK _ ha0 (by decide)) o27 rfl 6 (by decide) (hts _ T_174) (fun _ h9 => h9) rfl dX6_kept_1 ?_
  obtain ⟨z28, z30, z32, z34, z36, z38, z40, z42, z44, z45, z46, z48, z49, z51, z52, o54, h29, h31, h33, h35, h37, h39, h41, h43, h47, h50, h53, -⟩ := s_op5 hI h13
  refine th_getN (D := (dC, dI)) (ci := 4) (v := .int z49) (C := RX4) (T := TX4) (N := 15) hx hb hts inX4 hown hK hP (hLK _ h13 (by decide)) o54 rfl 12 (by decide) (va_Nw.use rfl (ax_n12 hN)) (fun _ h9 => h9) rfl dX6_kept_4 ?_
  refine lv_bipush (v := 30) hx hb dX6_kept_7 (by decide) ?_
  refine va_mmin hx hb (by rw [hml]; exact hl.1.symm) hown (hts _ T_235) (hts _ T_236) (hts _ T_237) (hts _ T_19) (Nat.le_of_ble_eq_true rfl) (Nat.le_of_ble_eq_true rfl) (Nat.zero_le _) (Nat.zero_le _) dX6_kept_9 ?_
  refine lv_topi (fun v55 ev55 => ?_)
  have qv55 := th_mmin (a := z49.toInt) (b := 30) ev55 rfl (by decide)
  refine lv_istore_n (lv' := [(3, .int v55), (0, .ref a0), (1, .int x1), (2, .int x2)]) hx hb dX6_kept_12 rfl hl (by decide) rfl (fun ls hl => ?_)
  refine lv_aload_n hx hb dX6_kept_13 rfl (lv_at hl 1 rfl) ?_
  refine th_get (D := (dC, dI)) (ci := 6) (v := .int z11) (C := RX6) (T := TX6) (N := 14) hx hb hts inX6 hown hK hP (hLK _ ha0 (by decide)) o27 rfl 5 (by decide) (hts _ T_224) (fun _ h9 => h9) rfl dX6_kept_14 ?_
  refine lv_if_eq (tgt := 38) hx hb dX6_kept_17 (by decide) (fun c56 => ?_) (fun c56 => ?_)
  · have c56 := (ax_eq (n := 0) (by decide)).mp c56
    refine lv_iconst (v := (-1)) hx hb dX6_kept_38 (by decide) ?_
    exact W.iret (v := (-1)) hx hb hr (fun t ht hW => ⟨⟨(-1), F, rfl, ⟨trivial, trivial, hI, hfr⟩, by rw [ht]; exact hP, va_K.moved hW.alike hK⟩, hS.F ht⟩) hS.2.2 dX6_kept_39
  · have c56 := mt (ax_eq (n := 0) (by decide)).mpr c56
    refine lv_iload_n hx hb dX6_kept_20 rfl (lv_at hl 2 rfl) ?_
    refine lv_if_lt (tgt := 38) hx hb dX6_kept_21 (by decide) (fun c57 => ?_) (fun c57 => ?_)
    · have c57 := (ax_lt (n := 0) (by decide)).mp c57
      refine lv_iconst (v := (-1)) hx hb dX6_kept_38 (by decide) ?_
      exact W.iret (v := (-1)) hx hb hr (fun t ht hW => ⟨⟨(-1), F, rfl, ⟨trivial, trivial, hI, hfr⟩, by rw [ht]; exact hP, va_K.moved hW.alike hK⟩, hS.F ht⟩) hS.2.2 dX6_kept_39
    · have c57 := mt (ax_lt (n := 0) (by decide)).mpr c57
      refine lv_iload_n hx hb dX6_kept_24 rfl (lv_at hl 2 rfl) ?_
      refine lv_iload_n hx hb dX6_kept_25 rfl (lv_at hl 0 rfl) ?_
      refine lv_icmp_ge (tgt := 38) hx hb dX6_kept_26 (by decide) (fun c58 => ?_) (fun c58 => ?_)
      · have c58 := Int32.le_iff_toInt_le.mp c58
        refine lv_iconst (v := (-1)) hx hb dX6_kept_38 (by decide) ?_
        exact W.iret (v := (-1)) hx hb hr (fun t ht hW => ⟨⟨(-1), F, rfl, ⟨trivial, trivial, hI, hfr⟩, by rw [ht]; exact hP, va_K.moved hW.alike hK⟩, hS.F ht⟩) hS.2.2 dX6_kept_39
      · have c58 := mt Int32.le_iff_toInt_le.mpr c58
        refine lv_iload_n hx hb dX6_kept_29 rfl (lv_at hl 3 rfl) ?_
        refine lv_if_lt (tgt := 38) hx hb dX6_kept_30 (by decide) (fun c59 => ?_) (fun c59 => ?_)
        · have c59 := (ax_lt (n := 0) (by decide)).mp c59
          refine lv_iconst (v := (-1)) hx hb dX6_kept_38 (by decide) ?_
          exact W.iret (v := (-1)) hx hb hr (fun t ht hW => ⟨⟨(-1), F, rfl, ⟨trivial, trivial, hI, hfr⟩, by rw [ht]; exact hP, va_K.moved hW.alike hK⟩, hS.F ht⟩) hS.2.2 dX6_kept_39
        · have c59 := mt (ax_lt (n := 0) (by decide)).mpr c59
          refine lv_iload_n hx hb dX6_kept_33 rfl (lv_at hl 3 rfl) ?_
          refine lv_iconst (v := 5) hx hb dX6_kept_34 (by decide) ?_
          refine lv_icmp_lt (tgt := 40) hx hb dX6_kept_35 (by decide) (fun c60 => ?_) (fun c60 => ?_)
          · have c60 := (ax_lt (n := 5) (by decide)).mp c60
            refine lv_aload_n hx hb dX6_kept_40 rfl (lv_at hl 1 rfl) ?_
            refine th_get (D := (dC, dI)) (ci := 6) (v := .ref z12) (C := RX6) (T := TX6) (N := 14) hx hb hts inX6 hown hK hP (hLK _ ha0 (by decide)) o27 rfl 6 (by decide) (hts _ T_174) (fun _ h9 => h9) rfl dX6_kept_41 ?_
            refine th_getN (D := (dC, dI)) (ci := 4) (v := .ref z40) (C := RX4) (T := TX4) (N := 15) hx hb hts inX4 hown hK hP (hLK _ h13 (by decide)) o54 rfl 6 (by decide) (va_Nw.use rfl (ax_n64 hN)) (fun _ h9 => h9) rfl dX6_kept_44 ?_
            refine lv_aload_n hx hb dX6_kept_47 rfl (lv_at hl 1 rfl) ?_
            refine th_get (D := (dC, dI)) (ci := 6) (v := .ref z12) (C := RX6) (T := TX6) (N := 14) hx hb hts inX6 hown hK hP (hLK _ ha0 (by decide)) o27 rfl 6 (by decide) (hts _ T_174) (fun _ h9 => h9) rfl dX6_kept_48 ?_
            refine th_getN (D := (dC, dI)) (ci := 4) (v := .int z49) (C := RX4) (T := TX4) (N := 15) hx hb hts inX4 hown hK hP (hLK _ h13 (by decide)) o54 rfl 12 (by decide) (va_Nw.use rfl (ax_n12 hN)) (fun _ h9 => h9) rfl dX6_kept_51 ?_
            refine lv_iload_n hx hb dX6_kept_54 rfl (lv_at hl 0 rfl) ?_
            refine lv_isub hx hb dX6_kept_55 ?_
            refine lv_topi (fun v61 ev61 => ?_)
            have qv61 : v61.toInt = z49.toInt - v55.toInt := by rw [ev61]; exact th_sub rfl rfl ⟨by omega, by omega⟩
            refine lv_iload_n hx hb dX6_kept_56 rfl (lv_at hl 2 rfl) ?_
            refine lv_iadd hx hb dX6_kept_57 ?_
            refine lv_topi (fun v62 ev62 => ?_)
            refine lv_bipush (v := 30) hx hb dX6_kept_58 (by decide) ?_
            refine lv_irem hx hb dX6_kept_60 (by decide) ?_
            refine lv_topi (fun v63 ev63 => ?_)
            refine lv_iconst (v := 5) hx hb dX6_kept_61 (by decide) ?_
            refine lv_imul hx hb dX6_kept_62 ?_
            refine lv_topi (fun v64 ev64 => ?_)
            refine lv_iload_n hx hb dX6_kept_63 rfl (lv_at hl 3 rfl) ?_
            refine lv_iadd hx hb dX6_kept_64 ?_
            refine lv_topi (fun v65 ev65 => ?_)
            obtain ⟨f66, o67, h68⟩ := s_op29 hI h41
            refine th_iald hx hb hK hP (hLK _ h41 (by decide)) 0 o67 rfl (th_in ⟨by omega, by omega⟩) dX6_kept_65 ?_
            refine lv_topi (fun v69 ev69 => ?_)
            exact W.iret (v := v69) hx hb hr (fun t ht hW => ⟨⟨v69, F, rfl, ⟨trivial, trivial, hI, hfr⟩, by rw [ht]; exact hP, va_K.moved hW.alike hK⟩, hS.F ht⟩) hS.2.2 dX6_kept_66
          · have c60 := mt (ax_lt (n := 5) (by decide)).mpr c60
            refine lv_iconst (v := (-1)) hx hb dX6_kept_38 (by decide) ?_
            exact W.iret (v := (-1)) hx hb hr (fun t ht hW => ⟨⟨(-1), F, rfl, ⟨trivial, trivial, hI, hfr⟩, by rw [ht]; exact hP, va_K.moved hW.alike hK⟩, hS.F ht⟩) hS.2.2 dX6_kept_39

set_option maxHeartbeats 4000000 in
set_option maxRecDepth 100000 in
theorem s_X6_seed (l : Launch) (dC : Nat → ClassId) (dI : Nat → Nat → Nat) (sz : Nat) {L : List Nat} {K : Nat → Nat} {cs : Nat → ClassId} (hLK : ∀ a {k : Nat}, K a = k → k ≠ 0 → a ∈ L) (D : Nat) (F : Nat → va_E) (a0 : Nat) (x1 : Int32) (ha0 : K a0 = 7) (hI : s_I K cs D F) : Met l yX6_seed (Cond.code yX6_seed cX6_seed 2 (some .boolean) :: T0) ({ frames := 1, cells := 0, slots := 0, locals := 21 }) (va_Pc [.ref a0, .int x1] (s_W dC dI sz L F [(cs 0, .int), (cs 1, .byte), (cs 2, .long), (cs 3, .object RX5), (cs 4, .object RX4), (cs 5, .array .int), (cs 6, .char), (cs 7, .boolean)])) (va_Qi (fun (r : Int32) (G : Nat → va_E) => (0 ≤ r.toInt ∧ r.toInt ≤ 1) ∧ (¬ r = 0 → 0 ≤ x1.toInt ∧ x1.toInt ≤ 2147483647) ∧ s_I K cs D G ∧ ∀ b, K b ∉ [7, 39] → G b = F b) (fun (G : Nat → va_E) (t : State) => va_P (dC, dI) vwCl (va_pl L G) t.heap ∧ va_K (dC, dI) vwCl [(cs 0, .int), (cs 1, .byte), (cs 2, .long), (cs 3, .object RX5), (cs 4, .object RX4), (cs 5, .array .int), (cs 6, .char), (cs 7, .boolean)] t) (fun q => q ∈ L)) 0 0 (fun q => q ∈ L) := by
  refine Met.ofW (cc := cX6_seed) (maxL := 2) (ret := (some .boolean)) (by decide) rfl ?_
  intro p e s m args below meth c s₁ B hml hv
  obtain ⟨rfl, hsz, hP, hK, hD, hN⟩ := hv
  have hx := B.exec
  have hb := B.bytes
  have hr := B.returns
  have hts : ∀ w ∈ T0, w.before _ s = true := fun w h => atoms_spec (ws := Cond.code yX6_seed cX6_seed 2 (some .boolean) :: T0) B.pre w (List.mem_cons_of_mem _ h)
  have hown : s.vm.findClass RX6 = some m.cls := findClass_of_methodNamed B.named
  have hlocks := B.notSynchronized
  have hS : va_S (fun q => q ∈ L) s.heap s.heap [] := va_S.rf
  have hfr : ∀ b, K b ∉ [7, 39] → F b = F b := fun _ _ => rfl
  have hl := lv_entry ([.ref a0, .int x1]) (n := 2) (Nat.le_of_ble_eq_true rfl)
  rw [lg_entry_eq]
  generalize (lg_sl ([.ref a0, .int x1]) ++ List.replicate (2 - (lg_sl ([.ref a0, .int x1])).length) Slot.unset).toArray = ls at hl ⊢
  have hl : lv_has ls 2 [(0, .ref a0), (1, .int x1)] := hl
  refine s_gen hP hS (fun H locs hP hS => ?_)
  refine lv_iload_n hx hb dX6_seed_0 rfl (lv_at hl 1 rfl) ?_
  refine lv_if_ge (tgt := 12) hx hb dX6_seed_1 (by decide) (fun c1 => ?_) (fun c1 => ?_)
  · have c1 := (ax_ge (n := 0) (by decide)).mp c1
    refine lv_aload_n hx hb dX6_seed_12 rfl (lv_at hl 0 rfl) ?_
    refine lv_iload_n hx hb dX6_seed_13 rfl (lv_at hl 1 rfl) ?_
    refine lv_i2l hx hb dX6_seed_14 rfl ?_
    refine lv_topl (fun v2 ev2 => ?_)
    obtain ⟨z3, z5, z7, z9, z11, z13, z14, z16, z18, z20, z22, z24, z26, z28, o29, h4, h6, h8, h10, h12, h15, h17, h19, h21, h23, h25, h27, -⟩ := s_op7 hI ha0
    refine th_put (D := (dC, dI)) (ci := 6) (v := .long v2) (ty := .long) (C := RX6) (T := TX6) (N := 14) hx hb hts inX6 tyX6 tyX6_ok nmX6 hown hK hP hD hS (hLK _ ha0 (by decide)) o29 rfl 13 (by decide) (hts _ T_184) (fun _ h9 => h9) rfl (by decide +kernel) rfl rfl (Nat.le_of_ble_eq_true rfl) dX6_seed_15 (fun H locs hP hS => ?_)
    have hP : va_P (dC, dI) vwCl (va_pl L (va_up F a0 (.inr (6, [.ref z3, .int z5, .ref z7, .ref z9, .ref z11, .int z13, .ref z14, .ref z16, .int z18, .int z20, .ref z22, .ref z24, .ref z26, .long v2])))) H := hP
    obtain ⟨F30, hF31⟩ : ∃ G : Nat → va_E, G = va_up F a0 (.inr (6, [.ref z3, .int z5, .ref z7, .ref z9, .ref z11, .int z13, .ref z14, .ref z16, .int z18, .int z20, .ref z22, .ref z24, .ref z26, .long v2])) := ⟨_, rfl⟩
    rw [← hF31] at hP
    have hI : s_I K cs D F30 := by rw [hF31]; exact s_cl7 hI ha0 ⟨z3, z5, z7, z9, z11, z13, z14, z16, z18, z20, z22, z24, z26, v2, rfl, h4, ⟨by omega, by omega⟩, h8, h10, h12, h15, h17, ⟨by omega, by omega⟩, ⟨by omega, by omega⟩, h23, h25, h27, trivial⟩
    have hfr : ∀ b, K b ∉ [7, 39] → F30 b = F b := by rw [hF31]; exact s_fr hfr ha0 (by decide)
    have o32 : F30 a0 = .inr (6, [.ref z3, .int z5, .ref z7, .ref z9, .ref z11, .int z13, .ref z14, .ref z16, .int z18, .int z20, .ref z22, .ref z24, .ref z26, .long v2]) := by rw [hF31]; exact th_up
    refine lv_iconst (v := 1) hx hb dX6_seed_18 (by decide) ?_
    exact W.zret (v := 1) (ty := .boolean) hx hb hr (by decide) (fun t ht hW => ⟨⟨1, F30, rfl, ⟨(by decide), (fun q => ⟨by omega, by have q9 := th_hi x1; omega⟩), hI, hfr⟩, by rw [ht]; exact hP, va_K.moved hW.alike hK⟩, hS.F ht⟩) hS.2.2 dX6_seed_19
  · have c1 := mt (ax_ge (n := 0) (by decide)).mpr c1
    refine lv_aload_n hx hb dX6_seed_4 rfl (lv_at hl 0 rfl) ?_
    refine lv_iconst (v := 5) hx hb dX6_seed_5 (by decide) ?_
    obtain ⟨z33, z35, z37, z39, z41, z43, z44, z46, z48, z50, z52, z54, z56, z58, o59, h34, h36, h38, h40, h42, h45, h47, h49, h51, h53, h55, h57, -⟩ := s_op7 hI ha0
    refine va_calli (va_runV (As := [.int 5]) (rest := []) ⟨hx, hb, hml, hown, hts⟩ (s_X6_refuse l dC dI H.size hLK D F a0 5 ha0 (by decide) hI) (cwV 1 hts (ax_gV T_194 T_195 T_196 T_193 T_10) rfl rfl rfl (by decide +kernel) ⟨Nat.le_of_ble_eq_true rfl, Nat.le_of_ble_eq_true rfl⟩) ⟨fun a U g mk q => ⟨q.1, s_pc rfl rfl q.2⟩, s_recv hK hP (hLK _ ha0 (by decide)) (ci := 6) rfl o59, fun U hU hW => ⟨rfl, s_pw hU hW hP hK hD hN⟩⟩ rfl rfl hl.1 rfl (lv_room (Nat.le_of_ble_eq_true rfl)) dX6_seed_6 ⟨Nat.zero_le _, Nat.zero_le _⟩) hS (fun q _ h => h) (fun q h => h) (fun r60 F61 t H1 locs ht hvm hw hB hz1 hk1 hS => ?_)
    obtain ⟨hP, hK1⟩ := hB
    rw [ht] at hP
    generalize H1 = H at hP hS ⊢
    obtain ⟨h62, h63, hI, hfr1⟩ := hw
    have o64 : F61 a0 = .inr (6, [.ref z33, .int z35, .ref z37, .ref z39, .ref z41, .int z43, .ref z44, .ref z46, .int z48, .int z50, .ref z52, .ref z54, .ref z56, .long z58]) := (hfr1 _ (by rw [ha0]; decide)).trans o59
    have hfr : ∀ b, K b ∉ [7, 39] → F61 b = F b := fun b hb9 => (hfr1 b (fun q => hb9 (s_sub (by decide) q))).trans (hfr b hb9)
    refine lv_pop hx hb dX6_seed_9 rfl ?_
    refine lv_iconst (v := 0) hx hb dX6_seed_10 (by decide) ?_
    exact W.zret (v := 0) (ty := .boolean) hx hb hr (by decide) (fun t ht hW => ⟨⟨0, F61, rfl, ⟨(by decide), (fun q => absurd (by decide) q), hI, hfr⟩, by rw [ht]; exact hP, va_K.moved hW.alike hK⟩, hS.F ht⟩) hS.2.2 dX6_seed_11

set_option maxHeartbeats 4000000 in
set_option maxRecDepth 100000 in
theorem s_X6_status (l : Launch) (dC : Nat → ClassId) (dI : Nat → Nat → Nat) (sz : Nat) {L : List Nat} {K : Nat → Nat} {cs : Nat → ClassId} (hLK : ∀ a {k : Nat}, K a = k → k ≠ 0 → a ∈ L) (D : Nat) (F : Nat → va_E) (a0 : Nat) (x1 : Int32) (ha0 : K a0 = 7) (hI : s_I K cs D F) : Met l yX6_status (Cond.code yX6_status cX6_status 2 (some .int) :: T0) ({ frames := 0, cells := 0, slots := 0, locals := 0 }) (va_Pc [.ref a0, .int x1] (s_W dC dI sz L F [(cs 0, .int), (cs 1, .byte), (cs 2, .long), (cs 3, .object RX5), (cs 4, .object RX4), (cs 5, .array .int), (cs 6, .char), (cs 7, .boolean)])) (va_Qi (fun (r : Int32) (G : Nat → va_E) => True ∧ True ∧ s_I K cs D G ∧ ∀ b, K b ∉ ([] : List Nat) → G b = F b) (fun (G : Nat → va_E) (t : State) => va_P (dC, dI) vwCl (va_pl L G) t.heap ∧ va_K (dC, dI) vwCl [(cs 0, .int), (cs 1, .byte), (cs 2, .long), (cs 3, .object RX5), (cs 4, .object RX4), (cs 5, .array .int), (cs 6, .char), (cs 7, .boolean)] t) (fun q => q ∈ L)) 0 0 (fun q => q ∈ L) := by
  refine Met.ofW (cc := cX6_status) (maxL := 2) (ret := (some .int)) (by decide) rfl ?_
  intro p e s m args below meth c s₁ B hml hv
  obtain ⟨rfl, hsz, hP, hK, hD, hN⟩ := hv
  have hx := B.exec
  have hb := B.bytes
  have hr := B.returns
  have hts : ∀ w ∈ T0, w.before _ s = true := fun w h => atoms_spec (ws := Cond.code yX6_status cX6_status 2 (some .int) :: T0) B.pre w (List.mem_cons_of_mem _ h)
  have hown : s.vm.findClass RX6 = some m.cls := findClass_of_methodNamed B.named
  have hlocks := B.notSynchronized
  have hS : va_S (fun q => q ∈ L) s.heap s.heap [] := va_S.rf
  have hfr : ∀ b, K b ∉ ([] : List Nat) → F b = F b := fun _ _ => rfl
  have hl := lv_entry ([.ref a0, .int x1]) (n := 2) (Nat.le_of_ble_eq_true rfl)
  rw [lg_entry_eq]
  generalize (lg_sl ([.ref a0, .int x1]) ++ List.replicate (2 - (lg_sl ([.ref a0, .int x1])).length) Slot.unset).toArray = ls at hl ⊢
  have hl : lv_has ls 2 [(0, .ref a0), (1, .int x1)] := hl
  refine s_gen hP hS (fun H locs hP hS => ?_)
  refine th_join (fun g H locs => ∃ (G : Nat → va_E) (ls : Array Slot), g = F0 m 10 ls [] ∧ lv_has ls 2 [] ∧ s_I K cs D G ∧ va_P (dC, dI) vwCl (va_pl L G) H ∧ va_S (fun q => q ∈ L) s.heap H locs ∧ (∀ b, K b ∉ ([] : List Nat) → G b = F b)) (fun K10 => ?_) ?_
  · refine lv_iload_n hx hb dX6_status_0 rfl (lv_at hl 1 rfl) ?_
    refine lv_if_lt (tgt := 10) hx hb dX6_status_1 (by decide) (fun c1 => ?_) (fun c1 => ?_)
    · have c1 := (ax_lt (n := 0) (by decide)).mp c1
      exact K10 _ _ _ ⟨F, _, rfl, lv_sub hl [] rfl, hI, hP, hS, hfr⟩
    · have c1 := mt (ax_lt (n := 0) (by decide)).mpr c1
      refine lv_iload_n hx hb dX6_status_4 rfl (lv_at hl 1 rfl) ?_
      refine lv_bipush (v := 6) hx hb dX6_status_5 (by decide) ?_
      refine lv_icmp_lt (tgt := 14) hx hb dX6_status_7 (by decide) (fun c2 => ?_) (fun c2 => ?_)
      · have c2 := (ax_lt (n := 6) (by decide)).mp c2
        refine lv_aload_n hx hb dX6_status_14 rfl (lv_at hl 0 rfl) ?_
        obtain ⟨z3, z5, z7, z9, z11, z13, z14, z16, z18, z20, z22, z24, z26, z28, o29, h4, h6, h8, h10, h12, h15, h17, h19, h21, h23, h25, h27, -⟩ := s_op7 hI ha0
        refine th_get (D := (dC, dI)) (ci := 6) (v := .ref z26) (C := RX6) (T := TX6) (N := 14) hx hb hts inX6 hown hK hP (hLK _ ha0 (by decide)) o29 rfl 12 (by decide) (hts _ T_183) (fun _ h9 => h9) rfl dX6_status_15 ?_
        refine lv_iload_n hx hb dX6_status_18 rfl (lv_at hl 1 rfl) ?_
        obtain ⟨f30, o31, h32⟩ := s_op39 hI h27
        refine th_iald hx hb hK hP (hLK _ h27 (by decide)) 0 o31 rfl (th_in ⟨by omega, by omega⟩) dX6_status_19 ?_
        refine lv_topi (fun v33 ev33 => ?_)
        exact W.iret (v := v33) hx hb hr (fun t ht hW => ⟨⟨v33, F, rfl, ⟨trivial, trivial, hI, hfr⟩, by rw [ht]; exact hP, va_K.moved hW.alike hK⟩, hS.F ht⟩) hS.2.2 dX6_status_20
      · have c2 := mt (ax_lt (n := 6) (by decide)).mpr c2
        exact K10 _ _ _ ⟨F, _, rfl, lv_sub hl [] rfl, hI, hP, hS, hfr⟩
  · intro g H locs hq
    obtain ⟨F9, ls, rfl, hl, hI, hP, hS, hfr⟩ := hq
    refine lv_iconst (v := (-1)) hx hb dX6_status_10 (by decide) ?_
    refine lv_goto (tgt := 20) hx hb dX6_status_11 (by decide) ?_
    exact W.iret (v := (-1)) hx hb hr (fun t ht hW => ⟨⟨(-1), F9, rfl, ⟨trivial, trivial, hI, hfr⟩, by rw [ht]; exact hP, va_K.moved hW.alike hK⟩, hS.F ht⟩) hS.2.2 dX6_status_20

set_option maxHeartbeats 4000000 in
set_option maxRecDepth 100000 in
theorem s_X6_layout (l : Launch) (dC : Nat → ClassId) (dI : Nat → Nat → Nat) (sz : Nat) {L : List Nat} {K : Nat → Nat} {cs : Nat → ClassId} (hLK : ∀ a {k : Nat}, K a = k → k ≠ 0 → a ∈ L) (D : Nat) (F : Nat → va_E) (x0 : Int32) (x1 : Int32) (x2 : Int32) (hx0 : 0 ≤ x0.toInt ∧ x0.toInt ≤ 1) (hx1 : 0 ≤ x1.toInt ∧ x1.toInt ≤ 1) (hx2 : 0 ≤ x2.toInt ∧ x2.toInt ≤ 3) (hI : s_I K cs D F) : Met l yX6_layout (Cond.code yX6_layout cX6_layout 3 (some .int) :: T0) ({ frames := 0, cells := 0, slots := 0, locals := 0 }) (va_Pc [.int x0, .int x1, .int x2] (s_W dC dI sz L F [(cs 0, .int), (cs 1, .byte), (cs 2, .long), (cs 3, .object RX5), (cs 4, .object RX4), (cs 5, .array .int), (cs 6, .char), (cs 7, .boolean)])) (va_Qi (fun (r : Int32) (G : Nat → va_E) => (0 ≤ r.toInt ∧ r.toInt ≤ 15) ∧ True ∧ s_I K cs D G ∧ ∀ b, K b ∉ ([] : List Nat) → G b = F b) (fun (G : Nat → va_E) (t : State) => va_P (dC, dI) vwCl (va_pl L G) t.heap ∧ va_K (dC, dI) vwCl [(cs 0, .int), (cs 1, .byte), (cs 2, .long), (cs 3, .object RX5), (cs 4, .object RX4), (cs 5, .array .int), (cs 6, .char), (cs 7, .boolean)] t) (fun q => q ∈ L)) 0 0 (fun q => q ∈ L) := by
  refine Met.ofW (cc := cX6_layout) (maxL := 3) (ret := (some .int)) (by decide) rfl ?_
  intro p e s m args below meth c s₁ B hml hv
  obtain ⟨rfl, hsz, hP, hK, hD, hN⟩ := hv
  have hx := B.exec
  have hb := B.bytes
  have hr := B.returns
  have hts : ∀ w ∈ T0, w.before _ s = true := fun w h => atoms_spec (ws := Cond.code yX6_layout cX6_layout 3 (some .int) :: T0) B.pre w (List.mem_cons_of_mem _ h)
  have hown : s.vm.findClass RX6 = some m.cls := findClass_of_methodNamed B.named
  have hlocks := B.notSynchronized
  have hS : va_S (fun q => q ∈ L) s.heap s.heap [] := va_S.rf
  have hfr : ∀ b, K b ∉ ([] : List Nat) → F b = F b := fun _ _ => rfl
  have hl := lv_entry ([.int x0, .int x1, .int x2]) (n := 3) (Nat.le_of_ble_eq_true rfl)
  rw [lg_entry_eq]
  generalize (lg_sl ([.int x0, .int x1, .int x2]) ++ List.replicate (3 - (lg_sl ([.int x0, .int x1, .int x2])).length) Slot.unset).toArray = ls at hl ⊢
  have hl : lv_has ls 3 [(0, .int x0), (1, .int x1), (2, .int x2)] := hl
  refine s_gen hP hS (fun H locs hP hS => ?_)
  refine lv_iload_n hx hb dX6_layout_0 rfl (lv_at hl 0 rfl) ?_
  refine lv_iconst (v := 2) hx hb dX6_layout_1 (by decide) ?_
  refine lv_imul hx hb dX6_layout_2 ?_
  refine lv_topi (fun v1 ev1 => ?_)
  have qv1 : v1.toInt = x0.toInt * 2 := by rw [ev1]; exact th_mul rfl (by decide) ⟨by omega, by omega⟩
  refine lv_iload_n hx hb dX6_layout_3 rfl (lv_at hl 1 rfl) ?_
  refine lv_iadd hx hb dX6_layout_4 ?_
  refine lv_topi (fun v2 ev2 => ?_)
  have qv2 : v2.toInt = v1.toInt + x1.toInt := by rw [ev2]; exact th_add rfl rfl ⟨by omega, by omega⟩
  refine lv_iconst (v := 4) hx hb dX6_layout_5 (by decide) ?_
  refine lv_imul hx hb dX6_layout_6 ?_
  refine lv_topi (fun v3 ev3 => ?_)
  have qv3 : v3.toInt = v2.toInt * 4 := by rw [ev3]; exact th_mul rfl (by decide) ⟨by omega, by omega⟩
  refine lv_iload_n hx hb dX6_layout_7 rfl (lv_at hl 2 rfl) ?_
  refine lv_iadd hx hb dX6_layout_8 ?_
  refine lv_topi (fun v4 ev4 => ?_)
  have qv4 : v4.toInt = v3.toInt + x2.toInt := by rw [ev4]; exact th_add rfl rfl ⟨by omega, by omega⟩
  exact W.iret (v := v4) hx hb hr (fun t ht hW => ⟨⟨v4, F, rfl, ⟨⟨by omega, by omega⟩, trivial, hI, hfr⟩, by rw [ht]; exact hP, va_K.moved hW.alike hK⟩, hS.F ht⟩) hS.2.2 dX6_layout_9

set_option maxHeartbeats 4000000 in
set_option maxRecDepth 100000 in
theorem s_X6_isMode (l : Launch) (dC : Nat → ClassId) (dI : Nat → Nat → Nat) (sz : Nat) {L : List Nat} {K : Nat → Nat} {cs : Nat → ClassId} (hLK : ∀ a {k : Nat}, K a = k → k ≠ 0 → a ∈ L) (D : Nat) (F : Nat → va_E) (x0 : Int32)  (hI : s_I K cs D F) : Met l yX6_isMode (Cond.code yX6_isMode cX6_isMode 1 (some .boolean) :: T0) ({ frames := 0, cells := 0, slots := 0, locals := 0 }) (va_Pc [.int x0] (s_W dC dI sz L F [(cs 0, .int), (cs 1, .byte), (cs 2, .long), (cs 3, .object RX5), (cs 4, .object RX4), (cs 5, .array .int), (cs 6, .char), (cs 7, .boolean)])) (va_Qi (fun (r : Int32) (G : Nat → va_E) => (0 ≤ r.toInt ∧ r.toInt ≤ 1) ∧ (¬ r = 0 → 0 ≤ x0.toInt ∧ x0.toInt ≤ 1) ∧ s_I K cs D G ∧ ∀ b, K b ∉ ([] : List Nat) → G b = F b) (fun (G : Nat → va_E) (t : State) => va_P (dC, dI) vwCl (va_pl L G) t.heap ∧ va_K (dC, dI) vwCl [(cs 0, .int), (cs 1, .byte), (cs 2, .long), (cs 3, .object RX5), (cs 4, .object RX4), (cs 5, .array .int), (cs 6, .char), (cs 7, .boolean)] t) (fun q => q ∈ L)) 0 0 (fun q => q ∈ L) := by
  refine Met.ofW (cc := cX6_isMode) (maxL := 1) (ret := (some .boolean)) (by decide) rfl ?_
  intro p e s m args below meth c s₁ B hml hv
  obtain ⟨rfl, hsz, hP, hK, hD, hN⟩ := hv
  have hx := B.exec
  have hb := B.bytes
  have hr := B.returns
  have hts : ∀ w ∈ T0, w.before _ s = true := fun w h => atoms_spec (ws := Cond.code yX6_isMode cX6_isMode 1 (some .boolean) :: T0) B.pre w (List.mem_cons_of_mem _ h)
  have hown : s.vm.findClass RX6 = some m.cls := findClass_of_methodNamed B.named
  have hlocks := B.notSynchronized
  have hS : va_S (fun q => q ∈ L) s.heap s.heap [] := va_S.rf
  have hfr : ∀ b, K b ∉ ([] : List Nat) → F b = F b := fun _ _ => rfl
  have hl := lv_entry ([.int x0]) (n := 1) (Nat.le_of_ble_eq_true rfl)
  rw [lg_entry_eq]
  generalize (lg_sl ([.int x0]) ++ List.replicate (1 - (lg_sl ([.int x0])).length) Slot.unset).toArray = ls at hl ⊢
  have hl : lv_has ls 1 [(0, .int x0)] := hl
  refine s_gen hP hS (fun H locs hP hS => ?_)
  refine th_join (fun g H locs => ∃ (G : Nat → va_E) (ls : Array Slot), g = F0 m 9 ls [] ∧ lv_has ls 1 [] ∧ s_I K cs D G ∧ va_P (dC, dI) vwCl (va_pl L G) H ∧ va_S (fun q => q ∈ L) s.heap H locs ∧ (∀ b, K b ∉ ([] : List Nat) → G b = F b)) (fun K9 => ?_) ?_
  · refine lv_iload_n hx hb dX6_isMode_0 rfl (lv_at hl 0 rfl) ?_
    refine lv_if_eq (tgt := 9) hx hb dX6_isMode_1 (by decide) (fun c1 => ?_) (fun c1 => ?_)
    · have c1 := (ax_eq (n := 0) (by decide)).mp c1
      exact K9 _ _ _ ⟨F, _, rfl, lv_sub hl [] rfl, hI, hP, hS, hfr⟩
    · have c1 := mt (ax_eq (n := 0) (by decide)).mpr c1
      refine lv_iload_n hx hb dX6_isMode_4 rfl (lv_at hl 0 rfl) ?_
      refine lv_iconst (v := 1) hx hb dX6_isMode_5 (by decide) ?_
      refine lv_icmp_ne (tgt := 13) hx hb dX6_isMode_6 (by decide) (fun c2 => ?_) (fun c2 => ?_)
      · have c2 := mt (ax_eq (n := 1) (by decide)).mpr c2
        refine lv_iconst (v := 0) hx hb dX6_isMode_13 (by decide) ?_
        exact W.zret (v := 0) (ty := .boolean) hx hb hr (by decide) (fun t ht hW => ⟨⟨0, F, rfl, ⟨(by decide), (fun q => absurd (by decide) q), hI, hfr⟩, by rw [ht]; exact hP, va_K.moved hW.alike hK⟩, hS.F ht⟩) hS.2.2 dX6_isMode_14
      · have c2 := (ax_eq (n := 1) (by decide)).mp c2
        exact K9 _ _ _ ⟨F, _, rfl, lv_sub hl [] rfl, hI, hP, hS, hfr⟩
  · intro g H locs hq
    obtain ⟨F9, ls, rfl, hl, hI, hP, hS, hfr⟩ := hq
    refine lv_iconst (v := 1) hx hb dX6_isMode_9 (by decide) ?_
    refine lv_goto (tgt := 14) hx hb dX6_isMode_10 (by decide) ?_
    exact W.zret (v := 1) (ty := .boolean) hx hb hr (by decide) (fun t ht hW => ⟨⟨1, F9, rfl, ⟨(by decide), (fun q => ⟨by omega, by omega⟩), hI, hfr⟩, by rw [ht]; exact hP, va_K.moved hW.alike hK⟩, hS.F ht⟩) hS.2.2 dX6_isMode_14

set_option maxHeartbeats 4000000 in
set_option maxRecDepth 100000 in
theorem s_X6_isOrder (l : Launch) (dC : Nat → ClassId) (dI : Nat → Nat → Nat) (sz : Nat) {L : List Nat} {K : Nat → Nat} {cs : Nat → ClassId} (hLK : ∀ a {k : Nat}, K a = k → k ≠ 0 → a ∈ L) (D : Nat) (F : Nat → va_E) (x0 : Int32)  (hI : s_I K cs D F) : Met l yX6_isOrder (Cond.code yX6_isOrder cX6_isOrder 1 (some .boolean) :: T0) ({ frames := 0, cells := 0, slots := 0, locals := 0 }) (va_Pc [.int x0] (s_W dC dI sz L F [(cs 0, .int), (cs 1, .byte), (cs 2, .long), (cs 3, .object RX5), (cs 4, .object RX4), (cs 5, .array .int), (cs 6, .char), (cs 7, .boolean)])) (va_Qi (fun (r : Int32) (G : Nat → va_E) => (0 ≤ r.toInt ∧ r.toInt ≤ 1) ∧ (¬ r = 0 → 0 ≤ x0.toInt ∧ x0.toInt ≤ 1) ∧ s_I K cs D G ∧ ∀ b, K b ∉ ([] : List Nat) → G b = F b) (fun (G : Nat → va_E) (t : State) => va_P (dC, dI) vwCl (va_pl L G) t.heap ∧ va_K (dC, dI) vwCl [(cs 0, .int), (cs 1, .byte), (cs 2, .long), (cs 3, .object RX5), (cs 4, .object RX4), (cs 5, .array .int), (cs 6, .char), (cs 7, .boolean)] t) (fun q => q ∈ L)) 0 0 (fun q => q ∈ L) := by
  refine Met.ofW (cc := cX6_isOrder) (maxL := 1) (ret := (some .boolean)) (by decide) rfl ?_
  intro p e s m args below meth c s₁ B hml hv
  obtain ⟨rfl, hsz, hP, hK, hD, hN⟩ := hv
  have hx := B.exec
  have hb := B.bytes
  have hr := B.returns
  have hts : ∀ w ∈ T0, w.before _ s = true := fun w h => atoms_spec (ws := Cond.code yX6_isOrder cX6_isOrder 1 (some .boolean) :: T0) B.pre w (List.mem_cons_of_mem _ h)
  have hown : s.vm.findClass RX6 = some m.cls := findClass_of_methodNamed B.named
  have hlocks := B.notSynchronized
  have hS : va_S (fun q => q ∈ L) s.heap s.heap [] := va_S.rf
  have hfr : ∀ b, K b ∉ ([] : List Nat) → F b = F b := fun _ _ => rfl
  have hl := lv_entry ([.int x0]) (n := 1) (Nat.le_of_ble_eq_true rfl)
  rw [lg_entry_eq]
  generalize (lg_sl ([.int x0]) ++ List.replicate (1 - (lg_sl ([.int x0])).length) Slot.unset).toArray = ls at hl ⊢
  have hl : lv_has ls 1 [(0, .int x0)] := hl
  refine s_gen hP hS (fun H locs hP hS => ?_)
  refine th_join (fun g H locs => ∃ (G : Nat → va_E) (ls : Array Slot), g = F0 m 9 ls [] ∧ lv_has ls 1 [] ∧ s_I K cs D G ∧ va_P (dC, dI) vwCl (va_pl L G) H ∧ va_S (fun q => q ∈ L) s.heap H locs ∧ (∀ b, K b ∉ ([] : List Nat) → G b = F b)) (fun K9 => ?_) ?_
  · refine lv_iload_n hx hb dX6_isOrder_0 rfl (lv_at hl 0 rfl) ?_
    refine lv_if_eq (tgt := 9) hx hb dX6_isOrder_1 (by decide) (fun c1 => ?_) (fun c1 => ?_)
    · have c1 := (ax_eq (n := 0) (by decide)).mp c1
      exact K9 _ _ _ ⟨F, _, rfl, lv_sub hl [] rfl, hI, hP, hS, hfr⟩
    · have c1 := mt (ax_eq (n := 0) (by decide)).mpr c1
      refine lv_iload_n hx hb dX6_isOrder_4 rfl (lv_at hl 0 rfl) ?_
      refine lv_iconst (v := 1) hx hb dX6_isOrder_5 (by decide) ?_
      refine lv_icmp_ne (tgt := 13) hx hb dX6_isOrder_6 (by decide) (fun c2 => ?_) (fun c2 => ?_)
      · have c2 := mt (ax_eq (n := 1) (by decide)).mpr c2
        refine lv_iconst (v := 0) hx hb dX6_isOrder_13 (by decide) ?_
        exact W.zret (v := 0) (ty := .boolean) hx hb hr (by decide) (fun t ht hW => ⟨⟨0, F, rfl, ⟨(by decide), (fun q => absurd (by decide) q), hI, hfr⟩, by rw [ht]; exact hP, va_K.moved hW.alike hK⟩, hS.F ht⟩) hS.2.2 dX6_isOrder_14
      · have c2 := (ax_eq (n := 1) (by decide)).mp c2
        exact K9 _ _ _ ⟨F, _, rfl, lv_sub hl [] rfl, hI, hP, hS, hfr⟩
  · intro g H locs hq
    obtain ⟨F9, ls, rfl, hl, hI, hP, hS, hfr⟩ := hq
    refine lv_iconst (v := 1) hx hb dX6_isOrder_9 (by decide) ?_
    refine lv_goto (tgt := 14) hx hb dX6_isOrder_10 (by decide) ?_
    exact W.zret (v := 1) (ty := .boolean) hx hb hr (by decide) (fun t ht hW => ⟨⟨1, F9, rfl, ⟨(by decide), (fun q => ⟨by omega, by omega⟩), hI, hfr⟩, by rw [ht]; exact hP, va_K.moved hW.alike hK⟩, hS.F ht⟩) hS.2.2 dX6_isOrder_14

