set_option maxHeartbeats 4000000 in
set_option maxRecDepth 100000 in
theorem s_X0_forgetAhead (l : Launch) (dC : Nat → ClassId) (dI : Nat → Nat → Nat) (sz : Nat) {L : List Nat} {K : Nat → Nat} {cs : Nat → ClassId} (hLK : ∀ a {k : Nat}, K a = k → k ≠ 0 → a ∈ L) (D : Nat) (F : Nat → va_E) (a0 : Nat) (ha0 : K a0 = 1) (hI : s_I K cs D F) : Met l yX0_forgetAhead (Cond.code yX0_forgetAhead cX0_forgetAhead 1 none :: T0) ({ frames := 0, cells := 0, slots := 0, locals := 0 }) (va_Pc [.ref a0] (s_W dC dI sz L F [(cs 0, .int), (cs 1, .byte), (cs 2, .long), (cs 3, .object RX5), (cs 4, .object RX4), (cs 5, .array .int), (cs 6, .char), (cs 7, .boolean)])) (va_Qv (fun (G : Nat → va_E) => True ∧ True ∧ s_I K cs D G ∧ ∀ b, K b ∉ [1] → G b = F b) (fun (G : Nat → va_E) (t : State) => va_P (dC, dI) vwCl (va_pl L G) t.heap ∧ va_K (dC, dI) vwCl [(cs 0, .int), (cs 1, .byte), (cs 2, .long), (cs 3, .object RX5), (cs 4, .object RX4), (cs 5, .array .int), (cs 6, .char), (cs 7, .boolean)] t) (fun q => q ∈ L)) 0 0 (fun q => q ∈ L) := by
  refine Met.ofW (cc := cX0_forgetAhead) (maxL := 1) (ret := none) (by decide) rfl ?_
  intro p e s m args below meth c s₁ B hml hv
  obtain ⟨rfl, hsz, hP, hK, hD, hN⟩ := hv
  have hx := B.exec
  have hb := B.bytes
  have hr := B.returns
  have hts : ∀ w ∈ T0, w.before _ s = true := fun w h => atoms_spec (ws := Cond.code yX0_forgetAhead cX0_forgetAhead 1 none :: T0) B.pre w (List.mem_cons_of_mem _ h)
  have hown : s.vm.findClass RX0 = some m.cls := findClass_of_methodNamed B.named
  have hlocks := B.notSynchronized
  have hS : va_S (fun q => q ∈ L) s.heap s.heap [] := va_S.rf
  have hfr : ∀ b, K b ∉ [1] → F b = F b := fun _ _ => rfl
  have hl := lv_entry ([.ref a0]) (n := 1) (Nat.le_of_ble_eq_true rfl)
  rw [lg_entry_eq]
  generalize (lg_sl ([.ref a0]) ++ List.replicate (1 - (lg_sl ([.ref a0])).length) Slot.unset).toArray = ls at hl ⊢
  have hl : lv_has ls 1 [(0, .ref a0)] := hl
  refine s_gen hP hS (fun H locs hP hS => ?_)
  refine lv_aload_n hx hb dX0_forgetAhead_0 rfl (lv_at hl 0 rfl) ?_
  refine lv_dup hx hb dX0_forgetAhead_1 rfl ?_
  obtain ⟨z1, z3, z5, z7, z9, z11, z12, z14, z15, z17, z18, z20, z22, z24, o27, h2, h4, h6, h8, h10, h13, h16, h19, h21, h23, h25, h26, -⟩ := s_op1 hI ha0
  refine th_get (D := (dC, dI)) (ci := 0) (v := .int z11) (C := RX0) (T := TX0) (N := 14) hx hb hts inX0 hown hK hP (hLK _ ha0 (by decide)) o27 rfl 5 (by decide) (hts _ T_155) (fun _ h9 => h9) rfl dX0_forgetAhead_2 ?_
  refine lv_ldc (v := (-65537)) hx hb hown (hts _ T_590) dX0_forgetAhead_5 ?_
  refine lv_iand hx hb dX0_forgetAhead_7 ?_
  refine lv_topi (fun v28 ev28 => ?_)
  refine th_put (D := (dC, dI)) (ci := 0) (v := .int v28) (ty := .int) (C := RX0) (T := TX0) (N := 14) hx hb hts inX0 tyX0 tyX0_ok nmX0 hown hK hP hD hS (hLK _ ha0 (by decide)) o27 rfl 5 (by decide) (hts _ T_155) (fun _ h9 => h9) rfl (by decide +kernel) rfl rfl (Nat.le_of_ble_eq_true rfl) dX0_forgetAhead_8 (fun H locs hP hS => ?_)
  have hP : va_P (dC, dI) vwCl (va_pl L (va_up F a0 (.inr (0, [.ref z1, .ref z3, .ref z5, .ref z7, .ref z9, .int v28, .ref z12, .long z14, .ref z15, .int z17, .ref z18, .int z20, .int z22, .int z24])))) H := hP
  obtain ⟨F29, hF30⟩ : ∃ G : Nat → va_E, G = va_up F a0 (.inr (0, [.ref z1, .ref z3, .ref z5, .ref z7, .ref z9, .int v28, .ref z12, .long z14, .ref z15, .int z17, .ref z18, .int z20, .int z22, .int z24])) := ⟨_, rfl⟩
  rw [← hF30] at hP
  have hI : s_I K cs D F29 := by rw [hF30]; exact s_cl1 hI ha0 ⟨z1, z3, z5, z7, z9, v28, z12, z14, z15, z17, z18, z20, z22, z24, rfl, h2, h4, h6, h8, h10, h13, h16, h19, ⟨by omega, by omega⟩, ⟨by omega, by omega⟩, ⟨by omega, by omega⟩, h26, trivial⟩
  have hfr : ∀ b, K b ∉ [1] → F29 b = F b := by rw [hF30]; exact s_fr hfr ha0 (by decide)
  have o31 : F29 a0 = .inr (0, [.ref z1, .ref z3, .ref z5, .ref z7, .ref z9, .int v28, .ref z12, .long z14, .ref z15, .int z17, .ref z18, .int z20, .int z22, .int z24]) := by rw [hF30]; exact th_up
  exact W.vret hx hb hr (fun t ht hW => ⟨⟨F29, rfl, ⟨trivial, trivial, hI, hfr⟩, by rw [ht]; exact hP, va_K.moved hW.alike hK⟩, hS.F ht⟩) hS.2.2 dX0_forgetAhead_11

set_option maxHeartbeats 4000000 in
set_option maxRecDepth 100000 in
theorem s_X0_tryBy (l : Launch) (dC : Nat → ClassId) (dI : Nat → Nat → Nat) (sz : Nat) {L : List Nat} {K : Nat → Nat} {cs : Nat → ClassId} (hLK : ∀ a {k : Nat}, K a = k → k ≠ 0 → a ∈ L) (D : Nat) (F : Nat → va_E) (a0 : Nat) (x1 : Int32) (x2 : Int32) (x3 : Int32) (ha0 : K a0 = 1) (hx1 : 0 ≤ x1.toInt ∧ x1.toInt ≤ 1) (hx2 : 0 ≤ x2.toInt ∧ x2.toInt ≤ 1) (hx3 : 0 ≤ x3.toInt ∧ x3.toInt ≤ 3) (hI : s_I K cs D F) : Met l yX0_tryBy (Cond.code yX0_tryBy cX0_tryBy 4 none :: T0) ({ frames := 0, cells := 0, slots := 0, locals := 0 }) (va_Pc [.ref a0, .int x1, .int x2, .int x3] (s_W dC dI sz L F [(cs 0, .int), (cs 1, .byte), (cs 2, .long), (cs 3, .object RX5), (cs 4, .object RX4), (cs 5, .array .int), (cs 6, .char), (cs 7, .boolean)])) (va_Qv (fun (G : Nat → va_E) => True ∧ True ∧ s_I K cs D G ∧ ∀ b, K b ∉ [1] → G b = F b) (fun (G : Nat → va_E) (t : State) => va_P (dC, dI) vwCl (va_pl L G) t.heap ∧ va_K (dC, dI) vwCl [(cs 0, .int), (cs 1, .byte), (cs 2, .long), (cs 3, .object RX5), (cs 4, .object RX4), (cs 5, .array .int), (cs 6, .char), (cs 7, .boolean)] t) (fun q => q ∈ L)) 0 0 (fun q => q ∈ L) := by
  refine Met.ofW (cc := cX0_tryBy) (maxL := 4) (ret := none) (by decide) rfl ?_
  intro p e s m args below meth c s₁ B hml hv
  obtain ⟨rfl, hsz, hP, hK, hD, hN⟩ := hv
  have hx := B.exec
  have hb := B.bytes
  have hr := B.returns
  have hts : ∀ w ∈ T0, w.before _ s = true := fun w h => atoms_spec (ws := Cond.code yX0_tryBy cX0_tryBy 4 none :: T0) B.pre w (List.mem_cons_of_mem _ h)
  have hown : s.vm.findClass RX0 = some m.cls := findClass_of_methodNamed B.named
  have hlocks := B.notSynchronized
  have hS : va_S (fun q => q ∈ L) s.heap s.heap [] := va_S.rf
  have hfr : ∀ b, K b ∉ [1] → F b = F b := fun _ _ => rfl
  have hl := lv_entry ([.ref a0, .int x1, .int x2, .int x3]) (n := 4) (Nat.le_of_ble_eq_true rfl)
  rw [lg_entry_eq]
  generalize (lg_sl ([.ref a0, .int x1, .int x2, .int x3]) ++ List.replicate (4 - (lg_sl ([.ref a0, .int x1, .int x2, .int x3])).length) Slot.unset).toArray = ls at hl ⊢
  have hl : lv_has ls 4 [(0, .ref a0), (1, .int x1), (2, .int x2), (3, .int x3)] := hl
  refine s_gen hP hS (fun H locs hP hS => ?_)
  refine th_join (fun g H locs => ∃ (G : Nat → va_E) (ls : Array Slot), g = F0 m 24 ls [] ∧ lv_has ls 4 [(0, .ref a0), (1, .int x1), (2, .int x2), (3, .int x3)] ∧ s_I K cs D G ∧ va_P (dC, dI) vwCl (va_pl L G) H ∧ va_S (fun q => q ∈ L) s.heap H locs ∧ (∀ b, K b ∉ [1] → G b = F b) ∧ (0 ≤ x1.toInt ∧ x1.toInt ≤ 1) ∧ (0 ≤ x2.toInt ∧ x2.toInt ≤ 1) ∧ (0 ≤ x3.toInt ∧ x3.toInt ≤ 3)) (fun K24 => ?_) ?_
  · refine lv_aload_n hx hb dX0_tryBy_0 rfl (lv_at hl 0 rfl) ?_
    obtain ⟨z1, z3, z5, z7, z9, z11, z12, z14, z15, z17, z18, z20, z22, z24, o27, h2, h4, h6, h8, h10, h13, h16, h19, h21, h23, h25, h26, -⟩ := s_op1 hI ha0
    refine th_get (D := (dC, dI)) (ci := 0) (v := .int z20) (C := RX0) (T := TX0) (N := 14) hx hb hts inX0 hown hK hP (hLK _ ha0 (by decide)) o27 rfl 11 (by decide) (hts _ T_591) (fun _ h9 => h9) rfl dX0_tryBy_1 ?_
    refine lv_iload_n hx hb dX0_tryBy_4 rfl (lv_at hl 1 rfl) ?_
    refine lv_icmp_ne (tgt := 24) hx hb dX0_tryBy_5 (by decide) (fun c28 => ?_) (fun c28 => ?_)
    · have c28 := mt Int32.toInt_inj.symm.mpr c28
      exact K24 _ _ _ ⟨F, _, rfl, lv_sub hl [0, 1, 2, 3] rfl, hI, hP, hS, hfr, ⟨by omega, by omega⟩, ⟨by omega, by omega⟩, ⟨by omega, by omega⟩⟩
    · have c28 := Int32.toInt_inj.symm.mp c28
      refine lv_aload_n hx hb dX0_tryBy_8 rfl (lv_at hl 0 rfl) ?_
      refine th_get (D := (dC, dI)) (ci := 0) (v := .int z22) (C := RX0) (T := TX0) (N := 14) hx hb hts inX0 hown hK hP (hLK _ ha0 (by decide)) o27 rfl 12 (by decide) (hts _ T_592) (fun _ h9 => h9) rfl dX0_tryBy_9 ?_
      refine lv_iload_n hx hb dX0_tryBy_12 rfl (lv_at hl 2 rfl) ?_
      refine lv_icmp_ne (tgt := 24) hx hb dX0_tryBy_13 (by decide) (fun c29 => ?_) (fun c29 => ?_)
      · have c29 := mt Int32.toInt_inj.symm.mpr c29
        exact K24 _ _ _ ⟨F, _, rfl, lv_sub hl [0, 1, 2, 3] rfl, hI, hP, hS, hfr, ⟨by omega, by omega⟩, ⟨by omega, by omega⟩, ⟨by omega, by omega⟩⟩
      · have c29 := Int32.toInt_inj.symm.mp c29
        refine lv_aload_n hx hb dX0_tryBy_16 rfl (lv_at hl 0 rfl) ?_
        refine th_get (D := (dC, dI)) (ci := 0) (v := .int z24) (C := RX0) (T := TX0) (N := 14) hx hb hts inX0 hown hK hP (hLK _ ha0 (by decide)) o27 rfl 13 (by decide) (hts _ T_593) (fun _ h9 => h9) rfl dX0_tryBy_17 ?_
        refine lv_iload_n hx hb dX0_tryBy_20 rfl (lv_at hl 3 rfl) ?_
        refine lv_icmp_eq (tgt := 49) hx hb dX0_tryBy_21 (by decide) (fun c30 => ?_) (fun c30 => ?_)
        · have c30 := Int32.toInt_inj.symm.mp c30
          exact W.vret hx hb hr (fun t ht hW => ⟨⟨F, rfl, ⟨trivial, trivial, hI, hfr⟩, by rw [ht]; exact hP, va_K.moved hW.alike hK⟩, hS.F ht⟩) hS.2.2 dX0_tryBy_49
        · have c30 := mt Int32.toInt_inj.symm.mpr c30
          exact K24 _ _ _ ⟨F, _, rfl, lv_sub hl [0, 1, 2, 3] rfl, hI, hP, hS, hfr, ⟨by omega, by omega⟩, ⟨by omega, by omega⟩, ⟨by omega, by omega⟩⟩
  · intro g H locs hq
    obtain ⟨F9, ls, rfl, hl, hI, hP, hS, hfr, h31, h32, h33⟩ := hq
    refine lv_aload_n hx hb dX0_tryBy_24 rfl (lv_at hl 0 rfl) ?_
    refine lv_iload_n hx hb dX0_tryBy_25 rfl (lv_at hl 1 rfl) ?_
    obtain ⟨z34, z36, z38, z40, z42, z44, z45, z47, z48, z50, z51, z53, z55, z57, o60, h35, h37, h39, h41, h43, h46, h49, h52, h54, h56, h58, h59, -⟩ := s_op1 hI ha0
    refine th_put (D := (dC, dI)) (ci := 0) (v := .int x1) (ty := .int) (C := RX0) (T := TX0) (N := 14) hx hb hts inX0 tyX0 tyX0_ok nmX0 hown hK hP hD hS (hLK _ ha0 (by decide)) o60 rfl 11 (by decide) (hts _ T_591) (fun _ h9 => h9) rfl (by decide +kernel) rfl rfl (Nat.le_of_ble_eq_true rfl) dX0_tryBy_26 (fun H locs hP hS => ?_)
    have hP : va_P (dC, dI) vwCl (va_pl L (va_up F9 a0 (.inr (0, [.ref z34, .ref z36, .ref z38, .ref z40, .ref z42, .int z44, .ref z45, .long z47, .ref z48, .int z50, .ref z51, .int x1, .int z55, .int z57])))) H := hP
    obtain ⟨F61, hF62⟩ : ∃ G : Nat → va_E, G = va_up F9 a0 (.inr (0, [.ref z34, .ref z36, .ref z38, .ref z40, .ref z42, .int z44, .ref z45, .long z47, .ref z48, .int z50, .ref z51, .int x1, .int z55, .int z57])) := ⟨_, rfl⟩
    rw [← hF62] at hP
    have hI : s_I K cs D F61 := by rw [hF62]; exact s_cl1 hI ha0 ⟨z34, z36, z38, z40, z42, z44, z45, z47, z48, z50, z51, x1, z55, z57, rfl, h35, h37, h39, h41, h43, h46, h49, h52, ⟨by omega, by omega⟩, ⟨by omega, by omega⟩, ⟨by omega, by omega⟩, h59, trivial⟩
    have hfr : ∀ b, K b ∉ [1] → F61 b = F b := by rw [hF62]; exact s_fr hfr ha0 (by decide)
    have o63 : F61 a0 = .inr (0, [.ref z34, .ref z36, .ref z38, .ref z40, .ref z42, .int z44, .ref z45, .long z47, .ref z48, .int z50, .ref z51, .int x1, .int z55, .int z57]) := by rw [hF62]; exact th_up
    refine lv_aload_n hx hb dX0_tryBy_29 rfl (lv_at hl 0 rfl) ?_
    refine lv_iload_n hx hb dX0_tryBy_30 rfl (lv_at hl 2 rfl) ?_
    refine th_put (D := (dC, dI)) (ci := 0) (v := .int x2) (ty := .int) (C := RX0) (T := TX0) (N := 14) hx hb hts inX0 tyX0 tyX0_ok nmX0 hown hK hP hD hS (hLK _ ha0 (by decide)) o63 rfl 12 (by decide) (hts _ T_592) (fun _ h9 => h9) rfl (by decide +kernel) rfl rfl (Nat.le_of_ble_eq_true rfl) dX0_tryBy_31 (fun H locs hP hS => ?_)
    have hP : va_P (dC, dI) vwCl (va_pl L (va_up F61 a0 (.inr (0, [.ref z34, .ref z36, .ref z38, .ref z40, .ref z42, .int z44, .ref z45, .long z47, .ref z48, .int z50, .ref z51, .int x1, .int x2, .int z57])))) H := hP
    obtain ⟨F64, hF65⟩ : ∃ G : Nat → va_E, G = va_up F61 a0 (.inr (0, [.ref z34, .ref z36, .ref z38, .ref z40, .ref z42, .int z44, .ref z45, .long z47, .ref z48, .int z50, .ref z51, .int x1, .int x2, .int z57])) := ⟨_, rfl⟩
    rw [← hF65] at hP
    have hI : s_I K cs D F64 := by rw [hF65]; exact s_cl1 hI ha0 ⟨z34, z36, z38, z40, z42, z44, z45, z47, z48, z50, z51, x1, x2, z57, rfl, h35, h37, h39, h41, h43, h46, h49, h52, ⟨by omega, by omega⟩, ⟨by omega, by omega⟩, ⟨by omega, by omega⟩, h59, trivial⟩
    have hfr : ∀ b, K b ∉ [1] → F64 b = F b := by rw [hF65]; exact s_fr hfr ha0 (by decide)
    have o66 : F64 a0 = .inr (0, [.ref z34, .ref z36, .ref z38, .ref z40, .ref z42, .int z44, .ref z45, .long z47, .ref z48, .int z50, .ref z51, .int x1, .int x2, .int z57]) := by rw [hF65]; exact th_up
    refine lv_aload_n hx hb dX0_tryBy_34 rfl (lv_at hl 0 rfl) ?_
    refine lv_iload_n hx hb dX0_tryBy_35 rfl (lv_at hl 3 rfl) ?_
    refine th_put (D := (dC, dI)) (ci := 0) (v := .int x3) (ty := .int) (C := RX0) (T := TX0) (N := 14) hx hb hts inX0 tyX0 tyX0_ok nmX0 hown hK hP hD hS (hLK _ ha0 (by decide)) o66 rfl 13 (by decide) (hts _ T_593) (fun _ h9 => h9) rfl (by decide +kernel) rfl rfl (Nat.le_of_ble_eq_true rfl) dX0_tryBy_36 (fun H locs hP hS => ?_)
    have hP : va_P (dC, dI) vwCl (va_pl L (va_up F64 a0 (.inr (0, [.ref z34, .ref z36, .ref z38, .ref z40, .ref z42, .int z44, .ref z45, .long z47, .ref z48, .int z50, .ref z51, .int x1, .int x2, .int x3])))) H := hP
    obtain ⟨F67, hF68⟩ : ∃ G : Nat → va_E, G = va_up F64 a0 (.inr (0, [.ref z34, .ref z36, .ref z38, .ref z40, .ref z42, .int z44, .ref z45, .long z47, .ref z48, .int z50, .ref z51, .int x1, .int x2, .int x3])) := ⟨_, rfl⟩
    rw [← hF68] at hP
    have hI : s_I K cs D F67 := by rw [hF68]; exact s_cl1 hI ha0 ⟨z34, z36, z38, z40, z42, z44, z45, z47, z48, z50, z51, x1, x2, x3, rfl, h35, h37, h39, h41, h43, h46, h49, h52, ⟨by omega, by omega⟩, ⟨by omega, by omega⟩, ⟨by omega, by omega⟩, h59, trivial⟩
    have hfr : ∀ b, K b ∉ [1] → F67 b = F b := by rw [hF68]; exact s_fr hfr ha0 (by decide)
    have o69 : F67 a0 = .inr (0, [.ref z34, .ref z36, .ref z38, .ref z40, .ref z42, .int z44, .ref z45, .long z47, .ref z48, .int z50, .ref z51, .int x1, .int x2, .int x3]) := by rw [hF68]; exact th_up
    refine lv_aload_n hx hb dX0_tryBy_39 rfl (lv_at hl 0 rfl) ?_
    refine lv_lconst (v := 0) hx hb dX0_tryBy_40 (by decide) ?_
    refine th_put (D := (dC, dI)) (ci := 0) (v := .long 0) (ty := .long) (C := RX0) (T := TX0) (N := 14) hx hb hts inX0 tyX0 tyX0_ok nmX0 hown hK hP hD hS (hLK _ ha0 (by decide)) o69 rfl 7 (by decide) (hts _ T_156) (fun _ h9 => h9) rfl (by decide +kernel) rfl rfl (Nat.le_of_ble_eq_true rfl) dX0_tryBy_41 (fun H locs hP hS => ?_)
    have hP : va_P (dC, dI) vwCl (va_pl L (va_up F67 a0 (.inr (0, [.ref z34, .ref z36, .ref z38, .ref z40, .ref z42, .int z44, .ref z45, .long 0, .ref z48, .int z50, .ref z51, .int x1, .int x2, .int x3])))) H := hP
    obtain ⟨F70, hF71⟩ : ∃ G : Nat → va_E, G = va_up F67 a0 (.inr (0, [.ref z34, .ref z36, .ref z38, .ref z40, .ref z42, .int z44, .ref z45, .long 0, .ref z48, .int z50, .ref z51, .int x1, .int x2, .int x3])) := ⟨_, rfl⟩
    rw [← hF71] at hP
    have hI : s_I K cs D F70 := by rw [hF71]; exact s_cl1 hI ha0 ⟨z34, z36, z38, z40, z42, z44, z45, 0, z48, z50, z51, x1, x2, x3, rfl, h35, h37, h39, h41, h43, h46, h49, h52, ⟨by omega, by omega⟩, ⟨by omega, by omega⟩, ⟨by omega, by omega⟩, h59, trivial⟩
    have hfr : ∀ b, K b ∉ [1] → F70 b = F b := by rw [hF71]; exact s_fr hfr ha0 (by decide)
    have o72 : F70 a0 = .inr (0, [.ref z34, .ref z36, .ref z38, .ref z40, .ref z42, .int z44, .ref z45, .long 0, .ref z48, .int z50, .ref z51, .int x1, .int x2, .int x3]) := by rw [hF71]; exact th_up
    refine lv_aload_n hx hb dX0_tryBy_44 rfl (lv_at hl 0 rfl) ?_
    refine lv_iconst (v := 0) hx hb dX0_tryBy_45 (by decide) ?_
    refine th_put (D := (dC, dI)) (ci := 0) (v := .int 0) (ty := .int) (C := RX0) (T := TX0) (N := 14) hx hb hts inX0 tyX0 tyX0_ok nmX0 hown hK hP hD hS (hLK _ ha0 (by decide)) o72 rfl 9 (by decide) (hts _ T_157) (fun _ h9 => h9) rfl (by decide +kernel) rfl rfl (Nat.le_of_ble_eq_true rfl) dX0_tryBy_46 (fun H locs hP hS => ?_)
    have hP : va_P (dC, dI) vwCl (va_pl L (va_up F70 a0 (.inr (0, [.ref z34, .ref z36, .ref z38, .ref z40, .ref z42, .int z44, .ref z45, .long 0, .ref z48, .int 0, .ref z51, .int x1, .int x2, .int x3])))) H := hP
    obtain ⟨F73, hF74⟩ : ∃ G : Nat → va_E, G = va_up F70 a0 (.inr (0, [.ref z34, .ref z36, .ref z38, .ref z40, .ref z42, .int z44, .ref z45, .long 0, .ref z48, .int 0, .ref z51, .int x1, .int x2, .int x3])) := ⟨_, rfl⟩
    rw [← hF74] at hP
    have hI : s_I K cs D F73 := by rw [hF74]; exact s_cl1 hI ha0 ⟨z34, z36, z38, z40, z42, z44, z45, 0, z48, 0, z51, x1, x2, x3, rfl, h35, h37, h39, h41, h43, h46, h49, h52, ⟨by omega, by omega⟩, ⟨by omega, by omega⟩, ⟨by omega, by omega⟩, h59, trivial⟩
    have hfr : ∀ b, K b ∉ [1] → F73 b = F b := by rw [hF74]; exact s_fr hfr ha0 (by decide)
    have o75 : F73 a0 = .inr (0, [.ref z34, .ref z36, .ref z38, .ref z40, .ref z42, .int z44, .ref z45, .long 0, .ref z48, .int 0, .ref z51, .int x1, .int x2, .int x3]) := by rw [hF74]; exact th_up
    exact W.vret hx hb hr (fun t ht hW => ⟨⟨F73, rfl, ⟨trivial, trivial, hI, hfr⟩, by rw [ht]; exact hP, va_K.moved hW.alike hK⟩, hS.F ht⟩) hS.2.2 dX0_tryBy_49

set_option maxHeartbeats 4000000 in
set_option maxRecDepth 100000 in
theorem s_X0_take (l : Launch) (dC : Nat → ClassId) (dI : Nat → Nat → Nat) (sz : Nat) {L : List Nat} {K : Nat → Nat} {cs : Nat → ClassId} (hLK : ∀ a {k : Nat}, K a = k → k ≠ 0 → a ∈ L) (D : Nat) (F : Nat → va_E) (a0 : Nat) (a1 : Nat) (ha0 : K a0 = 1) (ha1 : K a1 = 3) (hI : s_I K cs D F) : Met l yX0_take (Cond.code yX0_take cX0_take 2 none :: T0) ({ frames := 1, cells := 0, slots := 0, locals := 21 }) (va_Pc [.ref a0, .ref a1] (s_W dC dI sz L F [(cs 0, .int), (cs 1, .byte), (cs 2, .long), (cs 3, .object RX5), (cs 4, .object RX4), (cs 5, .array .int), (cs 6, .char), (cs 7, .boolean)])) (va_Qv (fun (G : Nat → va_E) => True ∧ True ∧ s_I K cs D G ∧ ∀ b, K b ∉ [1, 2] → G b = F b) (fun (G : Nat → va_E) (t : State) => va_P (dC, dI) vwCl (va_pl L G) t.heap ∧ va_K (dC, dI) vwCl [(cs 0, .int), (cs 1, .byte), (cs 2, .long), (cs 3, .object RX5), (cs 4, .object RX4), (cs 5, .array .int), (cs 6, .char), (cs 7, .boolean)] t) (fun q => q ∈ L)) 0 0 (fun q => q ∈ L) := by
  refine Met.ofW (cc := cX0_take) (maxL := 2) (ret := none) (by decide) rfl ?_
  intro p e s m args below meth c s₁ B hml hv
  obtain ⟨rfl, hsz, hP, hK, hD, hN⟩ := hv
  have hx := B.exec
  have hb := B.bytes
  have hr := B.returns
  have hts : ∀ w ∈ T0, w.before _ s = true := fun w h => atoms_spec (ws := Cond.code yX0_take cX0_take 2 none :: T0) B.pre w (List.mem_cons_of_mem _ h)
  have hown : s.vm.findClass RX0 = some m.cls := findClass_of_methodNamed B.named
  have hlocks := B.notSynchronized
  have hS : va_S (fun q => q ∈ L) s.heap s.heap [] := va_S.rf
  have hfr : ∀ b, K b ∉ [1, 2] → F b = F b := fun _ _ => rfl
  have hl := lv_entry ([.ref a0, .ref a1]) (n := 2) (Nat.le_of_ble_eq_true rfl)
  rw [lg_entry_eq]
  generalize (lg_sl ([.ref a0, .ref a1]) ++ List.replicate (2 - (lg_sl ([.ref a0, .ref a1])).length) Slot.unset).toArray = ls at hl ⊢
  have hl : lv_has ls 2 [(0, .ref a0), (1, .ref a1)] := hl
  refine s_gen hP hS (fun H locs hP hS => ?_)
  refine lv_aload_n hx hb dX0_take_0 rfl (lv_at hl 0 rfl) ?_
  refine lv_aload_n hx hb dX0_take_1 rfl (lv_at hl 1 rfl) ?_
  obtain ⟨z1, z3, z5, z7, z9, z11, z12, z14, z15, z17, z18, z20, z22, z24, o27, h2, h4, h6, h8, h10, h13, h16, h19, h21, h23, h25, h26, -⟩ := s_op1 hI ha0
  refine th_put (D := (dC, dI)) (ci := 0) (v := .ref a1) (ty := .object "LaneWarps$Program") (C := RX0) (T := TX0) (N := 14) hx hb hts inX0 tyX0 tyX0_ok nmX0 hown hK hP hD hS (hLK _ ha0 (by decide)) o27 rfl 10 (by decide) (hts _ T_151) (fun _ h9 => h9) rfl (by decide +kernel) rfl rfl (Nat.le_of_ble_eq_true rfl) dX0_take_2 (fun H locs hP hS => ?_)
  have hP : va_P (dC, dI) vwCl (va_pl L (va_up F a0 (.inr (0, [.ref z1, .ref z3, .ref z5, .ref z7, .ref z9, .int z11, .ref z12, .long z14, .ref z15, .int z17, .ref a1, .int z20, .int z22, .int z24])))) H := hP
  obtain ⟨F28, hF29⟩ : ∃ G : Nat → va_E, G = va_up F a0 (.inr (0, [.ref z1, .ref z3, .ref z5, .ref z7, .ref z9, .int z11, .ref z12, .long z14, .ref z15, .int z17, .ref a1, .int z20, .int z22, .int z24])) := ⟨_, rfl⟩
  rw [← hF29] at hP
  have hI : s_I K cs D F28 := by rw [hF29]; exact s_cl1 hI ha0 ⟨z1, z3, z5, z7, z9, z11, z12, z14, z15, z17, a1, z20, z22, z24, rfl, h2, h4, h6, h8, h10, h13, h16, ha1, ⟨by omega, by omega⟩, ⟨by omega, by omega⟩, ⟨by omega, by omega⟩, h26, trivial⟩
  have hfr : ∀ b, K b ∉ [1, 2] → F28 b = F b := by rw [hF29]; exact s_fr hfr ha0 (by decide)
  have o30 : F28 a0 = .inr (0, [.ref z1, .ref z3, .ref z5, .ref z7, .ref z9, .int z11, .ref z12, .long z14, .ref z15, .int z17, .ref a1, .int z20, .int z22, .int z24]) := by rw [hF29]; exact th_up
  refine lv_aload_n hx hb dX0_take_5 rfl (lv_at hl 0 rfl) ?_
  refine th_get (D := (dC, dI)) (ci := 0) (v := .ref z1) (C := RX0) (T := TX0) (N := 14) hx hb hts inX0 hown hK hP (hLK _ ha0 (by decide)) o30 rfl 0 (by decide) (hts _ T_139) (fun _ h9 => h9) rfl dX0_take_6 ?_
  refine lv_aload_n hx hb dX0_take_9 rfl (lv_at hl 1 rfl) ?_
  obtain ⟨z31, z33, z35, z37, z39, z41, z42, z44, z45, z46, z48, z49, o50, h32, h34, h36, h38, h40, h43, h47, -⟩ := s_op2 hI h2
  refine va_callv (va_runV (As := [.ref a1]) (rest := []) ⟨hx, hb, hml, hown, hts⟩ (s_X1_take l dC dI H.size hLK D F28 z1 a1 h2 ha1 hI) (cwV 1 hts (ax_gV T_152 T_153 T_154 T_137 T_4) rfl rfl rfl (by decide +kernel) ⟨Nat.le_of_ble_eq_true rfl, Nat.le_of_ble_eq_true rfl⟩) ⟨fun a U g mk q => ⟨q.1, s_pc (U := U) rfl rfl q.2⟩, s_recv hK hP (hLK _ h2 (by decide)) (ci := 1) rfl o50, fun U hU hW => ⟨rfl, s_pw hU hW hP hK hD hN⟩⟩ rfl rfl hl.1 rfl (lv_room (Nat.le_of_ble_eq_true rfl)) dX0_take_10 ⟨Nat.zero_le _, Nat.zero_le _⟩) hS (fun q _ h => h) (fun q h => h) (fun F51 t H1 locs ht hvm hw hB hz1 hk1 hS => ?_)
  obtain ⟨hP, hK1⟩ := hB
  rw [ht] at hP
  generalize H1 = H at hP hS ⊢
  clear hz1 hk1
  obtain ⟨h52, h53, hI, hfr1⟩ := hw
  have o54 : F51 a0 = .inr (0, [.ref z1, .ref z3, .ref z5, .ref z7, .ref z9, .int z11, .ref z12, .long z14, .ref z15, .int z17, .ref a1, .int z20, .int z22, .int z24]) := (hfr1 _ (by rw [ha0]; decide)).trans o30
  have hfr : ∀ b, K b ∉ [1, 2] → F51 b = F b := fun b hb9 => (hfr1 b (fun q => hb9 (s_sub (by decide) q))).trans (hfr b hb9)
  refine lv_aload_n hx hb dX0_take_13 rfl (lv_at hl 0 rfl) ?_
  refine lv_iconst (v := 0) hx hb dX0_take_14 (by decide) ?_
  refine th_put (D := (dC, dI)) (ci := 0) (v := .int 0) (ty := .int) (C := RX0) (T := TX0) (N := 14) hx hb hts inX0 tyX0 tyX0_ok nmX0 hown hK hP hD hS (hLK _ ha0 (by decide)) o54 rfl 5 (by decide) (hts _ T_155) (fun _ h9 => h9) rfl (by decide +kernel) rfl rfl (Nat.le_of_ble_eq_true rfl) dX0_take_15 (fun H locs hP hS => ?_)
  have hP : va_P (dC, dI) vwCl (va_pl L (va_up F51 a0 (.inr (0, [.ref z1, .ref z3, .ref z5, .ref z7, .ref z9, .int 0, .ref z12, .long z14, .ref z15, .int z17, .ref a1, .int z20, .int z22, .int z24])))) H := hP
  obtain ⟨F55, hF56⟩ : ∃ G : Nat → va_E, G = va_up F51 a0 (.inr (0, [.ref z1, .ref z3, .ref z5, .ref z7, .ref z9, .int 0, .ref z12, .long z14, .ref z15, .int z17, .ref a1, .int z20, .int z22, .int z24])) := ⟨_, rfl⟩
  rw [← hF56] at hP
  have hI : s_I K cs D F55 := by rw [hF56]; exact s_cl1 hI ha0 ⟨z1, z3, z5, z7, z9, 0, z12, z14, z15, z17, a1, z20, z22, z24, rfl, h2, h4, h6, h8, h10, h13, h16, ha1, ⟨by omega, by omega⟩, ⟨by omega, by omega⟩, ⟨by omega, by omega⟩, h26, trivial⟩
  have hfr : ∀ b, K b ∉ [1, 2] → F55 b = F b := by rw [hF56]; exact s_fr hfr ha0 (by decide)
  have o57 : F55 a0 = .inr (0, [.ref z1, .ref z3, .ref z5, .ref z7, .ref z9, .int 0, .ref z12, .long z14, .ref z15, .int z17, .ref a1, .int z20, .int z22, .int z24]) := by rw [hF56]; exact th_up
  refine lv_aload_n hx hb dX0_take_18 rfl (lv_at hl 0 rfl) ?_
  refine lv_lconst (v := 0) hx hb dX0_take_19 (by decide) ?_
  refine th_put (D := (dC, dI)) (ci := 0) (v := .long 0) (ty := .long) (C := RX0) (T := TX0) (N := 14) hx hb hts inX0 tyX0 tyX0_ok nmX0 hown hK hP hD hS (hLK _ ha0 (by decide)) o57 rfl 7 (by decide) (hts _ T_156) (fun _ h9 => h9) rfl (by decide +kernel) rfl rfl (Nat.le_of_ble_eq_true rfl) dX0_take_20 (fun H locs hP hS => ?_)
  have hP : va_P (dC, dI) vwCl (va_pl L (va_up F55 a0 (.inr (0, [.ref z1, .ref z3, .ref z5, .ref z7, .ref z9, .int 0, .ref z12, .long 0, .ref z15, .int z17, .ref a1, .int z20, .int z22, .int z24])))) H := hP
  obtain ⟨F58, hF59⟩ : ∃ G : Nat → va_E, G = va_up F55 a0 (.inr (0, [.ref z1, .ref z3, .ref z5, .ref z7, .ref z9, .int 0, .ref z12, .long 0, .ref z15, .int z17, .ref a1, .int z20, .int z22, .int z24])) := ⟨_, rfl⟩
  rw [← hF59] at hP
  have hI : s_I K cs D F58 := by rw [hF59]; exact s_cl1 hI ha0 ⟨z1, z3, z5, z7, z9, 0, z12, 0, z15, z17, a1, z20, z22, z24, rfl, h2, h4, h6, h8, h10, h13, h16, ha1, ⟨by omega, by omega⟩, ⟨by omega, by omega⟩, ⟨by omega, by omega⟩, h26, trivial⟩
  have hfr : ∀ b, K b ∉ [1, 2] → F58 b = F b := by rw [hF59]; exact s_fr hfr ha0 (by decide)
  have o60 : F58 a0 = .inr (0, [.ref z1, .ref z3, .ref z5, .ref z7, .ref z9, .int 0, .ref z12, .long 0, .ref z15, .int z17, .ref a1, .int z20, .int z22, .int z24]) := by rw [hF59]; exact th_up
  refine lv_aload_n hx hb dX0_take_23 rfl (lv_at hl 0 rfl) ?_
  refine lv_iconst (v := 0) hx hb dX0_take_24 (by decide) ?_
  refine th_put (D := (dC, dI)) (ci := 0) (v := .int 0) (ty := .int) (C := RX0) (T := TX0) (N := 14) hx hb hts inX0 tyX0 tyX0_ok nmX0 hown hK hP hD hS (hLK _ ha0 (by decide)) o60 rfl 9 (by decide) (hts _ T_157) (fun _ h9 => h9) rfl (by decide +kernel) rfl rfl (Nat.le_of_ble_eq_true rfl) dX0_take_25 (fun H locs hP hS => ?_)
  have hP : va_P (dC, dI) vwCl (va_pl L (va_up F58 a0 (.inr (0, [.ref z1, .ref z3, .ref z5, .ref z7, .ref z9, .int 0, .ref z12, .long 0, .ref z15, .int 0, .ref a1, .int z20, .int z22, .int z24])))) H := hP
  obtain ⟨F61, hF62⟩ : ∃ G : Nat → va_E, G = va_up F58 a0 (.inr (0, [.ref z1, .ref z3, .ref z5, .ref z7, .ref z9, .int 0, .ref z12, .long 0, .ref z15, .int 0, .ref a1, .int z20, .int z22, .int z24])) := ⟨_, rfl⟩
  rw [← hF62] at hP
  have hI : s_I K cs D F61 := by rw [hF62]; exact s_cl1 hI ha0 ⟨z1, z3, z5, z7, z9, 0, z12, 0, z15, 0, a1, z20, z22, z24, rfl, h2, h4, h6, h8, h10, h13, h16, ha1, ⟨by omega, by omega⟩, ⟨by omega, by omega⟩, ⟨by omega, by omega⟩, h26, trivial⟩
  have hfr : ∀ b, K b ∉ [1, 2] → F61 b = F b := by rw [hF62]; exact s_fr hfr ha0 (by decide)
  have o63 : F61 a0 = .inr (0, [.ref z1, .ref z3, .ref z5, .ref z7, .ref z9, .int 0, .ref z12, .long 0, .ref z15, .int 0, .ref a1, .int z20, .int z22, .int z24]) := by rw [hF62]; exact th_up
  exact W.vret hx hb hr (fun t ht hW => ⟨⟨F61, rfl, ⟨trivial, trivial, hI, hfr⟩, by rw [ht]; exact hP, va_K.moved hW.alike hK⟩, hS.F ht⟩) hS.2.2 dX0_take_28

set_option maxHeartbeats 4000000 in
set_option maxRecDepth 100000 in
theorem s_X0_cyclesWith (l : Launch) (dC : Nat → ClassId) (dI : Nat → Nat → Nat) (sz : Nat) {L : List Nat} {K : Nat → Nat} {cs : Nat → ClassId} (hLK : ∀ a {k : Nat}, K a = k → k ≠ 0 → a ∈ L) (D : Nat) (F : Nat → va_E) (a0 : Nat) (x1 : Int32) (x2 : Int32) (ha0 : K a0 = 1) (hx1 : 0 ≤ x1.toInt ∧ x1.toInt ≤ 63) (hx2 : 0 ≤ x2.toInt ∧ x2.toInt ≤ 15) (hI : s_I K cs D F) : Met l yX0_cyclesWith (Cond.code yX0_cyclesWith cX0_cyclesWith 3 (some .int) :: T0) ({ frames := 0, cells := 0, slots := 0, locals := 0 }) (va_Pc [.ref a0, .int x1, .int x2] (s_W dC dI sz L F [(cs 0, .int), (cs 1, .byte), (cs 2, .long), (cs 3, .object RX5), (cs 4, .object RX4), (cs 5, .array .int), (cs 6, .char), (cs 7, .boolean)])) (va_Qi (fun (r : Int32) (G : Nat → va_E) => True ∧ True ∧ s_I K cs D G ∧ ∀ b, K b ∉ ([] : List Nat) → G b = F b) (fun (G : Nat → va_E) (t : State) => va_P (dC, dI) vwCl (va_pl L G) t.heap ∧ va_K (dC, dI) vwCl [(cs 0, .int), (cs 1, .byte), (cs 2, .long), (cs 3, .object RX5), (cs 4, .object RX4), (cs 5, .array .int), (cs 6, .char), (cs 7, .boolean)] t) (fun q => q ∈ L)) 0 0 (fun q => q ∈ L) := by
  refine Met.ofW (cc := cX0_cyclesWith) (maxL := 3) (ret := (some .int)) (by decide) rfl ?_
  intro p e s m args below meth c s₁ B hml hv
  obtain ⟨rfl, hsz, hP, hK, hD, hN⟩ := hv
  have hx := B.exec
  have hb := B.bytes
  have hr := B.returns
  have hts : ∀ w ∈ T0, w.before _ s = true := fun w h => atoms_spec (ws := Cond.code yX0_cyclesWith cX0_cyclesWith 3 (some .int) :: T0) B.pre w (List.mem_cons_of_mem _ h)
  have hown : s.vm.findClass RX0 = some m.cls := findClass_of_methodNamed B.named
  have hlocks := B.notSynchronized
  have hS : va_S (fun q => q ∈ L) s.heap s.heap [] := va_S.rf
  have hfr : ∀ b, K b ∉ ([] : List Nat) → F b = F b := fun _ _ => rfl
  have hl := lv_entry ([.ref a0, .int x1, .int x2]) (n := 3) (Nat.le_of_ble_eq_true rfl)
  rw [lg_entry_eq]
  generalize (lg_sl ([.ref a0, .int x1, .int x2]) ++ List.replicate (3 - (lg_sl ([.ref a0, .int x1, .int x2])).length) Slot.unset).toArray = ls at hl ⊢
  have hl : lv_has ls 3 [(0, .ref a0), (1, .int x1), (2, .int x2)] := hl
  refine s_gen hP hS (fun H locs hP hS => ?_)
  refine lv_aload_n hx hb dX0_cyclesWith_0 rfl (lv_at hl 0 rfl) ?_
  obtain ⟨z1, z3, z5, z7, z9, z11, z12, z14, z15, z17, z18, z20, z22, z24, o27, h2, h4, h6, h8, h10, h13, h16, h19, h21, h23, h25, h26, -⟩ := s_op1 hI ha0
  refine th_get (D := (dC, dI)) (ci := 0) (v := .ref z12) (C := RX0) (T := TX0) (N := 14) hx hb hts inX0 hown hK hP (hLK _ ha0 (by decide)) o27 rfl 6 (by decide) (hts _ T_149) (fun _ h9 => h9) rfl dX0_cyclesWith_1 ?_
  refine lv_iload_n hx hb dX0_cyclesWith_4 rfl (lv_at hl 1 rfl) ?_
  refine lv_bipush (v := 16) hx hb dX0_cyclesWith_5 (by decide) ?_
  refine lv_imul hx hb dX0_cyclesWith_7 ?_
  refine lv_topi (fun v28 ev28 => ?_)
  have qv28 : v28.toInt = x1.toInt * 16 := by rw [ev28]; exact th_mul rfl (by decide) ⟨by omega, by omega⟩
  refine lv_iload_n hx hb dX0_cyclesWith_8 rfl (lv_at hl 2 rfl) ?_
  refine lv_iadd hx hb dX0_cyclesWith_9 ?_
  refine lv_topi (fun v29 ev29 => ?_)
  have qv29 : v29.toInt = v28.toInt + x2.toInt := by rw [ev29]; exact th_add rfl rfl ⟨by omega, by omega⟩
  obtain ⟨f30, o31, h32⟩ := s_op37 hI h13
  refine th_iald hx hb hK hP (hLK _ h13 (by decide)) 0 o31 rfl (th_in ⟨by omega, by omega⟩) dX0_cyclesWith_10 ?_
  refine lv_topi (fun v33 ev33 => ?_)
  exact W.iret (v := v33) hx hb hr (fun t ht hW => ⟨⟨v33, F, rfl, ⟨trivial, trivial, hI, hfr⟩, by rw [ht]; exact hP, va_K.moved hW.alike hK⟩, hS.F ht⟩) hS.2.2 dX0_cyclesWith_11

set_option maxHeartbeats 4000000 in
set_option maxRecDepth 100000 in
theorem s_X0_unlike (l : Launch) (dC : Nat → ClassId) (dI : Nat → Nat → Nat) (sz : Nat) {L : List Nat} {K : Nat → Nat} {cs : Nat → ClassId} (hLK : ∀ a {k : Nat}, K a = k → k ≠ 0 → a ∈ L) (D : Nat) (F : Nat → va_E) (a0 : Nat) (x1 : Int32) (ha0 : K a0 = 1) (hx1 : 0 ≤ x1.toInt ∧ x1.toInt ≤ 63) (hI : s_I K cs D F) : Met l yX0_unlike (Cond.code yX0_unlike cX0_unlike 6 (some .int) :: T0) ({ frames := 1, cells := 0, slots := 0, locals := 22 }) (va_Pc [.ref a0, .int x1] (s_W dC dI sz L F [(cs 0, .int), (cs 1, .byte), (cs 2, .long), (cs 3, .object RX5), (cs 4, .object RX4), (cs 5, .array .int), (cs 6, .char), (cs 7, .boolean)])) (va_Qi (fun (r : Int32) (G : Nat → va_E) => True ∧ True ∧ s_I K cs D G ∧ ∀ b, K b ∉ ([] : List Nat) → G b = F b) (fun (G : Nat → va_E) (t : State) => va_P (dC, dI) vwCl (va_pl L G) t.heap ∧ va_K (dC, dI) vwCl [(cs 0, .int), (cs 1, .byte), (cs 2, .long), (cs 3, .object RX5), (cs 4, .object RX4), (cs 5, .array .int), (cs 6, .char), (cs 7, .boolean)] t) (fun q => q ∈ L)) 0 0 (fun q => q ∈ L) := by
  refine Met.ofW (cc := cX0_unlike) (maxL := 6) (ret := (some .int)) (by decide) rfl ?_
  intro p e s m args below meth c s₁ B hml hv
  obtain ⟨rfl, hsz, hP, hK, hD, hN⟩ := hv
  have hx := B.exec
  have hb := B.bytes
  have hr := B.returns
  have hts : ∀ w ∈ T0, w.before _ s = true := fun w h => atoms_spec (ws := Cond.code yX0_unlike cX0_unlike 6 (some .int) :: T0) B.pre w (List.mem_cons_of_mem _ h)
  have hown : s.vm.findClass RX0 = some m.cls := findClass_of_methodNamed B.named
  have hlocks := B.notSynchronized
  have hS : va_S (fun q => q ∈ L) s.heap s.heap [] := va_S.rf
  have hfr : ∀ b, K b ∉ ([] : List Nat) → F b = F b := fun _ _ => rfl
  have hl := lv_entry ([.ref a0, .int x1]) (n := 6) (Nat.le_of_ble_eq_true rfl)
  rw [lg_entry_eq]
  generalize (lg_sl ([.ref a0, .int x1]) ++ List.replicate (6 - (lg_sl ([.ref a0, .int x1])).length) Slot.unset).toArray = ls at hl ⊢
  have hl : lv_has ls 6 [(0, .ref a0), (1, .int x1)] := hl
  refine s_gen hP hS (fun H locs hP hS => ?_)
  refine lv_iconst (v := 0) hx hb dX0_unlike_0 (by decide) ?_
  refine lv_istore_n (lv' := [(2, .int 0), (0, .ref a0), (1, .int x1)]) hx hb dX0_unlike_1 rfl hl (by decide) rfl (fun ls hl => ?_)
  refine lv_iconst (v := 0) hx hb dX0_unlike_2 (by decide) ?_
  refine lv_istore_n (lv' := [(3, .int 0), (2, .int 0), (0, .ref a0), (1, .int x1)]) hx hb dX0_unlike_3 rfl hl (by decide) rfl (fun ls hl => ?_)
  refine th_loop (fun n g H locs => ∃ (G : Nat → va_E) (ls : Array Slot) (w1 : Int32) (w2 : Int32), g = F0 m 4 ls [] ∧ lv_has ls 6 [(0, .ref a0), (1, .int x1), (2, .int w1), (3, .int w2)] ∧ s_I K cs D G ∧ va_P (dC, dI) vwCl (va_pl L G) H ∧ va_S (fun q => q ∈ L) s.heap H locs ∧ (∀ b, K b ∉ ([] : List Nat) → G b = F b) ∧ True ∧ (0 ≤ w2.toInt ∧ w2.toInt ≤ 16) ∧ (0 ≤ x1.toInt ∧ x1.toInt ≤ 63) ∧ n = (17 - w2.toInt).toNat) _ ⟨F, _, 0, 0, rfl, lv_sub hl [2, 3, 1, 0] rfl, hI, hP, hS, hfr, trivial, (by decide), ⟨by omega, by omega⟩, rfl⟩ (fun n ih4 g H locs hq => ?_)
  obtain ⟨F9, ls, w1, w2, rfl, hl, hI, hP, hS, hfr, h3, h4, h5, hn⟩ := hq
  have hn_4 := hn
  obtain ⟨n_4, hn9_4⟩ : ∃ q, q = n := ⟨_, rfl⟩
  refine th_join (fun g H locs => ∃ (G : Nat → va_E) (ls : Array Slot) (w6 : Int32), g = F0 m 64 ls [] ∧ lv_has ls 6 [(0, .ref a0), (1, .int x1), (2, .int w6), (3, .int w2)] ∧ s_I K cs D G ∧ va_P (dC, dI) vwCl (va_pl L G) H ∧ va_S (fun q => q ∈ L) s.heap H locs ∧ (∀ b, K b ∉ ([] : List Nat) → G b = F b) ∧ True ∧ (0 ≤ x1.toInt ∧ x1.toInt ≤ 63) ∧ (0 ≤ w2.toInt ∧ w2.toInt ≤ 15)) (fun K64 => ?_) ?_
  refine th_join (fun g H locs => ∃ (G : Nat → va_E) (ls : Array Slot) (w7 : Int32), g = F0 m 56 ls [] ∧ lv_has ls 6 [(0, .ref a0), (1, .int x1), (2, .int w1), (3, .int w2), (4, .int w7)] ∧ s_I K cs D G ∧ va_P (dC, dI) vwCl (va_pl L G) H ∧ va_S (fun q => q ∈ L) s.heap H locs ∧ (∀ b, K b ∉ ([] : List Nat) → G b = F b) ∧ (0 ≤ w7.toInt ∧ w7.toInt ≤ 1) ∧ (0 ≤ x1.toInt ∧ x1.toInt ≤ 63) ∧ (0 ≤ w2.toInt ∧ w2.toInt ≤ 15)) (fun K56 => ?_) ?_
  · refine lv_iload_n hx hb dX0_unlike_4 rfl (lv_at hl 3 rfl) ?_
    refine lv_bipush (v := 16) hx hb dX0_unlike_5 (by decide) ?_
    refine lv_icmp_ge (tgt := 70) hx hb dX0_unlike_7 (by decide) (fun c8 => ?_) (fun c8 => ?_)
    · have c8 := (ax_ge (n := 16) (by decide)).mp c8
      refine lv_iload_n hx hb dX0_unlike_70 rfl (lv_at hl 2 rfl) ?_
      exact W.iret (v := w1) hx hb hr (fun t ht hW => ⟨⟨w1, F9, rfl, ⟨trivial, trivial, hI, hfr⟩, by rw [ht]; exact hP, va_K.moved hW.alike hK⟩, hS.F ht⟩) hS.2.2 dX0_unlike_71
    · have c8 := mt (ax_ge (n := 16) (by decide)).mpr c8
      refine lv_iconst (v := 1) hx hb dX0_unlike_10 (by decide) ?_
      refine lv_istore (lv' := [(4, .int 1), (0, .ref a0), (1, .int x1), (2, .int w1), (3, .int w2)]) hx hb dX0_unlike_11 hl (by decide) rfl (fun ls hl => ?_)
      refine lv_iconst (v := 0) hx hb dX0_unlike_13 (by decide) ?_
      refine lv_istore (lv' := [(5, .int 0), (4, .int 1), (0, .ref a0), (1, .int x1), (2, .int w1), (3, .int w2)]) hx hb dX0_unlike_14 hl (by decide) rfl (fun ls hl => ?_)
      refine th_loop (fun n g H locs => ∃ (G : Nat → va_E) (ls : Array Slot) (w9 : Int32) (w10 : Int32), g = F0 m 16 ls [] ∧ lv_has ls 6 [(0, .ref a0), (1, .int x1), (2, .int w1), (3, .int w2), (4, .int w9), (5, .int w10)] ∧ s_I K cs D G ∧ va_P (dC, dI) vwCl (va_pl L G) H ∧ va_S (fun q => q ∈ L) s.heap H locs ∧ (∀ b, K b ∉ ([] : List Nat) → G b = F b) ∧ (0 ≤ w9.toInt ∧ w9.toInt ≤ 1) ∧ (0 ≤ w10.toInt ∧ w10.toInt ≤ 15) ∧ (0 ≤ x1.toInt ∧ x1.toInt ≤ 63) ∧ (0 ≤ w2.toInt ∧ w2.toInt ≤ 15) ∧ n = (16 - w10.toInt).toNat) _ ⟨F9, _, 1, 0, rfl, lv_sub hl [2, 3, 4, 5, 1, 0] rfl, hI, hP, hS, hfr, (by decide), (by decide), ⟨by omega, by omega⟩, ⟨by omega, by omega⟩, rfl⟩ (fun n ih16 g H locs hq => ?_)
      obtain ⟨F9, ls, w9, w10, rfl, hl, hI, hP, hS, hfr, h11, h12, h13, h14, hn⟩ := hq
      have hn_16 := hn
      obtain ⟨n_16, hn9_16⟩ : ∃ q, q = n := ⟨_, rfl⟩
      refine th_join (fun g H locs => ∃ (G : Nat → va_E) (ls : Array Slot) (w15 : Int32), g = F0 m 48 ls [.int w15] ∧ lv_has ls 6 [(0, .ref a0), (1, .int x1), (2, .int w1), (3, .int w2), (5, .int w10)] ∧ s_I K cs D G ∧ va_P (dC, dI) vwCl (va_pl L G) H ∧ va_S (fun q => q ∈ L) s.heap H locs ∧ (∀ b, K b ∉ ([] : List Nat) → G b = F b) ∧ (0 ≤ w15.toInt ∧ w15.toInt ≤ 1) ∧ (0 ≤ x1.toInt ∧ x1.toInt ≤ 63) ∧ (1 ≤ w2.toInt ∧ w2.toInt ≤ 15) ∧ (0 ≤ w10.toInt ∧ w10.toInt ≤ 14)) (fun K48 => ?_) ?_
      · refine lv_iload hx hb dX0_unlike_16 (lv_at hl 4 rfl) ?_
        refine lv_if_eq (tgt := 56) hx hb dX0_unlike_18 (by decide) (fun c16 => ?_) (fun c16 => ?_)
        · have c16 := (ax_eq (n := 0) (by decide)).mp c16
          exact K56 _ _ _ ⟨F9, _, w9, rfl, lv_sub hl [0, 1, 2, 3, 4] rfl, hI, hP, hS, hfr, ⟨by omega, by omega⟩, ⟨by omega, by omega⟩, ⟨by omega, by omega⟩⟩
        · have c16 := mt (ax_eq (n := 0) (by decide)).mpr c16
          refine lv_iload hx hb dX0_unlike_21 (lv_at hl 5 rfl) ?_
          refine lv_iload_n hx hb dX0_unlike_23 rfl (lv_at hl 3 rfl) ?_
          refine lv_icmp_ge (tgt := 56) hx hb dX0_unlike_24 (by decide) (fun c17 => ?_) (fun c17 => ?_)
          · have c17 := Int32.le_iff_toInt_le.mp c17
            exact K56 _ _ _ ⟨F9, _, w9, rfl, lv_sub hl [0, 1, 2, 3, 4] rfl, hI, hP, hS, hfr, ⟨by omega, by omega⟩, ⟨by omega, by omega⟩, ⟨by omega, by omega⟩⟩
          · have c17 := mt Int32.le_iff_toInt_le.mpr c17
            refine lv_aload_n hx hb dX0_unlike_27 rfl (lv_at hl 0 rfl) ?_
            refine lv_iload_n hx hb dX0_unlike_28 rfl (lv_at hl 1 rfl) ?_
            refine lv_iload hx hb dX0_unlike_29 (lv_at hl 5 rfl) ?_
            obtain ⟨z18, z20, z22, z24, z26, z28, z29, z31, z32, z34, z35, z37, z39, z41, o44, h19, h21, h23, h25, h27, h30, h33, h36, h38, h40, h42, h43, -⟩ := s_op1 hI ha0
            refine va_calli (va_runV (As := [.int x1, .int w10]) (rest := []) ⟨hx, hb, hml, hown, hts⟩ (s_X0_cyclesWith l dC dI H.size hLK D F9 a0 x1 w10 ha0 (⟨by omega, by omega⟩) (⟨by omega, by omega⟩) hI) (cwV 2 hts (ax_gV T_603 T_605 T_606 T_180 T_604) rfl rfl rfl (by decide +kernel) ⟨Nat.le_of_ble_eq_true rfl, Nat.le_of_ble_eq_true rfl⟩) ⟨fun a U g mk q => ⟨q.1, s_pc (U := U) rfl rfl q.2⟩, s_recv hK hP (hLK _ ha0 (by decide)) (ci := 0) rfl o44, fun U hU hW => ⟨rfl, s_pw hU hW hP hK hD hN⟩⟩ rfl rfl hl.1 rfl (lv_room (Nat.le_of_ble_eq_true rfl)) dX0_unlike_31 ⟨Nat.zero_le _, Nat.zero_le _⟩) hS (fun q _ h => h) (fun q h => h) (fun r45 F46 t H1 locs ht hvm hw hB hz1 hk1 hS => ?_)
            obtain ⟨hP, hK1⟩ := hB
            rw [ht] at hP
            generalize H1 = H at hP hS ⊢
            clear hz1 hk1
            obtain ⟨h47, h48, hI, hfr1⟩ := hw
            have o49 : F46 a0 = .inr (0, [.ref z18, .ref z20, .ref z22, .ref z24, .ref z26, .int z28, .ref z29, .long z31, .ref z32, .int z34, .ref z35, .int z37, .int z39, .int z41]) := (hfr1 _ (by rw [ha0]; decide)).trans o44
            have hfr : ∀ b, K b ∉ ([] : List Nat) → F46 b = F b := fun b hb9 => (hfr1 b (fun q => hb9 (s_sub (by decide) q))).trans (hfr b hb9)
            refine lv_aload_n hx hb dX0_unlike_34 rfl (lv_at hl 0 rfl) ?_
            refine lv_iload_n hx hb dX0_unlike_35 rfl (lv_at hl 1 rfl) ?_
            refine lv_iload_n hx hb dX0_unlike_36 rfl (lv_at hl 3 rfl) ?_
            refine va_calli (va_runV (As := [.int x1, .int w2]) (rest := [.int r45]) ⟨hx, hb, hml, hown, hts⟩ (s_X0_cyclesWith l dC dI H.size hLK D F46 a0 x1 w2 ha0 (⟨by omega, by omega⟩) (⟨by omega, by omega⟩) hI) (cwV 2 hts (ax_gV T_603 T_605 T_606 T_180 T_604) rfl rfl rfl (by decide +kernel) ⟨Nat.le_of_ble_eq_true rfl, Nat.le_of_ble_eq_true rfl⟩) ⟨fun a U g mk q => ⟨q.1, s_pc (U := U) rfl rfl q.2⟩, s_recv hK hP (hLK _ ha0 (by decide)) (ci := 0) rfl o49, fun U hU hW => ⟨rfl, s_pw hU hW hP hK hD hN⟩⟩ rfl rfl hl.1 rfl (lv_room (Nat.le_of_ble_eq_true rfl)) dX0_unlike_37 ⟨Nat.zero_le _, Nat.zero_le _⟩) hS (fun q _ h => h) (fun q h => h) (fun r50 F51 t H1 locs ht hvm hw hB hz1 hk1 hS => ?_)
            obtain ⟨hP, hK1⟩ := hB
            rw [ht] at hP
            generalize H1 = H at hP hS ⊢
            clear hz1 hk1
            obtain ⟨h52, h53, hI, hfr1⟩ := hw
            have o54 : F51 a0 = .inr (0, [.ref z18, .ref z20, .ref z22, .ref z24, .ref z26, .int z28, .ref z29, .long z31, .ref z32, .int z34, .ref z35, .int z37, .int z39, .int z41]) := (hfr1 _ (by rw [ha0]; decide)).trans o49
            have hfr : ∀ b, K b ∉ ([] : List Nat) → F51 b = F b := fun b hb9 => (hfr1 b (fun q => hb9 (s_sub (by decide) q))).trans (hfr b hb9)
            refine lv_icmp_eq (tgt := 47) hx hb dX0_unlike_40 (by decide) (fun c55 => ?_) (fun c55 => ?_)
            · have c55 := Int32.toInt_inj.symm.mp c55
              refine lv_iconst (v := 0) hx hb dX0_unlike_47 (by decide) ?_
              exact K48 _ _ _ ⟨F51, _, 0, rfl, lv_sub hl [0, 1, 2, 3, 5] rfl, hI, hP, hS, hfr, (by decide), ⟨by omega, by omega⟩, ⟨by omega, by omega⟩, ⟨by omega, by omega⟩⟩
            · have c55 := mt Int32.toInt_inj.symm.mpr c55
              refine lv_iconst (v := 1) hx hb dX0_unlike_43 (by decide) ?_
              refine lv_goto (tgt := 48) hx hb dX0_unlike_44 (by decide) ?_
              exact K48 _ _ _ ⟨F51, _, 1, rfl, lv_sub hl [0, 1, 2, 3, 5] rfl, hI, hP, hS, hfr, (by decide), ⟨by omega, by omega⟩, ⟨by omega, by omega⟩, ⟨by omega, by omega⟩⟩
      · intro g H locs hq
        obtain ⟨F9, ls, w15, rfl, hl, hI, hP, hS, hfr, h56, h57, h58, h59⟩ := hq
        refine lv_istore (lv' := [(4, .int w15), (0, .ref a0), (1, .int x1), (2, .int w1), (3, .int w2), (5, .int w10)]) hx hb dX0_unlike_48 hl (by decide) rfl (fun ls hl => ?_)
        obtain ⟨v60, ev60⟩ : ∃ y : Int32, w10 + 1 = y := ⟨_, rfl⟩
        have qv60 : v60.toInt = w10.toInt + 1 := by rw [← ev60]; exact th_add rfl (by decide) ⟨by omega, by omega⟩
        refine lv_iinc (v := v60) (lv' := [(5, .int v60), (4, .int w15), (0, .ref a0), (1, .int x1), (2, .int w1), (3, .int w2)]) hx hb dX0_unlike_50 hl (k := 5) rfl ev60 (by decide) rfl (fun ls hl => ?_)
        refine lv_goto (tgt := 16) hx hb dX0_unlike_53 (by decide) ?_
        exact ih16 _ _ _ _ (by omega) ⟨F9, _, w15, v60, rfl, lv_sub hl [2, 3, 4, 5, 1, 0] rfl, hI, hP, hS, hfr, ⟨by omega, by omega⟩, ⟨by omega, by omega⟩, ⟨by omega, by omega⟩, ⟨by omega, by omega⟩, rfl⟩
  · intro g H locs hq
    obtain ⟨F9, ls, w7, rfl, hl, hI, hP, hS, hfr, h61, h62, h63⟩ := hq
    refine lv_iload hx hb dX0_unlike_56 (lv_at hl 4 rfl) ?_
    refine lv_if_eq (tgt := 64) hx hb dX0_unlike_58 (by decide) (fun c64 => ?_) (fun c64 => ?_)
    · have c64 := (ax_eq (n := 0) (by decide)).mp c64
      exact K64 _ _ _ ⟨F9, _, w1, rfl, lv_sub hl [0, 1, 2, 3] rfl, hI, hP, hS, hfr, trivial, ⟨by omega, by omega⟩, ⟨by omega, by omega⟩⟩
    · have c64 := mt (ax_eq (n := 0) (by decide)).mpr c64
      obtain ⟨v65, ev65⟩ : ∃ y : Int32, w1 + 1 = y := ⟨_, rfl⟩
      refine lv_iinc (v := v65) (lv' := [(2, .int v65), (0, .ref a0), (1, .int x1), (3, .int w2), (4, .int w7)]) hx hb dX0_unlike_61 hl (k := 2) rfl ev65 (by decide) rfl (fun ls hl => ?_)
      exact K64 _ _ _ ⟨F9, _, v65, rfl, lv_sub hl [1, 2, 0, 3] rfl, hI, hP, hS, hfr, trivial, ⟨by omega, by omega⟩, ⟨by omega, by omega⟩⟩
  · intro g H locs hq
    obtain ⟨F9, ls, w6, rfl, hl, hI, hP, hS, hfr, h66, h67, h68⟩ := hq
    obtain ⟨v69, ev69⟩ : ∃ y : Int32, w2 + 1 = y := ⟨_, rfl⟩
    have qv69 : v69.toInt = w2.toInt + 1 := by rw [← ev69]; exact th_add rfl (by decide) ⟨by omega, by omega⟩
    refine lv_iinc (v := v69) (lv' := [(3, .int v69), (0, .ref a0), (1, .int x1), (2, .int w6)]) hx hb dX0_unlike_64 hl (k := 3) rfl ev69 (by decide) rfl (fun ls hl => ?_)
    refine lv_goto (tgt := 4) hx hb dX0_unlike_67 (by decide) ?_
    exact ih4 _ _ _ _ (by omega) ⟨F9, _, w6, v69, rfl, lv_sub hl [1, 2, 3, 0] rfl, hI, hP, hS, hfr, trivial, ⟨by omega, by omega⟩, ⟨by omega, by omega⟩, rfl⟩

set_option maxHeartbeats 4000000 in
set_option maxRecDepth 100000 in
theorem s_X0_solo (l : Launch) (dC : Nat → ClassId) (dI : Nat → Nat → Nat) (sz : Nat) {L : List Nat} {K : Nat → Nat} {cs : Nat → ClassId} (hLK : ∀ a {k : Nat}, K a = k → k ≠ 0 → a ∈ L) (D : Nat) (F : Nat → va_E) (a0 : Nat) (x1 : Int32) (x2 : Int32) (x3 : Int32) (ha0 : K a0 = 1) (hx1 : 0 ≤ x1.toInt ∧ x1.toInt ≤ 3) (hx2 : 0 ≤ x2.toInt ∧ x2.toInt ≤ 7) (hx3 : 0 ≤ x3.toInt ∧ x3.toInt ≤ 4) (hI : s_I K cs D F) : Met l yX0_solo (Cond.code yX0_solo cX0_solo 4 (some .int) :: T0) ({ frames := 0, cells := 0, slots := 0, locals := 0 }) (va_Pc [.ref a0, .int x1, .int x2, .int x3] (s_W dC dI sz L F [(cs 0, .int), (cs 1, .byte), (cs 2, .long), (cs 3, .object RX5), (cs 4, .object RX4), (cs 5, .array .int), (cs 6, .char), (cs 7, .boolean)])) (va_Qi (fun (r : Int32) (G : Nat → va_E) => True ∧ True ∧ s_I K cs D G ∧ ∀ b, K b ∉ ([] : List Nat) → G b = F b) (fun (G : Nat → va_E) (t : State) => va_P (dC, dI) vwCl (va_pl L G) t.heap ∧ va_K (dC, dI) vwCl [(cs 0, .int), (cs 1, .byte), (cs 2, .long), (cs 3, .object RX5), (cs 4, .object RX4), (cs 5, .array .int), (cs 6, .char), (cs 7, .boolean)] t) (fun q => q ∈ L)) 0 0 (fun q => q ∈ L) := by
  refine Met.ofW (cc := cX0_solo) (maxL := 4) (ret := (some .int)) (by decide) rfl ?_
  intro p e s m args below meth c s₁ B hml hv
  obtain ⟨rfl, hsz, hP, hK, hD, hN⟩ := hv
  have hx := B.exec
  have hb := B.bytes
  have hr := B.returns
  have hts : ∀ w ∈ T0, w.before _ s = true := fun w h => atoms_spec (ws := Cond.code yX0_solo cX0_solo 4 (some .int) :: T0) B.pre w (List.mem_cons_of_mem _ h)
  have hown : s.vm.findClass RX0 = some m.cls := findClass_of_methodNamed B.named
  have hlocks := B.notSynchronized
  have hS : va_S (fun q => q ∈ L) s.heap s.heap [] := va_S.rf
  have hfr : ∀ b, K b ∉ ([] : List Nat) → F b = F b := fun _ _ => rfl
  have hl := lv_entry ([.ref a0, .int x1, .int x2, .int x3]) (n := 4) (Nat.le_of_ble_eq_true rfl)
  rw [lg_entry_eq]
  generalize (lg_sl ([.ref a0, .int x1, .int x2, .int x3]) ++ List.replicate (4 - (lg_sl ([.ref a0, .int x1, .int x2, .int x3])).length) Slot.unset).toArray = ls at hl ⊢
  have hl : lv_has ls 4 [(0, .ref a0), (1, .int x1), (2, .int x2), (3, .int x3)] := hl
  refine s_gen hP hS (fun H locs hP hS => ?_)
  refine lv_aload_n hx hb dX0_solo_0 rfl (lv_at hl 0 rfl) ?_
  obtain ⟨z1, z3, z5, z7, z9, z11, z12, z14, z15, z17, z18, z20, z22, z24, o27, h2, h4, h6, h8, h10, h13, h16, h19, h21, h23, h25, h26, -⟩ := s_op1 hI ha0
  refine th_get (D := (dC, dI)) (ci := 0) (v := .ref z15) (C := RX0) (T := TX0) (N := 14) hx hb hts inX0 hown hK hP (hLK _ ha0 (by decide)) o27 rfl 8 (by decide) (hts _ T_150) (fun _ h9 => h9) rfl dX0_solo_1 ?_
  refine lv_iload_n hx hb dX0_solo_4 rfl (lv_at hl 1 rfl) ?_
  refine lv_bipush (v := 8) hx hb dX0_solo_5 (by decide) ?_
  refine lv_imul hx hb dX0_solo_7 ?_
  refine lv_topi (fun v28 ev28 => ?_)
  have qv28 : v28.toInt = x1.toInt * 8 := by rw [ev28]; exact th_mul rfl (by decide) ⟨by omega, by omega⟩
  refine lv_iload_n hx hb dX0_solo_8 rfl (lv_at hl 2 rfl) ?_
  refine lv_iadd hx hb dX0_solo_9 ?_
  refine lv_topi (fun v29 ev29 => ?_)
  have qv29 : v29.toInt = v28.toInt + x2.toInt := by rw [ev29]; exact th_add rfl rfl ⟨by omega, by omega⟩
  refine lv_iconst (v := 5) hx hb dX0_solo_10 (by decide) ?_
  refine lv_imul hx hb dX0_solo_11 ?_
  refine lv_topi (fun v30 ev30 => ?_)
  have qv30 : v30.toInt = v29.toInt * 5 := by rw [ev30]; exact th_mul rfl (by decide) ⟨by omega, by omega⟩
  refine lv_iload_n hx hb dX0_solo_12 rfl (lv_at hl 3 rfl) ?_
  refine lv_iadd hx hb dX0_solo_13 ?_
  refine lv_topi (fun v31 ev31 => ?_)
  have qv31 : v31.toInt = v30.toInt + x3.toInt := by rw [ev31]; exact th_add rfl rfl ⟨by omega, by omega⟩
  obtain ⟨f32, o33, h34⟩ := s_op38 hI h16
  refine th_iald hx hb hK hP (hLK _ h16 (by decide)) 0 o33 rfl (th_in ⟨by omega, by omega⟩) dX0_solo_14 ?_
  refine lv_topi (fun v35 ev35 => ?_)
  exact W.iret (v := v35) hx hb hr (fun t ht hW => ⟨⟨v35, F, rfl, ⟨trivial, trivial, hI, hfr⟩, by rw [ht]; exact hP, va_K.moved hW.alike hK⟩, hS.F ht⟩) hS.2.2 dX0_solo_15

