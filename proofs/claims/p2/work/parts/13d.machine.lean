set_option maxHeartbeats 4000000 in
set_option maxRecDepth 100000 in
theorem s_X1_foresee (l : Launch) (dC : Nat → ClassId) (dI : Nat → Nat → Nat) (sz : Nat) {L : List Nat} {K : Nat → Nat} {cs : Nat → ClassId} (hLK : ∀ a {k : Nat}, K a = k → k ≠ 0 → a ∈ L) (D : Nat) (F : Nat → va_E) (a0 : Nat) (a1 : Nat) (ha0 : K a0 = 2) (ha1 : K a1 = 5) (hI : s_I K cs D F) (hPG : s_PG K cs F) : Met l yX1_foresee (Cond.code yX1_foresee cX1_foresee 2 (some .boolean) :: T0) ({ frames := 3, cells := 0, slots := 0, locals := 71 }) (va_Pc [.ref a0, .ref a1] (s_W dC dI sz L F [(cs 0, .int), (cs 1, .byte), (cs 2, .long), (cs 3, .object RX5), (cs 4, .object RX4), (cs 5, .array .int), (cs 6, .char), (cs 7, .boolean)])) (va_Qi (fun (r : Int32) (G : Nat → va_E) => (0 ≤ r.toInt ∧ r.toInt ≤ 1) ∧ (True ∧ (¬ r = 0 → (∀ z0 z1 z2 z3 z4 z5 z6 z7 z8 z9 z10 z11 f g, G a0 = .inr (1, [.ref z0, .ref z1, .ref z2, .ref z3, .ref z4, .ref z5, .int z6, .int z7, .int z8, .int z9, .int z10, .long z11]) → G z0 = .inl (cs 0, 8, .inl f) → G z5 = .inl (cs 0, 7, .inl g) → ∀ i : Int32, 0 ≤ i.toInt → i.toInt < 8 → ¬ (z8 >>> (i &&& 31) &&& 1) = 0 → 9 ≤ (g 0).toInt → (g 0).toInt ≤ 11 → (f i.toNatClampNeg).toInt ≤ 31) ∧ (∀ z0 z1 z2 z3 z4 z5 z6 z7 z8 z9 z10 z11 g, G a0 = .inr (1, [.ref z0, .ref z1, .ref z2, .ref z3, .ref z4, .ref z5, .int z6, .int z7, .int z8, .int z9, .int z10, .long z11]) → G z5 = .inl (cs 0, 7, .inl g) → (g 0).toInt < 7 → 0 ≤ (g 1).toInt))) ∧ s_I K cs D G ∧ (∀ b, K b ∉ [2, 34, 35] → G b = F b) ∧ (¬ r = 0 → s_rd3 K G a0)) (fun (G : Nat → va_E) (t : State) => va_P (dC, dI) vwCl (va_pl L G) t.heap ∧ va_K (dC, dI) vwCl [(cs 0, .int), (cs 1, .byte), (cs 2, .long), (cs 3, .object RX5), (cs 4, .object RX4), (cs 5, .array .int), (cs 6, .char), (cs 7, .boolean)] t) (fun q => q ∈ L)) 0 0 (fun q => q ∈ L) := by
  refine Met.ofW (cc := cX1_foresee) (maxL := 2) (ret := (some .boolean)) (by decide) rfl ?_
  intro p e s m args below meth c s₁ B hml hv
  obtain ⟨rfl, hsz, hP, hK, hD, hN⟩ := hv
  have hx := B.exec
  have hb := B.bytes
  have hr := B.returns
  have hts : ∀ w ∈ T0, w.before _ s = true := fun w h => atoms_spec (ws := Cond.code yX1_foresee cX1_foresee 2 (some .boolean) :: T0) B.pre w (List.mem_cons_of_mem _ h)
  have hown : s.vm.findClass RX1 = some m.cls := findClass_of_methodNamed B.named
  have hlocks := B.notSynchronized
  have hS : va_S (fun q => q ∈ L) s.heap s.heap [] := va_S.rf
  have hfr : ∀ b, K b ∉ [2, 34, 35] → F b = F b := fun _ _ => rfl
  have hl := lv_entry ([.ref a0, .ref a1]) (n := 2) (Nat.le_of_ble_eq_true rfl)
  rw [lg_entry_eq]
  generalize (lg_sl ([.ref a0, .ref a1]) ++ List.replicate (2 - (lg_sl ([.ref a0, .ref a1])).length) Slot.unset).toArray = ls at hl ⊢
  have hl : lv_has ls 2 [(0, .ref a0), (1, .ref a1)] := hl
  have hI0 := hI
  refine s_gen hP hS (fun H locs hP hS => ?_)
  refine lv_aload_n hx hb dX1_foresee_0 rfl (lv_at hl 0 rfl) ?_
  refine lv_aload_n hx hb dX1_foresee_1 rfl (lv_at hl 1 rfl) ?_
  obtain ⟨z1, z3, z5, z7, z9, z11, z12, z14, z15, z16, z18, z19, o20, h2, h4, h6, h8, h10, h13, h17, -⟩ := s_op2 hI ha0
  refine th_put (D := (dC, dI)) (ci := 1) (v := .ref a1) (ty := .object "LaneWarps$State") (C := RX1) (T := TX1) (N := 12) hx hb hts inX1 tyX1 tyX1_ok nmX1 hown hK hP hD hS (hLK _ ha0 (by decide)) o20 rfl 3 (by decide) (hts _ T_611) (fun _ h9 => h9) rfl (by decide +kernel) rfl rfl (Nat.le_of_ble_eq_true rfl) dX1_foresee_2 (fun H locs hP hS => ?_)
  have hP : va_P (dC, dI) vwCl (va_pl L (va_up F a0 (.inr (1, [.ref z1, .ref z3, .ref z5, .ref a1, va_rf z9, va_rf z11, .int z12, .int z14, .int z15, .int z16, .int z18, .long z19])))) H := hP
  obtain ⟨F21, hF22⟩ : ∃ G : Nat → va_E, G = va_up F a0 (.inr (1, [.ref z1, .ref z3, .ref z5, .ref a1, va_rf z9, va_rf z11, .int z12, .int z14, .int z15, .int z16, .int z18, .long z19])) := ⟨_, rfl⟩
  rw [← hF22] at hP
  have hI : s_I K cs D F21 := by rw [hF22]; exact s_cl2 hI ha0 ⟨z1, z3, z5, some a1, z9, z11, z12, z14, z15, z16, z18, z19, rfl, h2, h4, h6, (fun q e => by cases e; exact ha1), h10, ⟨by omega, by omega⟩, ⟨by omega, by omega⟩, trivial⟩
  have hfr : ∀ b, K b ∉ [2, 34, 35] → F21 b = F b := by rw [hF22]; exact s_fr hfr ha0 (by decide)
  have o23 : F21 a0 = .inr (1, [.ref z1, .ref z3, .ref z5, .ref a1, va_rf z9, va_rf z11, .int z12, .int z14, .int z15, .int z16, .int z18, .long z19]) := by rw [hF22]; exact th_up
  refine lv_aload_n hx hb dX1_foresee_5 rfl (lv_at hl 0 rfl) ?_
  refine va_calli (va_runV (As := []) (rest := []) ⟨hx, hb, hml, hown, hts⟩ (s_X1_pickWarp l dC dI H.size hLK D F21 a0 ha0 hI ⟨z1, z3, z5, a1, z9, z11, z12, z14, z15, z16, z18, z19, o23, h2, h4, h6, ha1, h10, ⟨by omega, by omega⟩, ⟨by omega, by omega⟩, trivial⟩) (cwV 0 hts (ax_gV T_624 T_626 T_627 T_137 T_625) rfl rfl rfl (by decide +kernel) ⟨Nat.le_of_ble_eq_true rfl, Nat.le_of_ble_eq_true rfl⟩) ⟨fun a U g mk q => ⟨q.1, s_pc (U := U) rfl rfl q.2⟩, s_recv hK hP (hLK _ ha0 (by decide)) (ci := 1) rfl o23, fun U hU hW => ⟨rfl, s_pw hU hW hP hK hD hN⟩⟩ rfl rfl hl.1 rfl (lv_room (Nat.le_of_ble_eq_true rfl)) dX1_foresee_6 ⟨Nat.zero_le _, Nat.zero_le _⟩) hS (fun q _ h => h) (fun q h => h) (fun r24 F25 t H1 locs ht hvm hw hB hz1 hk1 hS => ?_)
  obtain ⟨hP, hK1⟩ := hB
  rw [ht] at hP
  generalize H1 = H at hP hS ⊢
  clear hz1 hk1
  obtain ⟨h26, h27, hI, hfr1, h28⟩ := hw
  have hfr : ∀ b, K b ∉ [2, 34, 35] → F25 b = F b := fun b hb9 => (hfr1 b (fun q => hb9 (s_sub (by decide) q))).trans (hfr b hb9)
  refine lv_if_ne (tgt := 14) hx hb dX1_foresee_9 (by decide) (fun c29 => ?_) (fun c29 => ?_)
  · have c29 := mt (ax_eq (n := 0) (by decide)).mpr c29
    obtain ⟨z30, z32, z34, z36, z38, z40, z41, z43, z44, z45, z47, z48, o49, h31, h33, h35, h37, h39, h42, h46, -⟩ := h28 (fun q => c29 (by rw [q]; decide))
    refine lv_aload_n hx hb dX1_foresee_14 rfl (lv_at hl 0 rfl) ?_
    refine va_callv (va_runV (As := []) (rest := []) ⟨hx, hb, hml, hown, hts⟩ (s_X1_pickLanes l dC dI H.size hLK D F25 a0 ha0 hI ⟨z30, z32, z34, z36, z38, z40, z41, z43, z44, z45, z47, z48, o49, h31, h33, h35, h37, h39, ⟨by omega, by omega⟩, ⟨by omega, by omega⟩, trivial⟩) (cwV 0 hts (ax_gV T_628 T_630 T_631 T_137 T_629) rfl rfl rfl (by decide +kernel) ⟨Nat.le_of_ble_eq_true rfl, Nat.le_of_ble_eq_true rfl⟩) ⟨fun a U g mk q => ⟨q.1, s_pc (U := U) rfl rfl q.2⟩, s_recv hK hP (hLK _ ha0 (by decide)) (ci := 1) rfl o49, fun U hU hW => ⟨rfl, s_pw hU hW hP hK hD hN⟩⟩ rfl rfl hl.1 rfl (lv_room (Nat.le_of_ble_eq_true rfl)) dX1_foresee_15 ⟨Nat.zero_le _, Nat.zero_le _⟩) hS (fun q _ h => h) (fun q h => h) (fun F50 t H1 locs ht hvm hw hB hz1 hk1 hS => ?_)
    obtain ⟨hP, hK1⟩ := hB
    rw [ht] at hP
    generalize H1 = H at hP hS ⊢
    clear hz1 hk1
    obtain ⟨h51, h52, hI, hfr1, h53⟩ := hw
    have hfr : ∀ b, K b ∉ [2, 34, 35] → F50 b = F b := fun b hb9 => (hfr1 b (fun q => hb9 (s_sub (by decide) q))).trans (hfr b hb9)
    obtain ⟨z54, z56, z58, z60, z62, z64, z65, z67, z68, z69, z71, z72, o73, h55, h57, h59, h61, h63, h66, h70, -⟩ := h53
    refine lv_aload_n hx hb dX1_foresee_18 rfl (lv_at hl 0 rfl) ?_
    refine th_get (D := (dC, dI)) (ci := 1) (v := .int z67) (C := RX1) (T := TX1) (N := 12) hx hb hts inX1 hown hK hP (hLK _ ha0 (by decide)) o73 rfl 7 (by decide) (hts _ T_632) (fun _ h9 => h9) rfl dX1_foresee_19 ?_
    refine lv_if_lt (tgt := 39) hx hb dX1_foresee_22 (by decide) (fun c74 => ?_) (fun c74 => ?_)
    · have c74 := (ax_lt (n := 0) (by decide)).mp c74
      refine lv_iconst (v := 0) hx hb dX1_foresee_39 (by decide) ?_
      exact W.zret (v := 0) (ty := .boolean) hx hb hr (by decide) (fun t ht hW => ⟨⟨0, F50, rfl, ⟨(by decide), ⟨trivial, (fun q => absurd (by decide) q)⟩, hI, hfr, (fun q => absurd (by decide) q)⟩, by rw [ht]; exact hP, va_K.moved hW.alike hK⟩, hS.F ht⟩) hS.2.2 dX1_foresee_40
    · have c74 := mt (ax_lt (n := 0) (by decide)).mpr c74
      refine lv_aload_n hx hb dX1_foresee_25 rfl (lv_at hl 0 rfl) ?_
      refine th_get (D := (dC, dI)) (ci := 1) (v := .int z67) (C := RX1) (T := TX1) (N := 12) hx hb hts inX1 hown hK hP (hLK _ ha0 (by decide)) o73 rfl 7 (by decide) (hts _ T_632) (fun _ h9 => h9) rfl dX1_foresee_26 ?_
      refine lv_aload_n hx hb dX1_foresee_29 rfl (lv_at hl 0 rfl) ?_
      refine th_get (D := (dC, dI)) (ci := 1) (v := .ref z58) (C := RX1) (T := TX1) (N := 12) hx hb hts inX1 hown hK hP (hLK _ ha0 (by decide)) o73 rfl 2 (by decide) (hts _ T_121) (fun _ h9 => h9) rfl dX1_foresee_30 ?_
      obtain ⟨z75, z77, z79, z81, z83, z85, z86, o87, h76, h78, h80, h82, h84, -⟩ := s_op3 hI h59
      refine th_getN (D := (dC, dI)) (ci := 2) (v := .int z81) (C := RX2) (T := TX2) (N := 7) hx hb hts inX2 hown hK hP (hLK _ h59 (by decide)) o87 rfl 3 (by decide) (va_Nw.use rfl (ax_n21 hN)) (fun _ h9 => h9) rfl dX1_foresee_33 ?_
      refine lv_icmp_lt (tgt := 41) hx hb dX1_foresee_36 (by decide) (fun c88 => ?_) (fun c88 => ?_)
      · have c88 := Int32.lt_iff_toInt_lt.mp c88
        refine lv_aload_n hx hb dX1_foresee_41 rfl (lv_at hl 0 rfl) ?_
        refine lv_aload_n hx hb dX1_foresee_42 rfl (lv_at hl 0 rfl) ?_
        refine th_get (D := (dC, dI)) (ci := 1) (v := .ref z58) (C := RX1) (T := TX1) (N := 12) hx hb hts inX1 hown hK hP (hLK _ ha0 (by decide)) o73 rfl 2 (by decide) (hts _ T_121) (fun _ h9 => h9) rfl dX1_foresee_43 ?_
        refine th_getN (D := (dC, dI)) (ci := 2) (v := .ref z75) (C := RX2) (T := TX2) (N := 7) hx hb hts inX2 hown hK hP (hLK _ h59 (by decide)) o87 rfl 0 (by decide) (va_Nw.use rfl (ax_n22 hN)) (fun _ h9 => h9) rfl dX1_foresee_46 ?_
        refine lv_aload_n hx hb dX1_foresee_49 rfl (lv_at hl 0 rfl) ?_
        refine th_get (D := (dC, dI)) (ci := 1) (v := .int z67) (C := RX1) (T := TX1) (N := 12) hx hb hts inX1 hown hK hP (hLK _ ha0 (by decide)) o73 rfl 7 (by decide) (hts _ T_632) (fun _ h9 => h9) rfl dX1_foresee_50 ?_
        obtain ⟨f89, o90, h91⟩ := s_op22 hI h76
        obtain ⟨z92, o94, h93⟩ := h91 (z67 : Int32).toNatClampNeg (th_cl ⟨by omega, by omega⟩)
        refine th_aaldA hx hb hK hP (hLK _ h76 (by decide)) 5 o90 rfl (th_in ⟨by omega, by omega⟩) o94 dX1_foresee_53 ?_
        obtain ⟨f95, o96, h97⟩ := s_op23 hI h93
        have hrow : (f95 0).toInt < 7 → 0 ≤ (f95 1).toInt := s_PGt hI0 hfr (by decide) hPG _ h59 _ _ _ _ (z67 : Int32).toNatClampNeg _ _ o87 rfl o90 (th_cl ⟨by omega, by omega⟩) (th_cln (by omega) (by omega)) o94 o96
        refine th_put (D := (dC, dI)) (ci := 1) (v := .ref z92) (ty := .array .int) (C := RX1) (T := TX1) (N := 12) hx hb hts inX1 tyX1 tyX1_ok nmX1 hown hK hP hD hS (hLK _ ha0 (by decide)) o73 rfl 5 (by decide) (hts _ T_607) (fun _ h9 => h9) rfl (by decide +kernel) rfl rfl (Nat.le_of_ble_eq_true rfl) dX1_foresee_54 (fun H locs hP hS => ?_)
        have hP : va_P (dC, dI) vwCl (va_pl L (va_up F50 a0 (.inr (1, [.ref z54, .ref z56, .ref z58, .ref z60, .ref z62, .ref z92, .int z65, .int z67, .int z68, .int z69, .int z71, .long z72])))) H := hP
        obtain ⟨F98, hF99⟩ : ∃ G : Nat → va_E, G = va_up F50 a0 (.inr (1, [.ref z54, .ref z56, .ref z58, .ref z60, .ref z62, .ref z92, .int z65, .int z67, .int z68, .int z69, .int z71, .long z72])) := ⟨_, rfl⟩
        rw [← hF99] at hP
        have hI : s_I K cs D F98 := by rw [hF99]; exact s_cl2 hI ha0 ⟨z54, z56, z58, some z60, some z62, some z92, z65, z67, z68, z69, z71, z72, rfl, h55, h57, h59, (fun q e => by cases e; exact h61), (fun q e => by cases e; exact h63), ⟨by omega, by omega⟩, ⟨by omega, by omega⟩, trivial⟩
        have hfr : ∀ b, K b ∉ [2, 34, 35] → F98 b = F b := by rw [hF99]; exact s_fr hfr ha0 (by decide)
        have o100 : F98 z58 = .inr (2, [.ref z75, .ref z77, .ref z79, .int z81, .int z83, .int z85, .int z86]) := by rw [hF99]; exact th_ne (th_kd h59 ha0 (by decide)) o87
        have o101 : F98 z92 = .inl (cs 0, 7, .inl f95) := by rw [hF99]; exact th_ne (th_kd h93 ha0 (by decide)) o96
        have o102 : F98 a0 = .inr (1, [.ref z54, .ref z56, .ref z58, .ref z60, .ref z62, .ref z92, .int z65, .int z67, .int z68, .int z69, .int z71, .long z72]) := by rw [hF99]; exact th_up
        refine lv_aload_n hx hb dX1_foresee_57 rfl (lv_at hl 0 rfl) ?_
        refine va_callv (va_runV (As := []) (rest := []) ⟨hx, hb, hml, hown, hts⟩ (s_X1_measure l dC dI H.size hLK D F98 a0 ha0 hI ⟨z54, z56, z58, z60, z62, z92, z65, z67, z68, z69, z71, z72, o102, h55, h57, h59, h61, h63, h93, ⟨by omega, by omega⟩, ⟨by omega, by omega⟩, trivial⟩) (cwV 0 hts (ax_gV T_633 T_635 T_636 T_137 T_634) rfl rfl rfl (by decide +kernel) ⟨Nat.le_of_ble_eq_true rfl, Nat.le_of_ble_eq_true rfl⟩) ⟨fun a U g mk q => ⟨q.1, s_pc (U := U) rfl rfl q.2⟩, s_recv hK hP (hLK _ ha0 (by decide)) (ci := 1) rfl o102, fun U hU hW => ⟨rfl, s_pw hU hW hP hK hD hN⟩⟩ rfl rfl hl.1 rfl (lv_room (Nat.le_of_ble_eq_true rfl)) dX1_foresee_58 ⟨Nat.zero_le _, Nat.zero_le _⟩) hS (fun q _ h => h) (fun q h => h) (fun F103 t H1 locs ht hvm hw hB hz1 hk1 hS => ?_)
        obtain ⟨hP, hK1⟩ := hB
        rw [ht] at hP
        generalize H1 = H at hP hS ⊢
        clear hz1 hk1
        obtain ⟨h104, h105, hI, hfr1⟩ := hw
        have o106 : F103 z58 = .inr (2, [.ref z75, .ref z77, .ref z79, .int z81, .int z83, .int z85, .int z86]) := (hfr1 _ (by rw [h59]; decide)).trans o100
        have o107 : F103 z92 = .inl (cs 0, 7, .inl f95) := (hfr1 _ (by rw [h93]; decide)).trans o101
        have hfr : ∀ b, K b ∉ [2, 34, 35] → F103 b = F b := fun b hb9 => (hfr1 b (fun q => hb9 (s_sub (by decide) q))).trans (hfr b hb9)
        obtain ⟨h105, h108⟩ := h105
        have h108 : ((∀ vs, F98 a0 = .inr (1, vs) → ∃ w, F103 a0 = .inr (1, vs.set 10 (.int w))) ∧ ∀ z0 z1 z2 z3 z4 z5 z6 z7 z8 z9 z10 z11 f g, F103 a0 = .inr (1, [.ref z0, .ref z1, .ref z2, .ref z3, .ref z4, .ref z5, .int z6, .int z7, .int z8, .int z9, .int z10, .long z11]) → F103 z0 = .inl (cs 0, 8, .inl f) → F103 z5 = .inl (cs 0, 7, .inl g) → ∀ i : Int32, 0 ≤ i.toInt → i.toInt < 8 → ¬ (z8 >>> (i &&& 31) &&& 1) = 0 → 9 ≤ (g 0).toInt → (g 0).toInt ≤ 11 → (f i.toNatClampNeg).toInt ≤ 31) := h108
        obtain ⟨h111, h108⟩ := h108
        obtain ⟨z109, o110⟩ := h111 _ o102
        have o110 : F103 a0 = .inr (1, [.ref z54, .ref z56, .ref z58, .ref z60, .ref z62, .ref z92, .int z65, .int z67, .int z68, .int z69, .int z109, .long z72]) := o110
        refine lv_iconst (v := 1) hx hb dX1_foresee_61 (by decide) ?_
        exact W.zret (v := 1) (ty := .boolean) hx hb hr (by decide) (fun t ht hW => ⟨⟨1, F103, rfl, ⟨(by decide), ⟨trivial, (fun _ => ⟨h108, fun z0 z1 z2 z3 z4 z5 z6 z7 z8 z9 z10 z11 g q1 q3 => by rw [o110] at q1; cases q1; rw [o107] at q3; cases q3; exact hrow⟩)⟩, hI, hfr, (fun _ => ⟨z54, z56, z58, z60, z62, z92, z65, z67, z68, z69, z109, z72, o110, h55, h57, h59, h61, h63, h93, ⟨by omega, by omega⟩, ⟨by omega, by omega⟩, trivial⟩)⟩, by rw [ht]; exact hP, va_K.moved hW.alike hK⟩, hS.F ht⟩) hS.2.2 dX1_foresee_62
      · have c88 := mt Int32.lt_iff_toInt_lt.mpr c88
        refine lv_iconst (v := 0) hx hb dX1_foresee_39 (by decide) ?_
        exact W.zret (v := 0) (ty := .boolean) hx hb hr (by decide) (fun t ht hW => ⟨⟨0, F50, rfl, ⟨(by decide), ⟨trivial, (fun q => absurd (by decide) q)⟩, hI, hfr, (fun q => absurd (by decide) q)⟩, by rw [ht]; exact hP, va_K.moved hW.alike hK⟩, hS.F ht⟩) hS.2.2 dX1_foresee_40
  · have c29 := (ax_eq (n := 0) (by decide)).mp c29
    refine lv_iconst (v := 0) hx hb dX1_foresee_12 (by decide) ?_
    exact W.zret (v := 0) (ty := .boolean) hx hb hr (by decide) (fun t ht hW => ⟨⟨0, F25, rfl, ⟨(by decide), ⟨trivial, (fun q => absurd (by decide) q)⟩, hI, hfr, (fun q => absurd (by decide) q)⟩, by rw [ht]; exact hP, va_K.moved hW.alike hK⟩, hS.F ht⟩) hS.2.2 dX1_foresee_13

set_option maxHeartbeats 4000000 in
set_option maxRecDepth 100000 in
theorem s_X1_ask (l : Launch) (dC : Nat → ClassId) (dI : Nat → Nat → Nat) (sz : Nat) {L : List Nat} {K : Nat → Nat} {cs : Nat → ClassId} (hLK : ∀ a {k : Nat}, K a = k → k ≠ 0 → a ∈ L) (D : Nat) (F : Nat → va_E) (a0 : Nat) (x1 : Int32) (x2 : Int32) (ha0 : K a0 = 2) (hx2 : 0 ≤ x2.toInt ∧ x2.toInt ≤ 7) (hI : s_I K cs D F) (hR : s_rd3 K F a0) (hadr : ∀ z vs f, F a0 = .inr (1, .ref z :: vs) → F z = .inl (cs 0, 8, .inl f) → 9 ≤ x1.toInt → (f x2.toNatClampNeg).toInt ≤ 31) : Met l yX1_ask (Cond.code yX1_ask cX1_ask 8 none :: T0) ({ frames := 2, cells := 0, slots := 0, locals := 43 }) (va_Pc [.ref a0, .int x1, .int x2] (s_W dC dI sz L F [(cs 0, .int), (cs 1, .byte), (cs 2, .long), (cs 3, .object RX5), (cs 4, .object RX4), (cs 5, .array .int), (cs 6, .char), (cs 7, .boolean)])) (va_Qv (fun (G : Nat → va_E) => True ∧ (True ∧ (∀ vs, F a0 = .inr (1, vs) → ∃ w, G a0 = .inr (1, vs.set 11 (.long w)))) ∧ s_I K cs D G ∧ ∀ b, K b ∉ [2, 24, 27, 28, 30] → G b = F b) (fun (G : Nat → va_E) (t : State) => va_P (dC, dI) vwCl (va_pl L G) t.heap ∧ va_K (dC, dI) vwCl [(cs 0, .int), (cs 1, .byte), (cs 2, .long), (cs 3, .object RX5), (cs 4, .object RX4), (cs 5, .array .int), (cs 6, .char), (cs 7, .boolean)] t) (fun q => q ∈ L)) 0 0 (fun q => q ∈ L) := by
  refine Met.ofW (cc := cX1_ask) (maxL := 8) (ret := none) (by decide) rfl ?_
  intro p e s m args below meth c s₁ B hml hv
  obtain ⟨rfl, hsz, hP, hK, hD, hN⟩ := hv
  have hx := B.exec
  have hb := B.bytes
  have hr := B.returns
  have hts : ∀ w ∈ T0, w.before _ s = true := fun w h => atoms_spec (ws := Cond.code yX1_ask cX1_ask 8 none :: T0) B.pre w (List.mem_cons_of_mem _ h)
  have hown : s.vm.findClass RX1 = some m.cls := findClass_of_methodNamed B.named
  have hlocks := B.notSynchronized
  have hS : va_S (fun q => q ∈ L) s.heap s.heap [] := va_S.rf
  have hfr : ∀ b, K b ∉ [2, 24, 27, 28, 30] → F b = F b := fun _ _ => rfl
  have hl := lv_entry ([.ref a0, .int x1, .int x2]) (n := 8) (Nat.le_of_ble_eq_true rfl)
  rw [lg_entry_eq]
  generalize (lg_sl ([.ref a0, .int x1, .int x2]) ++ List.replicate (8 - (lg_sl ([.ref a0, .int x1, .int x2])).length) Slot.unset).toArray = ls at hl ⊢
  have hl : lv_has ls 8 [(0, .ref a0), (1, .int x1), (2, .int x2)] := hl
  refine s_gen hP hS (fun H locs hP hS => ?_)
  obtain ⟨z1, z3, z5, z7, z9, z11, z13, z15, z16, z17, z19, z20, o21, h2, h4, h6, h8, h10, h12, h14, h18, -⟩ := hR
  refine lv_aload_n hx hb dX1_ask_0 rfl (lv_at hl 0 rfl) ?_
  refine th_get (D := (dC, dI)) (ci := 1) (v := .ref z1) (C := RX1) (T := TX1) (N := 12) hx hb hts inX1 hown hK hP (hLK _ ha0 (by decide)) o21 rfl 0 (by decide) (hts _ T_119) (fun _ h9 => h9) rfl dX1_ask_1 ?_
  refine lv_iload_n hx hb dX1_ask_4 rfl (lv_at hl 2 rfl) ?_
  obtain ⟨f22, o23, h24⟩ := s_op34 hI h2
  refine th_iald hx hb hK hP (hLK _ h2 (by decide)) 0 o23 rfl (th_in ⟨by omega, by omega⟩) dX1_ask_5 ?_
  refine lv_topi (fun v25 ev25 => ?_)
  have qv25 : 0 ≤ v25.toInt ∧ v25.toInt ≤ 63 := by rw [ev25]; exact h24 _ (th_cl ⟨by omega, by omega⟩)
  have nv25 : 9 ≤ x1.toInt → v25.toInt ≤ 31 := fun q => by rw [ev25]; exact hadr _ _ f22 o21 o23 q
  refine lv_istore_n (lv' := [(3, .int v25), (0, .ref a0), (1, .int x1), (2, .int x2)]) hx hb dX1_ask_6 rfl hl (by decide) rfl (fun ls hl => ?_)
  refine lv_iload_n hx hb dX1_ask_7 rfl (lv_at hl 3 rfl) ?_
  refine lv_iconst (v := 4) hx hb dX1_ask_8 (by decide) ?_
  refine lv_imul hx hb dX1_ask_9 ?_
  refine lv_topi (fun v26 ev26 => ?_)
  have qv26 : v26.toInt = x2.toInt * 4 := by rw [ev26]; exact th_mul rfl (by decide) ⟨by omega, by omega⟩
  refine lv_aload_n hx hb dX1_ask_10 rfl (lv_at hl 1 rfl) ?_
  refine th_get (D := (dC, dI)) (ci := 1) (v := .ref z11) (C := RX1) (T := TX1) (N := 12) hx hb hts inX1 hown hK hP (hLK _ ha0 (by decide)) o21 rfl 5 (by decide) (hts _ T_607) (fun _ h9 => h9) rfl dX1_ask_11 ?_
  refine lv_iconst (v := 1) hx hb dX1_ask_14 (by decide) ?_
  obtain ⟨f27, o28, h29⟩ := s_op23 hI h12
  refine th_iald hx hb hK hP (hLK _ h12 (by decide)) 0 o28 rfl (ax_in (by decide)) dX1_ask_15 ?_
  refine lv_topi (fun v30 ev30 => ?_)
  have qv30 : v30.toInt ≤ 3 := by rw [ev30]; exact h29
  refine lv_iconst (v := 0) hx hb dX1_ask_16 (by decide) ?_
  refine va_mmax hx hb (by rw [hml]; exact hl.1.symm) hown (hts _ T_608) (hts _ T_609) (hts _ T_237) (hts _ T_610) (Nat.le_of_ble_eq_true rfl) (Nat.le_of_ble_eq_true rfl) (Nat.zero_le _) (Nat.zero_le _) dX1_ask_17 ?_
  refine lv_topi (fun v31 ev31 => ?_)
  have qv31 := th_mmax (a := v30.toInt) (b := 0) ev31 rfl (by decide)
  refine lv_iadd hx hb dX1_ask_20 ?_
  refine lv_topi (fun v32 ev32 => ?_)
  have qv32 : v32.toInt = v26.toInt + v31.toInt := by rw [ev32]; exact th_add rfl rfl ⟨by omega, by omega⟩
  refine lv_istore (lv' := [(4, .int v32), (3, .int v25), (0, .ref a0), (1, .int x1), (2, .int x2)]) hx hb dX1_ask_21 hl (by decide) rfl (fun ls hl => ?_)
  refine lv_iload_n hx hb dX1_ask_23 rfl (lv_at hl 3 rfl) ?_
  refine lv_bipush (v := 9) hx hb dX1_ask_24 (by decide) ?_
  refine lv_icmp_lt (tgt := 33) hx hb dX1_ask_26 (by decide) (fun c33 => ?_) (fun c33 => ?_)
  · have c33 := (ax_lt (n := 9) (by decide)).mp c33
    refine lv_iconst (v := 0) hx hb dX1_ask_33 (by decide) ?_
    refine lv_istore (lv' := [(5, .int 0), (4, .int v32), (3, .int v25), (0, .ref a0), (1, .int x1), (2, .int x2)]) hx hb dX1_ask_34 hl (by decide) rfl (fun ls hl => ?_)
    refine lv_iload hx hb dX1_ask_36 (lv_at hl 0 rfl) ?_
    refine lv_if_eq (tgt := 51) hx hb dX1_ask_38 (by decide) (fun _ => ?_) (fun c => absurd (by decide) c)
    refine lv_aload_n hx hb dX1_ask_51 rfl (lv_at hl 3 rfl) ?_
    refine th_get (D := (dC, dI)) (ci := 1) (v := .ref z7) (C := RX1) (T := TX1) (N := 12) hx hb hts inX1 hown hK hP (hLK _ ha0 (by decide)) o21 rfl 3 (by decide) (hts _ T_611) (fun _ h9 => h9) rfl dX1_ask_52 ?_
    obtain ⟨z35, z37, z39, z41, z43, z45, z47, z49, z51, z53, z55, z57, z58, z60, z61, o63, h36, h38, h40, h42, h44, h46, h48, h50, h52, h54, h56, h59, h62, -⟩ := s_op5 hI h8
    refine th_getN (D := (dC, dI)) (ci := 4) (v := .ref z37) (C := RX4) (T := TX4) (N := 15) hx hb hts inX4 hown hK hP (hLK _ h8 (by decide)) o63 rfl 1 (by decide) (va_Nw.use rfl (ax_n19 hN)) (fun _ h9 => h9) rfl dX1_ask_55 ?_
    refine lv_astore (lv' := [(6, .ref z37), (5, .int 0), (4, .int v32), (3, .int v25), (0, .ref a0), (1, .int x1), (2, .int x2)]) hx hb dX1_ask_58 hl (by decide) rfl (fun ls hl => ?_)
    refine lv_iload_n hx hb dX1_ask_60 rfl (lv_at hl 5 rfl) ?_
    refine lv_bipush (v := 11) hx hb dX1_ask_61 (by decide) ?_
    refine lv_icmp_ne (tgt := 99) hx hb dX1_ask_63 (by decide) (fun c64 => ?_) (fun c64 => ?_)
    · have c64 := mt (ax_eq (n := 11) (by decide)).mpr c64
      refine lv_iload_n hx hb dX1_ask_99 rfl (lv_at hl 5 rfl) ?_
      refine lv_bipush (v := 8) hx hb dX1_ask_100 (by decide) ?_
      refine lv_icmp_eq (tgt := 111) hx hb dX1_ask_102 (by decide) (fun c65 => ?_) (fun c65 => ?_)
      · have c65 := (ax_eq (n := 8) (by decide)).mp c65
        refine lv_iconst (v := 1) hx hb dX1_ask_111 (by decide) ?_
        refine lv_goto (tgt := 116) hx hb dX1_ask_112 (by decide) ?_
        refine lv_istore (lv' := [(7, .int 1), (6, .ref z37), (5, .int 0), (4, .int v32), (3, .int v25), (0, .ref a0), (1, .int x1), (2, .int x2)]) hx hb dX1_ask_116 hl (by decide) rfl (fun ls hl => ?_)
        refine lv_iload hx hb dX1_ask_118 (lv_at hl 0 rfl) ?_
        refine lv_if_eq (tgt := 141) hx hb dX1_ask_120 (by decide) (fun c => absurd c (by decide)) (fun _ => ?_)
        refine lv_aload hx hb dX1_ask_123 (lv_at hl 1 rfl) ?_
        refine lv_iload_n hx hb dX1_ask_125 rfl (lv_at hl 4 rfl) ?_
        refine lv_aload_n hx hb dX1_ask_126 rfl (lv_at hl 5 rfl) ?_
        refine lv_aload_n hx hb dX1_ask_127 rfl (lv_at hl 5 rfl) ?_
        refine th_get (D := (dC, dI)) (ci := 1) (v := .ref z11) (C := RX1) (T := TX1) (N := 12) hx hb hts inX1 hown hK hP (hLK _ ha0 (by decide)) o21 rfl 5 (by decide) (hts _ T_607) (fun _ h9 => h9) rfl dX1_ask_128 ?_
        refine lv_iconst (v := 3) hx hb dX1_ask_131 (by decide) ?_
        obtain ⟨f67, o68, h69⟩ := s_op23 hI h12
        refine th_iald hx hb hK hP (hLK _ h12 (by decide)) 0 o68 rfl (ax_in (by decide)) dX1_ask_132 ?_
        refine lv_topi (fun v70 ev70 => ?_)
        refine lv_iload_n hx hb dX1_ask_133 rfl (lv_at hl 7 rfl) ?_
        refine va_calli (va_runV (As := [.int v70, .int x2]) (rest := [.int v25, .ref z37]) ⟨hx, hb, hml, hown, hts⟩ (s_X1_valueOf l dC dI H.size hLK D F a0 v70 x2 ha0 (⟨by omega, by omega⟩) hI ⟨z1, z3, z5, z7, z9, z11, z13, z15, z16, z17, z19, z20, o21, h2, h4, h6, h8, h10, h12, ⟨by omega, by omega⟩, ⟨by omega, by omega⟩, trivial⟩) (cwV 2 hts (ax_gV T_613 T_615 T_616 T_137 T_614) rfl rfl rfl (by decide +kernel) ⟨Nat.le_of_ble_eq_true rfl, Nat.le_of_ble_eq_true rfl⟩) ⟨fun a U g mk q => ⟨q.1, s_pc (U := U) rfl rfl q.2⟩, s_recv hK hP (hLK _ ha0 (by decide)) (ci := 1) rfl o21, fun U hU hW => ⟨rfl, s_pw hU hW hP hK hD hN⟩⟩ rfl rfl hl.1 rfl (lv_room (Nat.le_of_ble_eq_true rfl)) dX1_ask_134 ⟨Nat.zero_le _, Nat.zero_le _⟩) hS (fun q _ h => h) (fun q h => h) (fun r71 F72 t H1 locs ht hvm hw hB hz1 hk1 hS => ?_)
        obtain ⟨hP, hK1⟩ := hB
        rw [ht] at hP
        generalize H1 = H at hP hS ⊢
        clear hz1 hk1
        obtain ⟨h73, h74, hI, hfr1⟩ := hw
        have o75 : F72 a0 = .inr (1, [.ref z1, .ref z3, .ref z5, .ref z7, .ref z9, .ref z11, .int z13, .int z15, .int z16, .int z17, .int z19, .long z20]) := (hfr1 _ (by rw [ha0]; decide)).trans o21
        have o76 : F72 z7 = .inr (4, [.ref z35, .ref z37, .ref z39, .ref z41, .ref z43, .ref z45, .ref z47, .int z49, .int z51, .int z53, .int z55, .int z57, .int z58, .int z60, .int z61]) := (hfr1 _ (by rw [h8]; decide)).trans o63
        have hfr : ∀ b, K b ∉ [2, 24, 27, 28, 30] → F72 b = F b := fun b hb9 => (hfr1 b (fun q => hb9 (s_sub (by decide) q))).trans (hfr b hb9)
        obtain ⟨f77, o78, h79⟩ := s_op24 hI h38
        refine th_iast hx hb hK hP hD hS (hLK _ h38 (by decide)) 0 o78 rfl (th_in ⟨by omega, by omega⟩) dX1_ask_137 (fun H locs hP hS => ?_)
        have hP : va_P (dC, dI) vwCl (va_pl L (va_up F72 z37 (.inl (cs 0, 64, .inl (upd f77 (v25 : Int32).toNatClampNeg r71))))) H := hP
        obtain ⟨F80, hF81⟩ : ∃ G : Nat → va_E, G = va_up F72 z37 (.inl (cs 0, 64, .inl (upd f77 (v25 : Int32).toNatClampNeg r71))) := ⟨_, rfl⟩
        rw [← hF81] at hP
        have hI : s_I K cs D F80 := by rw [hF81]; exact s_cl24 hI h38 ⟨_, rfl, trivial⟩
        have hfr : ∀ b, K b ∉ [2, 24, 27, 28, 30] → F80 b = F b := by rw [hF81]; exact s_fr hfr h38 (by decide)
        have o82 : F80 a0 = .inr (1, [.ref z1, .ref z3, .ref z5, .ref z7, .ref z9, .ref z11, .int z13, .int z15, .int z16, .int z17, .int z19, .long z20]) := by rw [hF81]; exact th_ne (th_kd ha0 h38 (by decide)) o75
        have o83 : F80 z7 = .inr (4, [.ref z35, .ref z37, .ref z39, .ref z41, .ref z43, .ref z45, .ref z47, .int z49, .int z51, .int z53, .int z55, .int z57, .int z58, .int z60, .int z61]) := by rw [hF81]; exact th_ne (th_kd h8 h38 (by decide)) o76
        refine lv_goto (tgt := 155) hx hb dX1_ask_138 (by decide) ?_
        refine lv_iload_n hx hb dX1_ask_155 rfl (lv_at hl 6 rfl) ?_
        refine lv_bipush (v := 7) hx hb dX1_ask_156 (by decide) ?_
        refine lv_icmp_ne (tgt := 173) hx hb dX1_ask_158 (by decide) (fun c84 => ?_) (fun c84 => ?_)
        · have c84 := mt (ax_eq (n := 7) (by decide)).mpr c84
          refine lv_aload_n hx hb dX1_ask_173 rfl (lv_at hl 5 rfl) ?_
          refine th_get (D := (dC, dI)) (ci := 1) (v := .ref z7) (C := RX1) (T := TX1) (N := 12) hx hb hts inX1 hown hK hP (hLK _ ha0 (by decide)) o82 rfl 3 (by decide) (hts _ T_611) (fun _ h9 => h9) rfl dX1_ask_174 ?_
          refine lv_iload hx hb dX1_ask_177 (lv_at hl 2 rfl) ?_
          refine lv_if_eq (tgt := 189) hx hb dX1_ask_179 (by decide) (fun _ => ?_) (fun c => absurd (by decide) c)
          refine lv_iload_n hx hb dX1_ask_189 rfl (lv_at hl 4 rfl) ?_
          refine lv_aload_n hx hb dX1_ask_190 rfl (lv_at hl 5 rfl) ?_
          refine th_get (D := (dC, dI)) (ci := 1) (v := .int z13) (C := RX1) (T := TX1) (N := 12) hx hb hts inX1 hown hK hP (hLK _ ha0 (by decide)) o82 rfl 6 (by decide) (hts _ T_618) (fun _ h9 => h9) rfl dX1_ask_191 ?_
          refine lv_bipush (v := 8) hx hb dX1_ask_194 (by decide) ?_
          refine lv_imul hx hb dX1_ask_196 ?_
          refine lv_topi (fun v86 ev86 => ?_)
          have qv86 : v86.toInt = z13.toInt * 8 := by rw [ev86]; exact th_mul rfl (by decide) ⟨by omega, by omega⟩
          refine lv_iload_n hx hb dX1_ask_197 rfl (lv_at hl 7 rfl) ?_
          refine lv_iadd hx hb dX1_ask_198 ?_
          refine lv_topi (fun v87 ev87 => ?_)
          have qv87 : v87.toInt = v86.toInt + x2.toInt := by rw [ev87]; exact th_add rfl rfl ⟨by omega, by omega⟩
          refine lv_iload hx hb dX1_ask_199 (lv_at hl 0 rfl) ?_
          refine va_callv (va_runV (As := [.int v25, .int v87, .int 1]) (rest := []) ⟨hx, hb, hml, hown, hts⟩ (s_X4_touch l dC dI H.size hLK D F80 z7 v25 v87 1 h8 (⟨by omega, by omega⟩) (by decide) hI) (cwV 3 hts (ax_gV T_619 T_621 T_622 T_142 T_620) rfl rfl rfl (by decide +kernel) ⟨Nat.le_of_ble_eq_true rfl, Nat.le_of_ble_eq_true rfl⟩) ⟨fun a U g mk q => ⟨q.1, s_pc (U := U) rfl rfl q.2⟩, s_recv hK hP (hLK _ h8 (by decide)) (ci := 4) rfl o83, fun U hU hW => ⟨rfl, s_pw hU hW hP hK hD hN⟩⟩ rfl rfl hl.1 rfl (lv_room (Nat.le_of_ble_eq_true rfl)) dX1_ask_201 ⟨Nat.zero_le _, Nat.zero_le _⟩) hS (fun q _ h => h) (fun q h => h) (fun F88 t H1 locs ht hvm hw hB hz1 hk1 hS => ?_)
          obtain ⟨hP, hK1⟩ := hB
          rw [ht] at hP
          generalize H1 = H at hP hS ⊢
          clear hz1 hk1
          obtain ⟨h89, h90, hI, hfr1⟩ := hw
          have o91 : F88 a0 = .inr (1, [.ref z1, .ref z3, .ref z5, .ref z7, .ref z9, .ref z11, .int z13, .int z15, .int z16, .int z17, .int z19, .long z20]) := (hfr1 _ (by rw [ha0]; decide)).trans o82
          have o92 : F88 z7 = .inr (4, [.ref z35, .ref z37, .ref z39, .ref z41, .ref z43, .ref z45, .ref z47, .int z49, .int z51, .int z53, .int z55, .int z57, .int z58, .int z60, .int z61]) := (hfr1 _ (by rw [h8]; decide)).trans o83
          have hfr : ∀ b, K b ∉ [2, 24, 27, 28, 30] → F88 b = F b := fun b hb9 => (hfr1 b (fun q => hb9 (s_sub (by decide) q))).trans (hfr b hb9)
          exact W.vret hx hb hr (fun t ht hW => ⟨⟨F88, rfl, ⟨trivial, ⟨trivial, (fun vs q => by rw [o21] at q; cases q; exact ⟨_, o91⟩)⟩, hI, hfr⟩, by rw [ht]; exact hP, va_K.moved hW.alike hK⟩, hS.F ht⟩) hS.2.2 dX1_ask_204
        · have c84 := (ax_eq (n := 7) (by decide)).mp c84
          exact absurd c84 (by omega)
      · have c65 := mt (ax_eq (n := 8) (by decide)).mpr c65
        refine lv_iload_n hx hb dX1_ask_105 rfl (lv_at hl 5 rfl) ?_
        refine lv_bipush (v := 10) hx hb dX1_ask_106 (by decide) ?_
        refine lv_icmp_ne (tgt := 115) hx hb dX1_ask_108 (by decide) (fun c93 => ?_) (fun c93 => ?_)
        · have c93 := mt (ax_eq (n := 10) (by decide)).mpr c93
          refine lv_iconst (v := 0) hx hb dX1_ask_115 (by decide) ?_
          refine lv_istore (lv' := [(7, .int 0), (6, .ref z37), (5, .int 0), (4, .int v32), (3, .int v25), (0, .ref a0), (1, .int x1), (2, .int x2)]) hx hb dX1_ask_116 hl (by decide) rfl (fun ls hl => ?_)
          refine lv_iload hx hb dX1_ask_118 (lv_at hl 0 rfl) ?_
          refine lv_if_eq (tgt := 141) hx hb dX1_ask_120 (by decide) (fun _ => ?_) (fun c => absurd (by decide) c)
          refine lv_aload_n hx hb dX1_ask_141 rfl (lv_at hl 5 rfl) ?_
          refine th_get (D := (dC, dI)) (ci := 1) (v := .ref z9) (C := RX1) (T := TX1) (N := 12) hx hb hts inX1 hown hK hP (hLK _ ha0 (by decide)) o21 rfl 4 (by decide) (hts _ T_612) (fun _ h9 => h9) rfl dX1_ask_142 ?_
          obtain ⟨z95, z97, z99, z101, z103, z105, z107, z108, z109, z110, z111, o113, h96, h98, h100, h102, h104, h106, h112, -⟩ := s_op6 hI h10
          refine th_getN (D := (dC, dI)) (ci := 5) (v := .ref z95) (C := RX5) (T := TX5) (N := 11) hx hb hts inX5 hown hK hP (hLK _ h10 (by decide)) o113 rfl 0 (by decide) (va_Nw.use rfl (ax_n20 hN)) (fun _ h9 => h9) rfl dX1_ask_145 ?_
          refine lv_iload hx hb dX1_ask_148 (lv_at hl 3 rfl) ?_
          refine lv_aload hx hb dX1_ask_150 (lv_at hl 1 rfl) ?_
          refine lv_iload_n hx hb dX1_ask_152 rfl (lv_at hl 4 rfl) ?_
          obtain ⟨f114, o115, h116⟩ := s_op24 hI h38
          refine th_iald hx hb hK hP (hLK _ h38 (by decide)) 0 o115 rfl (th_in ⟨by omega, by omega⟩) dX1_ask_153 ?_
          refine lv_topi (fun v117 ev117 => ?_)
          obtain ⟨f118, o119, h120⟩ := s_op30 hI h96
          refine th_iast hx hb hK hP hD hS (hLK _ h96 (by decide)) 0 o119 rfl (th_in ⟨by omega, by omega⟩) dX1_ask_154 (fun H locs hP hS => ?_)
          have hP : va_P (dC, dI) vwCl (va_pl L (va_up F z95 (.inl (cs 0, 32, .inl (upd f118 (v32 : Int32).toNatClampNeg v117))))) H := hP
          obtain ⟨F121, hF122⟩ : ∃ G : Nat → va_E, G = va_up F z95 (.inl (cs 0, 32, .inl (upd f118 (v32 : Int32).toNatClampNeg v117))) := ⟨_, rfl⟩
          rw [← hF122] at hP
          have hI : s_I K cs D F121 := by rw [hF122]; exact s_cl30 hI h96 ⟨_, rfl, trivial⟩
          have hfr : ∀ b, K b ∉ [2, 24, 27, 28, 30] → F121 b = F b := by rw [hF122]; exact s_fr hfr h96 (by decide)
          have o123 : F121 a0 = .inr (1, [.ref z1, .ref z3, .ref z5, .ref z7, .ref z9, .ref z11, .int z13, .int z15, .int z16, .int z17, .int z19, .long z20]) := by rw [hF122]; exact th_ne (th_kd ha0 h96 (by decide)) o21
          have o124 : F121 z7 = .inr (4, [.ref z35, .ref z37, .ref z39, .ref z41, .ref z43, .ref z45, .ref z47, .int z49, .int z51, .int z53, .int z55, .int z57, .int z58, .int z60, .int z61]) := by rw [hF122]; exact th_ne (th_kd h8 h96 (by decide)) o63
          have o125 : F121 z9 = .inr (5, [.ref z95, .ref z97, .ref z99, .ref z101, .ref z103, .int z105, .int z107, .int z108, .int z109, .int z110, .int z111]) := by rw [hF122]; exact th_ne (th_kd h10 h96 (by decide)) o113
          refine lv_iload_n hx hb dX1_ask_155 rfl (lv_at hl 6 rfl) ?_
          refine lv_bipush (v := 7) hx hb dX1_ask_156 (by decide) ?_
          refine lv_icmp_ne (tgt := 173) hx hb dX1_ask_158 (by decide) (fun c126 => ?_) (fun c126 => ?_)
          · have c126 := mt (ax_eq (n := 7) (by decide)).mpr c126
            refine lv_aload_n hx hb dX1_ask_173 rfl (lv_at hl 5 rfl) ?_
            refine th_get (D := (dC, dI)) (ci := 1) (v := .ref z7) (C := RX1) (T := TX1) (N := 12) hx hb hts inX1 hown hK hP (hLK _ ha0 (by decide)) o123 rfl 3 (by decide) (hts _ T_611) (fun _ h9 => h9) rfl dX1_ask_174 ?_
            refine lv_iload hx hb dX1_ask_177 (lv_at hl 2 rfl) ?_
            refine lv_if_eq (tgt := 189) hx hb dX1_ask_179 (by decide) (fun _ => ?_) (fun c => absurd (by decide) c)
            refine lv_iload_n hx hb dX1_ask_189 rfl (lv_at hl 4 rfl) ?_
            refine lv_aload_n hx hb dX1_ask_190 rfl (lv_at hl 5 rfl) ?_
            refine th_get (D := (dC, dI)) (ci := 1) (v := .int z13) (C := RX1) (T := TX1) (N := 12) hx hb hts inX1 hown hK hP (hLK _ ha0 (by decide)) o123 rfl 6 (by decide) (hts _ T_618) (fun _ h9 => h9) rfl dX1_ask_191 ?_
            refine lv_bipush (v := 8) hx hb dX1_ask_194 (by decide) ?_
            refine lv_imul hx hb dX1_ask_196 ?_
            refine lv_topi (fun v128 ev128 => ?_)
            have qv128 : v128.toInt = z13.toInt * 8 := by rw [ev128]; exact th_mul rfl (by decide) ⟨by omega, by omega⟩
            refine lv_iload_n hx hb dX1_ask_197 rfl (lv_at hl 7 rfl) ?_
            refine lv_iadd hx hb dX1_ask_198 ?_
            refine lv_topi (fun v129 ev129 => ?_)
            have qv129 : v129.toInt = v128.toInt + x2.toInt := by rw [ev129]; exact th_add rfl rfl ⟨by omega, by omega⟩
            refine lv_iload hx hb dX1_ask_199 (lv_at hl 0 rfl) ?_
            refine va_callv (va_runV (As := [.int v25, .int v129, .int 0]) (rest := []) ⟨hx, hb, hml, hown, hts⟩ (s_X4_touch l dC dI H.size hLK D F121 z7 v25 v129 0 h8 (⟨by omega, by omega⟩) (by decide) hI) (cwV 3 hts (ax_gV T_619 T_621 T_622 T_142 T_620) rfl rfl rfl (by decide +kernel) ⟨Nat.le_of_ble_eq_true rfl, Nat.le_of_ble_eq_true rfl⟩) ⟨fun a U g mk q => ⟨q.1, s_pc (U := U) rfl rfl q.2⟩, s_recv hK hP (hLK _ h8 (by decide)) (ci := 4) rfl o124, fun U hU hW => ⟨rfl, s_pw hU hW hP hK hD hN⟩⟩ rfl rfl hl.1 rfl (lv_room (Nat.le_of_ble_eq_true rfl)) dX1_ask_201 ⟨Nat.zero_le _, Nat.zero_le _⟩) hS (fun q _ h => h) (fun q h => h) (fun F130 t H1 locs ht hvm hw hB hz1 hk1 hS => ?_)
            obtain ⟨hP, hK1⟩ := hB
            rw [ht] at hP
            generalize H1 = H at hP hS ⊢
            clear hz1 hk1
            obtain ⟨h131, h132, hI, hfr1⟩ := hw
            have o133 : F130 a0 = .inr (1, [.ref z1, .ref z3, .ref z5, .ref z7, .ref z9, .ref z11, .int z13, .int z15, .int z16, .int z17, .int z19, .long z20]) := (hfr1 _ (by rw [ha0]; decide)).trans o123
            have o134 : F130 z7 = .inr (4, [.ref z35, .ref z37, .ref z39, .ref z41, .ref z43, .ref z45, .ref z47, .int z49, .int z51, .int z53, .int z55, .int z57, .int z58, .int z60, .int z61]) := (hfr1 _ (by rw [h8]; decide)).trans o124
            have o135 : F130 z9 = .inr (5, [.ref z95, .ref z97, .ref z99, .ref z101, .ref z103, .int z105, .int z107, .int z108, .int z109, .int z110, .int z111]) := (hfr1 _ (by rw [h10]; decide)).trans o125
            have hfr : ∀ b, K b ∉ [2, 24, 27, 28, 30] → F130 b = F b := fun b hb9 => (hfr1 b (fun q => hb9 (s_sub (by decide) q))).trans (hfr b hb9)
            exact W.vret hx hb hr (fun t ht hW => ⟨⟨F130, rfl, ⟨trivial, ⟨trivial, (fun vs q => by rw [o21] at q; cases q; exact ⟨_, o133⟩)⟩, hI, hfr⟩, by rw [ht]; exact hP, va_K.moved hW.alike hK⟩, hS.F ht⟩) hS.2.2 dX1_ask_204
          · have c126 := (ax_eq (n := 7) (by decide)).mp c126
            refine lv_aload_n hx hb dX1_ask_161 rfl (lv_at hl 5 rfl) ?_
            refine lv_dup hx hb dX1_ask_162 rfl ?_
            refine th_get (D := (dC, dI)) (ci := 1) (v := .long z20) (C := RX1) (T := TX1) (N := 12) hx hb hts inX1 hown hK hP (hLK _ ha0 (by decide)) o123 rfl 11 (by decide) (hts _ T_617) (fun _ h9 => h9) rfl dX1_ask_163 ?_
            refine lv_lconst (v := 1) hx hb dX1_ask_166 (by decide) ?_
            refine lv_iload_n hx hb dX1_ask_167 rfl (lv_at hl 4 rfl) ?_
            refine lv_lshl hx hb dX1_ask_168 rfl ?_
            refine lv_topl (fun v136 _ => ?_)
            refine lv_lor hx hb dX1_ask_169 ?_
            refine lv_topl (fun v137 ev137 => ?_)
            refine th_put (D := (dC, dI)) (ci := 1) (v := .long v137) (ty := .long) (C := RX1) (T := TX1) (N := 12) hx hb hts inX1 tyX1 tyX1_ok nmX1 hown hK hP hD hS (hLK _ ha0 (by decide)) o123 rfl 11 (by decide) (hts _ T_617) (fun _ h9 => h9) rfl (by decide +kernel) rfl rfl (Nat.le_of_ble_eq_true rfl) dX1_ask_170 (fun H locs hP hS => ?_)
            have hP : va_P (dC, dI) vwCl (va_pl L (va_up F121 a0 (.inr (1, [.ref z1, .ref z3, .ref z5, .ref z7, .ref z9, .ref z11, .int z13, .int z15, .int z16, .int z17, .int z19, .long v137])))) H := hP
            obtain ⟨F138, hF139⟩ : ∃ G : Nat → va_E, G = va_up F121 a0 (.inr (1, [.ref z1, .ref z3, .ref z5, .ref z7, .ref z9, .ref z11, .int z13, .int z15, .int z16, .int z17, .int z19, .long v137])) := ⟨_, rfl⟩
            rw [← hF139] at hP
            have hI : s_I K cs D F138 := by rw [hF139]; exact s_cl2 hI ha0 ⟨z1, z3, z5, some z7, some z9, some z11, z13, z15, z16, z17, z19, v137, rfl, h2, h4, h6, (fun q e => by cases e; exact h8), (fun q e => by cases e; exact h10), ⟨by omega, by omega⟩, ⟨by omega, by omega⟩, trivial⟩
            have hfr : ∀ b, K b ∉ [2, 24, 27, 28, 30] → F138 b = F b := by rw [hF139]; exact s_fr hfr ha0 (by decide)
            have o140 : F138 z7 = .inr (4, [.ref z35, .ref z37, .ref z39, .ref z41, .ref z43, .ref z45, .ref z47, .int z49, .int z51, .int z53, .int z55, .int z57, .int z58, .int z60, .int z61]) := by rw [hF139]; exact th_ne (th_kd h8 ha0 (by decide)) o124
            have o141 : F138 z9 = .inr (5, [.ref z95, .ref z97, .ref z99, .ref z101, .ref z103, .int z105, .int z107, .int z108, .int z109, .int z110, .int z111]) := by rw [hF139]; exact th_ne (th_kd h10 ha0 (by decide)) o125
            have o142 : F138 a0 = .inr (1, [.ref z1, .ref z3, .ref z5, .ref z7, .ref z9, .ref z11, .int z13, .int z15, .int z16, .int z17, .int z19, .long v137]) := by rw [hF139]; exact th_up
            refine lv_aload_n hx hb dX1_ask_173 rfl (lv_at hl 5 rfl) ?_
            refine th_get (D := (dC, dI)) (ci := 1) (v := .ref z7) (C := RX1) (T := TX1) (N := 12) hx hb hts inX1 hown hK hP (hLK _ ha0 (by decide)) o142 rfl 3 (by decide) (hts _ T_611) (fun _ h9 => h9) rfl dX1_ask_174 ?_
            refine lv_iload hx hb dX1_ask_177 (lv_at hl 2 rfl) ?_
            refine lv_if_eq (tgt := 189) hx hb dX1_ask_179 (by decide) (fun _ => ?_) (fun c => absurd (by decide) c)
            refine lv_iload_n hx hb dX1_ask_189 rfl (lv_at hl 4 rfl) ?_
            refine lv_aload_n hx hb dX1_ask_190 rfl (lv_at hl 5 rfl) ?_
            refine th_get (D := (dC, dI)) (ci := 1) (v := .int z13) (C := RX1) (T := TX1) (N := 12) hx hb hts inX1 hown hK hP (hLK _ ha0 (by decide)) o142 rfl 6 (by decide) (hts _ T_618) (fun _ h9 => h9) rfl dX1_ask_191 ?_
            refine lv_bipush (v := 8) hx hb dX1_ask_194 (by decide) ?_
            refine lv_imul hx hb dX1_ask_196 ?_
            refine lv_topi (fun v144 ev144 => ?_)
            have qv144 : v144.toInt = z13.toInt * 8 := by rw [ev144]; exact th_mul rfl (by decide) ⟨by omega, by omega⟩
            refine lv_iload_n hx hb dX1_ask_197 rfl (lv_at hl 7 rfl) ?_
            refine lv_iadd hx hb dX1_ask_198 ?_
            refine lv_topi (fun v145 ev145 => ?_)
            have qv145 : v145.toInt = v144.toInt + x2.toInt := by rw [ev145]; exact th_add rfl rfl ⟨by omega, by omega⟩
            refine lv_iload hx hb dX1_ask_199 (lv_at hl 0 rfl) ?_
            refine va_callv (va_runV (As := [.int v25, .int v145, .int 0]) (rest := []) ⟨hx, hb, hml, hown, hts⟩ (s_X4_touch l dC dI H.size hLK D F138 z7 v25 v145 0 h8 (⟨by omega, by omega⟩) (by decide) hI) (cwV 3 hts (ax_gV T_619 T_621 T_622 T_142 T_620) rfl rfl rfl (by decide +kernel) ⟨Nat.le_of_ble_eq_true rfl, Nat.le_of_ble_eq_true rfl⟩) ⟨fun a U g mk q => ⟨q.1, s_pc (U := U) rfl rfl q.2⟩, s_recv hK hP (hLK _ h8 (by decide)) (ci := 4) rfl o140, fun U hU hW => ⟨rfl, s_pw hU hW hP hK hD hN⟩⟩ rfl rfl hl.1 rfl (lv_room (Nat.le_of_ble_eq_true rfl)) dX1_ask_201 ⟨Nat.zero_le _, Nat.zero_le _⟩) hS (fun q _ h => h) (fun q h => h) (fun F146 t H1 locs ht hvm hw hB hz1 hk1 hS => ?_)
            obtain ⟨hP, hK1⟩ := hB
            rw [ht] at hP
            generalize H1 = H at hP hS ⊢
            clear hz1 hk1
            obtain ⟨h147, h148, hI, hfr1⟩ := hw
            have o149 : F146 z7 = .inr (4, [.ref z35, .ref z37, .ref z39, .ref z41, .ref z43, .ref z45, .ref z47, .int z49, .int z51, .int z53, .int z55, .int z57, .int z58, .int z60, .int z61]) := (hfr1 _ (by rw [h8]; decide)).trans o140
            have o150 : F146 z9 = .inr (5, [.ref z95, .ref z97, .ref z99, .ref z101, .ref z103, .int z105, .int z107, .int z108, .int z109, .int z110, .int z111]) := (hfr1 _ (by rw [h10]; decide)).trans o141
            have o151 : F146 a0 = .inr (1, [.ref z1, .ref z3, .ref z5, .ref z7, .ref z9, .ref z11, .int z13, .int z15, .int z16, .int z17, .int z19, .long v137]) := (hfr1 _ (by rw [ha0]; decide)).trans o142
            have hfr : ∀ b, K b ∉ [2, 24, 27, 28, 30] → F146 b = F b := fun b hb9 => (hfr1 b (fun q => hb9 (s_sub (by decide) q))).trans (hfr b hb9)
            exact W.vret hx hb hr (fun t ht hW => ⟨⟨F146, rfl, ⟨trivial, ⟨trivial, (fun vs q => by rw [o21] at q; cases q; exact ⟨_, o151⟩)⟩, hI, hfr⟩, by rw [ht]; exact hP, va_K.moved hW.alike hK⟩, hS.F ht⟩) hS.2.2 dX1_ask_204
        · have c93 := (ax_eq (n := 10) (by decide)).mp c93
          exact absurd c93 (by omega)
    · have c64 := (ax_eq (n := 11) (by decide)).mp c64
      exact absurd c64 (by omega)
  · have c33 := mt (ax_lt (n := 9) (by decide)).mpr c33
    refine lv_iconst (v := 1) hx hb dX1_ask_29 (by decide) ?_
    refine lv_goto (tgt := 34) hx hb dX1_ask_30 (by decide) ?_
    refine lv_istore (lv' := [(5, .int 1), (4, .int v32), (3, .int v25), (0, .ref a0), (1, .int x1), (2, .int x2)]) hx hb dX1_ask_34 hl (by decide) rfl (fun ls hl => ?_)
    refine lv_iload hx hb dX1_ask_36 (lv_at hl 0 rfl) ?_
    refine lv_if_eq (tgt := 51) hx hb dX1_ask_38 (by decide) (fun c => absurd c (by decide)) (fun _ => ?_)
    refine lv_aload_n hx hb dX1_ask_41 rfl (lv_at hl 3 rfl) ?_
    refine th_get (D := (dC, dI)) (ci := 1) (v := .ref z7) (C := RX1) (T := TX1) (N := 12) hx hb hts inX1 hown hK hP (hLK _ ha0 (by decide)) o21 rfl 3 (by decide) (hts _ T_611) (fun _ h9 => h9) rfl dX1_ask_42 ?_
    obtain ⟨z153, z155, z157, z159, z161, z163, z165, z167, z169, z171, z173, z175, z176, z178, z179, o181, h154, h156, h158, h160, h162, h164, h166, h168, h170, h172, h174, h177, h180, -⟩ := s_op5 hI h8
    refine th_getN (D := (dC, dI)) (ci := 4) (v := .ref z157) (C := RX4) (T := TX4) (N := 15) hx hb hts inX4 hown hK hP (hLK _ h8 (by decide)) o181 rfl 2 (by decide) (va_Nw.use rfl (ax_n18 hN)) (fun _ h9 => h9) rfl dX1_ask_45 ?_
    refine lv_goto (tgt := 58) hx hb dX1_ask_48 (by decide) ?_
    refine lv_astore (lv' := [(6, .ref z157), (5, .int 1), (4, .int v32), (3, .int v25), (0, .ref a0), (1, .int x1), (2, .int x2)]) hx hb dX1_ask_58 hl (by decide) rfl (fun ls hl => ?_)
    refine lv_iload_n hx hb dX1_ask_60 rfl (lv_at hl 5 rfl) ?_
    refine lv_bipush (v := 11) hx hb dX1_ask_61 (by decide) ?_
    refine lv_icmp_ne (tgt := 99) hx hb dX1_ask_63 (by decide) (fun c182 => ?_) (fun c182 => ?_)
    · have c182 := mt (ax_eq (n := 11) (by decide)).mpr c182
      refine lv_iload_n hx hb dX1_ask_99 rfl (lv_at hl 5 rfl) ?_
      refine lv_bipush (v := 8) hx hb dX1_ask_100 (by decide) ?_
      refine lv_icmp_eq (tgt := 111) hx hb dX1_ask_102 (by decide) (fun c183 => ?_) (fun c183 => ?_)
      · have c183 := (ax_eq (n := 8) (by decide)).mp c183
        exact absurd c183 (by omega)
      · have c183 := mt (ax_eq (n := 8) (by decide)).mpr c183
        refine lv_iload_n hx hb dX1_ask_105 rfl (lv_at hl 5 rfl) ?_
        refine lv_bipush (v := 10) hx hb dX1_ask_106 (by decide) ?_
        refine lv_icmp_ne (tgt := 115) hx hb dX1_ask_108 (by decide) (fun c184 => ?_) (fun c184 => ?_)
        · have c184 := mt (ax_eq (n := 10) (by decide)).mpr c184
          refine lv_iconst (v := 0) hx hb dX1_ask_115 (by decide) ?_
          refine lv_istore (lv' := [(7, .int 0), (6, .ref z157), (5, .int 1), (4, .int v32), (3, .int v25), (0, .ref a0), (1, .int x1), (2, .int x2)]) hx hb dX1_ask_116 hl (by decide) rfl (fun ls hl => ?_)
          refine lv_iload hx hb dX1_ask_118 (lv_at hl 0 rfl) ?_
          refine lv_if_eq (tgt := 141) hx hb dX1_ask_120 (by decide) (fun _ => ?_) (fun c => absurd (by decide) c)
          refine lv_aload_n hx hb dX1_ask_141 rfl (lv_at hl 5 rfl) ?_
          refine th_get (D := (dC, dI)) (ci := 1) (v := .ref z9) (C := RX1) (T := TX1) (N := 12) hx hb hts inX1 hown hK hP (hLK _ ha0 (by decide)) o21 rfl 4 (by decide) (hts _ T_612) (fun _ h9 => h9) rfl dX1_ask_142 ?_
          obtain ⟨z186, z188, z190, z192, z194, z196, z198, z199, z200, z201, z202, o204, h187, h189, h191, h193, h195, h197, h203, -⟩ := s_op6 hI h10
          refine th_getN (D := (dC, dI)) (ci := 5) (v := .ref z186) (C := RX5) (T := TX5) (N := 11) hx hb hts inX5 hown hK hP (hLK _ h10 (by decide)) o204 rfl 0 (by decide) (va_Nw.use rfl (ax_n20 hN)) (fun _ h9 => h9) rfl dX1_ask_145 ?_
          refine lv_iload hx hb dX1_ask_148 (lv_at hl 3 rfl) ?_
          refine lv_aload hx hb dX1_ask_150 (lv_at hl 1 rfl) ?_
          refine lv_iload_n hx hb dX1_ask_152 rfl (lv_at hl 4 rfl) ?_
          obtain ⟨f205, o206, h207⟩ := s_op27 hI h158
          refine th_iald hx hb hK hP (hLK _ h158 (by decide)) 0 o206 rfl (th_in ⟨by omega, by omega⟩) dX1_ask_153 ?_
          refine lv_topi (fun v208 ev208 => ?_)
          obtain ⟨f209, o210, h211⟩ := s_op30 hI h187
          refine th_iast hx hb hK hP hD hS (hLK _ h187 (by decide)) 0 o210 rfl (th_in ⟨by omega, by omega⟩) dX1_ask_154 (fun H locs hP hS => ?_)
          have hP : va_P (dC, dI) vwCl (va_pl L (va_up F z186 (.inl (cs 0, 32, .inl (upd f209 (v32 : Int32).toNatClampNeg v208))))) H := hP
          obtain ⟨F212, hF213⟩ : ∃ G : Nat → va_E, G = va_up F z186 (.inl (cs 0, 32, .inl (upd f209 (v32 : Int32).toNatClampNeg v208))) := ⟨_, rfl⟩
          rw [← hF213] at hP
          have hI : s_I K cs D F212 := by rw [hF213]; exact s_cl30 hI h187 ⟨_, rfl, trivial⟩
          have hfr : ∀ b, K b ∉ [2, 24, 27, 28, 30] → F212 b = F b := by rw [hF213]; exact s_fr hfr h187 (by decide)
          have o214 : F212 a0 = .inr (1, [.ref z1, .ref z3, .ref z5, .ref z7, .ref z9, .ref z11, .int z13, .int z15, .int z16, .int z17, .int z19, .long z20]) := by rw [hF213]; exact th_ne (th_kd ha0 h187 (by decide)) o21
          have o215 : F212 z7 = .inr (4, [.ref z153, .ref z155, .ref z157, .ref z159, .ref z161, .ref z163, .ref z165, .int z167, .int z169, .int z171, .int z173, .int z175, .int z176, .int z178, .int z179]) := by rw [hF213]; exact th_ne (th_kd h8 h187 (by decide)) o181
          have o216 : F212 z9 = .inr (5, [.ref z186, .ref z188, .ref z190, .ref z192, .ref z194, .int z196, .int z198, .int z199, .int z200, .int z201, .int z202]) := by rw [hF213]; exact th_ne (th_kd h10 h187 (by decide)) o204
          refine lv_iload_n hx hb dX1_ask_155 rfl (lv_at hl 6 rfl) ?_
          refine lv_bipush (v := 7) hx hb dX1_ask_156 (by decide) ?_
          refine lv_icmp_ne (tgt := 173) hx hb dX1_ask_158 (by decide) (fun c217 => ?_) (fun c217 => ?_)
          · have c217 := mt (ax_eq (n := 7) (by decide)).mpr c217
            refine lv_aload_n hx hb dX1_ask_173 rfl (lv_at hl 5 rfl) ?_
            refine th_get (D := (dC, dI)) (ci := 1) (v := .ref z7) (C := RX1) (T := TX1) (N := 12) hx hb hts inX1 hown hK hP (hLK _ ha0 (by decide)) o214 rfl 3 (by decide) (hts _ T_611) (fun _ h9 => h9) rfl dX1_ask_174 ?_
            refine lv_iload hx hb dX1_ask_177 (lv_at hl 2 rfl) ?_
            refine lv_if_eq (tgt := 189) hx hb dX1_ask_179 (by decide) (fun c => absurd c (by decide)) (fun _ => ?_)
            refine lv_bipush (v := 64) hx hb dX1_ask_182 (by decide) ?_
            refine lv_iload_n hx hb dX1_ask_184 rfl (lv_at hl 4 rfl) ?_
            refine lv_iadd hx hb dX1_ask_185 ?_
            refine lv_topi (fun v219 ev219 => ?_)
            have qv219 : v219.toInt = 64 + v25.toInt := by rw [ev219]; exact th_add (by decide) rfl ⟨by omega, by omega⟩
            refine lv_goto (tgt := 190) hx hb dX1_ask_186 (by decide) ?_
            refine lv_aload_n hx hb dX1_ask_190 rfl (lv_at hl 5 rfl) ?_
            refine th_get (D := (dC, dI)) (ci := 1) (v := .int z13) (C := RX1) (T := TX1) (N := 12) hx hb hts inX1 hown hK hP (hLK _ ha0 (by decide)) o214 rfl 6 (by decide) (hts _ T_618) (fun _ h9 => h9) rfl dX1_ask_191 ?_
            refine lv_bipush (v := 8) hx hb dX1_ask_194 (by decide) ?_
            refine lv_imul hx hb dX1_ask_196 ?_
            refine lv_topi (fun v220 ev220 => ?_)
            have qv220 : v220.toInt = z13.toInt * 8 := by rw [ev220]; exact th_mul rfl (by decide) ⟨by omega, by omega⟩
            refine lv_iload_n hx hb dX1_ask_197 rfl (lv_at hl 7 rfl) ?_
            refine lv_iadd hx hb dX1_ask_198 ?_
            refine lv_topi (fun v221 ev221 => ?_)
            have qv221 : v221.toInt = v220.toInt + x2.toInt := by rw [ev221]; exact th_add rfl rfl ⟨by omega, by omega⟩
            refine lv_iload hx hb dX1_ask_199 (lv_at hl 0 rfl) ?_
            refine va_callv (va_runV (As := [.int v219, .int v221, .int 0]) (rest := []) ⟨hx, hb, hml, hown, hts⟩ (s_X4_touch l dC dI H.size hLK D F212 z7 v219 v221 0 h8 (⟨by omega, by omega⟩) (by decide) hI) (cwV 3 hts (ax_gV T_619 T_621 T_622 T_142 T_620) rfl rfl rfl (by decide +kernel) ⟨Nat.le_of_ble_eq_true rfl, Nat.le_of_ble_eq_true rfl⟩) ⟨fun a U g mk q => ⟨q.1, s_pc (U := U) rfl rfl q.2⟩, s_recv hK hP (hLK _ h8 (by decide)) (ci := 4) rfl o215, fun U hU hW => ⟨rfl, s_pw hU hW hP hK hD hN⟩⟩ rfl rfl hl.1 rfl (lv_room (Nat.le_of_ble_eq_true rfl)) dX1_ask_201 ⟨Nat.zero_le _, Nat.zero_le _⟩) hS (fun q _ h => h) (fun q h => h) (fun F222 t H1 locs ht hvm hw hB hz1 hk1 hS => ?_)
            obtain ⟨hP, hK1⟩ := hB
            rw [ht] at hP
            generalize H1 = H at hP hS ⊢
            clear hz1 hk1
            obtain ⟨h223, h224, hI, hfr1⟩ := hw
            have o225 : F222 a0 = .inr (1, [.ref z1, .ref z3, .ref z5, .ref z7, .ref z9, .ref z11, .int z13, .int z15, .int z16, .int z17, .int z19, .long z20]) := (hfr1 _ (by rw [ha0]; decide)).trans o214
            have o226 : F222 z7 = .inr (4, [.ref z153, .ref z155, .ref z157, .ref z159, .ref z161, .ref z163, .ref z165, .int z167, .int z169, .int z171, .int z173, .int z175, .int z176, .int z178, .int z179]) := (hfr1 _ (by rw [h8]; decide)).trans o215
            have o227 : F222 z9 = .inr (5, [.ref z186, .ref z188, .ref z190, .ref z192, .ref z194, .int z196, .int z198, .int z199, .int z200, .int z201, .int z202]) := (hfr1 _ (by rw [h10]; decide)).trans o216
            have hfr : ∀ b, K b ∉ [2, 24, 27, 28, 30] → F222 b = F b := fun b hb9 => (hfr1 b (fun q => hb9 (s_sub (by decide) q))).trans (hfr b hb9)
            exact W.vret hx hb hr (fun t ht hW => ⟨⟨F222, rfl, ⟨trivial, ⟨trivial, (fun vs q => by rw [o21] at q; cases q; exact ⟨_, o225⟩)⟩, hI, hfr⟩, by rw [ht]; exact hP, va_K.moved hW.alike hK⟩, hS.F ht⟩) hS.2.2 dX1_ask_204
          · have c217 := (ax_eq (n := 7) (by decide)).mp c217
            exact absurd c217 (by omega)
        · have c184 := (ax_eq (n := 10) (by decide)).mp c184
          refine lv_iconst (v := 1) hx hb dX1_ask_111 (by decide) ?_
          refine lv_goto (tgt := 116) hx hb dX1_ask_112 (by decide) ?_
          refine lv_istore (lv' := [(7, .int 1), (6, .ref z157), (5, .int 1), (4, .int v32), (3, .int v25), (0, .ref a0), (1, .int x1), (2, .int x2)]) hx hb dX1_ask_116 hl (by decide) rfl (fun ls hl => ?_)
          refine lv_iload hx hb dX1_ask_118 (lv_at hl 0 rfl) ?_
          refine lv_if_eq (tgt := 141) hx hb dX1_ask_120 (by decide) (fun c => absurd c (by decide)) (fun _ => ?_)
          refine lv_aload hx hb dX1_ask_123 (lv_at hl 1 rfl) ?_
          refine lv_iload_n hx hb dX1_ask_125 rfl (lv_at hl 4 rfl) ?_
          refine lv_aload_n hx hb dX1_ask_126 rfl (lv_at hl 5 rfl) ?_
          refine lv_aload_n hx hb dX1_ask_127 rfl (lv_at hl 5 rfl) ?_
          refine th_get (D := (dC, dI)) (ci := 1) (v := .ref z11) (C := RX1) (T := TX1) (N := 12) hx hb hts inX1 hown hK hP (hLK _ ha0 (by decide)) o21 rfl 5 (by decide) (hts _ T_607) (fun _ h9 => h9) rfl dX1_ask_128 ?_
          refine lv_iconst (v := 3) hx hb dX1_ask_131 (by decide) ?_
          obtain ⟨f229, o230, h231⟩ := s_op23 hI h12
          refine th_iald hx hb hK hP (hLK _ h12 (by decide)) 0 o230 rfl (ax_in (by decide)) dX1_ask_132 ?_
          refine lv_topi (fun v232 ev232 => ?_)
          refine lv_iload_n hx hb dX1_ask_133 rfl (lv_at hl 7 rfl) ?_
          refine va_calli (va_runV (As := [.int v232, .int x2]) (rest := [.int v25, .ref z157]) ⟨hx, hb, hml, hown, hts⟩ (s_X1_valueOf l dC dI H.size hLK D F a0 v232 x2 ha0 (⟨by omega, by omega⟩) hI ⟨z1, z3, z5, z7, z9, z11, z13, z15, z16, z17, z19, z20, o21, h2, h4, h6, h8, h10, h12, ⟨by omega, by omega⟩, ⟨by omega, by omega⟩, trivial⟩) (cwV 2 hts (ax_gV T_613 T_615 T_616 T_137 T_614) rfl rfl rfl (by decide +kernel) ⟨Nat.le_of_ble_eq_true rfl, Nat.le_of_ble_eq_true rfl⟩) ⟨fun a U g mk q => ⟨q.1, s_pc (U := U) rfl rfl q.2⟩, s_recv hK hP (hLK _ ha0 (by decide)) (ci := 1) rfl o21, fun U hU hW => ⟨rfl, s_pw hU hW hP hK hD hN⟩⟩ rfl rfl hl.1 rfl (lv_room (Nat.le_of_ble_eq_true rfl)) dX1_ask_134 ⟨Nat.zero_le _, Nat.zero_le _⟩) hS (fun q _ h => h) (fun q h => h) (fun r233 F234 t H1 locs ht hvm hw hB hz1 hk1 hS => ?_)
          obtain ⟨hP, hK1⟩ := hB
          rw [ht] at hP
          generalize H1 = H at hP hS ⊢
          clear hz1 hk1
          obtain ⟨h235, h236, hI, hfr1⟩ := hw
          have o237 : F234 a0 = .inr (1, [.ref z1, .ref z3, .ref z5, .ref z7, .ref z9, .ref z11, .int z13, .int z15, .int z16, .int z17, .int z19, .long z20]) := (hfr1 _ (by rw [ha0]; decide)).trans o21
          have o238 : F234 z7 = .inr (4, [.ref z153, .ref z155, .ref z157, .ref z159, .ref z161, .ref z163, .ref z165, .int z167, .int z169, .int z171, .int z173, .int z175, .int z176, .int z178, .int z179]) := (hfr1 _ (by rw [h8]; decide)).trans o181
          have hfr : ∀ b, K b ∉ [2, 24, 27, 28, 30] → F234 b = F b := fun b hb9 => (hfr1 b (fun q => hb9 (s_sub (by decide) q))).trans (hfr b hb9)
          obtain ⟨f239, o240, h241⟩ := s_op27 hI h158
          refine th_iast hx hb hK hP hD hS (hLK _ h158 (by decide)) 0 o240 rfl (th_in ⟨by omega, by omega⟩) dX1_ask_137 (fun H locs hP hS => ?_)
          have hP : va_P (dC, dI) vwCl (va_pl L (va_up F234 z157 (.inl (cs 0, 32, .inl (upd f239 (v25 : Int32).toNatClampNeg r233))))) H := hP
          obtain ⟨F242, hF243⟩ : ∃ G : Nat → va_E, G = va_up F234 z157 (.inl (cs 0, 32, .inl (upd f239 (v25 : Int32).toNatClampNeg r233))) := ⟨_, rfl⟩
          rw [← hF243] at hP
          have hI : s_I K cs D F242 := by rw [hF243]; exact s_cl27 hI h158 ⟨_, rfl, trivial⟩
          have hfr : ∀ b, K b ∉ [2, 24, 27, 28, 30] → F242 b = F b := by rw [hF243]; exact s_fr hfr h158 (by decide)
          have o244 : F242 a0 = .inr (1, [.ref z1, .ref z3, .ref z5, .ref z7, .ref z9, .ref z11, .int z13, .int z15, .int z16, .int z17, .int z19, .long z20]) := by rw [hF243]; exact th_ne (th_kd ha0 h158 (by decide)) o237
          have o245 : F242 z7 = .inr (4, [.ref z153, .ref z155, .ref z157, .ref z159, .ref z161, .ref z163, .ref z165, .int z167, .int z169, .int z171, .int z173, .int z175, .int z176, .int z178, .int z179]) := by rw [hF243]; exact th_ne (th_kd h8 h158 (by decide)) o238
          refine lv_goto (tgt := 155) hx hb dX1_ask_138 (by decide) ?_
          refine lv_iload_n hx hb dX1_ask_155 rfl (lv_at hl 6 rfl) ?_
          refine lv_bipush (v := 7) hx hb dX1_ask_156 (by decide) ?_
          refine lv_icmp_ne (tgt := 173) hx hb dX1_ask_158 (by decide) (fun c246 => ?_) (fun c246 => ?_)
          · have c246 := mt (ax_eq (n := 7) (by decide)).mpr c246
            refine lv_aload_n hx hb dX1_ask_173 rfl (lv_at hl 5 rfl) ?_
            refine th_get (D := (dC, dI)) (ci := 1) (v := .ref z7) (C := RX1) (T := TX1) (N := 12) hx hb hts inX1 hown hK hP (hLK _ ha0 (by decide)) o244 rfl 3 (by decide) (hts _ T_611) (fun _ h9 => h9) rfl dX1_ask_174 ?_
            refine lv_iload hx hb dX1_ask_177 (lv_at hl 2 rfl) ?_
            refine lv_if_eq (tgt := 189) hx hb dX1_ask_179 (by decide) (fun c => absurd c (by decide)) (fun _ => ?_)
            refine lv_bipush (v := 64) hx hb dX1_ask_182 (by decide) ?_
            refine lv_iload_n hx hb dX1_ask_184 rfl (lv_at hl 4 rfl) ?_
            refine lv_iadd hx hb dX1_ask_185 ?_
            refine lv_topi (fun v248 ev248 => ?_)
            have qv248 : v248.toInt = 64 + v25.toInt := by rw [ev248]; exact th_add (by decide) rfl ⟨by omega, by omega⟩
            refine lv_goto (tgt := 190) hx hb dX1_ask_186 (by decide) ?_
            refine lv_aload_n hx hb dX1_ask_190 rfl (lv_at hl 5 rfl) ?_
            refine th_get (D := (dC, dI)) (ci := 1) (v := .int z13) (C := RX1) (T := TX1) (N := 12) hx hb hts inX1 hown hK hP (hLK _ ha0 (by decide)) o244 rfl 6 (by decide) (hts _ T_618) (fun _ h9 => h9) rfl dX1_ask_191 ?_
            refine lv_bipush (v := 8) hx hb dX1_ask_194 (by decide) ?_
            refine lv_imul hx hb dX1_ask_196 ?_
            refine lv_topi (fun v249 ev249 => ?_)
            have qv249 : v249.toInt = z13.toInt * 8 := by rw [ev249]; exact th_mul rfl (by decide) ⟨by omega, by omega⟩
            refine lv_iload_n hx hb dX1_ask_197 rfl (lv_at hl 7 rfl) ?_
            refine lv_iadd hx hb dX1_ask_198 ?_
            refine lv_topi (fun v250 ev250 => ?_)
            have qv250 : v250.toInt = v249.toInt + x2.toInt := by rw [ev250]; exact th_add rfl rfl ⟨by omega, by omega⟩
            refine lv_iload hx hb dX1_ask_199 (lv_at hl 0 rfl) ?_
            refine va_callv (va_runV (As := [.int v248, .int v250, .int 1]) (rest := []) ⟨hx, hb, hml, hown, hts⟩ (s_X4_touch l dC dI H.size hLK D F242 z7 v248 v250 1 h8 (⟨by omega, by omega⟩) (by decide) hI) (cwV 3 hts (ax_gV T_619 T_621 T_622 T_142 T_620) rfl rfl rfl (by decide +kernel) ⟨Nat.le_of_ble_eq_true rfl, Nat.le_of_ble_eq_true rfl⟩) ⟨fun a U g mk q => ⟨q.1, s_pc (U := U) rfl rfl q.2⟩, s_recv hK hP (hLK _ h8 (by decide)) (ci := 4) rfl o245, fun U hU hW => ⟨rfl, s_pw hU hW hP hK hD hN⟩⟩ rfl rfl hl.1 rfl (lv_room (Nat.le_of_ble_eq_true rfl)) dX1_ask_201 ⟨Nat.zero_le _, Nat.zero_le _⟩) hS (fun q _ h => h) (fun q h => h) (fun F251 t H1 locs ht hvm hw hB hz1 hk1 hS => ?_)
            obtain ⟨hP, hK1⟩ := hB
            rw [ht] at hP
            generalize H1 = H at hP hS ⊢
            clear hz1 hk1
            obtain ⟨h252, h253, hI, hfr1⟩ := hw
            have o254 : F251 a0 = .inr (1, [.ref z1, .ref z3, .ref z5, .ref z7, .ref z9, .ref z11, .int z13, .int z15, .int z16, .int z17, .int z19, .long z20]) := (hfr1 _ (by rw [ha0]; decide)).trans o244
            have o255 : F251 z7 = .inr (4, [.ref z153, .ref z155, .ref z157, .ref z159, .ref z161, .ref z163, .ref z165, .int z167, .int z169, .int z171, .int z173, .int z175, .int z176, .int z178, .int z179]) := (hfr1 _ (by rw [h8]; decide)).trans o245
            have hfr : ∀ b, K b ∉ [2, 24, 27, 28, 30] → F251 b = F b := fun b hb9 => (hfr1 b (fun q => hb9 (s_sub (by decide) q))).trans (hfr b hb9)
            exact W.vret hx hb hr (fun t ht hW => ⟨⟨F251, rfl, ⟨trivial, ⟨trivial, (fun vs q => by rw [o21] at q; cases q; exact ⟨_, o254⟩)⟩, hI, hfr⟩, by rw [ht]; exact hP, va_K.moved hW.alike hK⟩, hS.F ht⟩) hS.2.2 dX1_ask_204
          · have c246 := (ax_eq (n := 7) (by decide)).mp c246
            exact absurd c246 (by omega)
    · have c182 := (ax_eq (n := 11) (by decide)).mp c182
      refine lv_aload hx hb dX1_ask_66 (lv_at hl 0 rfl) ?_
      refine lv_iload_n hx hb dX1_ask_68 rfl (lv_at hl 3 rfl) ?_
      obtain ⟨f256, o257, h258⟩ := s_op27 hI h158
      refine th_iald hx hb hK hP (hLK _ h158 (by decide)) 0 o257 rfl (th_in ⟨by omega, by omega⟩) dX1_ask_69 ?_
      refine lv_topi (fun v259 ev259 => ?_)
      refine lv_istore (lv' := [(7, .int v259), (6, .ref z157), (5, .int 1), (4, .int v32), (3, .int v25), (0, .ref a0), (1, .int x1), (2, .int x2)]) hx hb dX1_ask_70 hl (by decide) rfl (fun ls hl => ?_)
      refine lv_aload hx hb dX1_ask_72 (lv_at hl 1 rfl) ?_
      refine lv_iload_n hx hb dX1_ask_74 rfl (lv_at hl 4 rfl) ?_
      refine lv_aload_n hx hb dX1_ask_75 rfl (lv_at hl 5 rfl) ?_
      refine th_get (D := (dC, dI)) (ci := 1) (v := .ref z9) (C := RX1) (T := TX1) (N := 12) hx hb hts inX1 hown hK hP (hLK _ ha0 (by decide)) o21 rfl 4 (by decide) (hts _ T_612) (fun _ h9 => h9) rfl dX1_ask_76 ?_
      obtain ⟨z260, z262, z264, z266, z268, z270, z272, z273, z274, z275, z276, o278, h261, h263, h265, h267, h269, h271, h277, -⟩ := s_op6 hI h10
      refine th_getN (D := (dC, dI)) (ci := 5) (v := .ref z260) (C := RX5) (T := TX5) (N := 11) hx hb hts inX5 hown hK hP (hLK _ h10 (by decide)) o278 rfl 0 (by decide) (va_Nw.use rfl (ax_n20 hN)) (fun _ h9 => h9) rfl dX1_ask_79 ?_
      refine lv_iload hx hb dX1_ask_82 (lv_at hl 3 rfl) ?_
      obtain ⟨f279, o280, h281⟩ := s_op30 hI h261
      refine th_iald hx hb hK hP (hLK _ h261 (by decide)) 0 o280 rfl (th_in ⟨by omega, by omega⟩) dX1_ask_84 ?_
      refine lv_topi (fun v282 ev282 => ?_)
      obtain ⟨f283, o284, h285⟩ := s_op27 hI h158
      refine th_iast hx hb hK hP hD hS (hLK _ h158 (by decide)) 0 o284 rfl (th_in ⟨by omega, by omega⟩) dX1_ask_85 (fun H locs hP hS => ?_)
      have hP : va_P (dC, dI) vwCl (va_pl L (va_up F z157 (.inl (cs 0, 32, .inl (upd f283 (v25 : Int32).toNatClampNeg v282))))) H := hP
      obtain ⟨F286, hF287⟩ : ∃ G : Nat → va_E, G = va_up F z157 (.inl (cs 0, 32, .inl (upd f283 (v25 : Int32).toNatClampNeg v282))) := ⟨_, rfl⟩
      rw [← hF287] at hP
      have hI : s_I K cs D F286 := by rw [hF287]; exact s_cl27 hI h158 ⟨_, rfl, trivial⟩
      have hfr : ∀ b, K b ∉ [2, 24, 27, 28, 30] → F286 b = F b := by rw [hF287]; exact s_fr hfr h158 (by decide)
      have o288 : F286 a0 = .inr (1, [.ref z1, .ref z3, .ref z5, .ref z7, .ref z9, .ref z11, .int z13, .int z15, .int z16, .int z17, .int z19, .long z20]) := by rw [hF287]; exact th_ne (th_kd ha0 h158 (by decide)) o21
      have o289 : F286 z7 = .inr (4, [.ref z153, .ref z155, .ref z157, .ref z159, .ref z161, .ref z163, .ref z165, .int z167, .int z169, .int z171, .int z173, .int z175, .int z176, .int z178, .int z179]) := by rw [hF287]; exact th_ne (th_kd h8 h158 (by decide)) o181
      have o290 : F286 z9 = .inr (5, [.ref z260, .ref z262, .ref z264, .ref z266, .ref z268, .int z270, .int z272, .int z273, .int z274, .int z275, .int z276]) := by rw [hF287]; exact th_ne (th_kd h10 h158 (by decide)) o278
      refine lv_aload_n hx hb dX1_ask_86 rfl (lv_at hl 5 rfl) ?_
      refine th_get (D := (dC, dI)) (ci := 1) (v := .ref z9) (C := RX1) (T := TX1) (N := 12) hx hb hts inX1 hown hK hP (hLK _ ha0 (by decide)) o288 rfl 4 (by decide) (hts _ T_612) (fun _ h9 => h9) rfl dX1_ask_87 ?_
      refine th_getN (D := (dC, dI)) (ci := 5) (v := .ref z260) (C := RX5) (T := TX5) (N := 11) hx hb hts inX5 hown hK hP (hLK _ h10 (by decide)) o290 rfl 0 (by decide) (va_Nw.use rfl (ax_n20 hN)) (fun _ h9 => h9) rfl dX1_ask_90 ?_
      refine lv_iload hx hb dX1_ask_93 (lv_at hl 3 rfl) ?_
      refine lv_iload hx hb dX1_ask_95 (lv_at hl 0 rfl) ?_
      obtain ⟨f291, o292, h293⟩ := s_op30 hI h261
      refine th_iast hx hb hK hP hD hS (hLK _ h261 (by decide)) 0 o292 rfl (th_in ⟨by omega, by omega⟩) dX1_ask_97 (fun H locs hP hS => ?_)
      have hP : va_P (dC, dI) vwCl (va_pl L (va_up F286 z260 (.inl (cs 0, 32, .inl (upd f291 (v32 : Int32).toNatClampNeg v259))))) H := hP
      obtain ⟨F294, hF295⟩ : ∃ G : Nat → va_E, G = va_up F286 z260 (.inl (cs 0, 32, .inl (upd f291 (v32 : Int32).toNatClampNeg v259))) := ⟨_, rfl⟩
      rw [← hF295] at hP
      have hI : s_I K cs D F294 := by rw [hF295]; exact s_cl30 hI h261 ⟨_, rfl, trivial⟩
      have hfr : ∀ b, K b ∉ [2, 24, 27, 28, 30] → F294 b = F b := by rw [hF295]; exact s_fr hfr h261 (by decide)
      have o296 : F294 a0 = .inr (1, [.ref z1, .ref z3, .ref z5, .ref z7, .ref z9, .ref z11, .int z13, .int z15, .int z16, .int z17, .int z19, .long z20]) := by rw [hF295]; exact th_ne (th_kd ha0 h261 (by decide)) o288
      have o297 : F294 z7 = .inr (4, [.ref z153, .ref z155, .ref z157, .ref z159, .ref z161, .ref z163, .ref z165, .int z167, .int z169, .int z171, .int z173, .int z175, .int z176, .int z178, .int z179]) := by rw [hF295]; exact th_ne (th_kd h8 h261 (by decide)) o289
      have o298 : F294 z9 = .inr (5, [.ref z260, .ref z262, .ref z264, .ref z266, .ref z268, .int z270, .int z272, .int z273, .int z274, .int z275, .int z276]) := by rw [hF295]; exact th_ne (th_kd h10 h261 (by decide)) o290
      exact W.vret hx hb hr (fun t ht hW => ⟨⟨F294, rfl, ⟨trivial, ⟨trivial, (fun vs q => by rw [o21] at q; cases q; exact ⟨_, o296⟩)⟩, hI, hfr⟩, by rw [ht]; exact hP, va_K.moved hW.alike hK⟩, hS.F ht⟩) hS.2.2 dX1_ask_98

