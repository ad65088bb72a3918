set_option maxHeartbeats 4000000 in
set_option maxRecDepth 100000 in
theorem s_X1_step (l : Launch) (dC : Nat → ClassId) (dI : Nat → Nat → Nat) (sz : Nat) {L : List Nat} {K : Nat → Nat} {cs : Nat → ClassId} (hLK : ∀ a {k : Nat}, K a = k → k ≠ 0 → a ∈ L) (D : Nat) (Dm : Nat) (hDm : D + 1 ≤ Dm) (hDM : Dm < 2147483647) (F : Nat → va_E) (a0 : Nat) (a1 : Nat) (ha0 : K a0 = 2) (ha1 : K a1 = 5) (hI : s_I K cs D F) (hPG : s_PG K cs F) : Met l yX1_step (Cond.code yX1_step cX1_step 3 (some .boolean) :: T0) ({ frames := 4, cells := 0, slots := 0, locals := 92 }) (va_Pc [.ref a0, .ref a1] (s_W dC dI sz L F [(cs 0, .int), (cs 1, .byte), (cs 2, .long), (cs 3, .object RX5), (cs 4, .object RX4), (cs 5, .array .int), (cs 6, .char), (cs 7, .boolean)])) (va_Qi (fun (r : Int32) (G : Nat → va_E) => (0 ≤ r.toInt ∧ r.toInt ≤ 1) ∧ True ∧ s_I K cs Dm G ∧ ∀ b, K b ∉ [2, 5, 6, 24, 27, 28, 29, 30, 31, 32, 34, 35] → G b = F b) (fun (G : Nat → va_E) (t : State) => va_P (dC, dI) vwCl (va_pl L G) t.heap ∧ va_K (dC, dI) vwCl [(cs 0, .int), (cs 1, .byte), (cs 2, .long), (cs 3, .object RX5), (cs 4, .object RX4), (cs 5, .array .int), (cs 6, .char), (cs 7, .boolean)] t) (fun q => q ∈ L)) 0 0 (fun q => q ∈ L) := by
  refine Met.ofW (cc := cX1_step) (maxL := 3) (ret := (some .boolean)) (by decide) rfl ?_
  intro p e s m args below meth c s₁ B hml hv
  obtain ⟨rfl, hsz, hP, hK, hD, hN⟩ := hv
  have hx := B.exec
  have hb := B.bytes
  have hr := B.returns
  have hts : ∀ w ∈ T0, w.before _ s = true := fun w h => atoms_spec (ws := Cond.code yX1_step cX1_step 3 (some .boolean) :: T0) B.pre w (List.mem_cons_of_mem _ h)
  have hown : s.vm.findClass RX1 = some m.cls := findClass_of_methodNamed B.named
  have hlocks := B.notSynchronized
  have hS : va_S (fun q => q ∈ L) s.heap s.heap [] := va_S.rf
  have hfr : ∀ b, K b ∉ [2, 5, 6, 24, 27, 28, 29, 30, 31, 32, 34, 35] → F b = F b := fun _ _ => rfl
  have hl := lv_entry ([.ref a0, .ref a1]) (n := 3) (Nat.le_of_ble_eq_true rfl)
  rw [lg_entry_eq]
  generalize (lg_sl ([.ref a0, .ref a1]) ++ List.replicate (3 - (lg_sl ([.ref a0, .ref a1])).length) Slot.unset).toArray = ls at hl ⊢
  have hl : lv_has ls 3 [(0, .ref a0), (1, .ref a1)] := hl
  have hI0 := hI
  refine s_gen hP hS (fun H locs hP hS => ?_)
  refine th_join (fun g H locs => ∃ (G : Nat → va_E) (ls : Array Slot) (Dn : Nat) (w1 : Int32), g = F0 m 63 ls [] ∧ lv_has ls 3 [(1, .ref a1), (2, .int w1)] ∧ Dn + 0 ≤ Dm ∧ s_I K cs Dn G ∧ va_P (dC, dI) vwCl (va_pl L G) H ∧ va_S (fun q => q ∈ L) s.heap H locs ∧ (∀ b, K b ∉ [2, 5, 6, 24, 27, 28, 29, 30, 31, 32, 34, 35] → G b = F b) ∧ (0 ≤ w1.toInt ∧ w1.toInt ≤ 1)) (fun K63 => ?_) ?_
  refine th_join (fun g H locs => ∃ (G : Nat → va_E) (ls : Array Slot) (Dn : Nat) (w2 : Int32), g = F0 m 52 ls [] ∧ lv_has ls 3 [(0, .ref a0), (1, .ref a1), (2, .int w2)] ∧ Dn + 0 ≤ Dm ∧ s_I K cs Dn G ∧ va_P (dC, dI) vwCl (va_pl L G) H ∧ va_S (fun q => q ∈ L) s.heap H locs ∧ (∀ b, K b ∉ [2, 5, 6, 24, 27, 28, 29, 30, 31, 32, 34, 35] → G b = F b) ∧ (1 ≤ w2.toInt ∧ w2.toInt ≤ 1)) (fun K52 => ?_) ?_
  · refine lv_aload_n hx hb dX1_step_0 rfl (lv_at hl 0 rfl) ?_
    refine lv_aload_n hx hb dX1_step_1 rfl (lv_at hl 1 rfl) ?_
    obtain ⟨z3, z5, z7, z9, z11, z13, z14, z16, z17, z18, z20, z21, o22, h4, h6, h8, h10, h12, h15, h19, -⟩ := s_op2 hI ha0
    refine va_calli (va_runV (As := [.ref a1]) (rest := []) ⟨hx, hb, hml, hown, hts⟩ (s_X1_foresee l dC dI H.size hLK D F a0 a1 ha0 ha1 hI (s_PGt hI0 hfr (by decide) hPG)) (cwV 1 hts (ax_gV T_701 T_703 T_704 T_137 T_702) rfl rfl rfl (by decide +kernel) ⟨Nat.le_of_ble_eq_true rfl, Nat.le_of_ble_eq_true rfl⟩) ⟨fun a U g mk q => ⟨q.1, s_pc (U := U) rfl rfl q.2⟩, s_recv hK hP (hLK _ ha0 (by decide)) (ci := 1) rfl o22, fun U hU hW => ⟨rfl, s_pw hU hW hP hK hD hN⟩⟩ rfl rfl hl.1 rfl (lv_room (Nat.le_of_ble_eq_true rfl)) dX1_step_2 ⟨Nat.zero_le _, Nat.zero_le _⟩) hS (fun q _ h => h) (fun q h => h) (fun r23 F24 t H1 locs ht hvm hw hB hz1 hk1 hS => ?_)
    obtain ⟨hP, hK1⟩ := hB
    rw [ht] at hP
    generalize H1 = H at hP hS ⊢
    clear hz1 hk1
    obtain ⟨h25, h26, hI, hfr1, h27⟩ := hw
    have hfr : ∀ b, K b ∉ [2, 5, 6, 24, 27, 28, 29, 30, 31, 32, 34, 35] → F24 b = F b := fun b hb9 => (hfr1 b (fun q => hb9 (s_sub (by decide) q))).trans (hfr b hb9)
    obtain ⟨h26, h28⟩ := h26
    have h28 : (¬ r23 = 0 → (∀ z0 z1 z2 z3 z4 z5 z6 z7 z8 z9 z10 z11 f g, F24 a0 = .inr (1, [.ref z0, .ref z1, .ref z2, .ref z3, .ref z4, .ref z5, .int z6, .int z7, .int z8, .int z9, .int z10, .long z11]) → F24 z0 = .inl (cs 0, 8, .inl f) → F24 z5 = .inl (cs 0, 7, .inl g) → ∀ i : Int32, 0 ≤ i.toInt → i.toInt < 8 → ¬ (z8 >>> (i &&& 31) &&& 1) = 0 → 9 ≤ (g 0).toInt → (g 0).toInt ≤ 11 → (f i.toNatClampNeg).toInt ≤ 31) ∧ (∀ z0 z1 z2 z3 z4 z5 z6 z7 z8 z9 z10 z11 g, F24 a0 = .inr (1, [.ref z0, .ref z1, .ref z2, .ref z3, .ref z4, .ref z5, .int z6, .int z7, .int z8, .int z9, .int z10, .long z11]) → F24 z5 = .inl (cs 0, 7, .inl g) → (g 0).toInt < 7 → 0 ≤ (g 1).toInt)) := h28
    refine lv_istore_n (lv' := [(2, .int r23), (0, .ref a0), (1, .ref a1)]) hx hb dX1_step_5 rfl hl (by decide) rfl (fun ls hl => ?_)
    refine lv_iload_n hx hb dX1_step_6 rfl (lv_at hl 0 rfl) ?_
    refine lv_if_eq (tgt := 63) hx hb dX1_step_7 (by decide) (fun c29 => ?_) (fun c29 => ?_)
    · have c29 := (ax_eq (n := 0) (by decide)).mp c29
      exact K63 _ _ _ ⟨F24, _, D, r23, rfl, lv_sub hl [2, 0] rfl, by omega, hI, hP, hS, hfr, ⟨by omega, by omega⟩⟩
    · have c29 := mt (ax_eq (n := 0) (by decide)).mpr c29
      obtain ⟨z30, z32, z34, z36, z38, z40, z42, z44, z45, z46, z48, z49, o50, h31, h33, h35, h37, h39, h41, h43, h47, -⟩ := h27 (fun q => c29 (by rw [q]; decide))
      obtain ⟨hMR, hGR⟩ := h28 (fun q => c29 (by rw [q]; decide))
      obtain ⟨f51, o52, h53⟩ := s_op34 hI h31
      obtain ⟨f54, o55, h56⟩ := s_op23 hI h41
      have hadr := hMR _ _ _ _ _ _ _ _ _ _ _ _ f51 f54 o50 o52 o55
      have hrow := hGR _ _ _ _ _ _ _ _ _ _ _ _ f54 o50 o55
      refine lv_aload_n hx hb dX1_step_10 rfl (lv_at hl 1 rfl) ?_
      refine va_callv (va_runV (As := []) (rest := []) ⟨hx, hb, hml, hown, hts⟩ (s_X1_keepLine l dC dI H.size hLK D (D + 1) (Nat.le_refl _) (by omega) F24 a0 ha0 hI ⟨z30, z32, z34, z36, z38, z40, z42, z44, z45, z46, z48, z49, o50, h31, h33, h35, h37, h39, h41, ⟨by omega, by omega⟩, ⟨by omega, by omega⟩, trivial⟩) (cwV 0 hts (ax_gV T_705 T_707 T_708 T_137 T_706) rfl rfl rfl (by decide +kernel) ⟨Nat.le_of_ble_eq_true rfl, Nat.le_of_ble_eq_true rfl⟩) ⟨fun a U g mk q => ⟨q.1, s_pc (U := U) rfl rfl q.2⟩, s_recv hK hP (hLK _ ha0 (by decide)) (ci := 1) rfl o50, fun U hU hW => ⟨rfl, s_pw hU hW hP hK hD hN⟩⟩ rfl rfl hl.1 rfl (lv_room (Nat.le_of_ble_eq_true rfl)) dX1_step_11 ⟨Nat.zero_le _, Nat.zero_le _⟩) hS (fun q _ h => h) (fun q h => h) (fun F57 t H1 locs ht hvm hw hB hz1 hk1 hS => ?_)
      obtain ⟨hP, hK1⟩ := hB
      rw [ht] at hP
      generalize H1 = H at hP hS ⊢
      clear hz1 hk1
      obtain ⟨h58, h59, hI, hfr1⟩ := hw
      have o60 : F57 a0 = .inr (1, [.ref z30, .ref z32, .ref z34, .ref z36, .ref z38, .ref z40, .int z42, .int z44, .int z45, .int z46, .int z48, .long z49]) := (hfr1 _ (by rw [ha0]; decide)).trans o50
      have o61 : F57 z30 = .inl (cs 0, 8, .inl f51) := (hfr1 _ (by rw [h31]; decide)).trans o52
      have o62 : F57 z40 = .inl (cs 0, 7, .inl f54) := (hfr1 _ (by rw [h41]; decide)).trans o55
      have hfr : ∀ b, K b ∉ [2, 5, 6, 24, 27, 28, 29, 30, 31, 32, 34, 35] → F57 b = F b := fun b hb9 => (hfr1 b (fun q => hb9 (s_sub (by decide) q))).trans (hfr b hb9)
      refine lv_aload_n hx hb dX1_step_14 rfl (lv_at hl 1 rfl) ?_
      refine th_get (D := (dC, dI)) (ci := 1) (v := .ref z38) (C := RX1) (T := TX1) (N := 12) hx hb hts inX1 hown hK hP (hLK _ ha0 (by decide)) o60 rfl 4 (by decide) (hts _ T_612) (fun _ h9 => h9) rfl dX1_step_15 ?_
      refine lv_aload_n hx hb dX1_step_18 rfl (lv_at hl 2 rfl) ?_
      obtain ⟨z63, z65, z67, z69, z71, z73, z75, z77, z79, z80, z81, z83, z84, z86, z87, o89, h64, h66, h68, h70, h72, h74, h76, h78, h82, h85, h88, -⟩ := s_op5 hI ha1
      refine th_getN (D := (dC, dI)) (ci := 4) (v := .int z83) (C := RX4) (T := TX4) (N := 15) hx hb hts inX4 hown hK hP (hLK _ ha1 (by decide)) o89 rfl 11 (by decide) (va_Nw.use rfl (ax_n25 hN)) (fun _ h9 => h9) rfl dX1_step_19 ?_
      refine lv_aload_n hx hb dX1_step_22 rfl (lv_at hl 1 rfl) ?_
      refine th_get (D := (dC, dI)) (ci := 1) (v := .int z48) (C := RX1) (T := TX1) (N := 12) hx hb hts inX1 hown hK hP (hLK _ ha0 (by decide)) o60 rfl 10 (by decide) (hts _ T_646) (fun _ h9 => h9) rfl dX1_step_23 ?_
      refine lv_iadd hx hb dX1_step_26 ?_
      refine lv_topi (fun v90 ev90 => ?_)
      obtain ⟨z91, z93, z95, z97, z99, z101, z103, z104, z105, z106, z107, o109, h92, h94, h96, h98, h100, h102, h108, -⟩ := s_op6 hI h39
      refine th_putN (D := (dC, dI)) (ci := 5) (v := .int v90) (ty := .int) (C := RX5) (T := TX5) (N := 11) hx hb hts inX5 tyX5 tyX5_ok nmX5 hown hK hP hD hS (hLK _ h39 (by decide)) o109 rfl 8 (by decide) (va_Nw.use rfl (ax_n38 hN)) (fun _ h9 => h9) rfl (by decide +kernel) rfl rfl (Nat.le_of_ble_eq_true rfl) dX1_step_27 (fun H locs hP hS => ?_)
      have hP : va_P (dC, dI) vwCl (va_pl L (va_up F57 z38 (.inr (5, [.ref z91, .ref z93, .ref z95, .ref z97, .ref z99, .int z101, .int z103, .int z104, .int v90, .int z106, .int z107])))) H := hP
      obtain ⟨F110, hF111⟩ : ∃ G : Nat → va_E, G = va_up F57 z38 (.inr (5, [.ref z91, .ref z93, .ref z95, .ref z97, .ref z99, .int z101, .int z103, .int z104, .int v90, .int z106, .int z107])) := ⟨_, rfl⟩
      rw [← hF111] at hP
      have hI : s_I K cs (D + 1) F110 := by rw [hF111]; exact s_cl6 hI h39 ⟨z91, z93, z95, z97, z99, z101, z103, z104, v90, z106, z107, rfl, h92, h94, h96, h98, h100, ⟨by omega, by omega⟩, ⟨by omega, by omega⟩, trivial⟩
      have hfr : ∀ b, K b ∉ [2, 5, 6, 24, 27, 28, 29, 30, 31, 32, 34, 35] → F110 b = F b := by rw [hF111]; exact s_fr hfr h39 (by decide)
      have o112 : F110 a0 = .inr (1, [.ref z30, .ref z32, .ref z34, .ref z36, .ref z38, .ref z40, .int z42, .int z44, .int z45, .int z46, .int z48, .long z49]) := by rw [hF111]; exact th_ne (th_kd ha0 h39 (by decide)) o60
      have o113 : F110 a1 = .inr (4, [.ref z63, .ref z65, .ref z67, .ref z69, .ref z71, .ref z73, .ref z75, .int z77, .int z79, .int z80, .int z81, .int z83, .int z84, .int z86, .int z87]) := by rw [hF111]; exact th_ne (th_kd ha1 h39 (by decide)) o89
      have o114 : F110 z30 = .inl (cs 0, 8, .inl f51) := by rw [hF111]; exact th_ne (th_kd h31 h39 (by decide)) o61
      have o115 : F110 z40 = .inl (cs 0, 7, .inl f54) := by rw [hF111]; exact th_ne (th_kd h41 h39 (by decide)) o62
      have o116 : F110 z38 = .inr (5, [.ref z91, .ref z93, .ref z95, .ref z97, .ref z99, .int z101, .int z103, .int z104, .int v90, .int z106, .int z107]) := by rw [hF111]; exact th_up
      refine lv_aload_n hx hb dX1_step_30 rfl (lv_at hl 1 rfl) ?_
      refine va_callv (va_runV (As := []) (rest := []) ⟨hx, hb, hml, hown, hts⟩ (s_X1_work l dC dI H.size hLK (D + 1) F110 a0 ha0 hI ⟨z30, z32, z34, z36, z38, z40, z42, z44, z45, z46, z48, z49, o112, h31, h33, h35, h37, h39, h41, ⟨by omega, by omega⟩, ⟨by omega, by omega⟩, trivial⟩ (fun z0 z1 z2 z3 z4 z5 z6 z7 z8 z9 z10 z11 f g q1 q2 q3 => by rw [o112] at q1; cases q1; rw [o114] at q2; cases q2; rw [o115] at q3; cases q3; exact hadr) (fun z0 z1 z2 z3 z4 z5 z6 z7 z8 z9 z10 z11 g q1 q3 => by rw [o112] at q1; cases q1; rw [o115] at q3; cases q3; exact hrow)) (cwV 0 hts (ax_gV T_709 T_711 T_712 T_137 T_710) rfl rfl rfl (by decide +kernel) ⟨Nat.le_of_ble_eq_true rfl, Nat.le_of_ble_eq_true rfl⟩) ⟨fun a U g mk q => ⟨q.1, s_pc (U := U) rfl rfl q.2⟩, s_recv hK hP (hLK _ ha0 (by decide)) (ci := 1) rfl o112, fun U hU hW => ⟨rfl, s_pw hU hW hP hK hD hN⟩⟩ rfl rfl hl.1 rfl (lv_room (Nat.le_of_ble_eq_true rfl)) dX1_step_31 ⟨Nat.zero_le _, Nat.zero_le _⟩) hS (fun q _ h => h) (fun q h => h) (fun F117 t H1 locs ht hvm hw hB hz1 hk1 hS => ?_)
      obtain ⟨hP, hK1⟩ := hB
      rw [ht] at hP
      generalize H1 = H at hP hS ⊢
      clear hz1 hk1
      obtain ⟨h118, h119, hI, hfr1⟩ := hw
      have o120 : F117 a1 = .inr (4, [.ref z63, .ref z65, .ref z67, .ref z69, .ref z71, .ref z73, .ref z75, .int z77, .int z79, .int z80, .int z81, .int z83, .int z84, .int z86, .int z87]) := (hfr1 _ (by rw [ha1]; decide)).trans o113
      have o121 : F117 z38 = .inr (5, [.ref z91, .ref z93, .ref z95, .ref z97, .ref z99, .int z101, .int z103, .int z104, .int v90, .int z106, .int z107]) := (hfr1 _ (by rw [h39]; decide)).trans o116
      have o122 : F117 z30 = .inl (cs 0, 8, .inl f51) := (hfr1 _ (by rw [h31]; decide)).trans o114
      have o123 : F117 z40 = .inl (cs 0, 7, .inl f54) := (hfr1 _ (by rw [h41]; decide)).trans o115
      have hfr : ∀ b, K b ∉ [2, 5, 6, 24, 27, 28, 29, 30, 31, 32, 34, 35] → F117 b = F b := fun b hb9 => (hfr1 b (fun q => hb9 (s_sub (by decide) q))).trans (hfr b hb9)
      obtain ⟨h119, h124⟩ := h119
      have h124 : (∀ vs, F110 a0 = .inr (1, vs) → ∃ w, F117 a0 = .inr (1, vs.set 11 (.long w))) := h124
      obtain ⟨z125, o126⟩ := h124 _ o112
      have o126 : F117 a0 = .inr (1, [.ref z30, .ref z32, .ref z34, .ref z36, .ref z38, .ref z40, .int z42, .int z44, .int z45, .int z46, .int z48, .long z125]) := o126
      refine lv_aload_n hx hb dX1_step_34 rfl (lv_at hl 2 rfl) ?_
      refine th_getN (D := (dC, dI)) (ci := 4) (v := .int z79) (C := RX4) (T := TX4) (N := 15) hx hb hts inX4 hown hK hP (hLK _ ha1 (by decide)) o120 rfl 8 (by decide) (va_Nw.use rfl (ax_n31 hN)) (fun _ h9 => h9) rfl dX1_step_35 ?_
      refine lv_if_ne (tgt := 48) hx hb dX1_step_38 (by decide) (fun c127 => ?_) (fun c127 => ?_)
      · have c127 := mt (ax_eq (n := 0) (by decide)).mpr c127
        refine lv_aload_n hx hb dX1_step_48 rfl (lv_at hl 1 rfl) ?_
        refine va_callv (va_runV (As := []) (rest := []) ⟨hx, hb, hml, hown, hts⟩ (s_X1_moveEach l dC dI H.size hLK (D + 1) F117 a0 ha0 hI ⟨z30, z32, z34, z36, z38, z40, z42, z44, z45, z46, z48, z125, o126, h31, h33, h35, h37, h39, h41, ⟨by omega, by omega⟩, ⟨by omega, by omega⟩, trivial⟩) (cwV 0 hts (ax_gV T_717 T_719 T_720 T_137 T_718) rfl rfl rfl (by decide +kernel) ⟨Nat.le_of_ble_eq_true rfl, Nat.le_of_ble_eq_true rfl⟩) ⟨fun a U g mk q => ⟨q.1, s_pc (U := U) rfl rfl q.2⟩, s_recv hK hP (hLK _ ha0 (by decide)) (ci := 1) rfl o126, fun U hU hW => ⟨rfl, s_pw hU hW hP hK hD hN⟩⟩ rfl rfl hl.1 rfl (lv_room (Nat.le_of_ble_eq_true rfl)) dX1_step_49 ⟨Nat.zero_le _, Nat.zero_le _⟩) hS (fun q _ h => h) (fun q h => h) (fun F128 t H1 locs ht hvm hw hB hz1 hk1 hS => ?_)
        obtain ⟨hP, hK1⟩ := hB
        rw [ht] at hP
        generalize H1 = H at hP hS ⊢
        clear hz1 hk1
        obtain ⟨h129, h130, hI, hfr1⟩ := hw
        have o131 : F128 a1 = .inr (4, [.ref z63, .ref z65, .ref z67, .ref z69, .ref z71, .ref z73, .ref z75, .int z77, .int z79, .int z80, .int z81, .int z83, .int z84, .int z86, .int z87]) := (hfr1 _ (by rw [ha1]; decide)).trans o120
        have o132 : F128 a0 = .inr (1, [.ref z30, .ref z32, .ref z34, .ref z36, .ref z38, .ref z40, .int z42, .int z44, .int z45, .int z46, .int z48, .long z125]) := (hfr1 _ (by rw [ha0]; decide)).trans o126
        have o133 : F128 z30 = .inl (cs 0, 8, .inl f51) := (hfr1 _ (by rw [h31]; decide)).trans o122
        have o134 : F128 z40 = .inl (cs 0, 7, .inl f54) := (hfr1 _ (by rw [h41]; decide)).trans o123
        have hfr : ∀ b, K b ∉ [2, 5, 6, 24, 27, 28, 29, 30, 31, 32, 34, 35] → F128 b = F b := fun b hb9 => (hfr1 b (fun q => hb9 (s_sub (by decide) q))).trans (hfr b hb9)
        exact K52 _ _ _ ⟨F128, _, (D + 1), r23, rfl, lv_sub hl [1, 2, 0] rfl, by omega, hI, hP, hS, hfr, ⟨by omega, by omega⟩⟩
      · have c127 := (ax_eq (n := 0) (by decide)).mp c127
        refine lv_aload_n hx hb dX1_step_41 rfl (lv_at hl 1 rfl) ?_
        refine va_callv (va_runV (As := []) (rest := []) ⟨hx, hb, hml, hown, hts⟩ (s_X1_moveTop l dC dI H.size hLK (D + 1) F117 a0 ha0 hI ⟨z30, z32, z34, z36, z38, z40, z42, z44, z45, z46, z48, z125, o126, h31, h33, h35, h37, h39, h41, ⟨by omega, by omega⟩, ⟨by omega, by omega⟩, trivial⟩) (cwV 0 hts (ax_gV T_713 T_715 T_716 T_137 T_714) rfl rfl rfl (by decide +kernel) ⟨Nat.le_of_ble_eq_true rfl, Nat.le_of_ble_eq_true rfl⟩) ⟨fun a U g mk q => ⟨q.1, s_pc (U := U) rfl rfl q.2⟩, s_recv hK hP (hLK _ ha0 (by decide)) (ci := 1) rfl o126, fun U hU hW => ⟨rfl, s_pw hU hW hP hK hD hN⟩⟩ rfl rfl hl.1 rfl (lv_room (Nat.le_of_ble_eq_true rfl)) dX1_step_42 ⟨Nat.zero_le _, Nat.zero_le _⟩) hS (fun q _ h => h) (fun q h => h) (fun F135 t H1 locs ht hvm hw hB hz1 hk1 hS => ?_)
        obtain ⟨hP, hK1⟩ := hB
        rw [ht] at hP
        generalize H1 = H at hP hS ⊢
        clear hz1 hk1
        obtain ⟨h136, h137, hI, hfr1⟩ := hw
        have o138 : F135 a1 = .inr (4, [.ref z63, .ref z65, .ref z67, .ref z69, .ref z71, .ref z73, .ref z75, .int z77, .int z79, .int z80, .int z81, .int z83, .int z84, .int z86, .int z87]) := (hfr1 _ (by rw [ha1]; decide)).trans o120
        have o139 : F135 a0 = .inr (1, [.ref z30, .ref z32, .ref z34, .ref z36, .ref z38, .ref z40, .int z42, .int z44, .int z45, .int z46, .int z48, .long z125]) := (hfr1 _ (by rw [ha0]; decide)).trans o126
        have o140 : F135 z30 = .inl (cs 0, 8, .inl f51) := (hfr1 _ (by rw [h31]; decide)).trans o122
        have o141 : F135 z40 = .inl (cs 0, 7, .inl f54) := (hfr1 _ (by rw [h41]; decide)).trans o123
        have hfr : ∀ b, K b ∉ [2, 5, 6, 24, 27, 28, 29, 30, 31, 32, 34, 35] → F135 b = F b := fun b hb9 => (hfr1 b (fun q => hb9 (s_sub (by decide) q))).trans (hfr b hb9)
        refine lv_goto (tgt := 52) hx hb dX1_step_45 (by decide) ?_
        exact K52 _ _ _ ⟨F135, _, (D + 1), r23, rfl, lv_sub hl [1, 2, 0] rfl, by omega, hI, hP, hS, hfr, ⟨by omega, by omega⟩⟩
  · intro g H locs hq
    obtain ⟨F9, ls, D143, w2, rfl, hl, h144, hI, hP, hS, hfr, h142⟩ := hq
    refine lv_aload_n hx hb dX1_step_52 rfl (lv_at hl 1 rfl) ?_
    refine lv_aload_n hx hb dX1_step_53 rfl (lv_at hl 0 rfl) ?_
    obtain ⟨z145, z147, z149, z151, z153, z155, z156, z158, z159, z160, z162, z163, o164, h146, h148, h150, h152, h154, h157, h161, -⟩ := s_op2 hI ha0
    refine th_get (D := (dC, dI)) (ci := 1) (v := .ref z149) (C := RX1) (T := TX1) (N := 12) hx hb hts inX1 hown hK hP (hLK _ ha0 (by decide)) o164 rfl 2 (by decide) (hts _ T_121) (fun _ h9 => h9) rfl dX1_step_54 ?_
    obtain ⟨z165, z167, z169, z171, z173, z175, z176, o177, h166, h168, h170, h172, h174, -⟩ := s_op3 hI h150
    refine th_getN (D := (dC, dI)) (ci := 2) (v := .int z171) (C := RX2) (T := TX2) (N := 7) hx hb hts inX2 hown hK hP (hLK _ h150 (by decide)) o177 rfl 3 (by decide) (va_Nw.use rfl (ax_n21 hN)) (fun _ h9 => h9) rfl dX1_step_57 ?_
    obtain ⟨z178, z180, z182, z184, z186, z188, z190, z192, z194, z195, z196, z198, z199, z201, z202, o204, h179, h181, h183, h185, h187, h189, h191, h193, h197, h200, h203, -⟩ := s_op5 hI ha1
    refine va_callv (va_runV (As := [.int z171]) (rest := []) ⟨hx, hb, hml, hown, hts⟩ (s_X4_passBarIfAllWait l dC dI H.size hLK D143 F9 a1 z171 ha1 hI) (cwV 1 hts (ax_gV T_721 T_723 T_724 T_142 T_722) rfl rfl rfl (by decide +kernel) ⟨Nat.le_of_ble_eq_true rfl, Nat.le_of_ble_eq_true rfl⟩) ⟨fun a U g mk q => ⟨q.1, s_pc (U := U) rfl rfl q.2⟩, s_recv hK hP (hLK _ ha1 (by decide)) (ci := 4) rfl o204, fun U hU hW => ⟨rfl, s_pw hU hW hP hK hD hN⟩⟩ rfl rfl hl.1 rfl (lv_room (Nat.le_of_ble_eq_true rfl)) dX1_step_60 ⟨Nat.zero_le _, Nat.zero_le _⟩) hS (fun q _ h => h) (fun q h => h) (fun F205 t H1 locs ht hvm hw hB hz1 hk1 hS => ?_)
    obtain ⟨hP, hK1⟩ := hB
    rw [ht] at hP
    generalize H1 = H at hP hS ⊢
    clear hz1 hk1
    obtain ⟨h206, h207, hI, hfr1⟩ := hw
    have o208 : F205 a0 = .inr (1, [.ref z145, .ref z147, .ref z149, va_rf z151, va_rf z153, va_rf z155, .int z156, .int z158, .int z159, .int z160, .int z162, .long z163]) := (hfr1 _ (by rw [ha0]; decide)).trans o164
    have o209 : F205 z149 = .inr (2, [.ref z165, .ref z167, .ref z169, .int z171, .int z173, .int z175, .int z176]) := (hfr1 _ (by rw [h150]; decide)).trans o177
    have hfr : ∀ b, K b ∉ [2, 5, 6, 24, 27, 28, 29, 30, 31, 32, 34, 35] → F205 b = F b := fun b hb9 => (hfr1 b (fun q => hb9 (s_sub (by decide) q))).trans (hfr b hb9)
    exact K63 _ _ _ ⟨F205, _, D143, w2, rfl, lv_sub hl [1, 2] rfl, by omega, hI, hP, hS, hfr, ⟨by omega, by omega⟩⟩
  · intro g H locs hq
    obtain ⟨F9, ls, D211, w1, rfl, hl, h212, hI, hP, hS, hfr, h210⟩ := hq
    refine lv_aload_n hx hb dX1_step_63 rfl (lv_at hl 0 rfl) ?_
    refine lv_dup hx hb dX1_step_64 rfl ?_
    obtain ⟨z213, z215, z217, z219, z221, z223, z225, z227, z229, z230, z231, z233, z234, z236, z237, o239, h214, h216, h218, h220, h222, h224, h226, h228, h232, h235, h238, -⟩ := s_op5 hI ha1
    refine th_getN (D := (dC, dI)) (ci := 4) (v := .int z233) (C := RX4) (T := TX4) (N := 15) hx hb hts inX4 hown hK hP (hLK _ ha1 (by decide)) o239 rfl 11 (by decide) (va_Nw.use rfl (ax_n25 hN)) (fun _ h9 => h9) rfl dX1_step_65 ?_
    refine lv_iconst (v := 1) hx hb dX1_step_68 (by decide) ?_
    refine lv_iadd hx hb dX1_step_69 ?_
    refine lv_topi (fun v240 ev240 => ?_)
    refine th_putN (D := (dC, dI)) (ci := 4) (v := .int v240) (ty := .int) (C := RX4) (T := TX4) (N := 15) hx hb hts inX4 tyX4 tyX4_ok nmX4 hown hK hP hD hS (hLK _ ha1 (by decide)) o239 rfl 11 (by decide) (va_Nw.use rfl (ax_n25 hN)) (fun _ h9 => h9) rfl (by decide +kernel) rfl rfl (Nat.le_of_ble_eq_true rfl) dX1_step_70 (fun H locs hP hS => ?_)
    have hP : va_P (dC, dI) vwCl (va_pl L (va_up F9 a1 (.inr (4, [.ref z213, .ref z215, .ref z217, .ref z219, .ref z221, .ref z223, .ref z225, .int z227, .int z229, .int z230, .int z231, .int v240, .int z234, .int z236, .int z237])))) H := hP
    obtain ⟨F241, hF242⟩ : ∃ G : Nat → va_E, G = va_up F9 a1 (.inr (4, [.ref z213, .ref z215, .ref z217, .ref z219, .ref z221, .ref z223, .ref z225, .int z227, .int z229, .int z230, .int z231, .int v240, .int z234, .int z236, .int z237])) := ⟨_, rfl⟩
    rw [← hF242] at hP
    have hI : s_I K cs D211 F241 := by rw [hF242]; exact s_cl5 hI ha1 ⟨z213, z215, z217, z219, z221, z223, z225, z227, z229, z230, z231, v240, z234, z236, z237, rfl, h214, h216, h218, h220, h222, h224, h226, ⟨by omega, by omega⟩, ⟨by omega, by omega⟩, ⟨by omega, by omega⟩, ⟨by omega, by omega⟩, trivial⟩
    have hfr : ∀ b, K b ∉ [2, 5, 6, 24, 27, 28, 29, 30, 31, 32, 34, 35] → F241 b = F b := by rw [hF242]; exact s_fr hfr ha1 (by decide)
    have o243 : F241 a1 = .inr (4, [.ref z213, .ref z215, .ref z217, .ref z219, .ref z221, .ref z223, .ref z225, .int z227, .int z229, .int z230, .int z231, .int v240, .int z234, .int z236, .int z237]) := by rw [hF242]; exact th_up
    refine lv_iload_n hx hb dX1_step_73 rfl (lv_at hl 1 rfl) ?_
    exact W.zret (v := w1) (ty := .boolean) hx hb hr (th_nz ⟨by omega, by omega⟩) (fun t ht hW => ⟨⟨w1, F241, rfl, ⟨⟨by omega, by omega⟩, trivial, (s_mono (by omega) hI), hfr⟩, by rw [ht]; exact hP, va_K.moved hW.alike hK⟩, hS.F ht⟩) hS.2.2 dX1_step_74

set_option maxHeartbeats 4000000 in
set_option maxRecDepth 100000 in
theorem s_X0_behind (l : Launch) (dC : Nat → ClassId) (dI : Nat → Nat → Nat) (sz : Nat) {L : List Nat} {K : Nat → Nat} {cs : Nat → ClassId} (hLK : ∀ a {k : Nat}, K a = k → k ≠ 0 → a ∈ L) (D : Nat) (Dm : Nat) (hDm : D + 401 ≤ Dm) (hDM : Dm < 2147483647) (F : Nat → va_E) (a0 : Nat) (a1 : Nat) (x2 : Int32) (ha0 : K a0 = 1) (ha1 : K a1 = 5) (hx2 : 0 ≤ x2.toInt ∧ x2.toInt ≤ 400) (hI : s_I K cs D F) (hPG : s_PG K cs F) : Met l yX0_behind (Cond.code yX0_behind cX0_behind 4 (some (.object "LaneWarps$State")) :: T0) ({ frames := 5, cells := 0, slots := 0, locals := 114 }) (va_Pc [.ref a0, .ref a1, .int x2] (s_W dC dI sz L F [(cs 0, .int), (cs 1, .byte), (cs 2, .long), (cs 3, .object RX5), (cs 4, .object RX4), (cs 5, .array .int), (cs 6, .char), (cs 7, .boolean)])) (va_Qr (fun (G : Nat → va_E) => True ∧ True ∧ s_I K cs Dm G ∧ ∀ b, K b ∉ [2, 5, 6, 24, 27, 28, 29, 30, 31, 32, 34, 35] → G b = F b) (fun (G : Nat → va_E) (r : Nat) (t : State) => K r = 5 ∧ va_P (dC, dI) vwCl (va_pl L G) t.heap ∧ va_K (dC, dI) vwCl [(cs 0, .int), (cs 1, .byte), (cs 2, .long), (cs 3, .object RX5), (cs 4, .object RX4), (cs 5, .array .int), (cs 6, .char), (cs 7, .boolean)] t) (fun q => q ∈ L)) 0 0 (fun q => q ∈ L) := by
  refine Met.ofW (cc := cX0_behind) (maxL := 4) (ret := (some (.object "LaneWarps$State"))) (by decide) rfl ?_
  intro p e s m args below meth c s₁ B hml hv
  obtain ⟨rfl, hsz, hP, hK, hD, hN⟩ := hv
  have hx := B.exec
  have hb := B.bytes
  have hr := B.returns
  have hts : ∀ w ∈ T0, w.before _ s = true := fun w h => atoms_spec (ws := Cond.code yX0_behind cX0_behind 4 (some (.object "LaneWarps$State")) :: T0) B.pre w (List.mem_cons_of_mem _ h)
  have hown : s.vm.findClass RX0 = some m.cls := findClass_of_methodNamed B.named
  have hlocks := B.notSynchronized
  have hS : va_S (fun q => q ∈ L) s.heap s.heap [] := va_S.rf
  have hfr : ∀ b, K b ∉ [2, 5, 6, 24, 27, 28, 29, 30, 31, 32, 34, 35] → F b = F b := fun _ _ => rfl
  have hl := lv_entry ([.ref a0, .ref a1, .int x2]) (n := 4) (Nat.le_of_ble_eq_true rfl)
  rw [lg_entry_eq]
  generalize (lg_sl ([.ref a0, .ref a1, .int x2]) ++ List.replicate (4 - (lg_sl ([.ref a0, .ref a1, .int x2])).length) Slot.unset).toArray = ls at hl ⊢
  have hl : lv_has ls 4 [(0, .ref a0), (1, .ref a1), (2, .int x2)] := hl
  have hI0 := hI
  refine s_gen hP hS (fun H locs hP hS => ?_)
  refine lv_aload_n hx hb dX0_behind_0 rfl (lv_at hl 0 rfl) ?_
  obtain ⟨z1, z3, z5, z7, z9, z11, z12, z14, z15, z17, z18, z20, z21, z22, o25, h2, h4, h6, h8, h10, h13, h16, h19, h23, h24, -⟩ := s_op1 hI ha0
  refine th_get (D := (dC, dI)) (ci := 0) (v := .ref z5) (C := RX0) (T := TX0) (N := 14) hx hb hts inX0 hown hK hP (hLK _ ha0 (by decide)) o25 rfl 2 (by decide) (hts _ T_146) (fun _ h9 => h9) rfl dX0_behind_1 ?_
  refine lv_aload_n hx hb dX0_behind_4 rfl (lv_at hl 1 rfl) ?_
  obtain ⟨z26, z28, z30, z32, z34, z36, z38, z40, z42, z43, z44, z46, z47, z49, z50, o52, h27, h29, h31, h33, h35, h37, h39, h41, h45, h48, h51, -⟩ := s_op5 hI h6
  refine va_callv (va_runV (As := [.ref a1]) (rest := []) ⟨hx, hb, hml, hown, hts⟩ (s_X4_copyFrom l dC dI H.size hLK D F z5 a1 h6 ha1 hI) (cwV 1 hts (ax_gV T_558 T_560 T_561 T_142 T_559) rfl rfl rfl (by decide +kernel) ⟨Nat.le_of_ble_eq_true rfl, Nat.le_of_ble_eq_true rfl⟩) ⟨fun a U g mk q => ⟨q.1, s_pc (U := U) rfl rfl q.2⟩, s_recv hK hP (hLK _ h6 (by decide)) (ci := 4) rfl o52, fun U hU hW => ⟨rfl, s_pw hU hW hP hK hD hN⟩⟩ rfl rfl hl.1 rfl (lv_room (Nat.le_of_ble_eq_true rfl)) dX0_behind_5 ⟨Nat.zero_le _, Nat.zero_le _⟩) hS (fun q _ h => h) (fun q h => h) (fun F53 t H1 locs ht hvm hw hB hz1 hk1 hS => ?_)
  obtain ⟨hP, hK1⟩ := hB
  rw [ht] at hP
  generalize H1 = H at hP hS ⊢
  clear hz1 hk1
  obtain ⟨h54, h55, hI, hfr1⟩ := hw
  have o56 : F53 a0 = .inr (0, [.ref z1, .ref z3, .ref z5, .ref z7, .ref z9, .int z11, .ref z12, .long z14, .ref z15, .int z17, .ref z18, .int z20, .int z21, .int z22]) := (hfr1 _ (by rw [ha0]; decide)).trans o25
  have hfr : ∀ b, K b ∉ [2, 5, 6, 24, 27, 28, 29, 30, 31, 32, 34, 35] → F53 b = F b := fun b hb9 => (hfr1 b (fun q => hb9 (s_sub (by decide) q))).trans (hfr b hb9)
  refine lv_iconst (v := 0) hx hb dX0_behind_8 (by decide) ?_
  refine lv_istore_n (lv' := [(3, .int 0), (0, .ref a0), (1, .ref a1), (2, .int x2)]) hx hb dX0_behind_9 rfl hl (by decide) rfl (fun ls hl => ?_)
  refine th_loop (fun n g H locs => ∃ (G : Nat → va_E) (ls : Array Slot) (Dn : Nat) (w57 : Int32), g = F0 m 10 ls [] ∧ lv_has ls 4 [(0, .ref a0), (2, .int x2), (3, .int w57)] ∧ Dn + 1 * n + 0 ≤ Dm ∧ s_I K cs Dn G ∧ va_P (dC, dI) vwCl (va_pl L G) H ∧ va_S (fun q => q ∈ L) s.heap H locs ∧ (∀ b, K b ∉ [2, 5, 6, 24, 27, 28, 29, 30, 31, 32, 34, 35] → G b = F b) ∧ (0 ≤ w57.toInt ∧ w57.toInt ≤ 400) ∧ (0 ≤ x2.toInt ∧ x2.toInt ≤ 400) ∧ n = (401 - w57.toInt).toNat) _ ⟨F53, _, D, 0, rfl, lv_sub hl [1, 3, 0] rfl, by have q7a : (0 : Int32).toInt = 0 := (by decide); omega, hI, hP, hS, hfr, (by decide), ⟨by omega, by omega⟩, rfl⟩ (fun n ih10 g H locs hq => ?_)
  obtain ⟨F9, ls, D60, w57, rfl, hl, h61, hI, hP, hS, hfr, h58, h59, hn⟩ := hq
  have hn_10 := hn
  obtain ⟨n_10, hn9_10⟩ : ∃ q, q = n := ⟨_, rfl⟩
  refine lv_iload_n hx hb dX0_behind_10 rfl (lv_at hl 2 rfl) ?_
  refine lv_iload_n hx hb dX0_behind_11 rfl (lv_at hl 1 rfl) ?_
  refine lv_icmp_ge (tgt := 33) hx hb dX0_behind_12 (by decide) (fun c62 => ?_) (fun c62 => ?_)
  · have c62 := Int32.le_iff_toInt_le.mp c62
    refine lv_aload_n hx hb dX0_behind_33 rfl (lv_at hl 0 rfl) ?_
    obtain ⟨z63, z65, z67, z69, z71, z73, z74, z76, z77, z79, z80, z82, z83, z84, o87, h64, h66, h68, h70, h72, h75, h78, h81, h85, h86, -⟩ := s_op1 hI ha0
    refine th_get (D := (dC, dI)) (ci := 0) (v := .ref z67) (C := RX0) (T := TX0) (N := 14) hx hb hts inX0 hown hK hP (hLK _ ha0 (by decide)) o87 rfl 2 (by decide) (hts _ T_146) (fun _ h9 => h9) rfl dX0_behind_34 ?_
    exact W.aret (v := .ref z67) hx hb hr (Or.inl ⟨_, rfl⟩) (Or.inr ⟨_, rfl⟩) (fun t ht hW => ⟨⟨F9, z67, rfl, ⟨trivial, trivial, (s_mono (by omega) hI), hfr⟩, h68, by rw [ht]; exact hP, va_K.moved hW.alike hK⟩, hS.F ht⟩) hS.2.2 dX0_behind_37
  · have c62 := mt Int32.le_iff_toInt_le.mpr c62
    refine lv_aload_n hx hb dX0_behind_15 rfl (lv_at hl 0 rfl) ?_
    obtain ⟨z88, z90, z92, z94, z96, z98, z99, z101, z102, z104, z105, z107, z108, z109, o112, h89, h91, h93, h95, h97, h100, h103, h106, h110, h111, -⟩ := s_op1 hI ha0
    refine th_get (D := (dC, dI)) (ci := 0) (v := .ref z88) (C := RX0) (T := TX0) (N := 14) hx hb hts inX0 hown hK hP (hLK _ ha0 (by decide)) o112 rfl 0 (by decide) (hts _ T_139) (fun _ h9 => h9) rfl dX0_behind_16 ?_
    refine lv_aload_n hx hb dX0_behind_19 rfl (lv_at hl 0 rfl) ?_
    refine th_get (D := (dC, dI)) (ci := 0) (v := .ref z92) (C := RX0) (T := TX0) (N := 14) hx hb hts inX0 hown hK hP (hLK _ ha0 (by decide)) o112 rfl 2 (by decide) (hts _ T_146) (fun _ h9 => h9) rfl dX0_behind_20 ?_
    obtain ⟨z113, z115, z117, z119, z121, z123, z124, z126, z127, z128, z130, z131, o132, h114, h116, h118, h120, h122, h125, h129, -⟩ := s_op2 hI h89
    refine va_calli (va_runV (As := [.ref z92]) (rest := []) ⟨hx, hb, hml, hown, hts⟩ (s_X1_step l dC dI H.size hLK D60 (D60 + 1) (Nat.le_refl _) (by omega) F9 z88 z92 h89 h93 hI (s_PGt hI0 hfr (by decide) hPG)) (cwV 1 hts (ax_gV T_562 T_564 T_565 T_137 T_563) rfl rfl rfl (by decide +kernel) ⟨Nat.le_of_ble_eq_true rfl, Nat.le_of_ble_eq_true rfl⟩) ⟨fun a U g mk q => ⟨q.1, s_pc (U := U) rfl rfl q.2⟩, s_recv hK hP (hLK _ h89 (by decide)) (ci := 1) rfl o132, fun U hU hW => ⟨rfl, s_pw hU hW hP hK hD hN⟩⟩ rfl rfl hl.1 rfl (lv_room (Nat.le_of_ble_eq_true rfl)) dX0_behind_23 ⟨Nat.zero_le _, Nat.zero_le _⟩) hS (fun q _ h => h) (fun q h => h) (fun r133 F134 t H1 locs ht hvm hw hB hz1 hk1 hS => ?_)
    obtain ⟨hP, hK1⟩ := hB
    rw [ht] at hP
    generalize H1 = H at hP hS ⊢
    clear hz1 hk1
    obtain ⟨h135, h136, hI, hfr1⟩ := hw
    have o137 : F134 a0 = .inr (0, [.ref z88, .ref z90, .ref z92, .ref z94, .ref z96, .int z98, .ref z99, .long z101, .ref z102, .int z104, .ref z105, .int z107, .int z108, .int z109]) := (hfr1 _ (by rw [ha0]; decide)).trans o112
    have hfr : ∀ b, K b ∉ [2, 5, 6, 24, 27, 28, 29, 30, 31, 32, 34, 35] → F134 b = F b := fun b hb9 => (hfr1 b (fun q => hb9 (s_sub (by decide) q))).trans (hfr b hb9)
    refine lv_pop hx hb dX0_behind_26 rfl ?_
    obtain ⟨v138, ev138⟩ : ∃ y : Int32, w57 + 1 = y := ⟨_, rfl⟩
    have qv138 : v138.toInt = w57.toInt + 1 := by rw [← ev138]; exact th_add rfl (by decide) ⟨by omega, by omega⟩
    refine lv_iinc (v := v138) (lv' := [(3, .int v138), (0, .ref a0), (2, .int x2)]) hx hb dX0_behind_27 hl (k := 2) rfl ev138 (by decide) rfl (fun ls hl => ?_)
    refine lv_goto (tgt := 10) hx hb dX0_behind_30 (by decide) ?_
    exact ih10 _ _ _ _ (by omega) ⟨F134, _, (D60 + 1), v138, rfl, lv_sub hl [1, 2, 0] rfl, by omega, hI, hP, hS, hfr, ⟨by omega, by omega⟩, ⟨by omega, by omega⟩, rfl⟩

set_option maxHeartbeats 4000000 in
set_option maxRecDepth 100000 in
theorem s_X0_begun (l : Launch) (dC : Nat → ClassId) (dI : Nat → Nat → Nat) (sz : Nat) {L : List Nat} {K : Nat → Nat} {cs : Nat → ClassId} (hLK : ∀ a {k : Nat}, K a = k → k ≠ 0 → a ∈ L) (D : Nat) (F : Nat → va_E) (a0 : Nat) (x1 : Int32) (x2 : Int32) (x3 : Int32) (ha0 : K a0 = 1) (hx3 : 0 ≤ x3.toInt ∧ x3.toInt ≤ 3) (hI : s_I K cs D F) : Met l yX0_begun (Cond.code yX0_begun cX0_begun 4 (some (.object "LaneWarps$State")) :: T0) ({ frames := 3, cells := 0, slots := 0, locals := 82 }) (va_Pc [.ref a0, .int x1, .int x2, .int x3] (s_W dC dI sz L F [(cs 0, .int), (cs 1, .byte), (cs 2, .long), (cs 3, .object RX5), (cs 4, .object RX4), (cs 5, .array .int), (cs 6, .char), (cs 7, .boolean)])) (va_Qr (fun (G : Nat → va_E) => True ∧ True ∧ s_I K cs D G ∧ ∀ b, K b ∉ [5, 6, 24, 27, 28, 30, 31, 32] → G b = F b) (fun (G : Nat → va_E) (r : Nat) (t : State) => K r = 5 ∧ va_P (dC, dI) vwCl (va_pl L G) t.heap ∧ va_K (dC, dI) vwCl [(cs 0, .int), (cs 1, .byte), (cs 2, .long), (cs 3, .object RX5), (cs 4, .object RX4), (cs 5, .array .int), (cs 6, .char), (cs 7, .boolean)] t) (fun q => q ∈ L)) 0 0 (fun q => q ∈ L) := by
  refine Met.ofW (cc := cX0_begun) (maxL := 4) (ret := (some (.object "LaneWarps$State"))) (by decide) rfl ?_
  intro p e s m args below meth c s₁ B hml hv
  obtain ⟨rfl, hsz, hP, hK, hD, hN⟩ := hv
  have hx := B.exec
  have hb := B.bytes
  have hr := B.returns
  have hts : ∀ w ∈ T0, w.before _ s = true := fun w h => atoms_spec (ws := Cond.code yX0_begun cX0_begun 4 (some (.object "LaneWarps$State")) :: T0) B.pre w (List.mem_cons_of_mem _ h)
  have hown : s.vm.findClass RX0 = some m.cls := findClass_of_methodNamed B.named
  have hlocks := B.notSynchronized
  have hS : va_S (fun q => q ∈ L) s.heap s.heap [] := va_S.rf
  have hfr : ∀ b, K b ∉ [5, 6, 24, 27, 28, 30, 31, 32] → F b = F b := fun _ _ => rfl
  have hl := lv_entry ([.ref a0, .int x1, .int x2, .int x3]) (n := 4) (Nat.le_of_ble_eq_true rfl)
  rw [lg_entry_eq]
  generalize (lg_sl ([.ref a0, .int x1, .int x2, .int x3]) ++ List.replicate (4 - (lg_sl ([.ref a0, .int x1, .int x2, .int x3])).length) Slot.unset).toArray = ls at hl ⊢
  have hl : lv_has ls 4 [(0, .ref a0), (1, .int x1), (2, .int x2), (3, .int x3)] := hl
  refine s_gen hP hS (fun H locs hP hS => ?_)
  refine lv_aload_n hx hb dX0_begun_0 rfl (lv_at hl 0 rfl) ?_
  obtain ⟨z1, z3, z5, z7, z9, z11, z12, z14, z15, z17, z18, z20, z21, z22, o25, h2, h4, h6, h8, h10, h13, h16, h19, h23, h24, -⟩ := s_op1 hI ha0
  refine th_get (D := (dC, dI)) (ci := 0) (v := .ref z3) (C := RX0) (T := TX0) (N := 14) hx hb hts inX0 hown hK hP (hLK _ ha0 (by decide)) o25 rfl 1 (by decide) (hts _ T_145) (fun _ h9 => h9) rfl dX0_begun_1 ?_
  refine lv_iload_n hx hb dX0_begun_4 rfl (lv_at hl 1 rfl) ?_
  refine lv_iload_n hx hb dX0_begun_5 rfl (lv_at hl 2 rfl) ?_
  refine lv_iload_n hx hb dX0_begun_6 rfl (lv_at hl 3 rfl) ?_
  obtain ⟨z26, z28, z30, z32, z34, z36, z38, z40, z42, z43, z44, z46, z47, z49, z50, o52, h27, h29, h31, h33, h35, h37, h39, h41, h45, h48, h51, -⟩ := s_op5 hI h4
  refine va_callv (va_runV (As := [.int x1, .int x2, .int x3]) (rest := []) ⟨hx, hb, hml, hown, hts⟩ (s_X4_lay l dC dI H.size hLK D F z3 x1 x2 x3 h4 (⟨by omega, by omega⟩) hI) (cwV 3 hts (ax_gV T_550 T_552 T_553 T_142 T_551) rfl rfl rfl (by decide +kernel) ⟨Nat.le_of_ble_eq_true rfl, Nat.le_of_ble_eq_true rfl⟩) ⟨fun a U g mk q => ⟨q.1, s_pc (U := U) rfl rfl q.2⟩, s_recv hK hP (hLK _ h4 (by decide)) (ci := 4) rfl o52, fun U hU hW => ⟨rfl, s_pw hU hW hP hK hD hN⟩⟩ rfl rfl hl.1 rfl (lv_room (Nat.le_of_ble_eq_true rfl)) dX0_begun_7 ⟨Nat.zero_le _, Nat.zero_le _⟩) hS (fun q _ h => h) (fun q h => h) (fun F53 t H1 locs ht hvm hw hB hz1 hk1 hS => ?_)
  obtain ⟨hP, hK1⟩ := hB
  rw [ht] at hP
  generalize H1 = H at hP hS ⊢
  clear hz1 hk1
  obtain ⟨h54, h55, hI, hfr1⟩ := hw
  have o56 : F53 a0 = .inr (0, [.ref z1, .ref z3, .ref z5, .ref z7, .ref z9, .int z11, .ref z12, .long z14, .ref z15, .int z17, .ref z18, .int z20, .int z21, .int z22]) := (hfr1 _ (by rw [ha0]; decide)).trans o25
  have hfr : ∀ b, K b ∉ [5, 6, 24, 27, 28, 30, 31, 32] → F53 b = F b := fun b hb9 => (hfr1 b (fun q => hb9 (s_sub (by decide) q))).trans (hfr b hb9)
  refine lv_aload_n hx hb dX0_begun_10 rfl (lv_at hl 0 rfl) ?_
  refine th_get (D := (dC, dI)) (ci := 0) (v := .ref z3) (C := RX0) (T := TX0) (N := 14) hx hb hts inX0 hown hK hP (hLK _ ha0 (by decide)) o56 rfl 1 (by decide) (hts _ T_145) (fun _ h9 => h9) rfl dX0_begun_11 ?_
  refine lv_aload_n hx hb dX0_begun_14 rfl (lv_at hl 0 rfl) ?_
  refine th_get (D := (dC, dI)) (ci := 0) (v := .ref z18) (C := RX0) (T := TX0) (N := 14) hx hb hts inX0 hown hK hP (hLK _ ha0 (by decide)) o56 rfl 10 (by decide) (hts _ T_151) (fun _ h9 => h9) rfl dX0_begun_15 ?_
  obtain ⟨z57, z59, z61, z63, z65, z67, z69, z71, z73, z74, z75, z77, z78, z80, z81, o83, h58, h60, h62, h64, h66, h68, h70, h72, h76, h79, h82, -⟩ := s_op5 hI h4
  refine va_callv (va_runV (As := [.ref z18]) (rest := []) ⟨hx, hb, hml, hown, hts⟩ (s_X4_restart l dC dI H.size hLK D F53 z3 z18 h4 h19 hI) (cwV 1 hts (ax_gV T_554 T_556 T_557 T_142 T_555) rfl rfl rfl (by decide +kernel) ⟨Nat.le_of_ble_eq_true rfl, Nat.le_of_ble_eq_true rfl⟩) ⟨fun a U g mk q => ⟨q.1, s_pc (U := U) rfl rfl q.2⟩, s_recv hK hP (hLK _ h4 (by decide)) (ci := 4) rfl o83, fun U hU hW => ⟨rfl, s_pw hU hW hP hK hD hN⟩⟩ rfl rfl hl.1 rfl (lv_room (Nat.le_of_ble_eq_true rfl)) dX0_begun_18 ⟨Nat.zero_le _, Nat.zero_le _⟩) hS (fun q _ h => h) (fun q h => h) (fun F84 t H1 locs ht hvm hw hB hz1 hk1 hS => ?_)
  obtain ⟨hP, hK1⟩ := hB
  rw [ht] at hP
  generalize H1 = H at hP hS ⊢
  clear hz1 hk1
  obtain ⟨h85, h86, hI, hfr1⟩ := hw
  have o87 : F84 a0 = .inr (0, [.ref z1, .ref z3, .ref z5, .ref z7, .ref z9, .int z11, .ref z12, .long z14, .ref z15, .int z17, .ref z18, .int z20, .int z21, .int z22]) := (hfr1 _ (by rw [ha0]; decide)).trans o56
  have hfr : ∀ b, K b ∉ [5, 6, 24, 27, 28, 30, 31, 32] → F84 b = F b := fun b hb9 => (hfr1 b (fun q => hb9 (s_sub (by decide) q))).trans (hfr b hb9)
  refine lv_aload_n hx hb dX0_begun_21 rfl (lv_at hl 0 rfl) ?_
  refine th_get (D := (dC, dI)) (ci := 0) (v := .ref z3) (C := RX0) (T := TX0) (N := 14) hx hb hts inX0 hown hK hP (hLK _ ha0 (by decide)) o87 rfl 1 (by decide) (hts _ T_145) (fun _ h9 => h9) rfl dX0_begun_22 ?_
  exact W.aret (v := .ref z3) hx hb hr (Or.inl ⟨_, rfl⟩) (Or.inr ⟨_, rfl⟩) (fun t ht hW => ⟨⟨F84, z3, rfl, ⟨trivial, trivial, hI, hfr⟩, h4, by rw [ht]; exact hP, va_K.moved hW.alike hK⟩, hS.F ht⟩) hS.2.2 dX0_begun_25

set_option maxHeartbeats 4000000 in
set_option maxRecDepth 100000 in
theorem s_X0_cyclesToRest (l : Launch) (dC : Nat → ClassId) (dI : Nat → Nat → Nat) (sz : Nat) {L : List Nat} {K : Nat → Nat} {cs : Nat → ClassId} (hLK : ∀ a {k : Nat}, K a = k → k ≠ 0 → a ∈ L) (D : Nat) (Dm : Nat) (hDm : D + 401 ≤ Dm) (hDM : Dm < 2147483647) (F : Nat → va_E) (a0 : Nat) (a1 : Nat) (ha0 : K a0 = 1) (ha1 : K a1 = 5) (hI : s_I K cs D F) (hPG : s_PG K cs F) : Met l yX0_cyclesToRest (Cond.code yX0_cyclesToRest cX0_cyclesToRest 3 (some .int) :: T0) ({ frames := 5, cells := 0, slots := 0, locals := 114 }) (va_Pc [.ref a0, .ref a1] (s_W dC dI sz L F [(cs 0, .int), (cs 1, .byte), (cs 2, .long), (cs 3, .object RX5), (cs 4, .object RX4), (cs 5, .array .int), (cs 6, .char), (cs 7, .boolean)])) (va_Qi (fun (r : Int32) (G : Nat → va_E) => (-1 ≤ r.toInt ∧ r.toInt ≤ 400) ∧ True ∧ s_I K cs Dm G ∧ ∀ b, K b ∉ [2, 5, 6, 24, 27, 28, 29, 30, 31, 32, 34, 35] → G b = F b) (fun (G : Nat → va_E) (t : State) => va_P (dC, dI) vwCl (va_pl L G) t.heap ∧ va_K (dC, dI) vwCl [(cs 0, .int), (cs 1, .byte), (cs 2, .long), (cs 3, .object RX5), (cs 4, .object RX4), (cs 5, .array .int), (cs 6, .char), (cs 7, .boolean)] t) (fun q => q ∈ L)) 0 0 (fun q => q ∈ L) := by
  refine Met.ofW (cc := cX0_cyclesToRest) (maxL := 3) (ret := (some .int)) (by decide) rfl ?_
  intro p e s m args below meth c s₁ B hml hv
  obtain ⟨rfl, hsz, hP, hK, hD, hN⟩ := hv
  have hx := B.exec
  have hb := B.bytes
  have hr := B.returns
  have hts : ∀ w ∈ T0, w.before _ s = true := fun w h => atoms_spec (ws := Cond.code yX0_cyclesToRest cX0_cyclesToRest 3 (some .int) :: T0) B.pre w (List.mem_cons_of_mem _ h)
  have hown : s.vm.findClass RX0 = some m.cls := findClass_of_methodNamed B.named
  have hlocks := B.notSynchronized
  have hS : va_S (fun q => q ∈ L) s.heap s.heap [] := va_S.rf
  have hfr : ∀ b, K b ∉ [2, 5, 6, 24, 27, 28, 29, 30, 31, 32, 34, 35] → F b = F b := fun _ _ => rfl
  have hl := lv_entry ([.ref a0, .ref a1]) (n := 3) (Nat.le_of_ble_eq_true rfl)
  rw [lg_entry_eq]
  generalize (lg_sl ([.ref a0, .ref a1]) ++ List.replicate (3 - (lg_sl ([.ref a0, .ref a1])).length) Slot.unset).toArray = ls at hl ⊢
  have hl : lv_has ls 3 [(0, .ref a0), (1, .ref a1)] := hl
  have hI0 := hI
  refine s_gen hP hS (fun H locs hP hS => ?_)
  refine lv_aload_n hx hb dX0_cyclesToRest_0 rfl (lv_at hl 0 rfl) ?_
  obtain ⟨z1, z3, z5, z7, z9, z11, z12, z14, z15, z17, z18, z20, z21, z22, o25, h2, h4, h6, h8, h10, h13, h16, h19, h23, h24, -⟩ := s_op1 hI ha0
  refine th_get (D := (dC, dI)) (ci := 0) (v := .ref z5) (C := RX0) (T := TX0) (N := 14) hx hb hts inX0 hown hK hP (hLK _ ha0 (by decide)) o25 rfl 2 (by decide) (hts _ T_146) (fun _ h9 => h9) rfl dX0_cyclesToRest_1 ?_
  refine lv_aload_n hx hb dX0_cyclesToRest_4 rfl (lv_at hl 1 rfl) ?_
  obtain ⟨z26, z28, z30, z32, z34, z36, z38, z40, z42, z43, z44, z46, z47, z49, z50, o52, h27, h29, h31, h33, h35, h37, h39, h41, h45, h48, h51, -⟩ := s_op5 hI h6
  refine va_callv (va_runV (As := [.ref a1]) (rest := []) ⟨hx, hb, hml, hown, hts⟩ (s_X4_copyFrom l dC dI H.size hLK D F z5 a1 h6 ha1 hI) (cwV 1 hts (ax_gV T_558 T_560 T_561 T_142 T_559) rfl rfl rfl (by decide +kernel) ⟨Nat.le_of_ble_eq_true rfl, Nat.le_of_ble_eq_true rfl⟩) ⟨fun a U g mk q => ⟨q.1, s_pc (U := U) rfl rfl q.2⟩, s_recv hK hP (hLK _ h6 (by decide)) (ci := 4) rfl o52, fun U hU hW => ⟨rfl, s_pw hU hW hP hK hD hN⟩⟩ rfl rfl hl.1 rfl (lv_room (Nat.le_of_ble_eq_true rfl)) dX0_cyclesToRest_5 ⟨Nat.zero_le _, Nat.zero_le _⟩) hS (fun q _ h => h) (fun q h => h) (fun F53 t H1 locs ht hvm hw hB hz1 hk1 hS => ?_)
  obtain ⟨hP, hK1⟩ := hB
  rw [ht] at hP
  generalize H1 = H at hP hS ⊢
  clear hz1 hk1
  obtain ⟨h54, h55, hI, hfr1⟩ := hw
  have o56 : F53 a0 = .inr (0, [.ref z1, .ref z3, .ref z5, .ref z7, .ref z9, .int z11, .ref z12, .long z14, .ref z15, .int z17, .ref z18, .int z20, .int z21, .int z22]) := (hfr1 _ (by rw [ha0]; decide)).trans o25
  have hfr : ∀ b, K b ∉ [2, 5, 6, 24, 27, 28, 29, 30, 31, 32, 34, 35] → F53 b = F b := fun b hb9 => (hfr1 b (fun q => hb9 (s_sub (by decide) q))).trans (hfr b hb9)
  refine lv_iconst (v := 0) hx hb dX0_cyclesToRest_8 (by decide) ?_
  refine lv_istore_n (lv' := [(2, .int 0), (0, .ref a0), (1, .ref a1)]) hx hb dX0_cyclesToRest_9 rfl hl (by decide) rfl (fun ls hl => ?_)
  refine th_loop (fun n g H locs => ∃ (G : Nat → va_E) (ls : Array Slot) (Dn : Nat) (w57 : Int32), g = F0 m 10 ls [] ∧ lv_has ls 3 [(0, .ref a0), (2, .int w57)] ∧ Dn + 1 * n + 0 ≤ Dm ∧ s_I K cs Dn G ∧ va_P (dC, dI) vwCl (va_pl L G) H ∧ va_S (fun q => q ∈ L) s.heap H locs ∧ (∀ b, K b ∉ [2, 5, 6, 24, 27, 28, 29, 30, 31, 32, 34, 35] → G b = F b) ∧ (0 ≤ w57.toInt ∧ w57.toInt ≤ 400) ∧ n = (401 - w57.toInt).toNat) _ ⟨F53, _, D, 0, rfl, lv_sub hl [1, 0] rfl, by have q7a : (0 : Int32).toInt = 0 := (by decide); omega, hI, hP, hS, hfr, (by decide), rfl⟩ (fun n ih10 g H locs hq => ?_)
  obtain ⟨F9, ls, D59, w57, rfl, hl, h60, hI, hP, hS, hfr, h58, hn⟩ := hq
  have hn_10 := hn
  obtain ⟨n_10, hn9_10⟩ : ∃ q, q = n := ⟨_, rfl⟩
  refine lv_iload_n hx hb dX0_cyclesToRest_10 rfl (lv_at hl 1 rfl) ?_
  refine lv_sipush (v := 400) hx hb dX0_cyclesToRest_11 (by decide) ?_
  refine lv_icmp_ge (tgt := 47) hx hb dX0_cyclesToRest_14 (by decide) (fun c61 => ?_) (fun c61 => ?_)
  · have c61 := (ax_ge (n := 400) (by decide)).mp c61
    refine lv_aload_n hx hb dX0_cyclesToRest_47 rfl (lv_at hl 0 rfl) ?_
    obtain ⟨z62, z64, z66, z68, z70, z72, z73, z75, z76, z78, z79, z81, z82, z83, o86, h63, h65, h67, h69, h71, h74, h77, h80, h84, h85, -⟩ := s_op1 hI ha0
    refine th_get (D := (dC, dI)) (ci := 0) (v := .ref z66) (C := RX0) (T := TX0) (N := 14) hx hb hts inX0 hown hK hP (hLK _ ha0 (by decide)) o86 rfl 2 (by decide) (hts _ T_146) (fun _ h9 => h9) rfl dX0_cyclesToRest_48 ?_
    obtain ⟨z87, z89, z91, z93, z95, z97, z99, z101, z103, z104, z105, z107, z108, z110, z111, o113, h88, h90, h92, h94, h96, h98, h100, h102, h106, h109, h112, -⟩ := s_op5 hI h67
    refine va_calli (va_runV (As := []) (rest := []) ⟨hx, hb, hml, hown, hts⟩ (s_X4_hasNoneToGo l dC dI H.size hLK D59 F9 z66 h67 hI) (cwV 0 hts (ax_gV T_582 T_584 T_585 T_142 T_583) rfl rfl rfl (by decide +kernel) ⟨Nat.le_of_ble_eq_true rfl, Nat.le_of_ble_eq_true rfl⟩) ⟨fun a U g mk q => ⟨q.1, s_pc (U := U) rfl rfl q.2⟩, s_recv hK hP (hLK _ h67 (by decide)) (ci := 4) rfl o113, fun U hU hW => ⟨rfl, s_pw hU hW hP hK hD hN⟩⟩ rfl rfl hl.1 rfl (lv_room (Nat.le_of_ble_eq_true rfl)) dX0_cyclesToRest_51 ⟨Nat.zero_le _, Nat.zero_le _⟩) hS (fun q _ h => h) (fun q h => h) (fun r114 F115 t H1 locs ht hvm hw hB hz1 hk1 hS => ?_)
    obtain ⟨hP, hK1⟩ := hB
    rw [ht] at hP
    generalize H1 = H at hP hS ⊢
    clear hz1 hk1
    obtain ⟨h116, h117, hI, hfr1⟩ := hw
    have o118 : F115 a0 = .inr (0, [.ref z62, .ref z64, .ref z66, .ref z68, .ref z70, .int z72, .ref z73, .long z75, .ref z76, .int z78, .ref z79, .int z81, .int z82, .int z83]) := (hfr1 _ (by rw [ha0]; decide)).trans o86
    have o119 : F115 z66 = .inr (4, [.ref z87, .ref z89, .ref z91, .ref z93, .ref z95, .ref z97, .ref z99, .int z101, .int z103, .int z104, .int z105, .int z107, .int z108, .int z110, .int z111]) := (hfr1 _ (by rw [h67]; decide)).trans o113
    have hfr : ∀ b, K b ∉ [2, 5, 6, 24, 27, 28, 29, 30, 31, 32, 34, 35] → F115 b = F b := fun b hb9 => (hfr1 b (fun q => hb9 (s_sub (by decide) q))).trans (hfr b hb9)
    refine lv_if_eq (tgt := 63) hx hb dX0_cyclesToRest_54 (by decide) (fun c120 => ?_) (fun c120 => ?_)
    · have c120 := (ax_eq (n := 0) (by decide)).mp c120
      refine lv_iconst (v := (-1)) hx hb dX0_cyclesToRest_63 (by decide) ?_
      exact W.iret (v := (-1)) hx hb hr (fun t ht hW => ⟨⟨(-1), F115, rfl, ⟨(by decide), trivial, (s_mono (by omega) hI), hfr⟩, by rw [ht]; exact hP, va_K.moved hW.alike hK⟩, hS.F ht⟩) hS.2.2 dX0_cyclesToRest_64
    · have c120 := mt (ax_eq (n := 0) (by decide)).mpr c120
      refine lv_sipush (v := 400) hx hb dX0_cyclesToRest_57 (by decide) ?_
      refine lv_goto (tgt := 64) hx hb dX0_cyclesToRest_60 (by decide) ?_
      exact W.iret (v := 400) hx hb hr (fun t ht hW => ⟨⟨400, F115, rfl, ⟨(by decide), trivial, (s_mono (by omega) hI), hfr⟩, by rw [ht]; exact hP, va_K.moved hW.alike hK⟩, hS.F ht⟩) hS.2.2 dX0_cyclesToRest_64
  · have c61 := mt (ax_ge (n := 400) (by decide)).mpr c61
    refine lv_aload_n hx hb dX0_cyclesToRest_17 rfl (lv_at hl 0 rfl) ?_
    obtain ⟨z121, z123, z125, z127, z129, z131, z132, z134, z135, z137, z138, z140, z141, z142, o145, h122, h124, h126, h128, h130, h133, h136, h139, h143, h144, -⟩ := s_op1 hI ha0
    refine th_get (D := (dC, dI)) (ci := 0) (v := .ref z125) (C := RX0) (T := TX0) (N := 14) hx hb hts inX0 hown hK hP (hLK _ ha0 (by decide)) o145 rfl 2 (by decide) (hts _ T_146) (fun _ h9 => h9) rfl dX0_cyclesToRest_18 ?_
    obtain ⟨z146, z148, z150, z152, z154, z156, z158, z160, z162, z163, z164, z166, z167, z169, z170, o172, h147, h149, h151, h153, h155, h157, h159, h161, h165, h168, h171, -⟩ := s_op5 hI h126
    refine va_calli (va_runV (As := []) (rest := []) ⟨hx, hb, hml, hown, hts⟩ (s_X4_hasNoneToGo l dC dI H.size hLK D59 F9 z125 h126 hI) (cwV 0 hts (ax_gV T_582 T_584 T_585 T_142 T_583) rfl rfl rfl (by decide +kernel) ⟨Nat.le_of_ble_eq_true rfl, Nat.le_of_ble_eq_true rfl⟩) ⟨fun a U g mk q => ⟨q.1, s_pc (U := U) rfl rfl q.2⟩, s_recv hK hP (hLK _ h126 (by decide)) (ci := 4) rfl o172, fun U hU hW => ⟨rfl, s_pw hU hW hP hK hD hN⟩⟩ rfl rfl hl.1 rfl (lv_room (Nat.le_of_ble_eq_true rfl)) dX0_cyclesToRest_21 ⟨Nat.zero_le _, Nat.zero_le _⟩) hS (fun q _ h => h) (fun q h => h) (fun r173 F174 t H1 locs ht hvm hw hB hz1 hk1 hS => ?_)
    obtain ⟨hP, hK1⟩ := hB
    rw [ht] at hP
    generalize H1 = H at hP hS ⊢
    clear hz1 hk1
    obtain ⟨h175, h176, hI, hfr1⟩ := hw
    have o177 : F174 a0 = .inr (0, [.ref z121, .ref z123, .ref z125, .ref z127, .ref z129, .int z131, .ref z132, .long z134, .ref z135, .int z137, .ref z138, .int z140, .int z141, .int z142]) := (hfr1 _ (by rw [ha0]; decide)).trans o145
    have o178 : F174 z125 = .inr (4, [.ref z146, .ref z148, .ref z150, .ref z152, .ref z154, .ref z156, .ref z158, .int z160, .int z162, .int z163, .int z164, .int z166, .int z167, .int z169, .int z170]) := (hfr1 _ (by rw [h126]; decide)).trans o172
    have hfr : ∀ b, K b ∉ [2, 5, 6, 24, 27, 28, 29, 30, 31, 32, 34, 35] → F174 b = F b := fun b hb9 => (hfr1 b (fun q => hb9 (s_sub (by decide) q))).trans (hfr b hb9)
    refine lv_if_eq (tgt := 29) hx hb dX0_cyclesToRest_24 (by decide) (fun c179 => ?_) (fun c179 => ?_)
    · have c179 := (ax_eq (n := 0) (by decide)).mp c179
      refine lv_aload_n hx hb dX0_cyclesToRest_29 rfl (lv_at hl 0 rfl) ?_
      refine th_get (D := (dC, dI)) (ci := 0) (v := .ref z121) (C := RX0) (T := TX0) (N := 14) hx hb hts inX0 hown hK hP (hLK _ ha0 (by decide)) o177 rfl 0 (by decide) (hts _ T_139) (fun _ h9 => h9) rfl dX0_cyclesToRest_30 ?_
      refine lv_aload_n hx hb dX0_cyclesToRest_33 rfl (lv_at hl 0 rfl) ?_
      refine th_get (D := (dC, dI)) (ci := 0) (v := .ref z125) (C := RX0) (T := TX0) (N := 14) hx hb hts inX0 hown hK hP (hLK _ ha0 (by decide)) o177 rfl 2 (by decide) (hts _ T_146) (fun _ h9 => h9) rfl dX0_cyclesToRest_34 ?_
      obtain ⟨z180, z182, z184, z186, z188, z190, z191, z193, z194, z195, z197, z198, o199, h181, h183, h185, h187, h189, h192, h196, -⟩ := s_op2 hI h122
      refine va_calli (va_runV (As := [.ref z125]) (rest := []) ⟨hx, hb, hml, hown, hts⟩ (s_X1_step l dC dI H.size hLK D59 (D59 + 1) (Nat.le_refl _) (by omega) F174 z121 z125 h122 h126 hI (s_PGt hI0 hfr (by decide) hPG)) (cwV 1 hts (ax_gV T_562 T_564 T_565 T_137 T_563) rfl rfl rfl (by decide +kernel) ⟨Nat.le_of_ble_eq_true rfl, Nat.le_of_ble_eq_true rfl⟩) ⟨fun a U g mk q => ⟨q.1, s_pc (U := U) rfl rfl q.2⟩, s_recv hK hP (hLK _ h122 (by decide)) (ci := 1) rfl o199, fun U hU hW => ⟨rfl, s_pw hU hW hP hK hD hN⟩⟩ rfl rfl hl.1 rfl (lv_room (Nat.le_of_ble_eq_true rfl)) dX0_cyclesToRest_37 ⟨Nat.zero_le _, Nat.zero_le _⟩) hS (fun q _ h => h) (fun q h => h) (fun r200 F201 t H1 locs ht hvm hw hB hz1 hk1 hS => ?_)
      obtain ⟨hP, hK1⟩ := hB
      rw [ht] at hP
      generalize H1 = H at hP hS ⊢
      clear hz1 hk1
      obtain ⟨h202, h203, hI, hfr1⟩ := hw
      have o204 : F201 a0 = .inr (0, [.ref z121, .ref z123, .ref z125, .ref z127, .ref z129, .int z131, .ref z132, .long z134, .ref z135, .int z137, .ref z138, .int z140, .int z141, .int z142]) := (hfr1 _ (by rw [ha0]; decide)).trans o177
      have hfr : ∀ b, K b ∉ [2, 5, 6, 24, 27, 28, 29, 30, 31, 32, 34, 35] → F201 b = F b := fun b hb9 => (hfr1 b (fun q => hb9 (s_sub (by decide) q))).trans (hfr b hb9)
      refine lv_pop hx hb dX0_cyclesToRest_40 rfl ?_
      obtain ⟨v205, ev205⟩ : ∃ y : Int32, w57 + 1 = y := ⟨_, rfl⟩
      have qv205 : v205.toInt = w57.toInt + 1 := by rw [← ev205]; exact th_add rfl (by decide) ⟨by omega, by omega⟩
      refine lv_iinc (v := v205) (lv' := [(2, .int v205), (0, .ref a0)]) hx hb dX0_cyclesToRest_41 hl (k := 1) rfl ev205 (by decide) rfl (fun ls hl => ?_)
      refine lv_goto (tgt := 10) hx hb dX0_cyclesToRest_44 (by decide) ?_
      exact ih10 _ _ _ _ (by omega) ⟨F201, _, (D59 + 1), v205, rfl, lv_sub hl [1, 0] rfl, by omega, hI, hP, hS, hfr, ⟨by omega, by omega⟩, rfl⟩
    · have c179 := mt (ax_eq (n := 0) (by decide)).mpr c179
      refine lv_iload_n hx hb dX0_cyclesToRest_27 rfl (lv_at hl 1 rfl) ?_
      exact W.iret (v := w57) hx hb hr (fun t ht hW => ⟨⟨w57, F174, rfl, ⟨⟨by omega, by omega⟩, trivial, (s_mono (by omega) hI), hfr⟩, by rw [ht]; exact hP, va_K.moved hW.alike hK⟩, hS.F ht⟩) hS.2.2 dX0_cyclesToRest_28

set_option maxHeartbeats 4000000 in
set_option maxRecDepth 100000 in
theorem s_X0_roundFromHere (l : Launch) (dC : Nat → ClassId) (dI : Nat → Nat → Nat) (sz : Nat) {L : List Nat} {K : Nat → Nat} {cs : Nat → ClassId} (hLK : ∀ a {k : Nat}, K a = k → k ≠ 0 → a ∈ L) (D : Nat) (Dm : Nat) (hDm : D + 401 ≤ Dm) (hDM : Dm < 2147483647) (F : Nat → va_E) (a0 : Nat) (ha0 : K a0 = 1) (hI : s_I K cs D F) (hPG : s_PG K cs F) : Met l yX0_roundFromHere (Cond.code yX0_roundFromHere cX0_roundFromHere 2 (some .int) :: T0) ({ frames := 5, cells := 0, slots := 0, locals := 114 }) (va_Pc [.ref a0] (s_W dC dI sz L F [(cs 0, .int), (cs 1, .byte), (cs 2, .long), (cs 3, .object RX5), (cs 4, .object RX4), (cs 5, .array .int), (cs 6, .char), (cs 7, .boolean)])) (va_Qi (fun (r : Int32) (G : Nat → va_E) => (-1 ≤ r.toInt ∧ r.toInt ≤ 400) ∧ True ∧ s_I K cs Dm G ∧ ∀ b, K b ∉ [2, 5, 6, 24, 27, 28, 29, 30, 31, 32, 34, 35] → G b = F b) (fun (G : Nat → va_E) (t : State) => va_P (dC, dI) vwCl (va_pl L G) t.heap ∧ va_K (dC, dI) vwCl [(cs 0, .int), (cs 1, .byte), (cs 2, .long), (cs 3, .object RX5), (cs 4, .object RX4), (cs 5, .array .int), (cs 6, .char), (cs 7, .boolean)] t) (fun q => q ∈ L)) 0 0 (fun q => q ∈ L) := by
  refine Met.ofW (cc := cX0_roundFromHere) (maxL := 2) (ret := (some .int)) (by decide) rfl ?_
  intro p e s m args below meth c s₁ B hml hv
  obtain ⟨rfl, hsz, hP, hK, hD, hN⟩ := hv
  have hx := B.exec
  have hb := B.bytes
  have hr := B.returns
  have hts : ∀ w ∈ T0, w.before _ s = true := fun w h => atoms_spec (ws := Cond.code yX0_roundFromHere cX0_roundFromHere 2 (some .int) :: T0) B.pre w (List.mem_cons_of_mem _ h)
  have hown : s.vm.findClass RX0 = some m.cls := findClass_of_methodNamed B.named
  have hlocks := B.notSynchronized
  have hS : va_S (fun q => q ∈ L) s.heap s.heap [] := va_S.rf
  have hfr : ∀ b, K b ∉ [2, 5, 6, 24, 27, 28, 29, 30, 31, 32, 34, 35] → F b = F b := fun _ _ => rfl
  have hl := lv_entry ([.ref a0]) (n := 2) (Nat.le_of_ble_eq_true rfl)
  rw [lg_entry_eq]
  generalize (lg_sl ([.ref a0]) ++ List.replicate (2 - (lg_sl ([.ref a0])).length) Slot.unset).toArray = ls at hl ⊢
  have hl : lv_has ls 2 [(0, .ref a0)] := hl
  have hI0 := hI
  refine s_gen hP hS (fun H locs hP hS => ?_)
  refine lv_aload_n hx hb dX0_roundFromHere_0 rfl (lv_at hl 0 rfl) ?_
  obtain ⟨z1, z3, z5, z7, z9, z11, z12, z14, z15, z17, z18, z20, z21, z22, o25, h2, h4, h6, h8, h10, h13, h16, h19, h23, h24, -⟩ := s_op1 hI ha0
  refine th_get (D := (dC, dI)) (ci := 0) (v := .ref z7) (C := RX0) (T := TX0) (N := 14) hx hb hts inX0 hown hK hP (hLK _ ha0 (by decide)) o25 rfl 3 (by decide) (hts _ T_147) (fun _ h9 => h9) rfl dX0_roundFromHere_1 ?_
  refine lv_aload_n hx hb dX0_roundFromHere_4 rfl (lv_at hl 0 rfl) ?_
  refine th_get (D := (dC, dI)) (ci := 0) (v := .ref z5) (C := RX0) (T := TX0) (N := 14) hx hb hts inX0 hown hK hP (hLK _ ha0 (by decide)) o25 rfl 2 (by decide) (hts _ T_146) (fun _ h9 => h9) rfl dX0_roundFromHere_5 ?_
  obtain ⟨z26, z28, z30, z32, z34, z36, z38, z40, z42, z43, z44, z46, z47, z49, z50, o52, h27, h29, h31, h33, h35, h37, h39, h41, h45, h48, h51, -⟩ := s_op5 hI h8
  refine va_callv (va_runV (As := [.ref z5]) (rest := []) ⟨hx, hb, hml, hown, hts⟩ (s_X4_copyFrom l dC dI H.size hLK D F z7 z5 h8 h6 hI) (cwV 1 hts (ax_gV T_558 T_560 T_561 T_142 T_559) rfl rfl rfl (by decide +kernel) ⟨Nat.le_of_ble_eq_true rfl, Nat.le_of_ble_eq_true rfl⟩) ⟨fun a U g mk q => ⟨q.1, s_pc (U := U) rfl rfl q.2⟩, s_recv hK hP (hLK _ h8 (by decide)) (ci := 4) rfl o52, fun U hU hW => ⟨rfl, s_pw hU hW hP hK hD hN⟩⟩ rfl rfl hl.1 rfl (lv_room (Nat.le_of_ble_eq_true rfl)) dX0_roundFromHere_8 ⟨Nat.zero_le _, Nat.zero_le _⟩) hS (fun q _ h => h) (fun q h => h) (fun F53 t H1 locs ht hvm hw hB hz1 hk1 hS => ?_)
  obtain ⟨hP, hK1⟩ := hB
  rw [ht] at hP
  generalize H1 = H at hP hS ⊢
  clear hz1 hk1
  obtain ⟨h54, h55, hI, hfr1⟩ := hw
  have o56 : F53 a0 = .inr (0, [.ref z1, .ref z3, .ref z5, .ref z7, .ref z9, .int z11, .ref z12, .long z14, .ref z15, .int z17, .ref z18, .int z20, .int z21, .int z22]) := (hfr1 _ (by rw [ha0]; decide)).trans o25
  have hfr : ∀ b, K b ∉ [2, 5, 6, 24, 27, 28, 29, 30, 31, 32, 34, 35] → F53 b = F b := fun b hb9 => (hfr1 b (fun q => hb9 (s_sub (by decide) q))).trans (hfr b hb9)
  refine lv_iconst (v := 1) hx hb dX0_roundFromHere_11 (by decide) ?_
  refine lv_istore_n (lv' := [(1, .int 1), (0, .ref a0)]) hx hb dX0_roundFromHere_12 rfl hl (by decide) rfl (fun ls hl => ?_)
  refine th_loop (fun n g H locs => ∃ (G : Nat → va_E) (ls : Array Slot) (Dn : Nat) (w57 : Int32), g = F0 m 13 ls [] ∧ lv_has ls 2 [(0, .ref a0), (1, .int w57)] ∧ Dn + 1 * n + 0 ≤ Dm ∧ s_I K cs Dn G ∧ va_P (dC, dI) vwCl (va_pl L G) H ∧ va_S (fun q => q ∈ L) s.heap H locs ∧ (∀ b, K b ∉ [2, 5, 6, 24, 27, 28, 29, 30, 31, 32, 34, 35] → G b = F b) ∧ (1 ≤ w57.toInt ∧ w57.toInt ≤ 401) ∧ n = (402 - w57.toInt).toNat) _ ⟨F53, _, D, 1, rfl, lv_sub hl [1, 0] rfl, by have q7a : (1 : Int32).toInt = 1 := (by decide); omega, hI, hP, hS, hfr, (by decide), rfl⟩ (fun n ih13 g H locs hq => ?_)
  obtain ⟨F9, ls, D59, w57, rfl, hl, h60, hI, hP, hS, hfr, h58, hn⟩ := hq
  have hn_13 := hn
  obtain ⟨n_13, hn9_13⟩ : ∃ q, q = n := ⟨_, rfl⟩
  refine lv_iload_n hx hb dX0_roundFromHere_13 rfl (lv_at hl 1 rfl) ?_
  refine lv_sipush (v := 400) hx hb dX0_roundFromHere_14 (by decide) ?_
  refine lv_icmp_gt (tgt := 54) hx hb dX0_roundFromHere_17 (by decide) (fun c61 => ?_) (fun c61 => ?_)
  · have c61 := (ax_gt (n := 400) (by decide)).mp c61
    refine lv_iconst (v := (-1)) hx hb dX0_roundFromHere_54 (by decide) ?_
    exact W.iret (v := (-1)) hx hb hr (fun t ht hW => ⟨⟨(-1), F9, rfl, ⟨(by decide), trivial, (s_mono (by omega) hI), hfr⟩, by rw [ht]; exact hP, va_K.moved hW.alike hK⟩, hS.F ht⟩) hS.2.2 dX0_roundFromHere_55
  · have c61 := mt (ax_gt (n := 400) (by decide)).mpr c61
    refine lv_aload_n hx hb dX0_roundFromHere_20 rfl (lv_at hl 0 rfl) ?_
    obtain ⟨z62, z64, z66, z68, z70, z72, z73, z75, z76, z78, z79, z81, z82, z83, o86, h63, h65, h67, h69, h71, h74, h77, h80, h84, h85, -⟩ := s_op1 hI ha0
    refine th_get (D := (dC, dI)) (ci := 0) (v := .ref z62) (C := RX0) (T := TX0) (N := 14) hx hb hts inX0 hown hK hP (hLK _ ha0 (by decide)) o86 rfl 0 (by decide) (hts _ T_139) (fun _ h9 => h9) rfl dX0_roundFromHere_21 ?_
    refine lv_aload_n hx hb dX0_roundFromHere_24 rfl (lv_at hl 0 rfl) ?_
    refine th_get (D := (dC, dI)) (ci := 0) (v := .ref z66) (C := RX0) (T := TX0) (N := 14) hx hb hts inX0 hown hK hP (hLK _ ha0 (by decide)) o86 rfl 2 (by decide) (hts _ T_146) (fun _ h9 => h9) rfl dX0_roundFromHere_25 ?_
    obtain ⟨z87, z89, z91, z93, z95, z97, z98, z100, z101, z102, z104, z105, o106, h88, h90, h92, h94, h96, h99, h103, -⟩ := s_op2 hI h63
    refine va_calli (va_runV (As := [.ref z66]) (rest := []) ⟨hx, hb, hml, hown, hts⟩ (s_X1_step l dC dI H.size hLK D59 (D59 + 1) (Nat.le_refl _) (by omega) F9 z62 z66 h63 h67 hI (s_PGt hI0 hfr (by decide) hPG)) (cwV 1 hts (ax_gV T_562 T_564 T_565 T_137 T_563) rfl rfl rfl (by decide +kernel) ⟨Nat.le_of_ble_eq_true rfl, Nat.le_of_ble_eq_true rfl⟩) ⟨fun a U g mk q => ⟨q.1, s_pc (U := U) rfl rfl q.2⟩, s_recv hK hP (hLK _ h63 (by decide)) (ci := 1) rfl o106, fun U hU hW => ⟨rfl, s_pw hU hW hP hK hD hN⟩⟩ rfl rfl hl.1 rfl (lv_room (Nat.le_of_ble_eq_true rfl)) dX0_roundFromHere_28 ⟨Nat.zero_le _, Nat.zero_le _⟩) hS (fun q _ h => h) (fun q h => h) (fun r107 F108 t H1 locs ht hvm hw hB hz1 hk1 hS => ?_)
    obtain ⟨hP, hK1⟩ := hB
    rw [ht] at hP
    generalize H1 = H at hP hS ⊢
    clear hz1 hk1
    obtain ⟨h109, h110, hI, hfr1⟩ := hw
    have o111 : F108 a0 = .inr (0, [.ref z62, .ref z64, .ref z66, .ref z68, .ref z70, .int z72, .ref z73, .long z75, .ref z76, .int z78, .ref z79, .int z81, .int z82, .int z83]) := (hfr1 _ (by rw [ha0]; decide)).trans o86
    have hfr : ∀ b, K b ∉ [2, 5, 6, 24, 27, 28, 29, 30, 31, 32, 34, 35] → F108 b = F b := fun b hb9 => (hfr1 b (fun q => hb9 (s_sub (by decide) q))).trans (hfr b hb9)
    refine lv_pop hx hb dX0_roundFromHere_31 rfl ?_
    refine lv_aload_n hx hb dX0_roundFromHere_32 rfl (lv_at hl 0 rfl) ?_
    refine th_get (D := (dC, dI)) (ci := 0) (v := .ref z66) (C := RX0) (T := TX0) (N := 14) hx hb hts inX0 hown hK hP (hLK _ ha0 (by decide)) o111 rfl 2 (by decide) (hts _ T_146) (fun _ h9 => h9) rfl dX0_roundFromHere_33 ?_
    refine lv_aload_n hx hb dX0_roundFromHere_36 rfl (lv_at hl 0 rfl) ?_
    refine th_get (D := (dC, dI)) (ci := 0) (v := .ref z68) (C := RX0) (T := TX0) (N := 14) hx hb hts inX0 hown hK hP (hLK _ ha0 (by decide)) o111 rfl 3 (by decide) (hts _ T_147) (fun _ h9 => h9) rfl dX0_roundFromHere_37 ?_
    obtain ⟨z112, z114, z116, z118, z120, z122, z124, z126, z128, z129, z130, z132, z133, z135, z136, o138, h113, h115, h117, h119, h121, h123, h125, h127, h131, h134, h137, -⟩ := s_op5 hI h67
    refine va_calli (va_runV (As := [.ref z68]) (rest := []) ⟨hx, hb, hml, hown, hts⟩ (s_X4_isLike l dC dI H.size hLK (D59 + 1) F108 z66 z68 h67 h69 hI) (cwV 1 hts (ax_gV T_586 T_588 T_589 T_142 T_587) rfl rfl rfl (by decide +kernel) ⟨Nat.le_of_ble_eq_true rfl, Nat.le_of_ble_eq_true rfl⟩) ⟨fun a U g mk q => ⟨q.1, s_pc (U := U) rfl rfl q.2⟩, s_recv hK hP (hLK _ h67 (by decide)) (ci := 4) rfl o138, fun U hU hW => ⟨rfl, s_pw hU hW hP hK hD hN⟩⟩ rfl rfl hl.1 rfl (lv_room (Nat.le_of_ble_eq_true rfl)) dX0_roundFromHere_40 ⟨Nat.zero_le _, Nat.zero_le _⟩) hS (fun q _ h => h) (fun q h => h) (fun r139 F140 t H1 locs ht hvm hw hB hz1 hk1 hS => ?_)
    obtain ⟨hP, hK1⟩ := hB
    rw [ht] at hP
    generalize H1 = H at hP hS ⊢
    clear hz1 hk1
    obtain ⟨h141, h142, hI, hfr1⟩ := hw
    have o143 : F140 a0 = .inr (0, [.ref z62, .ref z64, .ref z66, .ref z68, .ref z70, .int z72, .ref z73, .long z75, .ref z76, .int z78, .ref z79, .int z81, .int z82, .int z83]) := (hfr1 _ (by rw [ha0]; decide)).trans o111
    have o144 : F140 z66 = .inr (4, [.ref z112, .ref z114, .ref z116, .ref z118, .ref z120, .ref z122, .ref z124, .int z126, .int z128, .int z129, .int z130, .int z132, .int z133, .int z135, .int z136]) := (hfr1 _ (by rw [h67]; decide)).trans o138
    have hfr : ∀ b, K b ∉ [2, 5, 6, 24, 27, 28, 29, 30, 31, 32, 34, 35] → F140 b = F b := fun b hb9 => (hfr1 b (fun q => hb9 (s_sub (by decide) q))).trans (hfr b hb9)
    refine lv_if_eq (tgt := 48) hx hb dX0_roundFromHere_43 (by decide) (fun c145 => ?_) (fun c145 => ?_)
    · have c145 := (ax_eq (n := 0) (by decide)).mp c145
      obtain ⟨v146, ev146⟩ : ∃ y : Int32, w57 + 1 = y := ⟨_, rfl⟩
      have qv146 : v146.toInt = w57.toInt + 1 := by rw [← ev146]; exact th_add rfl (by decide) ⟨by omega, by omega⟩
      refine lv_iinc (v := v146) (lv' := [(1, .int v146), (0, .ref a0)]) hx hb dX0_roundFromHere_48 hl (k := 1) rfl ev146 (by decide) rfl (fun ls hl => ?_)
      refine lv_goto (tgt := 13) hx hb dX0_roundFromHere_51 (by decide) ?_
      exact ih13 _ _ _ _ (by omega) ⟨F140, _, (D59 + 1), v146, rfl, lv_sub hl [1, 0] rfl, by omega, hI, hP, hS, hfr, ⟨by omega, by omega⟩, rfl⟩
    · have c145 := mt (ax_eq (n := 0) (by decide)).mpr c145
      refine lv_iload_n hx hb dX0_roundFromHere_46 rfl (lv_at hl 1 rfl) ?_
      exact W.iret (v := w57) hx hb hr (fun t ht hW => ⟨⟨w57, F140, rfl, ⟨⟨by omega, by omega⟩, trivial, (s_mono (by omega) hI), hfr⟩, by rw [ht]; exact hP, va_K.moved hW.alike hK⟩, hS.F ht⟩) hS.2.2 dX0_roundFromHere_47

set_option maxHeartbeats 4000000 in
set_option maxRecDepth 100000 in
theorem s_X0_firstAgain (l : Launch) (dC : Nat → ClassId) (dI : Nat → Nat → Nat) (sz : Nat) {L : List Nat} {K : Nat → Nat} {cs : Nat → ClassId} (hLK : ∀ a {k : Nat}, K a = k → k ≠ 0 → a ∈ L) (D : Nat) (Dm : Nat) (hDm : D + 1205 ≤ Dm) (hDM : Dm < 2147483647) (F : Nat → va_E) (a0 : Nat) (a1 : Nat) (x2 : Int32) (ha0 : K a0 = 1) (ha1 : K a1 = 5) (hx2 : -1 ≤ x2.toInt ∧ x2.toInt ≤ 400) (hI : s_I K cs D F) (hPG : s_PG K cs F) : Met l yX0_firstAgain (Cond.code yX0_firstAgain cX0_firstAgain 4 (some .int) :: T0) ({ frames := 5, cells := 0, slots := 0, locals := 114 }) (va_Pc [.ref a0, .ref a1, .int x2] (s_W dC dI sz L F [(cs 0, .int), (cs 1, .byte), (cs 2, .long), (cs 3, .object RX5), (cs 4, .object RX4), (cs 5, .array .int), (cs 6, .char), (cs 7, .boolean)])) (va_Qi (fun (r : Int32) (G : Nat → va_E) => (-1 ≤ r.toInt ∧ r.toInt ≤ 400) ∧ True ∧ s_I K cs Dm G ∧ ∀ b, K b ∉ [2, 5, 6, 24, 27, 28, 29, 30, 31, 32, 34, 35] → G b = F b) (fun (G : Nat → va_E) (t : State) => va_P (dC, dI) vwCl (va_pl L G) t.heap ∧ va_K (dC, dI) vwCl [(cs 0, .int), (cs 1, .byte), (cs 2, .long), (cs 3, .object RX5), (cs 4, .object RX4), (cs 5, .array .int), (cs 6, .char), (cs 7, .boolean)] t) (fun q => q ∈ L)) 0 0 (fun q => q ∈ L) := by
  refine Met.ofW (cc := cX0_firstAgain) (maxL := 4) (ret := (some .int)) (by decide) rfl ?_
  intro p e s m args below meth c s₁ B hml hv
  obtain ⟨rfl, hsz, hP, hK, hD, hN⟩ := hv
  have hx := B.exec
  have hb := B.bytes
  have hr := B.returns
  have hts : ∀ w ∈ T0, w.before _ s = true := fun w h => atoms_spec (ws := Cond.code yX0_firstAgain cX0_firstAgain 4 (some .int) :: T0) B.pre w (List.mem_cons_of_mem _ h)
  have hown : s.vm.findClass RX0 = some m.cls := findClass_of_methodNamed B.named
  have hlocks := B.notSynchronized
  have hS : va_S (fun q => q ∈ L) s.heap s.heap [] := va_S.rf
  have hfr : ∀ b, K b ∉ [2, 5, 6, 24, 27, 28, 29, 30, 31, 32, 34, 35] → F b = F b := fun _ _ => rfl
  have hl := lv_entry ([.ref a0, .ref a1, .int x2]) (n := 4) (Nat.le_of_ble_eq_true rfl)
  rw [lg_entry_eq]
  generalize (lg_sl ([.ref a0, .ref a1, .int x2]) ++ List.replicate (4 - (lg_sl ([.ref a0, .ref a1, .int x2])).length) Slot.unset).toArray = ls at hl ⊢
  have hl : lv_has ls 4 [(0, .ref a0), (1, .ref a1), (2, .int x2)] := hl
  have hI0 := hI
  refine s_gen hP hS (fun H locs hP hS => ?_)
  refine lv_iload_n hx hb dX0_firstAgain_0 rfl (lv_at hl 2 rfl) ?_
  refine lv_iconst (v := (-1)) hx hb dX0_firstAgain_1 (by decide) ?_
  refine lv_icmp_ne (tgt := 7) hx hb dX0_firstAgain_2 (by decide) (fun c1 => ?_) (fun c1 => ?_)
  · have c1 := mt (ax_eq (n := (-1)) (by decide)).mpr c1
    refine lv_aload_n hx hb dX0_firstAgain_7 rfl (lv_at hl 0 rfl) ?_
    obtain ⟨z2, z4, z6, z8, z10, z12, z13, z15, z16, z18, z19, z21, z22, z23, o26, h3, h5, h7, h9, h11, h14, h17, h20, h24, h25, -⟩ := s_op1 hI ha0
    refine th_get (D := (dC, dI)) (ci := 0) (v := .ref z8) (C := RX0) (T := TX0) (N := 14) hx hb hts inX0 hown hK hP (hLK _ ha0 (by decide)) o26 rfl 3 (by decide) (hts _ T_147) (fun _ h9 => h9) rfl dX0_firstAgain_8 ?_
    refine lv_aload_n hx hb dX0_firstAgain_11 rfl (lv_at hl 1 rfl) ?_
    obtain ⟨z27, z29, z31, z33, z35, z37, z39, z41, z43, z44, z45, z47, z48, z50, z51, o53, h28, h30, h32, h34, h36, h38, h40, h42, h46, h49, h52, -⟩ := s_op5 hI h9
    refine va_callv (va_runV (As := [.ref a1]) (rest := []) ⟨hx, hb, hml, hown, hts⟩ (s_X4_copyFrom l dC dI H.size hLK D F z8 a1 h9 ha1 hI) (cwV 1 hts (ax_gV T_558 T_560 T_561 T_142 T_559) rfl rfl rfl (by decide +kernel) ⟨Nat.le_of_ble_eq_true rfl, Nat.le_of_ble_eq_true rfl⟩) ⟨fun a U g mk q => ⟨q.1, s_pc (U := U) rfl rfl q.2⟩, s_recv hK hP (hLK _ h9 (by decide)) (ci := 4) rfl o53, fun U hU hW => ⟨rfl, s_pw hU hW hP hK hD hN⟩⟩ rfl rfl hl.1 rfl (lv_room (Nat.le_of_ble_eq_true rfl)) dX0_firstAgain_12 ⟨Nat.zero_le _, Nat.zero_le _⟩) hS (fun q _ h => h) (fun q h => h) (fun F54 t H1 locs ht hvm hw hB hz1 hk1 hS => ?_)
    obtain ⟨hP, hK1⟩ := hB
    rw [ht] at hP
    generalize H1 = H at hP hS ⊢
    clear hz1 hk1
    obtain ⟨h55, h56, hI, hfr1⟩ := hw
    have o57 : F54 a0 = .inr (0, [.ref z2, .ref z4, .ref z6, .ref z8, .ref z10, .int z12, .ref z13, .long z15, .ref z16, .int z18, .ref z19, .int z21, .int z22, .int z23]) := (hfr1 _ (by rw [ha0]; decide)).trans o26
    have hfr : ∀ b, K b ∉ [2, 5, 6, 24, 27, 28, 29, 30, 31, 32, 34, 35] → F54 b = F b := fun b hb9 => (hfr1 b (fun q => hb9 (s_sub (by decide) q))).trans (hfr b hb9)
    refine lv_aload_n hx hb dX0_firstAgain_15 rfl (lv_at hl 0 rfl) ?_
    refine th_get (D := (dC, dI)) (ci := 0) (v := .ref z6) (C := RX0) (T := TX0) (N := 14) hx hb hts inX0 hown hK hP (hLK _ ha0 (by decide)) o57 rfl 2 (by decide) (hts _ T_146) (fun _ h9 => h9) rfl dX0_firstAgain_16 ?_
    refine lv_aload_n hx hb dX0_firstAgain_19 rfl (lv_at hl 1 rfl) ?_
    obtain ⟨z58, z60, z62, z64, z66, z68, z70, z72, z74, z75, z76, z78, z79, z81, z82, o84, h59, h61, h63, h65, h67, h69, h71, h73, h77, h80, h83, -⟩ := s_op5 hI h7
    refine va_callv (va_runV (As := [.ref a1]) (rest := []) ⟨hx, hb, hml, hown, hts⟩ (s_X4_copyFrom l dC dI H.size hLK D F54 z6 a1 h7 ha1 hI) (cwV 1 hts (ax_gV T_558 T_560 T_561 T_142 T_559) rfl rfl rfl (by decide +kernel) ⟨Nat.le_of_ble_eq_true rfl, Nat.le_of_ble_eq_true rfl⟩) ⟨fun a U g mk q => ⟨q.1, s_pc (U := U) rfl rfl q.2⟩, s_recv hK hP (hLK _ h7 (by decide)) (ci := 4) rfl o84, fun U hU hW => ⟨rfl, s_pw hU hW hP hK hD hN⟩⟩ rfl rfl hl.1 rfl (lv_room (Nat.le_of_ble_eq_true rfl)) dX0_firstAgain_20 ⟨Nat.zero_le _, Nat.zero_le _⟩) hS (fun q _ h => h) (fun q h => h) (fun F85 t H1 locs ht hvm hw hB hz1 hk1 hS => ?_)
    obtain ⟨hP, hK1⟩ := hB
    rw [ht] at hP
    generalize H1 = H at hP hS ⊢
    clear hz1 hk1
    obtain ⟨h86, h87, hI, hfr1⟩ := hw
    have o88 : F85 a0 = .inr (0, [.ref z2, .ref z4, .ref z6, .ref z8, .ref z10, .int z12, .ref z13, .long z15, .ref z16, .int z18, .ref z19, .int z21, .int z22, .int z23]) := (hfr1 _ (by rw [ha0]; decide)).trans o57
    have hfr : ∀ b, K b ∉ [2, 5, 6, 24, 27, 28, 29, 30, 31, 32, 34, 35] → F85 b = F b := fun b hb9 => (hfr1 b (fun q => hb9 (s_sub (by decide) q))).trans (hfr b hb9)
    refine lv_iconst (v := 0) hx hb dX0_firstAgain_23 (by decide) ?_
    refine lv_istore_n (lv' := [(3, .int 0), (0, .ref a0), (1, .ref a1), (2, .int x2)]) hx hb dX0_firstAgain_24 rfl hl (by decide) rfl (fun ls hl => ?_)
    refine th_loop (fun n g H locs => ∃ (G : Nat → va_E) (ls : Array Slot) (Dn : Nat) (w89 : Int32), g = F0 m 25 ls [] ∧ lv_has ls 4 [(0, .ref a0), (2, .int x2), (3, .int w89)] ∧ Dn + 1 * n + 804 ≤ Dm ∧ s_I K cs Dn G ∧ va_P (dC, dI) vwCl (va_pl L G) H ∧ va_S (fun q => q ∈ L) s.heap H locs ∧ (∀ b, K b ∉ [2, 5, 6, 24, 27, 28, 29, 30, 31, 32, 34, 35] → G b = F b) ∧ (0 ≤ w89.toInt ∧ w89.toInt ≤ 400) ∧ (0 ≤ x2.toInt ∧ x2.toInt ≤ 400) ∧ n = (401 - w89.toInt).toNat) _ ⟨F85, _, D, 0, rfl, lv_sub hl [1, 3, 0] rfl, by have q7a : (0 : Int32).toInt = 0 := (by decide); omega, hI, hP, hS, hfr, (by decide), ⟨by omega, by omega⟩, rfl⟩ (fun n ih25 g H locs hq => ?_)
    obtain ⟨F9, ls, D92, w89, rfl, hl, h93, hI, hP, hS, hfr, h90, h91, hn⟩ := hq
    have hn_25 := hn
    obtain ⟨n_25, hn9_25⟩ : ∃ q, q = n := ⟨_, rfl⟩
    refine lv_iload_n hx hb dX0_firstAgain_25 rfl (lv_at hl 2 rfl) ?_
    refine lv_iload_n hx hb dX0_firstAgain_26 rfl (lv_at hl 1 rfl) ?_
    refine lv_icmp_ge (tgt := 48) hx hb dX0_firstAgain_27 (by decide) (fun c94 => ?_) (fun c94 => ?_)
    · have c94 := Int32.le_iff_toInt_le.mp c94
      refine lv_iload_n hx hb dX0_firstAgain_48 rfl (lv_at hl 1 rfl) ?_
      refine lv_istore_n (lv' := [(3, .int x2), (0, .ref a0), (2, .int x2)]) hx hb dX0_firstAgain_49 rfl hl (by decide) rfl (fun ls hl => ?_)
      refine th_loop (fun n g H locs => ∃ (G : Nat → va_E) (ls : Array Slot) (Dn : Nat) (w95 : Int32), g = F0 m 50 ls [] ∧ lv_has ls 4 [(0, .ref a0), (3, .int w95)] ∧ Dn + 2 * n + 0 ≤ Dm ∧ s_I K cs Dn G ∧ va_P (dC, dI) vwCl (va_pl L G) H ∧ va_S (fun q => q ∈ L) s.heap H locs ∧ (∀ b, K b ∉ [2, 5, 6, 24, 27, 28, 29, 30, 31, 32, 34, 35] → G b = F b) ∧ (0 ≤ w95.toInt ∧ w95.toInt ≤ 401) ∧ n = (402 - w95.toInt).toNat) _ ⟨F9, _, D92, x2, rfl, lv_sub hl [1, 0] rfl, by omega, hI, hP, hS, hfr, ⟨by omega, by omega⟩, rfl⟩ (fun n ih50 g H locs hq => ?_)
      obtain ⟨F9, ls, D97, w95, rfl, hl, h98, hI, hP, hS, hfr, h96, hn⟩ := hq
      have hn_50 := hn
      obtain ⟨n_50, hn9_50⟩ : ∃ q, q = n := ⟨_, rfl⟩
      refine lv_iload_n hx hb dX0_firstAgain_50 rfl (lv_at hl 1 rfl) ?_
      refine lv_sipush (v := 400) hx hb dX0_firstAgain_51 (by decide) ?_
      refine lv_icmp_gt (tgt := 103) hx hb dX0_firstAgain_54 (by decide) (fun c99 => ?_) (fun c99 => ?_)
      · have c99 := (ax_gt (n := 400) (by decide)).mp c99
        refine lv_iconst (v := (-1)) hx hb dX0_firstAgain_103 (by decide) ?_
        exact W.iret (v := (-1)) hx hb hr (fun t ht hW => ⟨⟨(-1), F9, rfl, ⟨(by decide), trivial, (s_mono (by omega) hI), hfr⟩, by rw [ht]; exact hP, va_K.moved hW.alike hK⟩, hS.F ht⟩) hS.2.2 dX0_firstAgain_104
      · have c99 := mt (ax_gt (n := 400) (by decide)).mpr c99
        refine lv_aload_n hx hb dX0_firstAgain_57 rfl (lv_at hl 0 rfl) ?_
        obtain ⟨z100, z102, z104, z106, z108, z110, z111, z113, z114, z116, z117, z119, z120, z121, o124, h101, h103, h105, h107, h109, h112, h115, h118, h122, h123, -⟩ := s_op1 hI ha0
        refine th_get (D := (dC, dI)) (ci := 0) (v := .ref z104) (C := RX0) (T := TX0) (N := 14) hx hb hts inX0 hown hK hP (hLK _ ha0 (by decide)) o124 rfl 2 (by decide) (hts _ T_146) (fun _ h9 => h9) rfl dX0_firstAgain_58 ?_
        refine lv_aload_n hx hb dX0_firstAgain_61 rfl (lv_at hl 0 rfl) ?_
        refine th_get (D := (dC, dI)) (ci := 0) (v := .ref z106) (C := RX0) (T := TX0) (N := 14) hx hb hts inX0 hown hK hP (hLK _ ha0 (by decide)) o124 rfl 3 (by decide) (hts _ T_147) (fun _ h9 => h9) rfl dX0_firstAgain_62 ?_
        obtain ⟨z125, z127, z129, z131, z133, z135, z137, z139, z141, z142, z143, z145, z146, z148, z149, o151, h126, h128, h130, h132, h134, h136, h138, h140, h144, h147, h150, -⟩ := s_op5 hI h105
        refine va_calli (va_runV (As := [.ref z106]) (rest := []) ⟨hx, hb, hml, hown, hts⟩ (s_X4_isLike l dC dI H.size hLK D97 F9 z104 z106 h105 h107 hI) (cwV 1 hts (ax_gV T_586 T_588 T_589 T_142 T_587) rfl rfl rfl (by decide +kernel) ⟨Nat.le_of_ble_eq_true rfl, Nat.le_of_ble_eq_true rfl⟩) ⟨fun a U g mk q => ⟨q.1, s_pc (U := U) rfl rfl q.2⟩, s_recv hK hP (hLK _ h105 (by decide)) (ci := 4) rfl o151, fun U hU hW => ⟨rfl, s_pw hU hW hP hK hD hN⟩⟩ rfl rfl hl.1 rfl (lv_room (Nat.le_of_ble_eq_true rfl)) dX0_firstAgain_65 ⟨Nat.zero_le _, Nat.zero_le _⟩) hS (fun q _ h => h) (fun q h => h) (fun r152 F153 t H1 locs ht hvm hw hB hz1 hk1 hS => ?_)
        obtain ⟨hP, hK1⟩ := hB
        rw [ht] at hP
        generalize H1 = H at hP hS ⊢
        clear hz1 hk1
        obtain ⟨h154, h155, hI, hfr1⟩ := hw
        have o156 : F153 a0 = .inr (0, [.ref z100, .ref z102, .ref z104, .ref z106, .ref z108, .int z110, .ref z111, .long z113, .ref z114, .int z116, .ref z117, .int z119, .int z120, .int z121]) := (hfr1 _ (by rw [ha0]; decide)).trans o124
        have o157 : F153 z104 = .inr (4, [.ref z125, .ref z127, .ref z129, .ref z131, .ref z133, .ref z135, .ref z137, .int z139, .int z141, .int z142, .int z143, .int z145, .int z146, .int z148, .int z149]) := (hfr1 _ (by rw [h105]; decide)).trans o151
        have hfr : ∀ b, K b ∉ [2, 5, 6, 24, 27, 28, 29, 30, 31, 32, 34, 35] → F153 b = F b := fun b hb9 => (hfr1 b (fun q => hb9 (s_sub (by decide) q))).trans (hfr b hb9)
        refine lv_if_eq (tgt := 73) hx hb dX0_firstAgain_68 (by decide) (fun c158 => ?_) (fun c158 => ?_)
        · have c158 := (ax_eq (n := 0) (by decide)).mp c158
          refine lv_aload_n hx hb dX0_firstAgain_73 rfl (lv_at hl 0 rfl) ?_
          refine th_get (D := (dC, dI)) (ci := 0) (v := .ref z100) (C := RX0) (T := TX0) (N := 14) hx hb hts inX0 hown hK hP (hLK _ ha0 (by decide)) o156 rfl 0 (by decide) (hts _ T_139) (fun _ h9 => h9) rfl dX0_firstAgain_74 ?_
          refine lv_aload_n hx hb dX0_firstAgain_77 rfl (lv_at hl 0 rfl) ?_
          refine th_get (D := (dC, dI)) (ci := 0) (v := .ref z104) (C := RX0) (T := TX0) (N := 14) hx hb hts inX0 hown hK hP (hLK _ ha0 (by decide)) o156 rfl 2 (by decide) (hts _ T_146) (fun _ h9 => h9) rfl dX0_firstAgain_78 ?_
          obtain ⟨z159, z161, z163, z165, z167, z169, z170, z172, z173, z174, z176, z177, o178, h160, h162, h164, h166, h168, h171, h175, -⟩ := s_op2 hI h101
          refine va_calli (va_runV (As := [.ref z104]) (rest := []) ⟨hx, hb, hml, hown, hts⟩ (s_X1_step l dC dI H.size hLK D97 (D97 + 1) (Nat.le_refl _) (by omega) F153 z100 z104 h101 h105 hI (s_PGt hI0 hfr (by decide) hPG)) (cwV 1 hts (ax_gV T_562 T_564 T_565 T_137 T_563) rfl rfl rfl (by decide +kernel) ⟨Nat.le_of_ble_eq_true rfl, Nat.le_of_ble_eq_true rfl⟩) ⟨fun a U g mk q => ⟨q.1, s_pc (U := U) rfl rfl q.2⟩, s_recv hK hP (hLK _ h101 (by decide)) (ci := 1) rfl o178, fun U hU hW => ⟨rfl, s_pw hU hW hP hK hD hN⟩⟩ rfl rfl hl.1 rfl (lv_room (Nat.le_of_ble_eq_true rfl)) dX0_firstAgain_81 ⟨Nat.zero_le _, Nat.zero_le _⟩) hS (fun q _ h => h) (fun q h => h) (fun r179 F180 t H1 locs ht hvm hw hB hz1 hk1 hS => ?_)
          obtain ⟨hP, hK1⟩ := hB
          rw [ht] at hP
          generalize H1 = H at hP hS ⊢
          clear hz1 hk1
          obtain ⟨h181, h182, hI, hfr1⟩ := hw
          have o183 : F180 a0 = .inr (0, [.ref z100, .ref z102, .ref z104, .ref z106, .ref z108, .int z110, .ref z111, .long z113, .ref z114, .int z116, .ref z117, .int z119, .int z120, .int z121]) := (hfr1 _ (by rw [ha0]; decide)).trans o156
          have hfr : ∀ b, K b ∉ [2, 5, 6, 24, 27, 28, 29, 30, 31, 32, 34, 35] → F180 b = F b := fun b hb9 => (hfr1 b (fun q => hb9 (s_sub (by decide) q))).trans (hfr b hb9)
          refine lv_pop hx hb dX0_firstAgain_84 rfl ?_
          refine lv_aload_n hx hb dX0_firstAgain_85 rfl (lv_at hl 0 rfl) ?_
          refine th_get (D := (dC, dI)) (ci := 0) (v := .ref z100) (C := RX0) (T := TX0) (N := 14) hx hb hts inX0 hown hK hP (hLK _ ha0 (by decide)) o183 rfl 0 (by decide) (hts _ T_139) (fun _ h9 => h9) rfl dX0_firstAgain_86 ?_
          refine lv_aload_n hx hb dX0_firstAgain_89 rfl (lv_at hl 0 rfl) ?_
          refine th_get (D := (dC, dI)) (ci := 0) (v := .ref z106) (C := RX0) (T := TX0) (N := 14) hx hb hts inX0 hown hK hP (hLK _ ha0 (by decide)) o183 rfl 3 (by decide) (hts _ T_147) (fun _ h9 => h9) rfl dX0_firstAgain_90 ?_
          obtain ⟨z184, z186, z188, z190, z192, z194, z195, z197, z198, z199, z201, z202, o203, h185, h187, h189, h191, h193, h196, h200, -⟩ := s_op2 hI h101
          refine va_calli (va_runV (As := [.ref z106]) (rest := []) ⟨hx, hb, hml, hown, hts⟩ (s_X1_step l dC dI H.size hLK (D97 + 1) ((D97 + 1) + 1) (Nat.le_refl _) (by omega) F180 z100 z106 h101 h107 hI (s_PGt hI0 hfr (by decide) hPG)) (cwV 1 hts (ax_gV T_562 T_564 T_565 T_137 T_563) rfl rfl rfl (by decide +kernel) ⟨Nat.le_of_ble_eq_true rfl, Nat.le_of_ble_eq_true rfl⟩) ⟨fun a U g mk q => ⟨q.1, s_pc (U := U) rfl rfl q.2⟩, s_recv hK hP (hLK _ h101 (by decide)) (ci := 1) rfl o203, fun U hU hW => ⟨rfl, s_pw hU hW hP hK hD hN⟩⟩ rfl rfl hl.1 rfl (lv_room (Nat.le_of_ble_eq_true rfl)) dX0_firstAgain_93 ⟨Nat.zero_le _, Nat.zero_le _⟩) hS (fun q _ h => h) (fun q h => h) (fun r204 F205 t H1 locs ht hvm hw hB hz1 hk1 hS => ?_)
          obtain ⟨hP, hK1⟩ := hB
          rw [ht] at hP
          generalize H1 = H at hP hS ⊢
          clear hz1 hk1
          obtain ⟨h206, h207, hI, hfr1⟩ := hw
          have o208 : F205 a0 = .inr (0, [.ref z100, .ref z102, .ref z104, .ref z106, .ref z108, .int z110, .ref z111, .long z113, .ref z114, .int z116, .ref z117, .int z119, .int z120, .int z121]) := (hfr1 _ (by rw [ha0]; decide)).trans o183
          have hfr : ∀ b, K b ∉ [2, 5, 6, 24, 27, 28, 29, 30, 31, 32, 34, 35] → F205 b = F b := fun b hb9 => (hfr1 b (fun q => hb9 (s_sub (by decide) q))).trans (hfr b hb9)
          refine lv_pop hx hb dX0_firstAgain_96 rfl ?_
          obtain ⟨v209, ev209⟩ : ∃ y : Int32, w95 + 1 = y := ⟨_, rfl⟩
          have qv209 : v209.toInt = w95.toInt + 1 := by rw [← ev209]; exact th_add rfl (by decide) ⟨by omega, by omega⟩
          refine lv_iinc (v := v209) (lv' := [(3, .int v209), (0, .ref a0)]) hx hb dX0_firstAgain_97 hl (k := 1) rfl ev209 (by decide) rfl (fun ls hl => ?_)
          refine lv_goto (tgt := 50) hx hb dX0_firstAgain_100 (by decide) ?_
          exact ih50 _ _ _ _ (by omega) ⟨F205, _, ((D97 + 1) + 1), v209, rfl, lv_sub hl [1, 0] rfl, by omega, hI, hP, hS, hfr, ⟨by omega, by omega⟩, rfl⟩
        · have c158 := mt (ax_eq (n := 0) (by decide)).mpr c158
          refine lv_iload_n hx hb dX0_firstAgain_71 rfl (lv_at hl 1 rfl) ?_
          exact W.iret (v := w95) hx hb hr (fun t ht hW => ⟨⟨w95, F153, rfl, ⟨⟨by omega, by omega⟩, trivial, (s_mono (by omega) hI), hfr⟩, by rw [ht]; exact hP, va_K.moved hW.alike hK⟩, hS.F ht⟩) hS.2.2 dX0_firstAgain_72
    · have c94 := mt Int32.le_iff_toInt_le.mpr c94
      refine lv_aload_n hx hb dX0_firstAgain_30 rfl (lv_at hl 0 rfl) ?_
      obtain ⟨z210, z212, z214, z216, z218, z220, z221, z223, z224, z226, z227, z229, z230, z231, o234, h211, h213, h215, h217, h219, h222, h225, h228, h232, h233, -⟩ := s_op1 hI ha0
      refine th_get (D := (dC, dI)) (ci := 0) (v := .ref z210) (C := RX0) (T := TX0) (N := 14) hx hb hts inX0 hown hK hP (hLK _ ha0 (by decide)) o234 rfl 0 (by decide) (hts _ T_139) (fun _ h9 => h9) rfl dX0_firstAgain_31 ?_
      refine lv_aload_n hx hb dX0_firstAgain_34 rfl (lv_at hl 0 rfl) ?_
      refine th_get (D := (dC, dI)) (ci := 0) (v := .ref z214) (C := RX0) (T := TX0) (N := 14) hx hb hts inX0 hown hK hP (hLK _ ha0 (by decide)) o234 rfl 2 (by decide) (hts _ T_146) (fun _ h9 => h9) rfl dX0_firstAgain_35 ?_
      obtain ⟨z235, z237, z239, z241, z243, z245, z246, z248, z249, z250, z252, z253, o254, h236, h238, h240, h242, h244, h247, h251, -⟩ := s_op2 hI h211
      refine va_calli (va_runV (As := [.ref z214]) (rest := []) ⟨hx, hb, hml, hown, hts⟩ (s_X1_step l dC dI H.size hLK D92 (D92 + 1) (Nat.le_refl _) (by omega) F9 z210 z214 h211 h215 hI (s_PGt hI0 hfr (by decide) hPG)) (cwV 1 hts (ax_gV T_562 T_564 T_565 T_137 T_563) rfl rfl rfl (by decide +kernel) ⟨Nat.le_of_ble_eq_true rfl, Nat.le_of_ble_eq_true rfl⟩) ⟨fun a U g mk q => ⟨q.1, s_pc (U := U) rfl rfl q.2⟩, s_recv hK hP (hLK _ h211 (by decide)) (ci := 1) rfl o254, fun U hU hW => ⟨rfl, s_pw hU hW hP hK hD hN⟩⟩ rfl rfl hl.1 rfl (lv_room (Nat.le_of_ble_eq_true rfl)) dX0_firstAgain_38 ⟨Nat.zero_le _, Nat.zero_le _⟩) hS (fun q _ h => h) (fun q h => h) (fun r255 F256 t H1 locs ht hvm hw hB hz1 hk1 hS => ?_)
      obtain ⟨hP, hK1⟩ := hB
      rw [ht] at hP
      generalize H1 = H at hP hS ⊢
      clear hz1 hk1
      obtain ⟨h257, h258, hI, hfr1⟩ := hw
      have o259 : F256 a0 = .inr (0, [.ref z210, .ref z212, .ref z214, .ref z216, .ref z218, .int z220, .ref z221, .long z223, .ref z224, .int z226, .ref z227, .int z229, .int z230, .int z231]) := (hfr1 _ (by rw [ha0]; decide)).trans o234
      have hfr : ∀ b, K b ∉ [2, 5, 6, 24, 27, 28, 29, 30, 31, 32, 34, 35] → F256 b = F b := fun b hb9 => (hfr1 b (fun q => hb9 (s_sub (by decide) q))).trans (hfr b hb9)
      refine lv_pop hx hb dX0_firstAgain_41 rfl ?_
      obtain ⟨v260, ev260⟩ : ∃ y : Int32, w89 + 1 = y := ⟨_, rfl⟩
      have qv260 : v260.toInt = w89.toInt + 1 := by rw [← ev260]; exact th_add rfl (by decide) ⟨by omega, by omega⟩
      refine lv_iinc (v := v260) (lv' := [(3, .int v260), (0, .ref a0), (2, .int x2)]) hx hb dX0_firstAgain_42 hl (k := 2) rfl ev260 (by decide) rfl (fun ls hl => ?_)
      refine lv_goto (tgt := 25) hx hb dX0_firstAgain_45 (by decide) ?_
      exact ih25 _ _ _ _ (by omega) ⟨F256, _, (D92 + 1), v260, rfl, lv_sub hl [1, 2, 0] rfl, by omega, hI, hP, hS, hfr, ⟨by omega, by omega⟩, ⟨by omega, by omega⟩, rfl⟩
  · have c1 := (ax_eq (n := (-1)) (by decide)).mp c1
    refine lv_iconst (v := (-1)) hx hb dX0_firstAgain_5 (by decide) ?_
    exact W.iret (v := (-1)) hx hb hr (fun t ht hW => ⟨⟨(-1), F, rfl, ⟨(by decide), trivial, (s_mono (by omega) hI), hfr⟩, by rw [ht]; exact hP, va_K.moved hW.alike hK⟩, hS.F ht⟩) hS.2.2 dX0_firstAgain_6

set_option maxHeartbeats 4000000 in
set_option maxRecDepth 100000 in
theorem s_X0_course (l : Launch) (dC : Nat → ClassId) (dI : Nat → Nat → Nat) (sz : Nat) {L : List Nat} {K : Nat → Nat} {cs : Nat → ClassId} (hLK : ∀ a {k : Nat}, K a = k → k ≠ 0 → a ∈ L) (D : Nat) (Dm : Nat) (hDm : D + 2007 ≤ Dm) (hDM : Dm < 2147483647) (F : Nat → va_E) (a0 : Nat) (a1 : Nat) (x2 : Int32) (x3 : Int32) (ha0 : K a0 = 1) (ha1 : K a1 = 5) (hx2 : 0 ≤ x2.toInt ∧ x2.toInt ≤ 16) (hx3 : 0 ≤ x3.toInt ∧ x3.toInt ≤ 2) (hI : s_I K cs D F) (hPG : s_PG K cs F) : Met l yX0_course (Cond.code yX0_course cX0_course 7 (some .int) :: T0) ({ frames := 6, cells := 0, slots := 0, locals := 137 }) (va_Pc [.ref a0, .ref a1, .int x2, .int x3] (s_W dC dI sz L F [(cs 0, .int), (cs 1, .byte), (cs 2, .long), (cs 3, .object RX5), (cs 4, .object RX4), (cs 5, .array .int), (cs 6, .char), (cs 7, .boolean)])) (va_Qi (fun (r : Int32) (G : Nat → va_E) => True ∧ True ∧ s_I K cs Dm G ∧ ∀ b, K b ∉ [1, 2, 5, 6, 24, 27, 28, 29, 30, 31, 32, 34, 35, 36] → G b = F b) (fun (G : Nat → va_E) (t : State) => va_P (dC, dI) vwCl (va_pl L G) t.heap ∧ va_K (dC, dI) vwCl [(cs 0, .int), (cs 1, .byte), (cs 2, .long), (cs 3, .object RX5), (cs 4, .object RX4), (cs 5, .array .int), (cs 6, .char), (cs 7, .boolean)] t) (fun q => q ∈ L)) 0 0 (fun q => q ∈ L) := by
  refine Met.ofW (cc := cX0_course) (maxL := 7) (ret := (some .int)) (by decide) rfl ?_
  intro p e s m args below meth c s₁ B hml hv
  obtain ⟨rfl, hsz, hP, hK, hD, hN⟩ := hv
  have hx := B.exec
  have hb := B.bytes
  have hr := B.returns
  have hts : ∀ w ∈ T0, w.before _ s = true := fun w h => atoms_spec (ws := Cond.code yX0_course cX0_course 7 (some .int) :: T0) B.pre w (List.mem_cons_of_mem _ h)
  have hown : s.vm.findClass RX0 = some m.cls := findClass_of_methodNamed B.named
  have hlocks := B.notSynchronized
  have hS : va_S (fun q => q ∈ L) s.heap s.heap [] := va_S.rf
  have hfr : ∀ b, K b ∉ [1, 2, 5, 6, 24, 27, 28, 29, 30, 31, 32, 34, 35, 36] → F b = F b := fun _ _ => rfl
  have hl := lv_entry ([.ref a0, .ref a1, .int x2, .int x3]) (n := 7) (Nat.le_of_ble_eq_true rfl)
  rw [lg_entry_eq]
  generalize (lg_sl ([.ref a0, .ref a1, .int x2, .int x3]) ++ List.replicate (7 - (lg_sl ([.ref a0, .ref a1, .int x2, .int x3])).length) Slot.unset).toArray = ls at hl ⊢
  have hl : lv_has ls 7 [(0, .ref a0), (1, .ref a1), (2, .int x2), (3, .int x3)] := hl
  have hI0 := hI
  refine s_gen hP hS (fun H locs hP hS => ?_)
  refine th_join (fun g H locs => ∃ (G : Nat → va_E) (ls : Array Slot) (Dn : Nat) (w1 : Int32), g = F0 m 131 ls [] ∧ lv_has ls 7 [(0, .ref a0), (3, .int x3), (4, .int w1)] ∧ Dn + 0 ≤ Dm ∧ s_I K cs Dn G ∧ va_P (dC, dI) vwCl (va_pl L G) H ∧ va_S (fun q => q ∈ L) s.heap H locs ∧ (∀ b, K b ∉ [1, 2, 5, 6, 24, 27, 28, 29, 30, 31, 32, 34, 35, 36] → G b = F b) ∧ (0 ≤ w1.toInt ∧ w1.toInt ≤ 48) ∧ (0 ≤ x3.toInt ∧ x3.toInt ≤ 2)) (fun K131 => ?_) ?_
  refine th_join (fun g H locs => ∃ (G : Nat → va_E) (ls : Array Slot) (Dn : Nat) (w2 : Int32) (w3 : Int32) (w4 : Int32) (w5 : Nat), g = F0 m 118 ls [.int w3, .int w4, .ref w5] ∧ lv_has ls 7 [(0, .ref a0), (2, .int x2), (3, .int x3), (4, .int w2)] ∧ Dn + 0 ≤ Dm ∧ s_I K cs Dn G ∧ va_P (dC, dI) vwCl (va_pl L G) H ∧ va_S (fun q => q ∈ L) s.heap H locs ∧ (∀ b, K b ∉ [1, 2, 5, 6, 24, 27, 28, 29, 30, 31, 32, 34, 35, 36] → G b = F b) ∧ (0 ≤ w2.toInt ∧ w2.toInt ≤ 48) ∧ (-1 ≤ w3.toInt ∧ w3.toInt ≤ 400) ∧ (2 ≤ w4.toInt ∧ w4.toInt ≤ 50) ∧ K w5 = 36 ∧ (0 ≤ x2.toInt ∧ x2.toInt ≤ 16) ∧ (0 ≤ x3.toInt ∧ x3.toInt ≤ 2)) (fun K118 => ?_) ?_
  refine th_join (fun g H locs => ∃ (G : Nat → va_E) (ls : Array Slot) (Dn : Nat) (w6 : Int32) (w7 : Int32) (w8 : Int32), g = F0 m 87 ls [] ∧ lv_has ls 7 [(0, .ref a0), (2, .int x2), (3, .int x3), (4, .int w6), (5, .int w7), (6, .int w8)] ∧ Dn + 0 ≤ Dm ∧ s_I K cs Dn G ∧ va_P (dC, dI) vwCl (va_pl L G) H ∧ va_S (fun q => q ∈ L) s.heap H locs ∧ (∀ b, K b ∉ [1, 2, 5, 6, 24, 27, 28, 29, 30, 31, 32, 34, 35, 36] → G b = F b) ∧ (0 ≤ w6.toInt ∧ w6.toInt ≤ 48) ∧ (-1 ≤ w7.toInt ∧ w7.toInt ≤ 400) ∧ (-1 ≤ w8.toInt ∧ w8.toInt ≤ 400) ∧ (0 ≤ x2.toInt ∧ x2.toInt ≤ 16) ∧ (0 ≤ x3.toInt ∧ x3.toInt ≤ 2)) (fun K87 => ?_) ?_
  refine th_join (fun g H locs => ∃ (G : Nat → va_E) (ls : Array Slot) (Dn : Nat) (w9 : Int32) (w10 : Int32) (w11 : Int32) (w12 : Int32) (w13 : Int32) (w14 : Nat), g = F0 m 86 ls [.int w12, .int w13, .ref w14] ∧ lv_has ls 7 [(0, .ref a0), (2, .int x2), (3, .int x3), (4, .int w9), (5, .int w10), (6, .int w11)] ∧ Dn + 0 ≤ Dm ∧ s_I K cs Dn G ∧ va_P (dC, dI) vwCl (va_pl L G) H ∧ va_S (fun q => q ∈ L) s.heap H locs ∧ (∀ b, K b ∉ [1, 2, 5, 6, 24, 27, 28, 29, 30, 31, 32, 34, 35, 36] → G b = F b) ∧ (0 ≤ w9.toInt ∧ w9.toInt ≤ 48) ∧ (-1 ≤ w10.toInt ∧ w10.toInt ≤ 400) ∧ (-1 ≤ w11.toInt ∧ w11.toInt ≤ 400) ∧ (2 ≤ w12.toInt ∧ w12.toInt ≤ 3) ∧ (0 ≤ w13.toInt ∧ w13.toInt ≤ 48) ∧ K w14 = 36 ∧ (0 ≤ x2.toInt ∧ x2.toInt ≤ 16) ∧ (0 ≤ x3.toInt ∧ x3.toInt ≤ 2)) (fun K86 => ?_) ?_
  refine th_join (fun g H locs => ∃ (G : Nat → va_E) (ls : Array Slot) (Dn : Nat) (w15 : Int32) (w16 : Int32) (w17 : Int32) (w18 : Int32) (w19 : Int32) (w20 : Nat), g = F0 m 47 ls [.int w18, .int w19, .ref w20] ∧ lv_has ls 7 [(0, .ref a0), (1, .ref a1), (2, .int x2), (3, .int x3), (4, .int w15), (5, .int w16), (6, .int w17)] ∧ Dn + 1606 ≤ Dm ∧ s_I K cs Dn G ∧ va_P (dC, dI) vwCl (va_pl L G) H ∧ va_S (fun q => q ∈ L) s.heap H locs ∧ (∀ b, K b ∉ [1, 2, 5, 6, 24, 27, 28, 29, 30, 31, 32, 34, 35, 36] → G b = F b) ∧ (0 ≤ w15.toInt ∧ w15.toInt ≤ 48) ∧ (-1 ≤ w16.toInt ∧ w16.toInt ≤ 400) ∧ (-1 ≤ w17.toInt ∧ w17.toInt ≤ -1) ∧ (0 ≤ w18.toInt ∧ w18.toInt ≤ 1) ∧ (0 ≤ w19.toInt ∧ w19.toInt ≤ 48) ∧ K w20 = 36 ∧ (0 ≤ x2.toInt ∧ x2.toInt ≤ 16) ∧ (0 ≤ x3.toInt ∧ x3.toInt ≤ 2)) (fun K47 => ?_) ?_
  · refine lv_iload_n hx hb dX0_course_0 rfl (lv_at hl 2 rfl) ?_
    refine lv_iconst (v := 3) hx hb dX0_course_1 (by decide) ?_
    refine lv_imul hx hb dX0_course_2 ?_
    refine lv_topi (fun v21 ev21 => ?_)
    have qv21 : v21.toInt = x2.toInt * 3 := by rw [ev21]; exact th_mul rfl (by decide) ⟨by omega, by omega⟩
    refine lv_istore (lv' := [(4, .int v21), (0, .ref a0), (1, .ref a1), (2, .int x2), (3, .int x3)]) hx hb dX0_course_3 hl (by decide) rfl (fun ls hl => ?_)
    refine lv_aload_n hx hb dX0_course_5 rfl (lv_at hl 1 rfl) ?_
    obtain ⟨z22, z24, z26, z28, z30, z32, z33, z35, z36, z38, z39, z41, z42, z43, o46, h23, h25, h27, h29, h31, h34, h37, h40, h44, h45, -⟩ := s_op1 hI ha0
    refine th_get (D := (dC, dI)) (ci := 0) (v := .int z32) (C := RX0) (T := TX0) (N := 14) hx hb hts inX0 hown hK hP (hLK _ ha0 (by decide)) o46 rfl 5 (by decide) (hts _ T_155) (fun _ h9 => h9) rfl dX0_course_6 ?_
    refine lv_iload_n hx hb dX0_course_9 rfl (lv_at hl 3 rfl) ?_
    refine lv_ishr hx hb dX0_course_10 ?_
    refine lv_topi (fun v47 ev47 => ?_)
    refine lv_iconst (v := 1) hx hb dX0_course_11 (by decide) ?_
    refine lv_iand hx hb dX0_course_12 ?_
    refine lv_topi (fun v48 ev48 => ?_)
    have qv48 : 0 ≤ v48.toInt ∧ v48.toInt ≤ 1 := by rw [ev48]; exact th_and 1 (by decide) (by decide)
    refine lv_if_ne (tgt := 131) hx hb dX0_course_13 (by decide) (fun c49 => ?_) (fun c49 => ?_)
    · have c49 := mt (ax_eq (n := 0) (by decide)).mpr c49
      exact K131 _ _ _ ⟨F, _, D, v21, rfl, lv_sub hl [1, 4, 0] rfl, by omega, hI, hP, hS, hfr, ⟨by omega, by omega⟩, ⟨by omega, by omega⟩⟩
    · have c49 := (ax_eq (n := 0) (by decide)).mp c49
      refine lv_aload_n hx hb dX0_course_16 rfl (lv_at hl 1 rfl) ?_
      refine lv_aload_n hx hb dX0_course_17 rfl (lv_at hl 2 rfl) ?_
      refine va_calli (va_runV (As := [.ref a1]) (rest := []) ⟨hx, hb, hml, hown, hts⟩ (s_X0_cyclesToRest l dC dI H.size hLK D (D + 401) (Nat.le_refl _) (by omega) F a0 a1 ha0 ha1 hI (s_PGt hI0 hfr (by decide) hPG)) (cwV 1 hts (ax_gV T_566 T_568 T_569 T_180 T_567) rfl rfl rfl (by decide +kernel) ⟨Nat.le_of_ble_eq_true rfl, Nat.le_of_ble_eq_true rfl⟩) ⟨fun a U g mk q => ⟨q.1, s_pc (U := U) rfl rfl q.2⟩, s_recv hK hP (hLK _ ha0 (by decide)) (ci := 0) rfl o46, fun U hU hW => ⟨rfl, s_pw hU hW hP hK hD hN⟩⟩ rfl rfl hl.1 rfl (lv_room (Nat.le_of_ble_eq_true rfl)) dX0_course_18 ⟨Nat.zero_le _, Nat.zero_le _⟩) hS (fun q _ h => h) (fun q h => h) (fun r50 F51 t H1 locs ht hvm hw hB hz1 hk1 hS => ?_)
      obtain ⟨hP, hK1⟩ := hB
      rw [ht] at hP
      generalize H1 = H at hP hS ⊢
      clear hz1 hk1
      obtain ⟨h52, h53, hI, hfr1⟩ := hw
      have o54 : F51 a0 = .inr (0, [.ref z22, .ref z24, .ref z26, .ref z28, .ref z30, .int z32, .ref z33, .long z35, .ref z36, .int z38, .ref z39, .int z41, .int z42, .int z43]) := (hfr1 _ (by rw [ha0]; decide)).trans o46
      have hfr : ∀ b, K b ∉ [1, 2, 5, 6, 24, 27, 28, 29, 30, 31, 32, 34, 35, 36] → F51 b = F b := fun b hb9 => (hfr1 b (fun q => hb9 (s_sub (by decide) q))).trans (hfr b hb9)
      refine lv_istore (lv' := [(5, .int r50), (4, .int v21), (0, .ref a0), (1, .ref a1), (2, .int x2), (3, .int x3)]) hx hb dX0_course_21 hl (by decide) rfl (fun ls hl => ?_)
      refine lv_iconst (v := (-1)) hx hb dX0_course_23 (by decide) ?_
      refine lv_istore (lv' := [(6, .int (-1)), (5, .int r50), (4, .int v21), (0, .ref a0), (1, .ref a1), (2, .int x2), (3, .int x3)]) hx hb dX0_course_24 hl (by decide) rfl (fun ls hl => ?_)
      refine lv_aload_n hx hb dX0_course_26 rfl (lv_at hl 3 rfl) ?_
      refine th_get (D := (dC, dI)) (ci := 0) (v := .ref z30) (C := RX0) (T := TX0) (N := 14) hx hb hts inX0 hown hK hP (hLK _ ha0 (by decide)) o54 rfl 4 (by decide) (hts _ T_148) (fun _ h9 => h9) rfl dX0_course_27 ?_
      refine lv_iload hx hb dX0_course_30 (lv_at hl 2 rfl) ?_
      refine lv_aload_n hx hb dX0_course_32 rfl (lv_at hl 3 rfl) ?_
      refine th_get (D := (dC, dI)) (ci := 0) (v := .ref z26) (C := RX0) (T := TX0) (N := 14) hx hb hts inX0 hown hK hP (hLK _ ha0 (by decide)) o54 rfl 2 (by decide) (hts _ T_146) (fun _ h9 => h9) rfl dX0_course_33 ?_
      obtain ⟨z55, z57, z59, z61, z63, z65, z67, z69, z71, z72, z73, z75, z76, z78, z79, o81, h56, h58, h60, h62, h64, h66, h68, h70, h74, h77, h80, -⟩ := s_op5 hI h27
      refine va_calli (va_runV (As := []) (rest := [.int v21, .ref z30]) ⟨hx, hb, hml, hown, hts⟩ (s_X4_hasEnded l dC dI H.size hLK (D + 401) F51 z26 h27 hI) (cwV 0 hts (ax_gV T_570 T_572 T_573 T_142 T_571) rfl rfl rfl (by decide +kernel) ⟨Nat.le_of_ble_eq_true rfl, Nat.le_of_ble_eq_true rfl⟩) ⟨fun a U g mk q => ⟨q.1, s_pc (U := U) rfl rfl q.2⟩, s_recv hK hP (hLK _ h27 (by decide)) (ci := 4) rfl o81, fun U hU hW => ⟨rfl, s_pw hU hW hP hK hD hN⟩⟩ rfl rfl hl.1 rfl (lv_room (Nat.le_of_ble_eq_true rfl)) dX0_course_36 ⟨Nat.zero_le _, Nat.zero_le _⟩) hS (fun q _ h => h) (fun q h => h) (fun r82 F83 t H1 locs ht hvm hw hB hz1 hk1 hS => ?_)
      obtain ⟨hP, hK1⟩ := hB
      rw [ht] at hP
      generalize H1 = H at hP hS ⊢
      clear hz1 hk1
      obtain ⟨h84, h85, hI, hfr1⟩ := hw
      have o86 : F83 a0 = .inr (0, [.ref z22, .ref z24, .ref z26, .ref z28, .ref z30, .int z32, .ref z33, .long z35, .ref z36, .int z38, .ref z39, .int z41, .int z42, .int z43]) := (hfr1 _ (by rw [ha0]; decide)).trans o54
      have o87 : F83 z26 = .inr (4, [.ref z55, .ref z57, .ref z59, .ref z61, .ref z63, .ref z65, .ref z67, .int z69, .int z71, .int z72, .int z73, .int z75, .int z76, .int z78, .int z79]) := (hfr1 _ (by rw [h27]; decide)).trans o81
      have hfr : ∀ b, K b ∉ [1, 2, 5, 6, 24, 27, 28, 29, 30, 31, 32, 34, 35, 36] → F83 b = F b := fun b hb9 => (hfr1 b (fun q => hb9 (s_sub (by decide) q))).trans (hfr b hb9)
      refine lv_if_eq (tgt := 46) hx hb dX0_course_39 (by decide) (fun c88 => ?_) (fun c88 => ?_)
      · have c88 := (ax_eq (n := 0) (by decide)).mp c88
        refine lv_iconst (v := 1) hx hb dX0_course_46 (by decide) ?_
        exact K47 _ _ _ ⟨F83, _, (D + 401), v21, r50, (-1), 1, v21, z30, rfl, lv_sub hl [3, 4, 5, 6, 2, 1, 0] rfl, by omega, hI, hP, hS, hfr, ⟨by omega, by omega⟩, ⟨by omega, by omega⟩, (by decide), (by decide), ⟨by omega, by omega⟩, h31, ⟨by omega, by omega⟩, ⟨by omega, by omega⟩⟩
      · have c88 := mt (ax_eq (n := 0) (by decide)).mpr c88
        refine lv_iconst (v := 0) hx hb dX0_course_42 (by decide) ?_
        refine lv_goto (tgt := 47) hx hb dX0_course_43 (by decide) ?_
        exact K47 _ _ _ ⟨F83, _, (D + 401), v21, r50, (-1), 0, v21, z30, rfl, lv_sub hl [3, 4, 5, 6, 2, 1, 0] rfl, by omega, hI, hP, hS, hfr, ⟨by omega, by omega⟩, ⟨by omega, by omega⟩, (by decide), (by decide), ⟨by omega, by omega⟩, h31, ⟨by omega, by omega⟩, ⟨by omega, by omega⟩⟩
  · intro g H locs hq
    obtain ⟨F9, ls, D97, w15, w16, w17, w18, w19, w20, rfl, hl, h98, hI, hP, hS, hfr, h89, h90, h91, h92, h93, h94, h95, h96⟩ := hq
    obtain ⟨f99, o100, h101⟩ := s_op36 hI h94
    refine th_iast hx hb hK hP hD hS (hLK _ h94 (by decide)) 0 o100 rfl (th_in ⟨by omega, by omega⟩) dX0_course_47 (fun H locs hP hS => ?_)
    have hP : va_P (dC, dI) vwCl (va_pl L (va_up F9 w20 (.inl (cs 0, 51, .inl (upd f99 (w19 : Int32).toNatClampNeg w18))))) H := hP
    obtain ⟨F102, hF103⟩ : ∃ G : Nat → va_E, G = va_up F9 w20 (.inl (cs 0, 51, .inl (upd f99 (w19 : Int32).toNatClampNeg w18))) := ⟨_, rfl⟩
    rw [← hF103] at hP
    have hI : s_I K cs D97 F102 := by rw [hF103]; exact s_cl36 hI h94 ⟨_, rfl, trivial⟩
    have hfr : ∀ b, K b ∉ [1, 2, 5, 6, 24, 27, 28, 29, 30, 31, 32, 34, 35, 36] → F102 b = F b := by rw [hF103]; exact s_fr hfr h94 (by decide)
    refine lv_iload hx hb dX0_course_48 (lv_at hl 5 rfl) ?_
    refine lv_iconst (v := (-1)) hx hb dX0_course_50 (by decide) ?_
    refine lv_icmp_ne (tgt := 87) hx hb dX0_course_51 (by decide) (fun c104 => ?_) (fun c104 => ?_)
    · have c104 := mt (ax_eq (n := (-1)) (by decide)).mpr c104
      exact K87 _ _ _ ⟨F102, _, D97, w15, w16, w17, rfl, lv_sub hl [0, 2, 3, 4, 5, 6] rfl, by omega, hI, hP, hS, hfr, ⟨by omega, by omega⟩, ⟨by omega, by omega⟩, ⟨by omega, by omega⟩, ⟨by omega, by omega⟩, ⟨by omega, by omega⟩⟩
    · have c104 := (ax_eq (n := (-1)) (by decide)).mp c104
      refine lv_aload_n hx hb dX0_course_54 rfl (lv_at hl 0 rfl) ?_
      obtain ⟨z105, z107, z109, z111, z113, z115, z116, z118, z119, z121, z122, z124, z125, z126, o129, h106, h108, h110, h112, h114, h117, h120, h123, h127, h128, -⟩ := s_op1 hI ha0
      refine va_calli (va_runV (As := []) (rest := []) ⟨hx, hb, hml, hown, hts⟩ (s_X0_roundFromHere l dC dI H.size hLK D97 (D97 + 401) (Nat.le_refl _) (by omega) F102 a0 ha0 hI (s_PGt hI0 hfr (by decide) hPG)) (cwV 0 hts (ax_gV T_574 T_576 T_577 T_180 T_575) rfl rfl rfl (by decide +kernel) ⟨Nat.le_of_ble_eq_true rfl, Nat.le_of_ble_eq_true rfl⟩) ⟨fun a U g mk q => ⟨q.1, s_pc (U := U) rfl rfl q.2⟩, s_recv hK hP (hLK _ ha0 (by decide)) (ci := 0) rfl o129, fun U hU hW => ⟨rfl, s_pw hU hW hP hK hD hN⟩⟩ rfl rfl hl.1 rfl (lv_room (Nat.le_of_ble_eq_true rfl)) dX0_course_55 ⟨Nat.zero_le _, Nat.zero_le _⟩) hS (fun q _ h => h) (fun q h => h) (fun r130 F131 t H1 locs ht hvm hw hB hz1 hk1 hS => ?_)
      obtain ⟨hP, hK1⟩ := hB
      rw [ht] at hP
      generalize H1 = H at hP hS ⊢
      clear hz1 hk1
      obtain ⟨h132, h133, hI, hfr1⟩ := hw
      have o134 : F131 a0 = .inr (0, [.ref z105, .ref z107, .ref z109, .ref z111, .ref z113, .int z115, .ref z116, .long z118, .ref z119, .int z121, .ref z122, .int z124, .int z125, .int z126]) := (hfr1 _ (by rw [ha0]; decide)).trans o129
      have hfr : ∀ b, K b ∉ [1, 2, 5, 6, 24, 27, 28, 29, 30, 31, 32, 34, 35, 36] → F131 b = F b := fun b hb9 => (hfr1 b (fun q => hb9 (s_sub (by decide) q))).trans (hfr b hb9)
      refine lv_istore (lv' := [(6, .int r130), (0, .ref a0), (1, .ref a1), (2, .int x2), (3, .int x3), (4, .int w15), (5, .int w16)]) hx hb dX0_course_58 hl (by decide) rfl (fun ls hl => ?_)
      refine lv_aload_n hx hb dX0_course_60 rfl (lv_at hl 1 rfl) ?_
      refine lv_aload_n hx hb dX0_course_61 rfl (lv_at hl 2 rfl) ?_
      refine lv_iload hx hb dX0_course_62 (lv_at hl 0 rfl) ?_
      refine va_calli (va_runV (As := [.ref a1, .int r130]) (rest := []) ⟨hx, hb, hml, hown, hts⟩ (s_X0_firstAgain l dC dI H.size hLK (D97 + 401) ((D97 + 401) + 1205) (Nat.le_refl _) (by omega) F131 a0 a1 r130 ha0 ha1 (⟨by omega, by omega⟩) hI (s_PGt hI0 hfr (by decide) hPG)) (cwV 2 hts (ax_gV T_578 T_580 T_581 T_180 T_579) rfl rfl rfl (by decide +kernel) ⟨Nat.le_of_ble_eq_true rfl, Nat.le_of_ble_eq_true rfl⟩) ⟨fun a U g mk q => ⟨q.1, s_pc (U := U) rfl rfl q.2⟩, s_recv hK hP (hLK _ ha0 (by decide)) (ci := 0) rfl o134, fun U hU hW => ⟨rfl, s_pw hU hW hP hK hD hN⟩⟩ rfl rfl hl.1 rfl (lv_room (Nat.le_of_ble_eq_true rfl)) dX0_course_64 ⟨Nat.zero_le _, Nat.zero_le _⟩) hS (fun q _ h => h) (fun q h => h) (fun r135 F136 t H1 locs ht hvm hw hB hz1 hk1 hS => ?_)
      obtain ⟨hP, hK1⟩ := hB
      rw [ht] at hP
      generalize H1 = H at hP hS ⊢
      clear hz1 hk1
      obtain ⟨h137, h138, hI, hfr1⟩ := hw
      have o139 : F136 a0 = .inr (0, [.ref z105, .ref z107, .ref z109, .ref z111, .ref z113, .int z115, .ref z116, .long z118, .ref z119, .int z121, .ref z122, .int z124, .int z125, .int z126]) := (hfr1 _ (by rw [ha0]; decide)).trans o134
      have hfr : ∀ b, K b ∉ [1, 2, 5, 6, 24, 27, 28, 29, 30, 31, 32, 34, 35, 36] → F136 b = F b := fun b hb9 => (hfr1 b (fun q => hb9 (s_sub (by decide) q))).trans (hfr b hb9)
      refine lv_istore (lv' := [(5, .int r135), (6, .int r130), (0, .ref a0), (1, .ref a1), (2, .int x2), (3, .int x3), (4, .int w15)]) hx hb dX0_course_67 hl (by decide) rfl (fun ls hl => ?_)
      refine lv_aload_n hx hb dX0_course_69 rfl (lv_at hl 2 rfl) ?_
      refine th_get (D := (dC, dI)) (ci := 0) (v := .ref z113) (C := RX0) (T := TX0) (N := 14) hx hb hts inX0 hown hK hP (hLK _ ha0 (by decide)) o139 rfl 4 (by decide) (hts _ T_148) (fun _ h9 => h9) rfl dX0_course_70 ?_
      refine lv_iload hx hb dX0_course_73 (lv_at hl 6 rfl) ?_
      refine lv_iload hx hb dX0_course_75 (lv_at hl 0 rfl) ?_
      refine lv_iconst (v := (-1)) hx hb dX0_course_77 (by decide) ?_
      refine lv_icmp_ne (tgt := 85) hx hb dX0_course_78 (by decide) (fun c140 => ?_) (fun c140 => ?_)
      · have c140 := mt (ax_eq (n := (-1)) (by decide)).mpr c140
        refine lv_iconst (v := 2) hx hb dX0_course_85 (by decide) ?_
        exact K86 _ _ _ ⟨F136, _, ((D97 + 401) + 1205), w15, r135, r130, 2, w15, z113, rfl, lv_sub hl [2, 4, 5, 6, 0, 1] rfl, by omega, hI, hP, hS, hfr, ⟨by omega, by omega⟩, ⟨by omega, by omega⟩, ⟨by omega, by omega⟩, (by decide), ⟨by omega, by omega⟩, h114, ⟨by omega, by omega⟩, ⟨by omega, by omega⟩⟩
      · have c140 := (ax_eq (n := (-1)) (by decide)).mp c140
        refine lv_iconst (v := 3) hx hb dX0_course_81 (by decide) ?_
        refine lv_goto (tgt := 86) hx hb dX0_course_82 (by decide) ?_
        exact K86 _ _ _ ⟨F136, _, ((D97 + 401) + 1205), w15, r135, r130, 3, w15, z113, rfl, lv_sub hl [2, 4, 5, 6, 0, 1] rfl, by omega, hI, hP, hS, hfr, ⟨by omega, by omega⟩, ⟨by omega, by omega⟩, ⟨by omega, by omega⟩, (by decide), ⟨by omega, by omega⟩, h114, ⟨by omega, by omega⟩, ⟨by omega, by omega⟩⟩
  · intro g H locs hq
    obtain ⟨F9, ls, D149, w9, w10, w11, w12, w13, w14, rfl, hl, h150, hI, hP, hS, hfr, h141, h142, h143, h144, h145, h146, h147, h148⟩ := hq
    obtain ⟨f151, o152, h153⟩ := s_op36 hI h146
    refine th_iast hx hb hK hP hD hS (hLK _ h146 (by decide)) 0 o152 rfl (th_in ⟨by omega, by omega⟩) dX0_course_86 (fun H locs hP hS => ?_)
    have hP : va_P (dC, dI) vwCl (va_pl L (va_up F9 w14 (.inl (cs 0, 51, .inl (upd f151 (w13 : Int32).toNatClampNeg w12))))) H := hP
    obtain ⟨F154, hF155⟩ : ∃ G : Nat → va_E, G = va_up F9 w14 (.inl (cs 0, 51, .inl (upd f151 (w13 : Int32).toNatClampNeg w12))) := ⟨_, rfl⟩
    rw [← hF155] at hP
    have hI : s_I K cs D149 F154 := by rw [hF155]; exact s_cl36 hI h146 ⟨_, rfl, trivial⟩
    have hfr : ∀ b, K b ∉ [1, 2, 5, 6, 24, 27, 28, 29, 30, 31, 32, 34, 35, 36] → F154 b = F b := by rw [hF155]; exact s_fr hfr h146 (by decide)
    exact K87 _ _ _ ⟨F154, _, D149, w9, w10, w11, rfl, lv_sub hl [0, 1, 2, 3, 4, 5] rfl, by omega, hI, hP, hS, hfr, ⟨by omega, by omega⟩, ⟨by omega, by omega⟩, ⟨by omega, by omega⟩, ⟨by omega, by omega⟩, ⟨by omega, by omega⟩⟩
  · intro g H locs hq
    obtain ⟨F9, ls, D161, w6, w7, w8, rfl, hl, h162, hI, hP, hS, hfr, h156, h157, h158, h159, h160⟩ := hq
    refine lv_aload_n hx hb dX0_course_87 rfl (lv_at hl 0 rfl) ?_
    obtain ⟨z163, z165, z167, z169, z171, z173, z174, z176, z177, z179, z180, z182, z183, z184, o187, h164, h166, h168, h170, h172, h175, h178, h181, h185, h186, -⟩ := s_op1 hI ha0
    refine th_get (D := (dC, dI)) (ci := 0) (v := .ref z171) (C := RX0) (T := TX0) (N := 14) hx hb hts inX0 hown hK hP (hLK _ ha0 (by decide)) o187 rfl 4 (by decide) (hts _ T_148) (fun _ h9 => h9) rfl dX0_course_88 ?_
    refine lv_iload hx hb dX0_course_91 (lv_at hl 3 rfl) ?_
    refine lv_iconst (v := 1) hx hb dX0_course_93 (by decide) ?_
    refine lv_iadd hx hb dX0_course_94 ?_
    refine lv_topi (fun v188 ev188 => ?_)
    have qv188 : v188.toInt = w6.toInt + 1 := by rw [ev188]; exact th_add rfl (by decide) ⟨by omega, by omega⟩
    refine lv_iload hx hb dX0_course_95 (lv_at hl 4 rfl) ?_
    obtain ⟨f189, o190, h191⟩ := s_op36 hI h172
    refine th_iast hx hb hK hP hD hS (hLK _ h172 (by decide)) 0 o190 rfl (th_in ⟨by omega, by omega⟩) dX0_course_97 (fun H locs hP hS => ?_)
    have hP : va_P (dC, dI) vwCl (va_pl L (va_up F9 z171 (.inl (cs 0, 51, .inl (upd f189 (v188 : Int32).toNatClampNeg w7))))) H := hP
    obtain ⟨F192, hF193⟩ : ∃ G : Nat → va_E, G = va_up F9 z171 (.inl (cs 0, 51, .inl (upd f189 (v188 : Int32).toNatClampNeg w7))) := ⟨_, rfl⟩
    rw [← hF193] at hP
    have hI : s_I K cs D161 F192 := by rw [hF193]; exact s_cl36 hI h172 ⟨_, rfl, trivial⟩
    have hfr : ∀ b, K b ∉ [1, 2, 5, 6, 24, 27, 28, 29, 30, 31, 32, 34, 35, 36] → F192 b = F b := by rw [hF193]; exact s_fr hfr h172 (by decide)
    have o194 : F192 a0 = .inr (0, [.ref z163, .ref z165, .ref z167, .ref z169, .ref z171, .int z173, .ref z174, .long z176, .ref z177, .int z179, .ref z180, .int z182, .int z183, .int z184]) := by rw [hF193]; exact th_ne (th_kd ha0 h172 (by decide)) o187
    refine lv_aload_n hx hb dX0_course_98 rfl (lv_at hl 0 rfl) ?_
    refine th_get (D := (dC, dI)) (ci := 0) (v := .ref z171) (C := RX0) (T := TX0) (N := 14) hx hb hts inX0 hown hK hP (hLK _ ha0 (by decide)) o194 rfl 4 (by decide) (hts _ T_148) (fun _ h9 => h9) rfl dX0_course_99 ?_
    refine lv_iload hx hb dX0_course_102 (lv_at hl 3 rfl) ?_
    refine lv_iconst (v := 2) hx hb dX0_course_104 (by decide) ?_
    refine lv_iadd hx hb dX0_course_105 ?_
    refine lv_topi (fun v195 ev195 => ?_)
    have qv195 : v195.toInt = w6.toInt + 2 := by rw [ev195]; exact th_add rfl (by decide) ⟨by omega, by omega⟩
    refine lv_iload hx hb dX0_course_106 (lv_at hl 4 rfl) ?_
    refine lv_iconst (v := (-1)) hx hb dX0_course_108 (by decide) ?_
    refine lv_icmp_ne (tgt := 116) hx hb dX0_course_109 (by decide) (fun c196 => ?_) (fun c196 => ?_)
    · have c196 := mt (ax_eq (n := (-1)) (by decide)).mpr c196
      refine lv_iload hx hb dX0_course_116 (lv_at hl 5 rfl) ?_
      exact K118 _ _ _ ⟨F192, _, D161, w6, w8, v195, z171, rfl, lv_sub hl [0, 1, 2, 3] rfl, by omega, hI, hP, hS, hfr, ⟨by omega, by omega⟩, ⟨by omega, by omega⟩, ⟨by omega, by omega⟩, h172, ⟨by omega, by omega⟩, ⟨by omega, by omega⟩⟩
    · have c196 := (ax_eq (n := (-1)) (by decide)).mp c196
      refine lv_iconst (v := (-1)) hx hb dX0_course_112 (by decide) ?_
      refine lv_goto (tgt := 118) hx hb dX0_course_113 (by decide) ?_
      exact K118 _ _ _ ⟨F192, _, D161, w6, (-1), v195, z171, rfl, lv_sub hl [0, 1, 2, 3] rfl, by omega, hI, hP, hS, hfr, ⟨by omega, by omega⟩, (by decide), ⟨by omega, by omega⟩, h172, ⟨by omega, by omega⟩, ⟨by omega, by omega⟩⟩
  · intro g H locs hq
    obtain ⟨F9, ls, D203, w2, w3, w4, w5, rfl, hl, h204, hI, hP, hS, hfr, h197, h198, h199, h200, h201, h202⟩ := hq
    obtain ⟨f205, o206, h207⟩ := s_op36 hI h200
    refine th_iast hx hb hK hP hD hS (hLK _ h200 (by decide)) 0 o206 rfl (th_in ⟨by omega, by omega⟩) dX0_course_118 (fun H locs hP hS => ?_)
    have hP : va_P (dC, dI) vwCl (va_pl L (va_up F9 w5 (.inl (cs 0, 51, .inl (upd f205 (w4 : Int32).toNatClampNeg w3))))) H := hP
    obtain ⟨F208, hF209⟩ : ∃ G : Nat → va_E, G = va_up F9 w5 (.inl (cs 0, 51, .inl (upd f205 (w4 : Int32).toNatClampNeg w3))) := ⟨_, rfl⟩
    rw [← hF209] at hP
    have hI : s_I K cs D203 F208 := by rw [hF209]; exact s_cl36 hI h200 ⟨_, rfl, trivial⟩
    have hfr : ∀ b, K b ∉ [1, 2, 5, 6, 24, 27, 28, 29, 30, 31, 32, 34, 35, 36] → F208 b = F b := by rw [hF209]; exact s_fr hfr h200 (by decide)
    refine lv_aload_n hx hb dX0_course_119 rfl (lv_at hl 0 rfl) ?_
    refine lv_dup hx hb dX0_course_120 rfl ?_
    obtain ⟨z210, z212, z214, z216, z218, z220, z221, z223, z224, z226, z227, z229, z230, z231, o234, h211, h213, h215, h217, h219, h222, h225, h228, h232, h233, -⟩ := s_op1 hI ha0
    refine th_get (D := (dC, dI)) (ci := 0) (v := .int z220) (C := RX0) (T := TX0) (N := 14) hx hb hts inX0 hown hK hP (hLK _ ha0 (by decide)) o234 rfl 5 (by decide) (hts _ T_155) (fun _ h9 => h9) rfl dX0_course_121 ?_
    refine lv_iconst (v := 1) hx hb dX0_course_124 (by decide) ?_
    refine lv_iload_n hx hb dX0_course_125 rfl (lv_at hl 1 rfl) ?_
    refine lv_ishl hx hb dX0_course_126 ?_
    refine lv_topi (fun v235 ev235 => ?_)
    refine lv_ior hx hb dX0_course_127 ?_
    refine lv_topi (fun v236 ev236 => ?_)
    refine th_put (D := (dC, dI)) (ci := 0) (v := .int v236) (ty := .int) (C := RX0) (T := TX0) (N := 14) hx hb hts inX0 tyX0 tyX0_ok nmX0 hown hK hP hD hS (hLK _ ha0 (by decide)) o234 rfl 5 (by decide) (hts _ T_155) (fun _ h9 => h9) rfl (by decide +kernel) rfl rfl (Nat.le_of_ble_eq_true rfl) dX0_course_128 (fun H locs hP hS => ?_)
    have hP : va_P (dC, dI) vwCl (va_pl L (va_up F208 a0 (.inr (0, [.ref z210, .ref z212, .ref z214, .ref z216, .ref z218, .int v236, .ref z221, .long z223, .ref z224, .int z226, .ref z227, .int z229, .int z230, .int z231])))) H := hP
    obtain ⟨F237, hF238⟩ : ∃ G : Nat → va_E, G = va_up F208 a0 (.inr (0, [.ref z210, .ref z212, .ref z214, .ref z216, .ref z218, .int v236, .ref z221, .long z223, .ref z224, .int z226, .ref z227, .int z229, .int z230, .int z231])) := ⟨_, rfl⟩
    rw [← hF238] at hP
    have hI : s_I K cs D203 F237 := by rw [hF238]; exact s_cl1 hI ha0 ⟨z210, z212, z214, z216, z218, v236, z221, z223, z224, z226, z227, z229, z230, z231, rfl, h211, h213, h215, h217, h219, h222, h225, h228, ⟨by omega, by omega⟩, h233, trivial⟩
    have hfr : ∀ b, K b ∉ [1, 2, 5, 6, 24, 27, 28, 29, 30, 31, 32, 34, 35, 36] → F237 b = F b := by rw [hF238]; exact s_fr hfr ha0 (by decide)
    have o239 : F237 a0 = .inr (0, [.ref z210, .ref z212, .ref z214, .ref z216, .ref z218, .int v236, .ref z221, .long z223, .ref z224, .int z226, .ref z227, .int z229, .int z230, .int z231]) := by rw [hF238]; exact th_up
    exact K131 _ _ _ ⟨F237, _, D203, w2, rfl, lv_sub hl [0, 2, 3] rfl, by omega, hI, hP, hS, hfr, ⟨by omega, by omega⟩, ⟨by omega, by omega⟩⟩
  · intro g H locs hq
    obtain ⟨F9, ls, D242, w1, rfl, hl, h243, hI, hP, hS, hfr, h240, h241⟩ := hq
    refine lv_aload_n hx hb dX0_course_131 rfl (lv_at hl 0 rfl) ?_
    obtain ⟨z244, z246, z248, z250, z252, z254, z255, z257, z258, z260, z261, z263, z264, z265, o268, h245, h247, h249, h251, h253, h256, h259, h262, h266, h267, -⟩ := s_op1 hI ha0
    refine th_get (D := (dC, dI)) (ci := 0) (v := .ref z252) (C := RX0) (T := TX0) (N := 14) hx hb hts inX0 hown hK hP (hLK _ ha0 (by decide)) o268 rfl 4 (by decide) (hts _ T_148) (fun _ h9 => h9) rfl dX0_course_132 ?_
    refine lv_iload hx hb dX0_course_135 (lv_at hl 2 rfl) ?_
    refine lv_iload_n hx hb dX0_course_137 rfl (lv_at hl 1 rfl) ?_
    refine lv_iadd hx hb dX0_course_138 ?_
    refine lv_topi (fun v269 ev269 => ?_)
    have qv269 : v269.toInt = w1.toInt + x3.toInt := by rw [ev269]; exact th_add rfl rfl ⟨by omega, by omega⟩
    obtain ⟨f270, o271, h272⟩ := s_op36 hI h253
    refine th_iald hx hb hK hP (hLK _ h253 (by decide)) 0 o271 rfl (th_in ⟨by omega, by omega⟩) dX0_course_139 ?_
    refine lv_topi (fun v273 ev273 => ?_)
    exact W.iret (v := v273) hx hb hr (fun t ht hW => ⟨⟨v273, F9, rfl, ⟨trivial, trivial, (s_mono (by omega) hI), hfr⟩, by rw [ht]; exact hP, va_K.moved hW.alike hK⟩, hS.F ht⟩) hS.2.2 dX0_course_140

set_option maxHeartbeats 4000000 in
set_option maxRecDepth 100000 in
theorem s_X0_tryWord (l : Launch) (dC : Nat → ClassId) (dI : Nat → Nat → Nat) (sz : Nat) {L : List Nat} {K : Nat → Nat} {cs : Nat → ClassId} (hLK : ∀ a {k : Nat}, K a = k → k ≠ 0 → a ∈ L) (D : Nat) (Dm : Nat) (hDm : D + 6817 ≤ Dm) (hDM : Dm < 2147483647) (F : Nat → va_E) (a0 : Nat) (x1 : Int32) (ha0 : K a0 = 1) (hx1 : 0 ≤ x1.toInt ∧ x1.toInt ≤ 63) (hI : s_I K cs D F) (hPG : s_PG K cs F) : Met l yX0_tryWord (Cond.code yX0_tryWord cX0_tryWord 6 none :: T0) ({ frames := 6, cells := 0, slots := 0, locals := 136 }) (va_Pc [.ref a0, .int x1] (s_W dC dI sz L F [(cs 0, .int), (cs 1, .byte), (cs 2, .long), (cs 3, .object RX5), (cs 4, .object RX4), (cs 5, .array .int), (cs 6, .char), (cs 7, .boolean)])) (va_Qv (fun (G : Nat → va_E) => True ∧ True ∧ s_I K cs Dm G ∧ ∀ b, K b ∉ [1, 2, 5, 6, 24, 27, 28, 29, 30, 31, 32, 34, 35, 37] → G b = F b) (fun (G : Nat → va_E) (t : State) => va_P (dC, dI) vwCl (va_pl L G) t.heap ∧ va_K (dC, dI) vwCl [(cs 0, .int), (cs 1, .byte), (cs 2, .long), (cs 3, .object RX5), (cs 4, .object RX4), (cs 5, .array .int), (cs 6, .char), (cs 7, .boolean)] t) (fun q => q ∈ L)) 0 0 (fun q => q ∈ L) := by
  refine Met.ofW (cc := cX0_tryWord) (maxL := 6) (ret := none) (by decide) rfl ?_
  intro p e s m args below meth c s₁ B hml hv
  obtain ⟨rfl, hsz, hP, hK, hD, hN⟩ := hv
  have hx := B.exec
  have hb := B.bytes
  have hr := B.returns
  have hts : ∀ w ∈ T0, w.before _ s = true := fun w h => atoms_spec (ws := Cond.code yX0_tryWord cX0_tryWord 6 none :: T0) B.pre w (List.mem_cons_of_mem _ h)
  have hown : s.vm.findClass RX0 = some m.cls := findClass_of_methodNamed B.named
  have hlocks := B.notSynchronized
  have hS : va_S (fun q => q ∈ L) s.heap s.heap [] := va_S.rf
  have hfr : ∀ b, K b ∉ [1, 2, 5, 6, 24, 27, 28, 29, 30, 31, 32, 34, 35, 37] → F b = F b := fun _ _ => rfl
  have hl := lv_entry ([.ref a0, .int x1]) (n := 6) (Nat.le_of_ble_eq_true rfl)
  rw [lg_entry_eq]
  generalize (lg_sl ([.ref a0, .int x1]) ++ List.replicate (6 - (lg_sl ([.ref a0, .int x1])).length) Slot.unset).toArray = ls at hl ⊢
  have hl : lv_has ls 6 [(0, .ref a0), (1, .int x1)] := hl
  have hI0 := hI
  refine s_gen hP hS (fun H locs hP hS => ?_)
  refine lv_aload_n hx hb dX0_tryWord_0 rfl (lv_at hl 0 rfl) ?_
  obtain ⟨z1, z3, z5, z7, z9, z11, z12, z14, z15, z17, z18, z20, z21, z22, o25, h2, h4, h6, h8, h10, h13, h16, h19, h23, h24, -⟩ := s_op1 hI ha0
  refine th_get (D := (dC, dI)) (ci := 0) (v := .long z14) (C := RX0) (T := TX0) (N := 14) hx hb hts inX0 hown hK hP (hLK _ ha0 (by decide)) o25 rfl 7 (by decide) (hts _ T_156) (fun _ h9 => h9) rfl dX0_tryWord_1 ?_
  refine lv_iload_n hx hb dX0_tryWord_4 rfl (lv_at hl 1 rfl) ?_
  refine lv_lshr hx hb dX0_tryWord_5 rfl ?_
  refine lv_topl (fun v26 _ => ?_)
  refine lv_lconst (v := 1) hx hb dX0_tryWord_6 (by decide) ?_
  refine lv_land hx hb dX0_tryWord_7 ?_
  refine lv_topl (fun v27 ev27 => ?_)
  refine lv_lconst (v := 0) hx hb dX0_tryWord_8 (by decide) ?_
  refine W.lcmp hx hb dX0_tryWord_9 ?_
  refine lv_topi (fun v28 _ => ?_)
  refine lv_if_eq (tgt := 14) hx hb dX0_tryWord_10 (by decide) (fun c29 => ?_) (fun c29 => ?_)
  · have c29 := (ax_eq (n := 0) (by decide)).mp c29
    refine lv_iconst (v := 1) hx hb dX0_tryWord_14 (by decide) ?_
    refine lv_istore_n (lv' := [(2, .int 1), (0, .ref a0), (1, .int x1)]) hx hb dX0_tryWord_15 rfl hl (by decide) rfl (fun ls hl => ?_)
    refine lv_iconst (v := 0) hx hb dX0_tryWord_16 (by decide) ?_
    refine lv_istore_n (lv' := [(3, .int 0), (2, .int 1), (0, .ref a0), (1, .int x1)]) hx hb dX0_tryWord_17 rfl hl (by decide) rfl (fun ls hl => ?_)
    refine th_loop (fun n g H locs => ∃ (G : Nat → va_E) (ls : Array Slot) (Dn : Nat) (w30 : Int32) (w31 : Int32), g = F0 m 18 ls [] ∧ lv_has ls 6 [(0, .ref a0), (1, .int x1), (2, .int w30), (3, .int w31)] ∧ Dn + 401 * n + 0 ≤ Dm ∧ s_I K cs Dn G ∧ va_P (dC, dI) vwCl (va_pl L G) H ∧ va_S (fun q => q ∈ L) s.heap H locs ∧ (∀ b, K b ∉ [1, 2, 5, 6, 24, 27, 28, 29, 30, 31, 32, 34, 35, 37] → G b = F b) ∧ (0 ≤ w30.toInt ∧ w30.toInt ≤ 1) ∧ (0 ≤ w31.toInt ∧ w31.toInt ≤ 16) ∧ (0 ≤ x1.toInt ∧ x1.toInt ≤ 63) ∧ (w30.toInt = 1 ∨ 1 ≤ w31.toInt) ∧ n = (17 - w31.toInt).toNat) _ ⟨F, _, D, 1, 0, rfl, lv_sub hl [2, 3, 1, 0] rfl, by have q7a : (0 : Int32).toInt = 0 := (by decide); have q7b : (1 : Int32).toInt = 1 := (by decide); omega, hI, hP, hS, hfr, (by decide), (by decide), ⟨by omega, by omega⟩, (by first | exact Or.inl (by decide) | exact Or.inr (by omega)), rfl⟩ (fun n ih18 g H locs hq => ?_)
    obtain ⟨F9, ls, D36, w30, w31, rfl, hl, h37, hI, hP, hS, hfr, h32, h33, h34, h35, hn⟩ := hq
    have hn_18 := hn
    obtain ⟨n_18, hn9_18⟩ : ∃ q, q = n := ⟨_, rfl⟩
    refine th_join (fun g H locs => ∃ (G : Nat → va_E) (ls : Array Slot) (Dn : Nat) (w38 : Int32), g = F0 m 140 ls [] ∧ lv_has ls 6 [(0, .ref a0), (1, .int x1), (2, .int w38), (3, .int w31)] ∧ Dn + 0 + 401 * (n_18 - 1) + 0 ≤ Dm ∧ s_I K cs Dn G ∧ va_P (dC, dI) vwCl (va_pl L G) H ∧ va_S (fun q => q ∈ L) s.heap H locs ∧ (∀ b, K b ∉ [1, 2, 5, 6, 24, 27, 28, 29, 30, 31, 32, 34, 35, 37] → G b = F b) ∧ (0 ≤ w38.toInt ∧ w38.toInt ≤ 1) ∧ (0 ≤ x1.toInt ∧ x1.toInt ≤ 63) ∧ (0 ≤ w31.toInt ∧ w31.toInt ≤ 15)) (fun K140 => ?_) ?_
    refine th_join (fun g H locs => ∃ (G : Nat → va_E) (ls : Array Slot) (Dn : Nat) (w39 : Int32), g = F0 m 120 ls [.int w39] ∧ lv_has ls 6 [(0, .ref a0), (1, .int x1), (3, .int w31)] ∧ Dn + 0 + 401 * (n_18 - 1) + 0 ≤ Dm ∧ s_I K cs Dn G ∧ va_P (dC, dI) vwCl (va_pl L G) H ∧ va_S (fun q => q ∈ L) s.heap H locs ∧ (∀ b, K b ∉ [1, 2, 5, 6, 24, 27, 28, 29, 30, 31, 32, 34, 35, 37] → G b = F b) ∧ (0 ≤ w39.toInt ∧ w39.toInt ≤ 1) ∧ (0 ≤ x1.toInt ∧ x1.toInt ≤ 63) ∧ (0 ≤ w31.toInt ∧ w31.toInt ≤ 15)) (fun K120 => ?_) ?_
    refine th_join (fun g H locs => ∃ (G : Nat → va_E) (ls : Array Slot) (Dn : Nat) (w40 : Int32) (w41 : Int32) (w42 : Nat), g = F0 m 98 ls [.int w40, .int w41, .ref w42] ∧ lv_has ls 6 [(0, .ref a0), (1, .int x1), (3, .int w31)] ∧ Dn + 0 + 401 * (n_18 - 1) + 0 ≤ Dm ∧ s_I K cs Dn G ∧ va_P (dC, dI) vwCl (va_pl L G) H ∧ va_S (fun q => q ∈ L) s.heap H locs ∧ (∀ b, K b ∉ [1, 2, 5, 6, 24, 27, 28, 29, 30, 31, 32, 34, 35, 37] → G b = F b) ∧ (-1 ≤ w40.toInt ∧ w40.toInt ≤ 400) ∧ (0 ≤ w41.toInt ∧ w41.toInt ≤ 1023) ∧ K w42 = 37 ∧ (0 ≤ x1.toInt ∧ x1.toInt ≤ 63) ∧ (0 ≤ w31.toInt ∧ w31.toInt ≤ 15)) (fun K98 => ?_) ?_
    · refine lv_iload_n hx hb dX0_tryWord_18 rfl (lv_at hl 3 rfl) ?_
      refine lv_bipush (v := 16) hx hb dX0_tryWord_19 (by decide) ?_
      refine lv_icmp_ge (tgt := 146) hx hb dX0_tryWord_21 (by decide) (fun c43 => ?_) (fun c43 => ?_)
      · have c43 := (ax_ge (n := 16) (by decide)).mp c43
        refine lv_aload_n hx hb dX0_tryWord_146 rfl (lv_at hl 0 rfl) ?_
        refine lv_dup hx hb dX0_tryWord_147 rfl ?_
        obtain ⟨z44, z46, z48, z50, z52, z54, z55, z57, z58, z60, z61, z63, z64, z65, o68, h45, h47, h49, h51, h53, h56, h59, h62, h66, h67, -⟩ := s_op1 hI ha0
        refine th_get (D := (dC, dI)) (ci := 0) (v := .long z57) (C := RX0) (T := TX0) (N := 14) hx hb hts inX0 hown hK hP (hLK _ ha0 (by decide)) o68 rfl 7 (by decide) (hts _ T_156) (fun _ h9 => h9) rfl dX0_tryWord_148 ?_
        refine lv_lconst (v := 1) hx hb dX0_tryWord_151 (by decide) ?_
        refine lv_iload_n hx hb dX0_tryWord_152 rfl (lv_at hl 1 rfl) ?_
        refine lv_lshl hx hb dX0_tryWord_153 rfl ?_
        refine lv_topl (fun v69 _ => ?_)
        refine lv_lor hx hb dX0_tryWord_154 ?_
        refine lv_topl (fun v70 ev70 => ?_)
        refine th_put (D := (dC, dI)) (ci := 0) (v := .long v70) (ty := .long) (C := RX0) (T := TX0) (N := 14) hx hb hts inX0 tyX0 tyX0_ok nmX0 hown hK hP hD hS (hLK _ ha0 (by decide)) o68 rfl 7 (by decide) (hts _ T_156) (fun _ h9 => h9) rfl (by decide +kernel) rfl rfl (Nat.le_of_ble_eq_true rfl) dX0_tryWord_155 (fun H locs hP hS => ?_)
        have hP : va_P (dC, dI) vwCl (va_pl L (va_up F9 a0 (.inr (0, [.ref z44, .ref z46, .ref z48, .ref z50, .ref z52, .int z54, .ref z55, .long v70, .ref z58, .int z60, .ref z61, .int z63, .int z64, .int z65])))) H := hP
        obtain ⟨F71, hF72⟩ : ∃ G : Nat → va_E, G = va_up F9 a0 (.inr (0, [.ref z44, .ref z46, .ref z48, .ref z50, .ref z52, .int z54, .ref z55, .long v70, .ref z58, .int z60, .ref z61, .int z63, .int z64, .int z65])) := ⟨_, rfl⟩
        rw [← hF72] at hP
        have hI : s_I K cs D36 F71 := by rw [hF72]; exact s_cl1 hI ha0 ⟨z44, z46, z48, z50, z52, z54, z55, v70, z58, z60, z61, z63, z64, z65, rfl, h45, h47, h49, h51, h53, h56, h59, h62, ⟨by omega, by omega⟩, h67, trivial⟩
        have hfr : ∀ b, K b ∉ [1, 2, 5, 6, 24, 27, 28, 29, 30, 31, 32, 34, 35, 37] → F71 b = F b := by rw [hF72]; exact s_fr hfr ha0 (by decide)
        have o73 : F71 a0 = .inr (0, [.ref z44, .ref z46, .ref z48, .ref z50, .ref z52, .int z54, .ref z55, .long v70, .ref z58, .int z60, .ref z61, .int z63, .int z64, .int z65]) := by rw [hF72]; exact th_up
        exact W.vret hx hb hr (fun t ht hW => ⟨⟨F71, rfl, ⟨trivial, trivial, (s_mono (by omega) hI), hfr⟩, by rw [ht]; exact hP, va_K.moved hW.alike hK⟩, hS.F ht⟩) hS.2.2 dX0_tryWord_158
      · have c43 := mt (ax_ge (n := 16) (by decide)).mpr c43
        refine lv_iload_n hx hb dX0_tryWord_24 rfl (lv_at hl 1 rfl) ?_
        refine lv_bipush (v := 16) hx hb dX0_tryWord_25 (by decide) ?_
        refine lv_imul hx hb dX0_tryWord_27 ?_
        refine lv_topi (fun v74 ev74 => ?_)
        have qv74 : v74.toInt = x1.toInt * 16 := by rw [ev74]; exact th_mul rfl (by decide) ⟨by omega, by omega⟩
        refine lv_iload_n hx hb dX0_tryWord_28 rfl (lv_at hl 3 rfl) ?_
        refine lv_iadd hx hb dX0_tryWord_29 ?_
        refine lv_topi (fun v75 ev75 => ?_)
        have qv75 : v75.toInt = v74.toInt + w31.toInt := by rw [ev75]; exact th_add rfl rfl ⟨by omega, by omega⟩
        refine lv_istore (lv' := [(4, .int v75), (0, .ref a0), (1, .int x1), (2, .int w30), (3, .int w31)]) hx hb dX0_tryWord_30 hl (by decide) rfl (fun ls hl => ?_)
        refine lv_iload_n hx hb dX0_tryWord_32 rfl (lv_at hl 3 rfl) ?_
        refine lv_if_eq (tgt := 124) hx hb dX0_tryWord_33 (by decide) (fun c76 => ?_) (fun c76 => ?_)
        · have c76 := (ax_eq (n := 0) (by decide)).mp c76
          refine lv_aload_n hx hb dX0_tryWord_124 rfl (lv_at hl 1 rfl) ?_
          obtain ⟨z77, z79, z81, z83, z85, z87, z88, z90, z91, z93, z94, z96, z97, z98, o101, h78, h80, h82, h84, h86, h89, h92, h95, h99, h100, -⟩ := s_op1 hI ha0
          refine th_get (D := (dC, dI)) (ci := 0) (v := .ref z88) (C := RX0) (T := TX0) (N := 14) hx hb hts inX0 hown hK hP (hLK _ ha0 (by decide)) o101 rfl 6 (by decide) (hts _ T_149) (fun _ h9 => h9) rfl dX0_tryWord_125 ?_
          refine lv_iload hx hb dX0_tryWord_128 (lv_at hl 0 rfl) ?_
          refine lv_aload_n hx hb dX0_tryWord_130 rfl (lv_at hl 1 rfl) ?_
          refine th_get (D := (dC, dI)) (ci := 0) (v := .ref z88) (C := RX0) (T := TX0) (N := 14) hx hb hts inX0 hown hK hP (hLK _ ha0 (by decide)) o101 rfl 6 (by decide) (hts _ T_149) (fun _ h9 => h9) rfl dX0_tryWord_131 ?_
          refine lv_iload hx hb dX0_tryWord_134 (lv_at hl 0 rfl) ?_
          refine lv_iconst (v := 1) hx hb dX0_tryWord_136 (by decide) ?_
          refine lv_isub hx hb dX0_tryWord_137 ?_
          refine lv_topi (fun v102 ev102 => ?_)
          have qv102 : v102.toInt = v75.toInt - 1 := by rw [ev102]; exact th_sub rfl (by decide) ⟨by omega, by omega⟩
          obtain ⟨f103, o104, h105⟩ := s_op37 hI h89
          refine th_iald hx hb hK hP (hLK _ h89 (by decide)) 0 o104 rfl (th_in ⟨by omega, by omega⟩) dX0_tryWord_138 ?_
          refine lv_topi (fun v106 ev106 => ?_)
          obtain ⟨f107, o108, h109⟩ := s_op37 hI h89
          refine th_iast hx hb hK hP hD hS (hLK _ h89 (by decide)) 0 o108 rfl (th_in ⟨by omega, by omega⟩) dX0_tryWord_139 (fun H locs hP hS => ?_)
          have hP : va_P (dC, dI) vwCl (va_pl L (va_up F9 z88 (.inl (cs 0, 1024, .inl (upd f107 (v75 : Int32).toNatClampNeg v106))))) H := hP
          obtain ⟨F110, hF111⟩ : ∃ G : Nat → va_E, G = va_up F9 z88 (.inl (cs 0, 1024, .inl (upd f107 (v75 : Int32).toNatClampNeg v106))) := ⟨_, rfl⟩
          rw [← hF111] at hP
          have hI : s_I K cs D36 F110 := by rw [hF111]; exact s_cl37 hI h89 ⟨_, rfl, trivial⟩
          have hfr : ∀ b, K b ∉ [1, 2, 5, 6, 24, 27, 28, 29, 30, 31, 32, 34, 35, 37] → F110 b = F b := by rw [hF111]; exact s_fr hfr h89 (by decide)
          have o112 : F110 a0 = .inr (0, [.ref z77, .ref z79, .ref z81, .ref z83, .ref z85, .int z87, .ref z88, .long z90, .ref z91, .int z93, .ref z94, .int z96, .int z97, .int z98]) := by rw [hF111]; exact th_ne (th_kd ha0 h89 (by decide)) o101
          exact K140 _ _ _ ⟨F110, _, D36, w30, rfl, lv_sub hl [1, 2, 3, 4] rfl, by omega, hI, hP, hS, hfr, ⟨by omega, by omega⟩, ⟨by omega, by omega⟩, ⟨by omega, by omega⟩⟩
        · have c76 := mt (ax_eq (n := 0) (by decide)).mpr c76
          refine lv_aload_n hx hb dX0_tryWord_36 rfl (lv_at hl 1 rfl) ?_
          refine lv_aload_n hx hb dX0_tryWord_37 rfl (lv_at hl 1 rfl) ?_
          obtain ⟨z113, z115, z117, z119, z121, z123, z124, z126, z127, z129, z130, z132, z133, z134, o137, h114, h116, h118, h120, h122, h125, h128, h131, h135, h136, -⟩ := s_op1 hI ha0
          refine th_get (D := (dC, dI)) (ci := 0) (v := .int z132) (C := RX0) (T := TX0) (N := 14) hx hb hts inX0 hown hK hP (hLK _ ha0 (by decide)) o137 rfl 11 (by decide) (hts _ T_591) (fun _ h9 => h9) rfl dX0_tryWord_38 ?_
          refine lv_aload_n hx hb dX0_tryWord_41 rfl (lv_at hl 1 rfl) ?_
          refine th_get (D := (dC, dI)) (ci := 0) (v := .int z133) (C := RX0) (T := TX0) (N := 14) hx hb hts inX0 hown hK hP (hLK _ ha0 (by decide)) o137 rfl 12 (by decide) (hts _ T_592) (fun _ h9 => h9) rfl dX0_tryWord_42 ?_
          refine lv_aload_n hx hb dX0_tryWord_45 rfl (lv_at hl 1 rfl) ?_
          refine th_get (D := (dC, dI)) (ci := 0) (v := .int z134) (C := RX0) (T := TX0) (N := 14) hx hb hts inX0 hown hK hP (hLK _ ha0 (by decide)) o137 rfl 13 (by decide) (hts _ T_593) (fun _ h9 => h9) rfl dX0_tryWord_46 ?_
          refine va_callr (va_runV (As := [.int z132, .int z133, .int z134]) (rest := []) ⟨hx, hb, hml, hown, hts⟩ (s_X0_begun l dC dI H.size hLK D36 F9 a0 z132 z133 z134 ha0 (⟨by omega, by omega⟩) hI) (cwV 3 hts (ax_gV T_594 T_596 T_597 T_180 T_595) rfl rfl rfl (by decide +kernel) ⟨Nat.le_of_ble_eq_true rfl, Nat.le_of_ble_eq_true rfl⟩) ⟨fun a U g mk q => ⟨q.1, s_pc (U := U) rfl rfl q.2⟩, s_recv hK hP (hLK _ ha0 (by decide)) (ci := 0) rfl o137, fun U hU hW => ⟨rfl, s_pw hU hW hP hK hD hN⟩⟩ rfl rfl hl.1 rfl (lv_room (Nat.le_of_ble_eq_true rfl)) dX0_tryWord_49 ⟨Nat.zero_le _, Nat.zero_le _⟩) hS (fun q _ h => h) (fun q h => h) (fun F139 r138 t H1 locs ht hvm hw hB hz1 hk1 hS => ?_)
          obtain ⟨hk_r138, hP, hK1⟩ := hB
          rw [ht] at hP
          generalize H1 = H at hP hS ⊢
          clear hz1 hk1
          obtain ⟨h140, h141, hI, hfr1⟩ := hw
          have o142 : F139 a0 = .inr (0, [.ref z113, .ref z115, .ref z117, .ref z119, .ref z121, .int z123, .ref z124, .long z126, .ref z127, .int z129, .ref z130, .int z132, .int z133, .int z134]) := (hfr1 _ (by rw [ha0]; decide)).trans o137
          have hfr : ∀ b, K b ∉ [1, 2, 5, 6, 24, 27, 28, 29, 30, 31, 32, 34, 35, 37] → F139 b = F b := fun b hb9 => (hfr1 b (fun q => hb9 (s_sub (by decide) q))).trans (hfr b hb9)
          obtain ⟨z143, z145, z147, z149, z151, z153, z155, z157, z159, z160, z161, z163, z164, z166, z167, o169, h144, h146, h148, h150, h152, h154, h156, h158, h162, h165, h168, -⟩ := s_op5 hI hk_r138
          refine th_getN (D := (dC, dI)) (ci := 4) (v := .ref z145) (C := RX4) (T := TX4) (N := 15) hx hb hts inX4 hown hK hP (hLK _ hk_r138 (by decide)) o169 rfl 1 (by decide) (va_Nw.use rfl (ax_n16 hN)) (fun _ h9 => h9) rfl dX0_tryWord_52 ?_
          refine lv_iload_n hx hb dX0_tryWord_55 rfl (lv_at hl 2 rfl) ?_
          refine lv_iload_n hx hb dX0_tryWord_56 rfl (lv_at hl 4 rfl) ?_
          obtain ⟨f170, o171, h172⟩ := s_op24 hI h146
          refine th_iast hx hb hK hP hD hS (hLK _ h146 (by decide)) 0 o171 rfl (th_in ⟨by omega, by omega⟩) dX0_tryWord_57 (fun H locs hP hS => ?_)
          have hP : va_P (dC, dI) vwCl (va_pl L (va_up F139 z145 (.inl (cs 0, 64, .inl (upd f170 (x1 : Int32).toNatClampNeg w31))))) H := hP
          obtain ⟨F173, hF174⟩ : ∃ G : Nat → va_E, G = va_up F139 z145 (.inl (cs 0, 64, .inl (upd f170 (x1 : Int32).toNatClampNeg w31))) := ⟨_, rfl⟩
          rw [← hF174] at hP
          have hI : s_I K cs D36 F173 := by rw [hF174]; exact s_cl24 hI h146 ⟨_, rfl, trivial⟩
          have hfr : ∀ b, K b ∉ [1, 2, 5, 6, 24, 27, 28, 29, 30, 31, 32, 34, 35, 37] → F173 b = F b := by rw [hF174]; exact s_fr hfr h146 (by decide)
          have o175 : F173 a0 = .inr (0, [.ref z113, .ref z115, .ref z117, .ref z119, .ref z121, .int z123, .ref z124, .long z126, .ref z127, .int z129, .ref z130, .int z132, .int z133, .int z134]) := by rw [hF174]; exact th_ne (th_kd ha0 h146 (by decide)) o142
          have o176 : F173 r138 = .inr (4, [.ref z143, .ref z145, .ref z147, .ref z149, .ref z151, .ref z153, .ref z155, .int z157, .int z159, .int z160, .int z161, .int z163, .int z164, .int z166, .int z167]) := by rw [hF174]; exact th_ne (th_kd hk_r138 h146 (by decide)) o169
          refine lv_aload_n hx hb dX0_tryWord_58 rfl (lv_at hl 1 rfl) ?_
          refine th_get (D := (dC, dI)) (ci := 0) (v := .ref z113) (C := RX0) (T := TX0) (N := 14) hx hb hts inX0 hown hK hP (hLK _ ha0 (by decide)) o175 rfl 0 (by decide) (hts _ T_139) (fun _ h9 => h9) rfl dX0_tryWord_59 ?_
          refine lv_lconst (v := 0) hx hb dX0_tryWord_62 (by decide) ?_
          obtain ⟨z177, z179, z181, z183, z185, z187, z188, z190, z191, z192, z194, z195, o196, h178, h180, h182, h184, h186, h189, h193, -⟩ := s_op2 hI h114
          refine th_putN (D := (dC, dI)) (ci := 1) (v := .long 0) (ty := .long) (C := RX1) (T := TX1) (N := 12) hx hb hts inX1 tyX1 tyX1_ok nmX1 hown hK hP hD hS (hLK _ h114 (by decide)) o196 rfl 11 (by decide) (va_Nw.use rfl (ax_n17 hN)) (fun _ h9 => h9) rfl (by decide +kernel) rfl rfl (Nat.le_of_ble_eq_true rfl) dX0_tryWord_63 (fun H locs hP hS => ?_)
          have hP : va_P (dC, dI) vwCl (va_pl L (va_up F173 z113 (.inr (1, [.ref z177, .ref z179, .ref z181, va_rf z183, va_rf z185, va_rf z187, .int z188, .int z190, .int z191, .int z192, .int z194, .long 0])))) H := hP
          obtain ⟨F197, hF198⟩ : ∃ G : Nat → va_E, G = va_up F173 z113 (.inr (1, [.ref z177, .ref z179, .ref z181, va_rf z183, va_rf z185, va_rf z187, .int z188, .int z190, .int z191, .int z192, .int z194, .long 0])) := ⟨_, rfl⟩
          rw [← hF198] at hP
          have hI : s_I K cs D36 F197 := by rw [hF198]; exact s_cl2 hI h114 ⟨z177, z179, z181, z183, z185, z187, z188, z190, z191, z192, z194, 0, rfl, h178, h180, h182, h184, h186, ⟨by omega, by omega⟩, ⟨by omega, by omega⟩, trivial⟩
          have hfr : ∀ b, K b ∉ [1, 2, 5, 6, 24, 27, 28, 29, 30, 31, 32, 34, 35, 37] → F197 b = F b := by rw [hF198]; exact s_fr hfr h114 (by decide)
          have o199 : F197 a0 = .inr (0, [.ref z113, .ref z115, .ref z117, .ref z119, .ref z121, .int z123, .ref z124, .long z126, .ref z127, .int z129, .ref z130, .int z132, .int z133, .int z134]) := by rw [hF198]; exact th_ne (th_kd ha0 h114 (by decide)) o175
          have o200 : F197 r138 = .inr (4, [.ref z143, .ref z145, .ref z147, .ref z149, .ref z151, .ref z153, .ref z155, .int z157, .int z159, .int z160, .int z161, .int z163, .int z164, .int z166, .int z167]) := by rw [hF198]; exact th_ne (th_kd hk_r138 h114 (by decide)) o176
          have o201 : F197 z113 = .inr (1, [.ref z177, .ref z179, .ref z181, va_rf z183, va_rf z185, va_rf z187, .int z188, .int z190, .int z191, .int z192, .int z194, .long 0]) := by rw [hF198]; exact th_up
          refine lv_aload_n hx hb dX0_tryWord_66 rfl (lv_at hl 1 rfl) ?_
          refine lv_aload_n hx hb dX0_tryWord_67 rfl (lv_at hl 1 rfl) ?_
          refine th_get (D := (dC, dI)) (ci := 0) (v := .ref z115) (C := RX0) (T := TX0) (N := 14) hx hb hts inX0 hown hK hP (hLK _ ha0 (by decide)) o199 rfl 1 (by decide) (hts _ T_145) (fun _ h9 => h9) rfl dX0_tryWord_68 ?_
          refine va_calli (va_runV (As := [.ref z115]) (rest := []) ⟨hx, hb, hml, hown, hts⟩ (s_X0_cyclesToRest l dC dI H.size hLK D36 (D36 + 401) (Nat.le_refl _) (by omega) F197 a0 z115 ha0 h116 hI (s_PGt hI0 hfr (by decide) hPG)) (cwV 1 hts (ax_gV T_566 T_568 T_569 T_180 T_567) rfl rfl rfl (by decide +kernel) ⟨Nat.le_of_ble_eq_true rfl, Nat.le_of_ble_eq_true rfl⟩) ⟨fun a U g mk q => ⟨q.1, s_pc (U := U) rfl rfl q.2⟩, s_recv hK hP (hLK _ ha0 (by decide)) (ci := 0) rfl o199, fun U hU hW => ⟨rfl, s_pw hU hW hP hK hD hN⟩⟩ rfl rfl hl.1 rfl (lv_room (Nat.le_of_ble_eq_true rfl)) dX0_tryWord_71 ⟨Nat.zero_le _, Nat.zero_le _⟩) hS (fun q _ h => h) (fun q h => h) (fun r202 F203 t H1 locs ht hvm hw hB hz1 hk1 hS => ?_)
          obtain ⟨hP, hK1⟩ := hB
          rw [ht] at hP
          generalize H1 = H at hP hS ⊢
          clear hz1 hk1
          obtain ⟨h204, h205, hI, hfr1⟩ := hw
          have o206 : F203 a0 = .inr (0, [.ref z113, .ref z115, .ref z117, .ref z119, .ref z121, .int z123, .ref z124, .long z126, .ref z127, .int z129, .ref z130, .int z132, .int z133, .int z134]) := (hfr1 _ (by rw [ha0]; decide)).trans o199
          have hfr : ∀ b, K b ∉ [1, 2, 5, 6, 24, 27, 28, 29, 30, 31, 32, 34, 35, 37] → F203 b = F b := fun b hb9 => (hfr1 b (fun q => hb9 (s_sub (by decide) q))).trans (hfr b hb9)
          refine lv_istore (lv' := [(5, .int r202), (4, .int v75), (0, .ref a0), (1, .int x1), (2, .int w30), (3, .int w31)]) hx hb dX0_tryWord_74 hl (by decide) rfl (fun ls hl => ?_)
          refine lv_aload_n hx hb dX0_tryWord_76 rfl (lv_at hl 2 rfl) ?_
          refine th_get (D := (dC, dI)) (ci := 0) (v := .ref z124) (C := RX0) (T := TX0) (N := 14) hx hb hts inX0 hown hK hP (hLK _ ha0 (by decide)) o206 rfl 6 (by decide) (hts _ T_149) (fun _ h9 => h9) rfl dX0_tryWord_77 ?_
          refine lv_iload hx hb dX0_tryWord_80 (lv_at hl 1 rfl) ?_
          refine lv_aload_n hx hb dX0_tryWord_82 rfl (lv_at hl 2 rfl) ?_
          refine th_get (D := (dC, dI)) (ci := 0) (v := .ref z117) (C := RX0) (T := TX0) (N := 14) hx hb hts inX0 hown hK hP (hLK _ ha0 (by decide)) o206 rfl 2 (by decide) (hts _ T_146) (fun _ h9 => h9) rfl dX0_tryWord_83 ?_
          obtain ⟨z207, z209, z211, z213, z215, z217, z219, z221, z223, z224, z225, z227, z228, z230, z231, o233, h208, h210, h212, h214, h216, h218, h220, h222, h226, h229, h232, -⟩ := s_op5 hI h118
          refine va_calli (va_runV (As := []) (rest := [.int v75, .ref z124]) ⟨hx, hb, hml, hown, hts⟩ (s_X4_hasEnded l dC dI H.size hLK (D36 + 401) F203 z117 h118 hI) (cwV 0 hts (ax_gV T_570 T_572 T_573 T_142 T_571) rfl rfl rfl (by decide +kernel) ⟨Nat.le_of_ble_eq_true rfl, Nat.le_of_ble_eq_true rfl⟩) ⟨fun a U g mk q => ⟨q.1, s_pc (U := U) rfl rfl q.2⟩, s_recv hK hP (hLK _ h118 (by decide)) (ci := 4) rfl o233, fun U hU hW => ⟨rfl, s_pw hU hW hP hK hD hN⟩⟩ rfl rfl hl.1 rfl (lv_room (Nat.le_of_ble_eq_true rfl)) dX0_tryWord_86 ⟨Nat.zero_le _, Nat.zero_le _⟩) hS (fun q _ h => h) (fun q h => h) (fun r234 F235 t H1 locs ht hvm hw hB hz1 hk1 hS => ?_)
          obtain ⟨hP, hK1⟩ := hB
          rw [ht] at hP
          generalize H1 = H at hP hS ⊢
          clear hz1 hk1
          obtain ⟨h236, h237, hI, hfr1⟩ := hw
          have o238 : F235 a0 = .inr (0, [.ref z113, .ref z115, .ref z117, .ref z119, .ref z121, .int z123, .ref z124, .long z126, .ref z127, .int z129, .ref z130, .int z132, .int z133, .int z134]) := (hfr1 _ (by rw [ha0]; decide)).trans o206
          have o239 : F235 z117 = .inr (4, [.ref z207, .ref z209, .ref z211, .ref z213, .ref z215, .ref z217, .ref z219, .int z221, .int z223, .int z224, .int z225, .int z227, .int z228, .int z230, .int z231]) := (hfr1 _ (by rw [h118]; decide)).trans o233
          have hfr : ∀ b, K b ∉ [1, 2, 5, 6, 24, 27, 28, 29, 30, 31, 32, 34, 35, 37] → F235 b = F b := fun b hb9 => (hfr1 b (fun q => hb9 (s_sub (by decide) q))).trans (hfr b hb9)
          refine lv_if_eq (tgt := 97) hx hb dX0_tryWord_89 (by decide) (fun c240 => ?_) (fun c240 => ?_)
          · have c240 := (ax_eq (n := 0) (by decide)).mp c240
            refine lv_iconst (v := (-1)) hx hb dX0_tryWord_97 (by decide) ?_
            exact K98 _ _ _ ⟨F235, _, (D36 + 401), (-1), v75, z124, rfl, lv_sub hl [2, 3, 5] rfl, by omega, hI, hP, hS, hfr, (by decide), ⟨by omega, by omega⟩, h125, ⟨by omega, by omega⟩, ⟨by omega, by omega⟩⟩
          · have c240 := mt (ax_eq (n := 0) (by decide)).mpr c240
            refine lv_iload hx hb dX0_tryWord_92 (lv_at hl 0 rfl) ?_
            refine lv_goto (tgt := 98) hx hb dX0_tryWord_94 (by decide) ?_
            exact K98 _ _ _ ⟨F235, _, (D36 + 401), r202, v75, z124, rfl, lv_sub hl [2, 3, 5] rfl, by omega, hI, hP, hS, hfr, ⟨by omega, by omega⟩, ⟨by omega, by omega⟩, h125, ⟨by omega, by omega⟩, ⟨by omega, by omega⟩⟩
    · intro g H locs hq
      obtain ⟨F9, ls, D246, w40, w41, w42, rfl, hl, h247, hI, hP, hS, hfr, h241, h242, h243, h244, h245⟩ := hq
      obtain ⟨f248, o249, h250⟩ := s_op37 hI h243
      refine th_iast hx hb hK hP hD hS (hLK _ h243 (by decide)) 0 o249 rfl (th_in ⟨by omega, by omega⟩) dX0_tryWord_98 (fun H locs hP hS => ?_)
      have hP : va_P (dC, dI) vwCl (va_pl L (va_up F9 w42 (.inl (cs 0, 1024, .inl (upd f248 (w41 : Int32).toNatClampNeg w40))))) H := hP
      obtain ⟨F251, hF252⟩ : ∃ G : Nat → va_E, G = va_up F9 w42 (.inl (cs 0, 1024, .inl (upd f248 (w41 : Int32).toNatClampNeg w40))) := ⟨_, rfl⟩
      rw [← hF252] at hP
      have hI : s_I K cs D246 F251 := by rw [hF252]; exact s_cl37 hI h243 ⟨_, rfl, trivial⟩
      have hfr : ∀ b, K b ∉ [1, 2, 5, 6, 24, 27, 28, 29, 30, 31, 32, 34, 35, 37] → F251 b = F b := by rw [hF252]; exact s_fr hfr h243 (by decide)
      refine lv_aload_n hx hb dX0_tryWord_99 rfl (lv_at hl 0 rfl) ?_
      obtain ⟨z253, z255, z257, z259, z261, z263, z264, z266, z267, z269, z270, z272, z273, z274, o277, h254, h256, h258, h260, h262, h265, h268, h271, h275, h276, -⟩ := s_op1 hI ha0
      refine th_get (D := (dC, dI)) (ci := 0) (v := .ref z253) (C := RX0) (T := TX0) (N := 14) hx hb hts inX0 hown hK hP (hLK _ ha0 (by decide)) o277 rfl 0 (by decide) (hts _ T_139) (fun _ h9 => h9) rfl dX0_tryWord_100 ?_
      obtain ⟨z278, z280, z282, z284, z286, z288, z289, z291, z292, z293, z295, z296, o297, h279, h281, h283, h285, h287, h290, h294, -⟩ := s_op2 hI h254
      refine th_getN (D := (dC, dI)) (ci := 1) (v := .long z296) (C := RX1) (T := TX1) (N := 12) hx hb hts inX1 hown hK hP (hLK _ h254 (by decide)) o297 rfl 11 (by decide) (va_Nw.use rfl (ax_n17 hN)) (fun _ h9 => h9) rfl dX0_tryWord_103 ?_
      refine lv_iload_n hx hb dX0_tryWord_106 rfl (lv_at hl 1 rfl) ?_
      refine lv_lshr hx hb dX0_tryWord_107 rfl ?_
      refine lv_topl (fun v298 _ => ?_)
      refine lv_lconst (v := 1) hx hb dX0_tryWord_108 (by decide) ?_
      refine lv_land hx hb dX0_tryWord_109 ?_
      refine lv_topl (fun v299 ev299 => ?_)
      refine lv_lconst (v := 0) hx hb dX0_tryWord_110 (by decide) ?_
      refine W.lcmp hx hb dX0_tryWord_111 ?_
      refine lv_topi (fun v300 _ => ?_)
      refine lv_if_eq (tgt := 119) hx hb dX0_tryWord_112 (by decide) (fun c301 => ?_) (fun c301 => ?_)
      · have c301 := (ax_eq (n := 0) (by decide)).mp c301
        refine lv_iconst (v := 0) hx hb dX0_tryWord_119 (by decide) ?_
        exact K120 _ _ _ ⟨F251, _, D246, 0, rfl, lv_sub hl [0, 1, 2] rfl, by omega, hI, hP, hS, hfr, (by decide), ⟨by omega, by omega⟩, ⟨by omega, by omega⟩⟩
      · have c301 := mt (ax_eq (n := 0) (by decide)).mpr c301
        refine lv_iconst (v := 1) hx hb dX0_tryWord_115 (by decide) ?_
        refine lv_goto (tgt := 120) hx hb dX0_tryWord_116 (by decide) ?_
        exact K120 _ _ _ ⟨F251, _, D246, 1, rfl, lv_sub hl [0, 1, 2] rfl, by omega, hI, hP, hS, hfr, (by decide), ⟨by omega, by omega⟩, ⟨by omega, by omega⟩⟩
    · intro g H locs hq
      obtain ⟨F9, ls, D305, w39, rfl, hl, h306, hI, hP, hS, hfr, h302, h303, h304⟩ := hq
      refine lv_istore_n (lv' := [(2, .int w39), (0, .ref a0), (1, .int x1), (3, .int w31)]) hx hb dX0_tryWord_120 rfl hl (by decide) rfl (fun ls hl => ?_)
      refine lv_goto (tgt := 140) hx hb dX0_tryWord_121 (by decide) ?_
      exact K140 _ _ _ ⟨F9, _, D305, w39, rfl, lv_sub hl [1, 2, 0, 3] rfl, by omega, hI, hP, hS, hfr, ⟨by omega, by omega⟩, ⟨by omega, by omega⟩, ⟨by omega, by omega⟩⟩
    · intro g H locs hq
      obtain ⟨F9, ls, D310, w38, rfl, hl, h311, hI, hP, hS, hfr, h307, h308, h309⟩ := hq
      obtain ⟨v312, ev312⟩ : ∃ y : Int32, w31 + 1 = y := ⟨_, rfl⟩
      have qv312 : v312.toInt = w31.toInt + 1 := by rw [← ev312]; exact th_add rfl (by decide) ⟨by omega, by omega⟩
      refine lv_iinc (v := v312) (lv' := [(3, .int v312), (0, .ref a0), (1, .int x1), (2, .int w38)]) hx hb dX0_tryWord_140 hl (k := 3) rfl ev312 (by decide) rfl (fun ls hl => ?_)
      refine lv_goto (tgt := 18) hx hb dX0_tryWord_143 (by decide) ?_
      exact ih18 _ _ _ _ (by omega) ⟨F9, _, D310, w38, v312, rfl, lv_sub hl [1, 2, 3, 0] rfl, by omega, hI, hP, hS, hfr, ⟨by omega, by omega⟩, ⟨by omega, by omega⟩, ⟨by omega, by omega⟩, (by first | exact Or.inl (by decide) | exact Or.inr (by omega)), rfl⟩
  · have c29 := mt (ax_eq (n := 0) (by decide)).mpr c29
    exact W.vret hx hb hr (fun t ht hW => ⟨⟨F, rfl, ⟨trivial, trivial, (s_mono (by omega) hI), hfr⟩, by rw [ht]; exact hP, va_K.moved hW.alike hK⟩, hS.F ht⟩) hS.2.2 dX0_tryWord_13

set_option maxHeartbeats 4000000 in
set_option maxRecDepth 100000 in
theorem s_X0_tryLane (l : Launch) (dC : Nat → ClassId) (dI : Nat → Nat → Nat) (sz : Nat) {L : List Nat} {K : Nat → Nat} {cs : Nat → ClassId} (hLK : ∀ a {k : Nat}, K a = k → k ≠ 0 → a ∈ L) (D : Nat) (Dm : Nat) (hDm : D + 401 ≤ Dm) (hDM : Dm < 2147483647) (F : Nat → va_E) (a0 : Nat) (x1 : Int32) (x2 : Int32) (ha0 : K a0 = 1) (hx1 : 0 ≤ x1.toInt ∧ x1.toInt ≤ 3) (hx2 : 0 ≤ x2.toInt ∧ x2.toInt ≤ 7) (hI : s_I K cs D F) (hPG : s_PG K cs F) : Met l yX0_tryLane (Cond.code yX0_tryLane cX0_tryLane 8 none :: T0) ({ frames := 6, cells := 0, slots := 0, locals := 136 }) (va_Pc [.ref a0, .int x1, .int x2] (s_W dC dI sz L F [(cs 0, .int), (cs 1, .byte), (cs 2, .long), (cs 3, .object RX5), (cs 4, .object RX4), (cs 5, .array .int), (cs 6, .char), (cs 7, .boolean)])) (va_Qv (fun (G : Nat → va_E) => True ∧ True ∧ s_I K cs Dm G ∧ ∀ b, K b ∉ [1, 2, 5, 6, 24, 27, 28, 29, 30, 31, 32, 34, 35, 38] → G b = F b) (fun (G : Nat → va_E) (t : State) => va_P (dC, dI) vwCl (va_pl L G) t.heap ∧ va_K (dC, dI) vwCl [(cs 0, .int), (cs 1, .byte), (cs 2, .long), (cs 3, .object RX5), (cs 4, .object RX4), (cs 5, .array .int), (cs 6, .char), (cs 7, .boolean)] t) (fun q => q ∈ L)) 0 0 (fun q => q ∈ L) := by
  refine Met.ofW (cc := cX0_tryLane) (maxL := 8) (ret := none) (by decide) rfl ?_
  intro p e s m args below meth c s₁ B hml hv
  obtain ⟨rfl, hsz, hP, hK, hD, hN⟩ := hv
  have hx := B.exec
  have hb := B.bytes
  have hr := B.returns
  have hts : ∀ w ∈ T0, w.before _ s = true := fun w h => atoms_spec (ws := Cond.code yX0_tryLane cX0_tryLane 8 none :: T0) B.pre w (List.mem_cons_of_mem _ h)
  have hown : s.vm.findClass RX0 = some m.cls := findClass_of_methodNamed B.named
  have hlocks := B.notSynchronized
  have hS : va_S (fun q => q ∈ L) s.heap s.heap [] := va_S.rf
  have hfr : ∀ b, K b ∉ [1, 2, 5, 6, 24, 27, 28, 29, 30, 31, 32, 34, 35, 38] → F b = F b := fun _ _ => rfl
  have hl := lv_entry ([.ref a0, .int x1, .int x2]) (n := 8) (Nat.le_of_ble_eq_true rfl)
  rw [lg_entry_eq]
  generalize (lg_sl ([.ref a0, .int x1, .int x2]) ++ List.replicate (8 - (lg_sl ([.ref a0, .int x1, .int x2])).length) Slot.unset).toArray = ls at hl ⊢
  have hl : lv_has ls 8 [(0, .ref a0), (1, .int x1), (2, .int x2)] := hl
  have hI0 := hI
  refine s_gen hP hS (fun H locs hP hS => ?_)
  refine th_join (fun g H locs => ∃ (G : Nat → va_E) (ls : Array Slot) (Dn : Nat) (w1 : Int32) (w2 : Int32) (w3 : Int32) (w4 : Nat), g = F0 m 145 ls [.int w2, .int w3, .ref w4] ∧ lv_has ls 8 [(0, .ref a0), (3, .int w1)] ∧ Dn + 0 ≤ Dm ∧ s_I K cs Dn G ∧ va_P (dC, dI) vwCl (va_pl L G) H ∧ va_S (fun q => q ∈ L) s.heap H locs ∧ (∀ b, K b ∉ [1, 2, 5, 6, 24, 27, 28, 29, 30, 31, 32, 34, 35, 38] → G b = F b) ∧ (0 ≤ w1.toInt ∧ w1.toInt ≤ 31) ∧ (-1000000 ≤ w2.toInt ∧ w2.toInt ≤ 400) ∧ (4 ≤ w3.toInt ∧ w3.toInt ≤ 159) ∧ K w4 = 38) (fun K145 => ?_) ?_
  · refine lv_iload_n hx hb dX0_tryLane_0 rfl (lv_at hl 1 rfl) ?_
    refine lv_bipush (v := 8) hx hb dX0_tryLane_1 (by decide) ?_
    refine lv_imul hx hb dX0_tryLane_3 ?_
    refine lv_topi (fun v5 ev5 => ?_)
    have qv5 : v5.toInt = x1.toInt * 8 := by rw [ev5]; exact th_mul rfl (by decide) ⟨by omega, by omega⟩
    refine lv_iload_n hx hb dX0_tryLane_4 rfl (lv_at hl 2 rfl) ?_
    refine lv_iadd hx hb dX0_tryLane_5 ?_
    refine lv_topi (fun v6 ev6 => ?_)
    have qv6 : v6.toInt = v5.toInt + x2.toInt := by rw [ev6]; exact th_add rfl rfl ⟨by omega, by omega⟩
    refine lv_istore_n (lv' := [(3, .int v6), (0, .ref a0), (1, .int x1), (2, .int x2)]) hx hb dX0_tryLane_6 rfl hl (by decide) rfl (fun ls hl => ?_)
    refine lv_aload_n hx hb dX0_tryLane_7 rfl (lv_at hl 1 rfl) ?_
    obtain ⟨z7, z9, z11, z13, z15, z17, z18, z20, z21, z23, z24, z26, z27, z28, o31, h8, h10, h12, h14, h16, h19, h22, h25, h29, h30, -⟩ := s_op1 hI ha0
    refine th_get (D := (dC, dI)) (ci := 0) (v := .int z23) (C := RX0) (T := TX0) (N := 14) hx hb hts inX0 hown hK hP (hLK _ ha0 (by decide)) o31 rfl 9 (by decide) (hts _ T_157) (fun _ h9 => h9) rfl dX0_tryLane_8 ?_
    refine lv_iload_n hx hb dX0_tryLane_11 rfl (lv_at hl 0 rfl) ?_
    refine lv_ishr hx hb dX0_tryLane_12 ?_
    refine lv_topi (fun v32 ev32 => ?_)
    refine lv_iconst (v := 1) hx hb dX0_tryLane_13 (by decide) ?_
    refine lv_iand hx hb dX0_tryLane_14 ?_
    refine lv_topi (fun v33 ev33 => ?_)
    have qv33 : 0 ≤ v33.toInt ∧ v33.toInt ≤ 1 := by rw [ev33]; exact th_and 1 (by decide) (by decide)
    refine lv_if_eq (tgt := 19) hx hb dX0_tryLane_15 (by decide) (fun c34 => ?_) (fun c34 => ?_)
    · have c34 := (ax_eq (n := 0) (by decide)).mp c34
      refine lv_aload_n hx hb dX0_tryLane_19 rfl (lv_at hl 1 rfl) ?_
      refine lv_aload_n hx hb dX0_tryLane_20 rfl (lv_at hl 1 rfl) ?_
      refine th_get (D := (dC, dI)) (ci := 0) (v := .int z26) (C := RX0) (T := TX0) (N := 14) hx hb hts inX0 hown hK hP (hLK _ ha0 (by decide)) o31 rfl 11 (by decide) (hts _ T_591) (fun _ h9 => h9) rfl dX0_tryLane_21 ?_
      refine lv_aload_n hx hb dX0_tryLane_24 rfl (lv_at hl 1 rfl) ?_
      refine th_get (D := (dC, dI)) (ci := 0) (v := .int z27) (C := RX0) (T := TX0) (N := 14) hx hb hts inX0 hown hK hP (hLK _ ha0 (by decide)) o31 rfl 12 (by decide) (hts _ T_592) (fun _ h9 => h9) rfl dX0_tryLane_25 ?_
      refine lv_aload_n hx hb dX0_tryLane_28 rfl (lv_at hl 1 rfl) ?_
      refine th_get (D := (dC, dI)) (ci := 0) (v := .int z28) (C := RX0) (T := TX0) (N := 14) hx hb hts inX0 hown hK hP (hLK _ ha0 (by decide)) o31 rfl 13 (by decide) (hts _ T_593) (fun _ h9 => h9) rfl dX0_tryLane_29 ?_
      refine va_callr (va_runV (As := [.int z26, .int z27, .int z28]) (rest := []) ⟨hx, hb, hml, hown, hts⟩ (s_X0_begun l dC dI H.size hLK D F a0 z26 z27 z28 ha0 (⟨by omega, by omega⟩) hI) (cwV 3 hts (ax_gV T_594 T_596 T_597 T_180 T_595) rfl rfl rfl (by decide +kernel) ⟨Nat.le_of_ble_eq_true rfl, Nat.le_of_ble_eq_true rfl⟩) ⟨fun a U g mk q => ⟨q.1, s_pc (U := U) rfl rfl q.2⟩, s_recv hK hP (hLK _ ha0 (by decide)) (ci := 0) rfl o31, fun U hU hW => ⟨rfl, s_pw hU hW hP hK hD hN⟩⟩ rfl rfl hl.1 rfl (lv_room (Nat.le_of_ble_eq_true rfl)) dX0_tryLane_32 ⟨Nat.zero_le _, Nat.zero_le _⟩) hS (fun q _ h => h) (fun q h => h) (fun F36 r35 t H1 locs ht hvm hw hB hz1 hk1 hS => ?_)
      obtain ⟨hk_r35, hP, hK1⟩ := hB
      rw [ht] at hP
      generalize H1 = H at hP hS ⊢
      clear hz1 hk1
      obtain ⟨h37, h38, hI, hfr1⟩ := hw
      have o39 : F36 a0 = .inr (0, [.ref z7, .ref z9, .ref z11, .ref z13, .ref z15, .int z17, .ref z18, .long z20, .ref z21, .int z23, .ref z24, .int z26, .int z27, .int z28]) := (hfr1 _ (by rw [ha0]; decide)).trans o31
      have hfr : ∀ b, K b ∉ [1, 2, 5, 6, 24, 27, 28, 29, 30, 31, 32, 34, 35, 38] → F36 b = F b := fun b hb9 => (hfr1 b (fun q => hb9 (s_sub (by decide) q))).trans (hfr b hb9)
      refine lv_iload_n hx hb dX0_tryLane_35 rfl (lv_at hl 2 rfl) ?_
      refine lv_iload_n hx hb dX0_tryLane_36 rfl (lv_at hl 3 rfl) ?_
      refine lv_aload_n hx hb dX0_tryLane_37 rfl (lv_at hl 1 rfl) ?_
      refine th_get (D := (dC, dI)) (ci := 0) (v := .ref z24) (C := RX0) (T := TX0) (N := 14) hx hb hts inX0 hown hK hP (hLK _ ha0 (by decide)) o39 rfl 10 (by decide) (hts _ T_151) (fun _ h9 => h9) rfl dX0_tryLane_38 ?_
      obtain ⟨z40, z42, z44, z46, z48, z50, z51, o52, h41, h43, h45, h47, h49, -⟩ := s_op3 hI h25
      refine th_getN (D := (dC, dI)) (ci := 2) (v := .int z46) (C := RX2) (T := TX2) (N := 7) hx hb hts inX2 hown hK hP (hLK _ h25 (by decide)) o52 rfl 3 (by decide) (va_Nw.use rfl (ax_n13 hN)) (fun _ h9 => h9) rfl dX0_tryLane_41 ?_
      obtain ⟨z53, z55, z57, z59, z61, z63, z65, z67, z69, z70, z71, z73, z74, z76, z77, o79, h54, h56, h58, h60, h62, h64, h66, h68, h72, h75, h78, -⟩ := s_op5 hI hk_r35
      refine va_callv (va_runV (As := [.int x1, .int x2, .int z46]) (rest := []) ⟨hx, hb, hml, hown, hts⟩ (s_X4_leaveAlone l dC dI H.size hLK D F36 r35 x1 x2 z46 hk_r35 hI) (cwV 3 hts (ax_gV T_598 T_600 T_601 T_142 T_599) rfl rfl rfl (by decide +kernel) ⟨Nat.le_of_ble_eq_true rfl, Nat.le_of_ble_eq_true rfl⟩) ⟨fun a U g mk q => ⟨q.1, s_pc (U := U) rfl rfl q.2⟩, s_recv hK hP (hLK _ hk_r35 (by decide)) (ci := 4) rfl o79, fun U hU hW => ⟨rfl, s_pw hU hW hP hK hD hN⟩⟩ rfl rfl hl.1 rfl (lv_room (Nat.le_of_ble_eq_true rfl)) dX0_tryLane_44 ⟨Nat.zero_le _, Nat.zero_le _⟩) hS (fun q _ h => h) (fun q h => h) (fun F80 t H1 locs ht hvm hw hB hz1 hk1 hS => ?_)
      obtain ⟨hP, hK1⟩ := hB
      rw [ht] at hP
      generalize H1 = H at hP hS ⊢
      clear hz1 hk1
      obtain ⟨h81, h82, hI, hfr1⟩ := hw
      have o83 : F80 a0 = .inr (0, [.ref z7, .ref z9, .ref z11, .ref z13, .ref z15, .int z17, .ref z18, .long z20, .ref z21, .int z23, .ref z24, .int z26, .int z27, .int z28]) := (hfr1 _ (by rw [ha0]; decide)).trans o39
      have o84 : F80 z24 = .inr (2, [.ref z40, .ref z42, .ref z44, .int z46, .int z48, .int z50, .int z51]) := (hfr1 _ (by rw [h25]; decide)).trans o52
      have o85 : F80 r35 = .inr (4, [.ref z53, .ref z55, .ref z57, .ref z59, .ref z61, .ref z63, .ref z65, .int z67, .int z69, .int z70, .int z71, .int z73, .int z74, .int z76, .int z77]) := (hfr1 _ (by rw [hk_r35]; decide)).trans o79
      have hfr : ∀ b, K b ∉ [1, 2, 5, 6, 24, 27, 28, 29, 30, 31, 32, 34, 35, 38] → F80 b = F b := fun b hb9 => (hfr1 b (fun q => hb9 (s_sub (by decide) q))).trans (hfr b hb9)
      refine lv_aload_n hx hb dX0_tryLane_47 rfl (lv_at hl 1 rfl) ?_
      refine lv_aload_n hx hb dX0_tryLane_48 rfl (lv_at hl 1 rfl) ?_
      refine th_get (D := (dC, dI)) (ci := 0) (v := .ref z9) (C := RX0) (T := TX0) (N := 14) hx hb hts inX0 hown hK hP (hLK _ ha0 (by decide)) o83 rfl 1 (by decide) (hts _ T_145) (fun _ h9 => h9) rfl dX0_tryLane_49 ?_
      refine va_calli (va_runV (As := [.ref z9]) (rest := []) ⟨hx, hb, hml, hown, hts⟩ (s_X0_cyclesToRest l dC dI H.size hLK D (D + 401) (Nat.le_refl _) (by omega) F80 a0 z9 ha0 h10 hI (s_PGt hI0 hfr (by decide) hPG)) (cwV 1 hts (ax_gV T_566 T_568 T_569 T_180 T_567) rfl rfl rfl (by decide +kernel) ⟨Nat.le_of_ble_eq_true rfl, Nat.le_of_ble_eq_true rfl⟩) ⟨fun a U g mk q => ⟨q.1, s_pc (U := U) rfl rfl q.2⟩, s_recv hK hP (hLK _ ha0 (by decide)) (ci := 0) rfl o83, fun U hU hW => ⟨rfl, s_pw hU hW hP hK hD hN⟩⟩ rfl rfl hl.1 rfl (lv_room (Nat.le_of_ble_eq_true rfl)) dX0_tryLane_52 ⟨Nat.zero_le _, Nat.zero_le _⟩) hS (fun q _ h => h) (fun q h => h) (fun r86 F87 t H1 locs ht hvm hw hB hz1 hk1 hS => ?_)
      obtain ⟨hP, hK1⟩ := hB
      rw [ht] at hP
      generalize H1 = H at hP hS ⊢
      clear hz1 hk1
      obtain ⟨h88, h89, hI, hfr1⟩ := hw
      have o90 : F87 a0 = .inr (0, [.ref z7, .ref z9, .ref z11, .ref z13, .ref z15, .int z17, .ref z18, .long z20, .ref z21, .int z23, .ref z24, .int z26, .int z27, .int z28]) := (hfr1 _ (by rw [ha0]; decide)).trans o83
      have o91 : F87 z24 = .inr (2, [.ref z40, .ref z42, .ref z44, .int z46, .int z48, .int z50, .int z51]) := (hfr1 _ (by rw [h25]; decide)).trans o84
      have hfr : ∀ b, K b ∉ [1, 2, 5, 6, 24, 27, 28, 29, 30, 31, 32, 34, 35, 38] → F87 b = F b := fun b hb9 => (hfr1 b (fun q => hb9 (s_sub (by decide) q))).trans (hfr b hb9)
      refine lv_istore (lv' := [(4, .int r86), (3, .int v6), (0, .ref a0), (1, .int x1), (2, .int x2)]) hx hb dX0_tryLane_55 hl (by decide) rfl (fun ls hl => ?_)
      refine lv_aload_n hx hb dX0_tryLane_57 rfl (lv_at hl 2 rfl) ?_
      refine th_get (D := (dC, dI)) (ci := 0) (v := .ref z11) (C := RX0) (T := TX0) (N := 14) hx hb hts inX0 hown hK hP (hLK _ ha0 (by decide)) o90 rfl 2 (by decide) (hts _ T_146) (fun _ h9 => h9) rfl dX0_tryLane_58 ?_
      obtain ⟨z92, z94, z96, z98, z100, z102, z104, z106, z108, z109, z110, z112, z113, z115, z116, o118, h93, h95, h97, h99, h101, h103, h105, h107, h111, h114, h117, -⟩ := s_op5 hI h12
      refine va_calli (va_runV (As := []) (rest := []) ⟨hx, hb, hml, hown, hts⟩ (s_X4_hasEnded l dC dI H.size hLK (D + 401) F87 z11 h12 hI) (cwV 0 hts (ax_gV T_570 T_572 T_573 T_142 T_571) rfl rfl rfl (by decide +kernel) ⟨Nat.le_of_ble_eq_true rfl, Nat.le_of_ble_eq_true rfl⟩) ⟨fun a U g mk q => ⟨q.1, s_pc (U := U) rfl rfl q.2⟩, s_recv hK hP (hLK _ h12 (by decide)) (ci := 4) rfl o118, fun U hU hW => ⟨rfl, s_pw hU hW hP hK hD hN⟩⟩ rfl rfl hl.1 rfl (lv_room (Nat.le_of_ble_eq_true rfl)) dX0_tryLane_61 ⟨Nat.zero_le _, Nat.zero_le _⟩) hS (fun q _ h => h) (fun q h => h) (fun r119 F120 t H1 locs ht hvm hw hB hz1 hk1 hS => ?_)
      obtain ⟨hP, hK1⟩ := hB
      rw [ht] at hP
      generalize H1 = H at hP hS ⊢
      clear hz1 hk1
      obtain ⟨h121, h122, hI, hfr1⟩ := hw
      have o123 : F120 a0 = .inr (0, [.ref z7, .ref z9, .ref z11, .ref z13, .ref z15, .int z17, .ref z18, .long z20, .ref z21, .int z23, .ref z24, .int z26, .int z27, .int z28]) := (hfr1 _ (by rw [ha0]; decide)).trans o90
      have o124 : F120 z24 = .inr (2, [.ref z40, .ref z42, .ref z44, .int z46, .int z48, .int z50, .int z51]) := (hfr1 _ (by rw [h25]; decide)).trans o91
      have o125 : F120 z11 = .inr (4, [.ref z92, .ref z94, .ref z96, .ref z98, .ref z100, .ref z102, .ref z104, .int z106, .int z108, .int z109, .int z110, .int z112, .int z113, .int z115, .int z116]) := (hfr1 _ (by rw [h12]; decide)).trans o118
      have hfr : ∀ b, K b ∉ [1, 2, 5, 6, 24, 27, 28, 29, 30, 31, 32, 34, 35, 38] → F120 b = F b := fun b hb9 => (hfr1 b (fun q => hb9 (s_sub (by decide) q))).trans (hfr b hb9)
      refine lv_istore (lv' := [(5, .int r119), (4, .int r86), (3, .int v6), (0, .ref a0), (1, .int x1), (2, .int x2)]) hx hb dX0_tryLane_64 hl (by decide) rfl (fun ls hl => ?_)
      refine lv_iload_n hx hb dX0_tryLane_66 rfl (lv_at hl 2 rfl) ?_
      refine lv_iconst (v := 5) hx hb dX0_tryLane_67 (by decide) ?_
      refine lv_imul hx hb dX0_tryLane_68 ?_
      refine lv_topi (fun v126 ev126 => ?_)
      have qv126 : v126.toInt = v6.toInt * 5 := by rw [ev126]; exact th_mul rfl (by decide) ⟨by omega, by omega⟩
      refine lv_istore (lv' := [(6, .int v126), (5, .int r119), (4, .int r86), (3, .int v6), (0, .ref a0), (1, .int x1), (2, .int x2)]) hx hb dX0_tryLane_69 hl (by decide) rfl (fun ls hl => ?_)
      refine lv_iconst (v := 0) hx hb dX0_tryLane_71 (by decide) ?_
      refine lv_istore (lv' := [(7, .int 0), (6, .int v126), (5, .int r119), (4, .int r86), (3, .int v6), (0, .ref a0), (1, .int x1), (2, .int x2)]) hx hb dX0_tryLane_72 hl (by decide) rfl (fun ls hl => ?_)
      refine th_loop (fun n g H locs => ∃ (G : Nat → va_E) (ls : Array Slot) (Dn : Nat) (w127 : Int32), g = F0 m 74 ls [] ∧ lv_has ls 8 [(0, .ref a0), (1, .int x1), (2, .int x2), (3, .int v6), (4, .int r86), (5, .int r119), (6, .int v126), (7, .int w127)] ∧ Dn + 0 * n + 0 ≤ Dm ∧ s_I K cs Dn G ∧ va_P (dC, dI) vwCl (va_pl L G) H ∧ va_S (fun q => q ∈ L) s.heap H locs ∧ (∀ b, K b ∉ [1, 2, 5, 6, 24, 27, 28, 29, 30, 31, 32, 34, 35, 38] → G b = F b) ∧ (0 ≤ w127.toInt ∧ w127.toInt ≤ 4) ∧ (0 ≤ x1.toInt ∧ x1.toInt ≤ 3) ∧ (0 ≤ x2.toInt ∧ x2.toInt ≤ 7) ∧ (0 ≤ v6.toInt ∧ v6.toInt ≤ 31) ∧ (-1 ≤ r86.toInt ∧ r86.toInt ≤ 400) ∧ (0 ≤ r119.toInt ∧ r119.toInt ≤ 1) ∧ (0 ≤ v126.toInt ∧ v126.toInt ≤ 155) ∧ n = (5 - w127.toInt).toNat) _ ⟨F120, _, (D + 401), 0, rfl, lv_sub hl [5, 6, 7, 4, 3, 2, 1, 0] rfl, by have q7a : (0 : Int32).toInt = 0 := (by decide); omega, hI, hP, hS, hfr, (by decide), ⟨by omega, by omega⟩, ⟨by omega, by omega⟩, ⟨by omega, by omega⟩, ⟨by omega, by omega⟩, ⟨by omega, by omega⟩, ⟨by omega, by omega⟩, rfl⟩ (fun n ih74 g H locs hq => ?_)
      obtain ⟨F9, ls, D135, w127, rfl, hl, h136, hI, hP, hS, hfr, h128, h129, h130, h131, h132, h133, h134, hn⟩ := hq
      have hn_74 := hn
      obtain ⟨n_74, hn9_74⟩ : ∃ q, q = n := ⟨_, rfl⟩
      refine th_join (fun g H locs => ∃ (G : Nat → va_E) (ls : Array Slot) (Dn : Nat) (w137 : Int32) (w138 : Int32) (w139 : Nat), g = F0 m 118 ls [.int w137, .int w138, .ref w139] ∧ lv_has ls 8 [(0, .ref a0), (1, .int x1), (2, .int x2), (3, .int v6), (4, .int r86), (5, .int r119), (6, .int v126), (7, .int w127)] ∧ Dn + 0 + 0 * (n_74 - 1) + 0 ≤ Dm ∧ s_I K cs Dn G ∧ va_P (dC, dI) vwCl (va_pl L G) H ∧ va_S (fun q => q ∈ L) s.heap H locs ∧ (∀ b, K b ∉ [1, 2, 5, 6, 24, 27, 28, 29, 30, 31, 32, 34, 35, 38] → G b = F b) ∧ True ∧ (0 ≤ w138.toInt ∧ w138.toInt ≤ 158) ∧ K w139 = 38 ∧ (0 ≤ x1.toInt ∧ x1.toInt ≤ 3) ∧ (0 ≤ x2.toInt ∧ x2.toInt ≤ 7) ∧ (0 ≤ v6.toInt ∧ v6.toInt ≤ 31) ∧ (-1 ≤ r86.toInt ∧ r86.toInt ≤ 400) ∧ (0 ≤ r119.toInt ∧ r119.toInt ≤ 1) ∧ (0 ≤ v126.toInt ∧ v126.toInt ≤ 155) ∧ (0 ≤ w127.toInt ∧ w127.toInt ≤ 3)) (fun K118 => ?_) ?_
      · refine lv_iload hx hb dX0_tryLane_74 (lv_at hl 7 rfl) ?_
        refine lv_iconst (v := 4) hx hb dX0_tryLane_76 (by decide) ?_
        refine lv_icmp_ge (tgt := 125) hx hb dX0_tryLane_77 (by decide) (fun c140 => ?_) (fun c140 => ?_)
        · have c140 := (ax_ge (n := 4) (by decide)).mp c140
          refine lv_aload_n hx hb dX0_tryLane_125 rfl (lv_at hl 0 rfl) ?_
          obtain ⟨z141, z143, z145, z147, z149, z151, z152, z154, z155, z157, z158, z160, z161, z162, o165, h142, h144, h146, h148, h150, h153, h156, h159, h163, h164, -⟩ := s_op1 hI ha0
          refine th_get (D := (dC, dI)) (ci := 0) (v := .ref z155) (C := RX0) (T := TX0) (N := 14) hx hb hts inX0 hown hK hP (hLK _ ha0 (by decide)) o165 rfl 8 (by decide) (hts _ T_150) (fun _ h9 => h9) rfl dX0_tryLane_126 ?_
          refine lv_iload hx hb dX0_tryLane_129 (lv_at hl 6 rfl) ?_
          refine lv_iconst (v := 4) hx hb dX0_tryLane_131 (by decide) ?_
          refine lv_iadd hx hb dX0_tryLane_132 ?_
          refine lv_topi (fun v166 ev166 => ?_)
          have qv166 : v166.toInt = v126.toInt + 4 := by rw [ev166]; exact th_add rfl (by decide) ⟨by omega, by omega⟩
          refine lv_iload hx hb dX0_tryLane_133 (lv_at hl 5 rfl) ?_
          refine lv_if_eq (tgt := 143) hx hb dX0_tryLane_135 (by decide) (fun c167 => ?_) (fun c167 => ?_)
          · have c167 := (ax_eq (n := 0) (by decide)).mp c167
            refine lv_ldc (v := (-1000000)) hx hb hown (hts _ T_602) dX0_tryLane_143 ?_
            exact K145 _ _ _ ⟨F9, _, D135, v6, (-1000000), v166, z155, rfl, lv_sub hl [0, 3] rfl, by omega, hI, hP, hS, hfr, ⟨by omega, by omega⟩, (by decide), ⟨by omega, by omega⟩, h156⟩
          · have c167 := mt (ax_eq (n := 0) (by decide)).mpr c167
            refine lv_iload hx hb dX0_tryLane_138 (lv_at hl 4 rfl) ?_
            refine lv_goto (tgt := 145) hx hb dX0_tryLane_140 (by decide) ?_
            exact K145 _ _ _ ⟨F9, _, D135, v6, r86, v166, z155, rfl, lv_sub hl [0, 3] rfl, by omega, hI, hP, hS, hfr, ⟨by omega, by omega⟩, ⟨by omega, by omega⟩, ⟨by omega, by omega⟩, h156⟩
        · have c140 := mt (ax_ge (n := 4) (by decide)).mpr c140
          refine lv_aload_n hx hb dX0_tryLane_80 rfl (lv_at hl 0 rfl) ?_
          obtain ⟨z168, z170, z172, z174, z176, z178, z179, z181, z182, z184, z185, z187, z188, z189, o192, h169, h171, h173, h175, h177, h180, h183, h186, h190, h191, -⟩ := s_op1 hI ha0
          refine th_get (D := (dC, dI)) (ci := 0) (v := .ref z182) (C := RX0) (T := TX0) (N := 14) hx hb hts inX0 hown hK hP (hLK _ ha0 (by decide)) o192 rfl 8 (by decide) (hts _ T_150) (fun _ h9 => h9) rfl dX0_tryLane_81 ?_
          refine lv_iload hx hb dX0_tryLane_84 (lv_at hl 6 rfl) ?_
          refine lv_iload hx hb dX0_tryLane_86 (lv_at hl 7 rfl) ?_
          refine lv_iadd hx hb dX0_tryLane_88 ?_
          refine lv_topi (fun v193 ev193 => ?_)
          have qv193 : v193.toInt = v126.toInt + w127.toInt := by rw [ev193]; exact th_add rfl rfl ⟨by omega, by omega⟩
          refine lv_iload hx hb dX0_tryLane_89 (lv_at hl 5 rfl) ?_
          refine lv_if_eq (tgt := 116) hx hb dX0_tryLane_91 (by decide) (fun c194 => ?_) (fun c194 => ?_)
          · have c194 := (ax_eq (n := 0) (by decide)).mp c194
            refine lv_ldc (v := (-1000000)) hx hb hown (hts _ T_602) dX0_tryLane_116 ?_
            exact K118 _ _ _ ⟨F9, _, D135, (-1000000), v193, z182, rfl, lv_sub hl [0, 1, 2, 3, 4, 5, 6, 7] rfl, by omega, hI, hP, hS, hfr, trivial, ⟨by omega, by omega⟩, h183, ⟨by omega, by omega⟩, ⟨by omega, by omega⟩, ⟨by omega, by omega⟩, ⟨by omega, by omega⟩, ⟨by omega, by omega⟩, ⟨by omega, by omega⟩, ⟨by omega, by omega⟩⟩
          · have c194 := mt (ax_eq (n := 0) (by decide)).mpr c194
            refine lv_aload_n hx hb dX0_tryLane_94 rfl (lv_at hl 0 rfl) ?_
            refine th_get (D := (dC, dI)) (ci := 0) (v := .ref z172) (C := RX0) (T := TX0) (N := 14) hx hb hts inX0 hown hK hP (hLK _ ha0 (by decide)) o192 rfl 2 (by decide) (hts _ T_146) (fun _ h9 => h9) rfl dX0_tryLane_95 ?_
            obtain ⟨z195, z197, z199, z201, z203, z205, z207, z209, z211, z212, z213, z215, z216, z218, z219, o221, h196, h198, h200, h202, h204, h206, h208, h210, h214, h217, h220, -⟩ := s_op5 hI h173
            refine th_getN (D := (dC, dI)) (ci := 4) (v := .ref z195) (C := RX4) (T := TX4) (N := 15) hx hb hts inX4 hown hK hP (hLK _ h173 (by decide)) o221 rfl 0 (by decide) (va_Nw.use rfl (ax_n14 hN)) (fun _ h9 => h9) rfl dX0_tryLane_98 ?_
            refine lv_iload_n hx hb dX0_tryLane_101 rfl (lv_at hl 1 rfl) ?_
            obtain ⟨f222, o223, h224⟩ := s_op26 hI h196
            obtain ⟨z225, o227, h226⟩ := h224 (x1 : Int32).toNatClampNeg (th_cl ⟨by omega, by omega⟩)
            refine th_aald hx hb hK hP (hLK _ h196 (by decide)) 3 o223 rfl (th_in ⟨by omega, by omega⟩) o227 dX0_tryLane_102 ?_
            obtain ⟨z228, z230, z232, z234, z236, z238, z240, z241, z242, z243, z244, o246, h229, h231, h233, h235, h237, h239, h245, -⟩ := s_op6 hI h226
            refine th_getN (D := (dC, dI)) (ci := 5) (v := .ref z228) (C := RX5) (T := TX5) (N := 11) hx hb hts inX5 hown hK hP (hLK _ h226 (by decide)) o246 rfl 0 (by decide) (va_Nw.use rfl (ax_n15 hN)) (fun _ h9 => h9) rfl dX0_tryLane_103 ?_
            refine lv_iload_n hx hb dX0_tryLane_106 rfl (lv_at hl 2 rfl) ?_
            refine lv_iconst (v := 4) hx hb dX0_tryLane_107 (by decide) ?_
            refine lv_imul hx hb dX0_tryLane_108 ?_
            refine lv_topi (fun v247 ev247 => ?_)
            have qv247 : v247.toInt = x2.toInt * 4 := by rw [ev247]; exact th_mul rfl (by decide) ⟨by omega, by omega⟩
            refine lv_iload hx hb dX0_tryLane_109 (lv_at hl 7 rfl) ?_
            refine lv_iadd hx hb dX0_tryLane_111 ?_
            refine lv_topi (fun v248 ev248 => ?_)
            have qv248 : v248.toInt = v247.toInt + w127.toInt := by rw [ev248]; exact th_add rfl rfl ⟨by omega, by omega⟩
            obtain ⟨f249, o250, h251⟩ := s_op30 hI h229
            refine th_iald hx hb hK hP (hLK _ h229 (by decide)) 0 o250 rfl (th_in ⟨by omega, by omega⟩) dX0_tryLane_112 ?_
            refine lv_topi (fun v252 ev252 => ?_)
            refine lv_goto (tgt := 118) hx hb dX0_tryLane_113 (by decide) ?_
            exact K118 _ _ _ ⟨F9, _, D135, v252, v193, z182, rfl, lv_sub hl [0, 1, 2, 3, 4, 5, 6, 7] rfl, by omega, hI, hP, hS, hfr, trivial, ⟨by omega, by omega⟩, h183, ⟨by omega, by omega⟩, ⟨by omega, by omega⟩, ⟨by omega, by omega⟩, ⟨by omega, by omega⟩, ⟨by omega, by omega⟩, ⟨by omega, by omega⟩, ⟨by omega, by omega⟩⟩
      · intro g H locs hq
        obtain ⟨F9, ls, D263, w137, w138, w139, rfl, hl, h264, hI, hP, hS, hfr, h253, h254, h255, h256, h257, h258, h259, h260, h261, h262⟩ := hq
        obtain ⟨f265, o266, h267⟩ := s_op38 hI h255
        refine th_iast hx hb hK hP hD hS (hLK _ h255 (by decide)) 0 o266 rfl (th_in ⟨by omega, by omega⟩) dX0_tryLane_118 (fun H locs hP hS => ?_)
        have hP : va_P (dC, dI) vwCl (va_pl L (va_up F9 w139 (.inl (cs 0, 160, .inl (upd f265 (w138 : Int32).toNatClampNeg w137))))) H := hP
        obtain ⟨F268, hF269⟩ : ∃ G : Nat → va_E, G = va_up F9 w139 (.inl (cs 0, 160, .inl (upd f265 (w138 : Int32).toNatClampNeg w137))) := ⟨_, rfl⟩
        rw [← hF269] at hP
        have hI : s_I K cs D263 F268 := by rw [hF269]; exact s_cl38 hI h255 ⟨_, rfl, trivial⟩
        have hfr : ∀ b, K b ∉ [1, 2, 5, 6, 24, 27, 28, 29, 30, 31, 32, 34, 35, 38] → F268 b = F b := by rw [hF269]; exact s_fr hfr h255 (by decide)
        obtain ⟨v270, ev270⟩ : ∃ y : Int32, w127 + 1 = y := ⟨_, rfl⟩
        have qv270 : v270.toInt = w127.toInt + 1 := by rw [← ev270]; exact th_add rfl (by decide) ⟨by omega, by omega⟩
        refine lv_iinc (v := v270) (lv' := [(7, .int v270), (0, .ref a0), (1, .int x1), (2, .int x2), (3, .int v6), (4, .int r86), (5, .int r119), (6, .int v126)]) hx hb dX0_tryLane_119 hl (k := 7) rfl ev270 (by decide) rfl (fun ls hl => ?_)
        refine lv_goto (tgt := 74) hx hb dX0_tryLane_122 (by decide) ?_
        exact ih74 _ _ _ _ (by omega) ⟨F268, _, D263, v270, rfl, lv_sub hl [1, 2, 3, 4, 5, 6, 7, 0] rfl, by omega, hI, hP, hS, hfr, ⟨by omega, by omega⟩, ⟨by omega, by omega⟩, ⟨by omega, by omega⟩, ⟨by omega, by omega⟩, ⟨by omega, by omega⟩, ⟨by omega, by omega⟩, ⟨by omega, by omega⟩, rfl⟩
    · have c34 := mt (ax_eq (n := 0) (by decide)).mpr c34
      exact W.vret hx hb hr (fun t ht hW => ⟨⟨F, rfl, ⟨trivial, trivial, (s_mono (by omega) hI), hfr⟩, by rw [ht]; exact hP, va_K.moved hW.alike hK⟩, hS.F ht⟩) hS.2.2 dX0_tryLane_18
  · intro g H locs hq
    obtain ⟨F9, ls, D275, w1, w2, w3, w4, rfl, hl, h276, hI, hP, hS, hfr, h271, h272, h273, h274⟩ := hq
    obtain ⟨f277, o278, h279⟩ := s_op38 hI h274
    refine th_iast hx hb hK hP hD hS (hLK _ h274 (by decide)) 0 o278 rfl (th_in ⟨by omega, by omega⟩) dX0_tryLane_145 (fun H locs hP hS => ?_)
    have hP : va_P (dC, dI) vwCl (va_pl L (va_up F9 w4 (.inl (cs 0, 160, .inl (upd f277 (w3 : Int32).toNatClampNeg w2))))) H := hP
    obtain ⟨F280, hF281⟩ : ∃ G : Nat → va_E, G = va_up F9 w4 (.inl (cs 0, 160, .inl (upd f277 (w3 : Int32).toNatClampNeg w2))) := ⟨_, rfl⟩
    rw [← hF281] at hP
    have hI : s_I K cs D275 F280 := by rw [hF281]; exact s_cl38 hI h274 ⟨_, rfl, trivial⟩
    have hfr : ∀ b, K b ∉ [1, 2, 5, 6, 24, 27, 28, 29, 30, 31, 32, 34, 35, 38] → F280 b = F b := by rw [hF281]; exact s_fr hfr h274 (by decide)
    refine lv_aload_n hx hb dX0_tryLane_146 rfl (lv_at hl 0 rfl) ?_
    refine lv_dup hx hb dX0_tryLane_147 rfl ?_
    obtain ⟨z282, z284, z286, z288, z290, z292, z293, z295, z296, z298, z299, z301, z302, z303, o306, h283, h285, h287, h289, h291, h294, h297, h300, h304, h305, -⟩ := s_op1 hI ha0
    refine th_get (D := (dC, dI)) (ci := 0) (v := .int z298) (C := RX0) (T := TX0) (N := 14) hx hb hts inX0 hown hK hP (hLK _ ha0 (by decide)) o306 rfl 9 (by decide) (hts _ T_157) (fun _ h9 => h9) rfl dX0_tryLane_148 ?_
    refine lv_iconst (v := 1) hx hb dX0_tryLane_151 (by decide) ?_
    refine lv_iload_n hx hb dX0_tryLane_152 rfl (lv_at hl 1 rfl) ?_
    refine lv_ishl hx hb dX0_tryLane_153 ?_
    refine lv_topi (fun v307 ev307 => ?_)
    refine lv_ior hx hb dX0_tryLane_154 ?_
    refine lv_topi (fun v308 ev308 => ?_)
    refine th_put (D := (dC, dI)) (ci := 0) (v := .int v308) (ty := .int) (C := RX0) (T := TX0) (N := 14) hx hb hts inX0 tyX0 tyX0_ok nmX0 hown hK hP hD hS (hLK _ ha0 (by decide)) o306 rfl 9 (by decide) (hts _ T_157) (fun _ h9 => h9) rfl (by decide +kernel) rfl rfl (Nat.le_of_ble_eq_true rfl) dX0_tryLane_155 (fun H locs hP hS => ?_)
    have hP : va_P (dC, dI) vwCl (va_pl L (va_up F280 a0 (.inr (0, [.ref z282, .ref z284, .ref z286, .ref z288, .ref z290, .int z292, .ref z293, .long z295, .ref z296, .int v308, .ref z299, .int z301, .int z302, .int z303])))) H := hP
    obtain ⟨F309, hF310⟩ : ∃ G : Nat → va_E, G = va_up F280 a0 (.inr (0, [.ref z282, .ref z284, .ref z286, .ref z288, .ref z290, .int z292, .ref z293, .long z295, .ref z296, .int v308, .ref z299, .int z301, .int z302, .int z303])) := ⟨_, rfl⟩
    rw [← hF310] at hP
    have hI : s_I K cs D275 F309 := by rw [hF310]; exact s_cl1 hI ha0 ⟨z282, z284, z286, z288, z290, z292, z293, z295, z296, v308, z299, z301, z302, z303, rfl, h283, h285, h287, h289, h291, h294, h297, h300, ⟨by omega, by omega⟩, h305, trivial⟩
    have hfr : ∀ b, K b ∉ [1, 2, 5, 6, 24, 27, 28, 29, 30, 31, 32, 34, 35, 38] → F309 b = F b := by rw [hF310]; exact s_fr hfr ha0 (by decide)
    have o311 : F309 a0 = .inr (0, [.ref z282, .ref z284, .ref z286, .ref z288, .ref z290, .int z292, .ref z293, .long z295, .ref z296, .int v308, .ref z299, .int z301, .int z302, .int z303]) := by rw [hF310]; exact th_up
    exact W.vret hx hb hr (fun t ht hW => ⟨⟨F309, rfl, ⟨trivial, trivial, (s_mono (by omega) hI), hfr⟩, by rw [ht]; exact hP, va_K.moved hW.alike hK⟩, hS.F ht⟩) hS.2.2 dX0_tryLane_158

