set_option maxHeartbeats 4000000 in
set_option maxRecDepth 100000 in
theorem s_X1_step (l : Launch) (dC : Nat → ClassId) (dI : Nat → Nat → Nat) (sz : Nat) {L : List Nat} {K : Nat → Nat} {cs : Nat → ClassId} (hLK : ∀ a {k : Nat}, K a = k → k ≠ 0 → a ∈ L) (D : Nat) (Dm : Nat) (hDm : D + 1 ≤ Dm) (hDM : Dm < 2147483647) (F : Nat → va_E) (a0 : Nat) (a1 : Nat) (ha0 : K a0 = 2) (ha1 : K a1 = 5) (hI : s_I K cs D F) (hPG : s_PG K cs F) : Met l yX1_step (Cond.code yX1_step cX1_step 3 (some .boolean) :: T0) ({ frames := 4, cells := 0, slots := 0, locals := 92 }) (va_Pc [.ref a0, .ref a1] (s_W dC dI sz L F [(cs 0, .int), (cs 1, .byte), (cs 2, .long), (cs 3, .object RX5), (cs 4, .object RX4), (cs 5, .array .int), (cs 6, .char), (cs 7, .boolean)])) (va_Qi (fun (r : Int32) (G : Nat → va_E) => (0 ≤ r.toInt ∧ r.toInt ≤ 1) ∧ True ∧ s_I K cs Dm G ∧ ∀ b, K b ∉ [2, 5, 6, 24, 27, 28, 29, 30, 31, 32, 34, 35] → G b = F b) (fun (G : Nat → va_E) (t : State) => va_P (dC, dI) vwCl (va_pl L G) t.heap ∧ va_K (dC, dI) vwCl [(cs 0, .int), (cs 1, .byte), (cs 2, .long), (cs 3, .object RX5), (cs 4, .object RX4), (cs 5, .array .int), (cs 6, .char), (cs 7, .boolean)] t) (fun q => q ∈ L)) 0 0 (fun q => q ∈ L) := by
  refine Met.ofW (cc := cX1_step) (maxL := 3) (ret := (some .boolean)) (by decide) rfl ?_
  intro p e s m args below meth c s₁ B hml hv
  obtain ⟨rfl, hsz, hP, hK, hD, hN⟩ := hv
  have hx := B.exec
  have hb := B.bytes
  have hr := B.returns
  have hts : ∀ w ∈ T0, w.before _ s = true := fun w h => atoms_spec (ws := Cond.code yX1_step cX1_step 3 (some .boolean) :: T0) B.pre w (List.mem_cons_of_mem _ h)
  have hown : s.vm.findClass RX1 = some m.cls := findClass_of_methodNamed B.named
  have hlocks := B.notSynchronized
  have hS : va_S (fun q => q ∈ L) s.heap s.heap [] := va_S.rf
  have hfr : ∀ b, K b ∉ [2, 5, 6, 24, 27, 28, 29, 30, 31, 32, 34, 35] → F b = F b := fun _ _ => rfl
  have hl := lv_entry ([.ref a0, .ref a1]) (n := 3) (Nat.le_of_ble_eq_true rfl)
  rw [lg_entry_eq]
  generalize (lg_sl ([.ref a0, .ref a1]) ++ List.replicate (3 - (lg_sl ([.ref a0, .ref a1])).length) Slot.unset).toArray = ls at hl ⊢
  have hl : lv_has ls 3 [(0, .ref a0), (1, .ref a1)] := hl
  have hI0 := hI
  refine s_gen hP hS (fun H locs hP hS => ?_)
  refine th_join (fun g H locs => ∃ (G : Nat → va_E) (ls : Array Slot) (Dn : Nat) (w1 : Int32), g = F0 m 63 ls [] ∧ lv_has ls 3 [(1, .ref a1), (2, .int w1)] ∧ Dn + 0 ≤ Dm ∧ s_I K cs Dn G ∧ va_P (dC, dI) vwCl (va_pl L G) H ∧ va_S (fun q => q ∈ L) s.heap H locs ∧ (∀ b, K b ∉ [2, 5, 6, 24, 27, 28, 29, 30, 31, 32, 34, 35] → G b = F b) ∧ (0 ≤ w1.toInt ∧ w1.toInt ≤ 1)) (fun K63 => ?_) ?_
  refine th_join (fun g H locs => ∃ (G : Nat → va_E) (ls : Array Slot) (Dn : Nat) (w2 : Int32), g = F0 m 52 ls [] ∧ lv_has ls 3 [(0, .ref a0), (1, .ref a1), (2, .int w2)] ∧ Dn + 0 ≤ Dm ∧ s_I K cs Dn G ∧ va_P (dC, dI) vwCl (va_pl L G) H ∧ va_S (fun q => q ∈ L) s.heap H locs ∧ (∀ b, K b ∉ [2, 5, 6, 24, 27, 28, 29, 30, 31, 32, 34, 35] → G b = F b) ∧ (1 ≤ w2.toInt ∧ w2.toInt ≤ 1)) (fun K52 => ?_) ?_
  · refine lv_aload_n hx hb dX1_step_0 rfl (lv_at hl 0 rfl) ?_
    refine lv_aload_n hx hb dX1_step_1 rfl (lv_at hl 1 rfl) ?_
    obtain ⟨z3, z5, z7, z9, z11, z13, z14, z16, z17, z18, z20, z21, o22, h4, h6, h8, h10, h12, h15, h19, -⟩ := s_op2 hI ha0
    refine va_calli (va_runV (As := [.ref a1]) (rest := []) ⟨hx, hb, hml, hown, hts⟩ (s_X1_foresee l dC dI H.size hLK D F a0 a1 ha0 ha1 hI (s_PGt hI0 hfr (by decide) hPG)) (cwV 1 hts (ax_gV T_701 T_703 T_704 T_137 T_702) rfl rfl rfl (by decide +kernel) ⟨Nat.le_of_ble_eq_true rfl, Nat.le_of_ble_eq_true rfl⟩) ⟨fun a U g mk q => ⟨q.1, s_pc rfl rfl q.2⟩, s_recv hK hP (hLK _ ha0 (by decide)) (ci := 1) rfl o22, fun U hU hW => ⟨rfl, s_pw hU hW hP hK hD hN⟩⟩ rfl rfl hl.1 rfl (lv_room (Nat.le_of_ble_eq_true rfl)) dX1_step_2 ⟨Nat.zero_le _, Nat.zero_le _⟩) hS (fun q _ h => h) (fun q h => h) (fun r23 F24 t H1 locs ht hvm hw hB hz1 hk1 hS => ?_)
    obtain ⟨hP, hK1⟩ := hB
    rw [ht] at hP
    generalize H1 = H at hP hS ⊢
    obtain ⟨h25, h26, hI, hfr1, h27⟩ := hw
    have hfr : ∀ b, K b ∉ [2, 5, 6, 24, 27, 28, 29, 30, 31, 32, 34, 35] → F24 b = F b := fun b hb9 => (hfr1 b (fun q => hb9 (s_sub (by decide) q))).trans (hfr b hb9)
    obtain ⟨h26, h28⟩ := h26
    have h28 : (¬ r23 = 0 → (∀ z0 z1 z2 z3 z4 z5 z6 z7 z8 z9 z10 z11 f g, F24 a0 = .inr (1, [.ref z0, .ref z1, .ref z2, .ref z3, .ref z4, .ref z5, .int z6, .int z7, .int z8, .int z9, .int z10, .long z11]) → F24 z0 = .inl (cs 0, 8, .inl f) → F24 z5 = .inl (cs 0, 7, .inl g) → ∀ i : Int32, 0 ≤ i.toInt → i.toInt < 8 → ¬ (z8 >>> (i &&& 31) &&& 1) = 0 → 9 ≤ (g 0).toInt → (g 0).toInt ≤ 11 → (f i.toNatClampNeg).toInt ≤ 31) ∧ (∀ z0 z1 z2 z3 z4 z5 z6 z7 z8 z9 z10 z11 g, F24 a0 = .inr (1, [.ref z0, .ref z1, .ref z2, .ref z3, .ref z4, .ref z5, .int z6, .int z7, .int z8, .int z9, .int z10, .long z11]) → F24 z5 = .inl (cs 0, 7, .inl g) → (g 0).toInt < 7 → 0 ≤ (g 1).toInt)) := h28
    refine lv_istore_n (lv' := [(2, .int r23), (0, .ref a0), (1, .ref a1)]) hx hb dX1_step_5 rfl hl (by decide) rfl (fun ls hl => ?_)
    refine lv_iload_n hx hb dX1_step_6 rfl (lv_at hl 0 rfl) ?_
    refine lv_if_eq (tgt := 63) hx hb dX1_step_7 (by decide) (fun c29 => ?_) (fun c29 => ?_)
    · have c29 := (ax_eq (n := 0) (by decide)).mp c29
      exact K63 _ _ _ ⟨F24, _, D, r23, rfl, lv_sub hl [2, 0] rfl, by omega, hI, hP, hS, hfr, ⟨by omega, by omega⟩⟩
    · have c29 := mt (ax_eq (n := 0) (by decide)).mpr c29
      obtain ⟨z30, z32, z34, z36, z38, z40, z42, z44, z45, z46, z48, z49, o50, h31, h33, h35, h37, h39, h41, h43, h47, -⟩ := h27 (fun q => c29 (by rw [q]; decide))
      obtain ⟨hMR, hGR⟩ := h28 (fun q => c29 (by rw [q]; decide))
      obtain ⟨f51, o52, h53⟩ := s_op34 hI h31
      obtain ⟨f54, o55, h56⟩ := s_op23 hI h41
      have hadr := hMR _ _ _ _ _ _ _ _ _ _ _ _ f51 f54 o50 o52 o55
      have hrow := hGR _ _ _ _ _ _ _ _ _ _ _ _ f54 o50 o55
      refine lv_aload_n hx hb dX1_step_10 rfl (lv_at hl 1 rfl) ?_
      refine va_callv (va_runV (As := []) (rest := []) ⟨hx, hb, hml, hown, hts⟩ (s_X1_keepLine l dC dI H.size hLK D (D + 1) (Nat.le_refl _) (by omega) F24 a0 ha0 hI ⟨z30, z32, z34, z36, z38, z40, z42, z44, z45, z46, z48, z49, o50, h31, h33, h35, h37, h39, h41, ⟨by omega, by omega⟩, ⟨by omega, by omega⟩, trivial⟩) (cwV 0 hts (ax_gV T_705 T_707 T_708 T_137 T_706) rfl rfl rfl (by decide +kernel) ⟨Nat.le_of_ble_eq_true rfl, Nat.le_of_ble_eq_true rfl⟩) ⟨fun a U g mk q => ⟨q.1, s_pc rfl rfl q.2⟩, s_recv hK hP (hLK _ ha0 (by decide)) (ci := 1) rfl o50, fun U hU hW => ⟨rfl, s_pw hU hW hP hK hD hN⟩⟩ rfl rfl hl.1 rfl (lv_room (Nat.le_of_ble_eq_true rfl)) dX1_step_11 ⟨Nat.zero_le _, Nat.zero_le _⟩) hS (fun q _ h => h) (fun q h => h) (fun F57 t H1 locs ht hvm hw hB hz1 hk1 hS => ?_)
      obtain ⟨hP, hK1⟩ := hB
      rw [ht] at hP
      generalize H1 = H at hP hS ⊢
      obtain ⟨h58, h59, hI, hfr1⟩ := hw
      have o60 : F57 a0 = .inr (1, [.ref z30, .ref z32, .ref z34, .ref z36, .ref z38, .ref z40, .int z42, .int z44, .int z45, .int z46, .int z48, .long z49]) := (hfr1 _ (by rw [ha0]; decide)).trans o50
      have o61 : F57 z30 = .inl (cs 0, 8, .inl f51) := (hfr1 _ (by rw [h31]; decide)).trans o52
      have o62 : F57 z40 = .inl (cs 0, 7, .inl f54) := (hfr1 _ (by rw [h41]; decide)).trans o55
      have hfr : ∀ b, K b ∉ [2, 5, 6, 24, 27, 28, 29, 30, 31, 32, 34, 35] → F57 b = F b := fun b hb9 => (hfr1 b (fun q => hb9 (s_sub (by decide) q))).trans (hfr b hb9)
      refine lv_aload_n hx hb dX1_step_14 rfl (lv_at hl 1 rfl) ?_
      refine th_get (D := (dC, dI)) (ci := 1) (v := .ref z38) (C := RX1) (T := TX1) (N := 12) hx hb hts inX1 hown hK hP (hLK _ ha0 (by decide)) o60 rfl 4 (by decide) (hts _ T_612) (fun _ h9 => h9) rfl dX1_step_15 ?_
      refine lv_aload_n hx hb dX1_step_18 rfl (lv_at hl 2 rfl) ?_
      obtain ⟨z63, z65, z67, z69, z71, z73, z75, z77, z79, z80, z81, z83, z84, z86, z87, o89, h64, h66, h68, h70, h72, h74, h76, h78, h82, h85, h88, -⟩ := s_op5 hI ha1
      refine th_getN (D := (dC, dI)) (ci := 4) (v := .int z83) (C := RX4) (T := TX4) (N := 15) hx hb hts inX4 hown hK hP (hLK _ ha1 (by decide)) o89 rfl 11 (by decide) (va_Nw.use rfl (ax_n25 hN)) (fun _ h9 => h9) rfl dX1_step_19 ?_
      refine lv_aload_n hx hb dX1_step_22 rfl (lv_at hl 1 rfl) ?_
      refine th_get (D := (dC, dI)) (ci := 1) (v := .int z48) (C := RX1) (T := TX1) (N := 12) hx hb hts inX1 hown hK hP (hLK _ ha0 (by decide)) o60 rfl 10 (by decide) (hts _ T_646) (fun _ h9 => h9) rfl dX1_step_23 ?_
      refine lv_iadd hx hb dX1_step_26 ?_
      refine lv_topi (fun v90 ev90 => ?_)
      obtain ⟨z91, z93, z95, z97, z99, z101, z103, z104, z105, z106, z107, o109, h92, h94, h96, h98, h100, h102, h108, -⟩ := s_op6 hI h39
      refine th_putN (D := (dC, dI)) (ci := 5) (v := .int v90) (ty := .int) (C := RX5) (T := TX5) (N := 11) hx hb hts inX5 tyX5 tyX5_ok nmX5 hown hK hP hD hS (hLK _ h39 (by decide)) o109 rfl 8 (by decide) (va_Nw.use rfl (ax_n38 hN)) (fun _ h9 => h9) rfl (by decide +kernel) rfl rfl (Nat.le_of_ble_eq_true rfl) dX1_step_27 (fun H locs hP hS => ?_)
      have hP : va_P (dC, dI) vwCl (va_pl L (va_up F57 z38 (.inr (5, [.ref z91, .ref z93, .ref z95, .ref z97, .ref z99, .int z101, .int z103, .int z104, .int v90, .int z106, .int z107])))) H := hP
      obtain ⟨F110, hF111⟩ : ∃ G : Nat → va_E, G = va_up F57 z38 (.inr (5, [.ref z91, .ref z93, .ref z95, .ref z97, .ref z99, .int z101, .int z103, .int z104, .int v90, .int z106, .int z107])) := ⟨_, rfl⟩
      rw [← hF111] at hP
      have hI : s_I K cs (D + 1) F110 := by rw [hF111]; exact s_cl6 hI h39 ⟨z91, z93, z95, z97, z99, z101, z103, z104, v90, z106, z107, rfl, h92, h94, h96, h98, h100, ⟨by omega, by omega⟩, ⟨by omega, by omega⟩, trivial⟩
      have hfr : ∀ b, K b ∉ [2, 5, 6, 24, 27, 28, 29, 30, 31, 32, 34, 35] → F110 b = F b := by rw [hF111]; exact s_fr hfr h39 (by decide)
      have o112 : F110 a0 = .inr (1, [.ref z30, .ref z32, .ref z34, .ref z36, .ref z38, .ref z40, .int z42, .int z44, .int z45, .int z46, .int z48, .long z49]) := by rw [hF111]; exact th_ne (th_kd ha0 h39 (by decide)) o60
      have o113 : F110 a1 = .inr (4, [.ref z63, .ref z65, .ref z67, .ref z69, .ref z71, .ref z73, .ref z75, .int z77, .int z79, .int z80, .int z81, .int z83, .int z84, .int z86, .int z87]) := by rw [hF111]; exact th_ne (th_kd ha1 h39 (by decide)) o89
      have o114 : F110 z30 = .inl (cs 0, 8, .inl f51) := by rw [hF111]; exact th_ne (th_kd h31 h39 (by decide)) o61
      have o115 : F110 z40 = .inl (cs 0, 7, .inl f54) := by rw [hF111]; exact th_ne (th_kd h41 h39 (by decide)) o62
      have o116 : F110 z38 = .inr (5, [.ref z91, .ref z93, .ref z95, .ref z97, .ref z99, .int z101, .int z103, .int z104, .int v90, .int z106, .int z107]) := by rw [hF111]; exact th_up
      refine lv_aload_n hx hb dX1_step_30 rfl (lv_at hl 1 rfl) ?_
      refine va_callv (va_runV (As := []) (rest := []) ⟨hx, hb, hml, hown, hts⟩ (s_X1_work l dC dI H.size hLK (D + 1) F110 a0 ha0 hI ⟨z30, z32, z34, z36, z38, z40, z42, z44, z45, z46, z48, z49, o112, h31, h33, h35, h37, h39, h41, ⟨by omega, by omega⟩, ⟨by omega, by omega⟩, trivial⟩ (fun z0 z1 z2 z3 z4 z5 z6 z7 z8 z9 z10 z11 f g q1 q2 q3 => by rw [o112] at q1; cases q1; rw [o114] at q2; cases q2; rw [o115] at q3; cases q3; exact hadr) (fun z0 z1 z2 z3 z4 z5 z6 z7 z8 z9 z10 z11 g q1 q3 => by rw [o112] at q1; cases q1; rw [o115] at q3; cases q3; exact hrow)) (cwV 0 hts (ax_gV T_709 T_711 T_712 T_137 T_710) rfl rfl rfl (by decide +kernel) ⟨Nat.le_of_ble_eq_true rfl, Nat.le_of_ble_eq_true rfl⟩) ⟨fun a U g mk q => ⟨q.1, s_pc rfl rfl q.2⟩, s_recv hK hP (hLK _ ha0 (by decide)) (ci := 1) rfl o112, fun U hU hW => ⟨rfl, s_pw hU hW hP hK hD hN⟩⟩ rfl rfl hl.1 rfl (lv_room (Nat.le_of_ble_eq_true rfl)) dX1_step_31 ⟨Nat.zero_le _, Nat.zero_le _⟩) hS (fun q _ h => h) (fun q h => h) (fun F117 t H1 locs ht hvm hw hB hz1 hk1 hS => ?_)
      obtain ⟨hP, hK1⟩ := hB
      rw [ht] at hP
      generalize H1 = H at hP hS ⊢
      obtain ⟨h118, h119, hI, hfr1⟩ := hw
      have o120 : F117 a1 = .inr (4, [.ref z63, .ref z65, .ref z67, .ref z69, .ref z71, .ref z73, .ref z75, .int z77, .int z79, .int z80, .int z81, .int z83, .int z84, .int z86, .int z87]) := (hfr1 _ (by rw [ha1]; decide)).trans o113
      have o121 : F117 z38 = .inr (5, [.ref z91, .ref z93, .ref z95, .ref z97, .ref z99, .int z101, .int z103, .int z104, .int v90, .int z106, .int z107]) := (hfr1 _ (by rw [h39]; decide)).trans o116
      have o122 : F117 z30 = .inl (cs 0, 8, .inl f51) := (hfr1 _ (by rw [h31]; decide)).trans o114
      have o123 : F117 z40 = .inl (cs 0, 7, .inl f54) := (hfr1 _ (by rw [h41]; decide)).trans o115
      have hfr : ∀ b, K b ∉ [2, 5, 6, 24, 27, 28, 29, 30, 31, 32, 34, 35] → F117 b = F b := fun b hb9 => (hfr1 b (fun q => hb9 (s_sub (by decide) q))).trans (hfr b hb9)
      obtain ⟨h119, h124⟩ := h119
      have h124 : (∀ vs, F110 a0 = .inr (1, vs) → ∃ w, F117 a0 = .inr (1, vs.set 11 (.long w))) := h124
      obtain ⟨z125, o126⟩ := h124 _ o112
      have o126 : F117 a0 = .inr (1, [.ref z30, .ref z32, .ref z34, .ref z36, .ref z38, .ref z40, .int z42, .int z44, .int z45, .int z46, .int z48, .long z125]) := o126
      refine lv_aload_n hx hb dX1_step_34 rfl (lv_at hl 2 rfl) ?_
      refine th_getN (D := (dC, dI)) (ci := 4) (v := .int z79) (C := RX4) (T := TX4) (N := 15) hx hb hts inX4 hown hK hP (hLK _ ha1 (by decide)) o120 rfl 8 (by decide) (va_Nw.use rfl (ax_n31 hN)) (fun _ h9 => h9) rfl dX1_step_35 ?_
      refine lv_if_ne (tgt := 48) hx hb dX1_step_38 (by decide) (fun c127 => ?_) (fun c127 => ?_)
      · have c127 := mt (ax_eq (n := 0) (by decide)).mpr c127
        refine lv_aload_n hx hb dX1_step_48 rfl (lv_at hl 1 rfl) ?_
        refine va_callv (va_runV (As := []) (rest := []) ⟨hx, hb, hml, hown, hts⟩ (s_X1_moveEach l dC dI H.size hLK (D + 1) F117 a0 ha0 hI ⟨z30, z32, z34, z36, z38, z40, z42, z44, z45, z46, z48, z125, o126, h31, h33, h35, h37, h39, h41, ⟨by omega, by omega⟩, ⟨by omega, by omega⟩, trivial⟩) (cwV 0 hts (ax_gV T_717 T_719 T_720 T_137 T_718) rfl rfl rfl (by decide +kernel) ⟨Nat.le_of_ble_eq_true rfl, Nat.le_of_ble_eq_true rfl⟩) ⟨fun a U g mk q => ⟨q.1, s_pc rfl rfl q.2⟩, s_recv hK hP (hLK _ ha0 (by decide)) (ci := 1) rfl o126, fun U hU hW => ⟨rfl, s_pw hU hW hP hK hD hN⟩⟩ rfl rfl hl.1 rfl (lv_room (Nat.le_of_ble_eq_true rfl)) dX1_step_49 ⟨Nat.zero_le _, Nat.zero_le _⟩) hS (fun q _ h => h) (fun q h => h) (fun F128 t H1 locs ht hvm hw hB hz1 hk1 hS => ?_)
        obtain ⟨hP, hK1⟩ := hB
        rw [ht] at hP
        generalize H1 = H at hP hS ⊢
        obtain ⟨h129, h130, hI, hfr1⟩ := hw
        have o131 : F128 a1 = .inr (4, [.ref z63, .ref z65, .ref z67, .ref z69, .ref z71, .ref z73, .ref z75, .int z77, .int z79, .int z80, .int z81, .int z83, .int z84, .int z86, .int z87]) := (hfr1 _ (by rw [ha1]; decide)).trans o120
        have o132 : F128 a0 = .inr (1, [.ref z30, .ref z32, .ref z34, .ref z36, .ref z38, .ref z40, .int z42, .int z44, .int z45, .int z46, .int z48, .long z125]) := (hfr1 _ (by rw [ha0]; decide)).trans o126
        have o133 : F128 z30 = .inl (cs 0, 8, .inl f51) := (hfr1 _ (by rw [h31]; decide)).trans o122
        have o134 : F128 z40 = .inl (cs 0, 7, .inl f54) := (hfr1 _ (by rw [h41]; decide)).trans o123
        have hfr : ∀ b, K b ∉ [2, 5, 6, 24, 27, 28, 29, 30, 31, 32, 34, 35] → F128 b = F b := fun b hb9 => (hfr1 b (fun q => hb9 (s_sub (by decide) q))).trans (hfr b hb9)
        exact K52 _ _ _ ⟨F128, _, (D + 1), r23, rfl, lv_sub hl [1, 2, 0] rfl, by omega, hI, hP, hS, hfr, ⟨by omega, by omega⟩⟩
      · have c127 := (ax_eq (n := 0) (by decide)).mp c127
        refine lv_aload_n hx hb dX1_step_41 rfl (lv_at hl 1 rfl) ?_
        refine va_callv (va_runV (As := []) (rest := []) ⟨hx, hb, hml, hown, hts⟩ (s_X1_moveTop l dC dI H.size hLK (D + 1) F117 a0 ha0 hI ⟨z30, z32, z34, z36, z38, z40, z42, z44, z45, z46, z48, z125, o126, h31, h33, h35, h37, h39, h41, ⟨by omega, by omega⟩, ⟨by omega, by omega⟩, trivial⟩) (cwV 0 hts (ax_gV T_713 T_715 T_716 T_137 T_714) rfl rfl rfl (by decide +kernel) ⟨Nat.le_of_ble_eq_true rfl, Nat.le_of_ble_eq_true rfl⟩) ⟨fun a U g mk q => ⟨q.1, s_pc rfl rfl q.2⟩, s_recv hK hP (hLK _ ha0 (by decide)) (ci := 1) rfl o126, fun U hU hW => ⟨rfl, s_pw hU hW hP hK hD hN⟩⟩ rfl rfl hl.1 rfl (lv_room (Nat.le_of_ble_eq_true rfl)) dX1_step_42 ⟨Nat.zero_le _, Nat.zero_le _⟩) hS (fun q _ h => h) (fun q h => h) (fun F135 t H1 locs ht hvm hw hB hz1 hk1 hS => ?_)
        obtain ⟨hP, hK1⟩ := hB
        rw [ht] at hP
        generalize H1 = H at hP hS ⊢
        obtain ⟨h136, h137, hI, hfr1⟩ := hw
        have o138 : F135 a1 = .inr (4, [.ref z63, .ref z65, .ref z67, .ref z69, .ref z71, .ref z73, .ref z75, .int z77, .int z79, .int z80, .int z81, .int z83, .int z84, .int z86, .int z87]) := (hfr1 _ (by rw [ha1]; decide)).trans o120
        have o139 : F135 a0 = .inr (1, [.ref z30, .ref z32, .ref z34, .ref z36, .ref z38, .ref z40, .int z42, .int z44, .int z45, .int z46, .int z48, .long z125]) := (hfr1 _ (by rw [ha0]; decide)).trans o126
        have o140 : F135 z30 = .inl (cs 0, 8, .inl f51) := (hfr1 _ (by rw [h31]; decide)).trans o122
        have o141 : F135 z40 = .inl (cs 0, 7, .inl f54) := (hfr1 _ (by rw [h41]; decide)).trans o123
        have hfr : ∀ b, K b ∉ [2, 5, 6, 24, 27, 28, 29, 30, 31, 32, 34, 35] → F135 b = F b := fun b hb9 => (hfr1 b (fun q => hb9 (s_sub (by decide) q))).trans (hfr b hb9)
        refine lv_goto (tgt := 52) hx hb dX1_step_45 (by decide) ?_
        exact K52 _ _ _ ⟨F135, _, (D + 1), r23, rfl, lv_sub hl [1, 2, 0] rfl, by omega, hI, hP, hS, hfr, ⟨by omega, by omega⟩⟩
  · intro g H locs hq
    obtain ⟨F9, ls, D143, w2, rfl, hl, h144, hI, hP, hS, hfr, h142⟩ := hq
    refine lv_aload_n hx hb dX1_step_52 rfl (lv_at hl 1 rfl) ?_
    refine lv_aload_n hx hb dX1_step_53 rfl (lv_at hl 0 rfl) ?_
    obtain ⟨z145, z147, z149, z151, z153, z155, z156, z158, z159, z160, z162, z163, o164, h146, h148, h150, h152, h154, h157, h161, -⟩ := s_op2 hI ha0
    refine th_get (D := (dC, dI)) (ci := 1) (v := .ref z149) (C := RX1) (T := TX1) (N := 12) hx hb hts inX1 hown hK hP (hLK _ ha0 (by decide)) o164 rfl 2 (by decide) (hts _ T_121) (fun _ h9 => h9) rfl dX1_step_54 ?_
    obtain ⟨z165, z167, z169, z171, z173, z175, z176, o177, h166, h168, h170, h172, h174, -⟩ := s_op3 hI h150
    refine th_getN (D := (dC, dI)) (ci := 2) (v := .int z171) (C := RX2) (T := TX2) (N := 7) hx hb hts inX2 hown hK hP (hLK _ h150 (by decide)) o177 rfl 3 (by decide) (va_Nw.use rfl (ax_n21 hN)) (fun _ h9 => h9) rfl dX1_step_57 ?_
    obtain ⟨z178, z180, z182, z184, z186, z188, z190, z192, z194, z195, z196, z198, z199, z201, z202, o204, h179, h181, h183, h185, h187, h189, h191, h193, h197, h200, h203, -⟩ := s_op5 hI ha1
    refine va_callv (va_runV (As := [.int z171]) (rest := []) ⟨hx, hb, hml, hown, hts⟩ (s_X4_passBarIfAllWait l dC dI H.size hLK D143 F9 a1 z171 ha1 hI) (cwV 1 hts (ax_gV T_721 T_723 T_724 T_142 T_722) rfl rfl rfl (by decide +kernel) ⟨Nat.le_of_ble_eq_true rfl, Nat.le_of_ble_eq_true rfl⟩) ⟨fun a U g mk q => ⟨q.1, s_pc rfl rfl q.2⟩, s_recv hK hP (hLK _ ha1 (by decide)) (ci := 4) rfl o204, fun U hU hW => ⟨rfl, s_pw hU hW hP hK hD hN⟩⟩ rfl rfl hl.1 rfl (lv_room (Nat.le_of_ble_eq_true rfl)) dX1_step_60 ⟨Nat.zero_le _, Nat.zero_le _⟩) hS (fun q _ h => h) (fun q h => h) (fun F205 t H1 locs ht hvm hw hB hz1 hk1 hS => ?_)
    obtain ⟨hP, hK1⟩ := hB
    rw [ht] at hP
    generalize H1 = H at hP hS ⊢
    obtain ⟨h206, h207, hI, hfr1⟩ := hw
    have o208 : F205 a0 = .inr (1, [.ref z145, .ref z147, .ref z149, va_rf z151, va_rf z153, va_rf z155, .int z156, .int z158, .int z159, .int z160, .int z162, .long z163]) := (hfr1 _ (by rw [ha0]; decide)).trans o164
    have o209 : F205 z149 = .inr (2, [.ref z165, .ref z167, .ref z169, .int z171, .int z173, .int z175, .int z176]) := (hfr1 _ (by rw [h150]; decide)).trans o177
    have hfr : ∀ b, K b ∉ [2, 5, 6, 24, 27, 28, 29, 30, 31, 32, 34, 35] → F205 b = F b := fun b hb9 => (hfr1 b (fun q => hb9 (s_sub (by decide) q))).trans (hfr b hb9)
    exact K63 _ _ _ ⟨F205, _, D143, w2, rfl, lv_sub hl [1, 2] rfl, by omega, hI, hP, hS, hfr, ⟨by omega, by omega⟩⟩
  · intro g H locs hq
    obtain ⟨F9, ls, D211, w1, rfl, hl, h212, hI, hP, hS, hfr, h210⟩ := hq
    refine lv_aload_n hx hb dX1_step_63 rfl (lv_at hl 0 rfl) ?_
    refine lv_dup hx hb dX1_step_64 rfl ?_
    obtain ⟨z213, z215, z217, z219, z221, z223, z225, z227, z229, z230, z231, z233, z234, z236, z237, o239, h214, h216, h218, h220, h222, h224, h226, h228, h232, h235, h238, -⟩ := s_op5 hI ha1
    refine th_getN (D := (dC, dI)) (ci := 4) (v := .int z233) (C := RX4) (T := TX4) (N := 15) hx hb hts inX4 hown hK hP (hLK _ ha1 (by decide)) o239 rfl 11 (by decide) (va_Nw.use rfl (ax_n25 hN)) (fun _ h9 => h9) rfl dX1_step_65 ?_
    refine lv_iconst (v := 1) hx hb dX1_step_68 (by decide) ?_
    refine lv_iadd hx hb dX1_step_69 ?_
    refine lv_topi (fun v240 ev240 => ?_)
    refine th_putN (D := (dC, dI)) (ci := 4) (v := .int v240) (ty := .int) (C := RX4) (T := TX4) (N := 15) hx hb hts inX4 tyX4 tyX4_ok nmX4 hown hK hP hD hS (hLK _ ha1 (by decide)) o239 rfl 11 (by decide) (va_Nw.use rfl (ax_n25 hN)) (fun _ h9 => h9) rfl (by decide +kernel) rfl rfl (Nat.le_of_ble_eq_true rfl) dX1_step_70 (fun H locs hP hS => ?_)
    have hP : va_P (dC, dI) vwCl (va_pl L (va_up F9 a1 (.inr (4, [.ref z213, .ref z215, .ref z217, .ref z219, .ref z221, .ref z223, .ref z225, .int z227, .int z229, .int z230, .int z231, .int v240, .int z234, .int z236, .int z237])))) H := hP
    obtain ⟨F241, hF242⟩ : ∃ G : Nat → va_E, G = va_up F9 a1 (.inr (4, [.ref z213, .ref z215, .ref z217, .ref z219, .ref z221, .ref z223, .ref z225, .int z227, .int z229, .int z230, .int z231, .int v240, .int z234, .int z236, .int z237])) := ⟨_, rfl⟩
    rw [← hF242] at hP
    have hI : s_I K cs D211 F241 := by rw [hF242]; exact s_cl5 hI ha1 ⟨z213, z215, z217, z219, z221, z223, z225, z227, z229, z230, z231, v240, z234, z236, z237, rfl, h214, h216, h218, h220, h222, h224, h226, ⟨by omega, by omega⟩, ⟨by omega, by omega⟩, ⟨by omega, by omega⟩, ⟨by omega, by omega⟩, trivial⟩
    have hfr : ∀ b, K b ∉ [2, 5, 6, 24, 27, 28, 29, 30, 31, 32, 34, 35] → F241 b = F b := by rw [hF242]; exact s_fr hfr ha1 (by decide)
    have o243 : F241 a1 = .inr (4, [.ref z213, .ref z215, .ref z217, .ref z219, .ref z221, .ref z223, .ref z225, .int z227, .int z229, .int z230, .int z231, .int v240, .int z234, .int z236, .int z237]) := by rw [hF242]; exact th_up
    refine lv_iload_n hx hb dX1_step_73 rfl (lv_at hl 1 rfl) ?_
    exact W.zret (v := w1) (ty := .boolean) hx hb hr (th_nz ⟨by omega, by omega⟩) (fun t ht hW => ⟨⟨w1, F241, rfl, ⟨⟨by omega, by omega⟩, trivial, (s_mono (by omega) hI), hfr⟩, by rw [ht]; exact hP, va_K.moved hW.alike hK⟩, hS.F ht⟩) hS.2.2 dX1_step_74

set_option maxHeartbeats 4000000 in
set_option maxRecDepth 100000 in
theorem s_X0_behind (l : Launch) (dC : Nat → ClassId) (dI : Nat → Nat → Nat) (sz : Nat) {L : List Nat} {K : Nat → Nat} {cs : Nat → ClassId} (hLK : ∀ a {k : Nat}, K a = k → k ≠ 0 → a ∈ L) (D : Nat) (Dm : Nat) (hDm : D + 401 ≤ Dm) (hDM : Dm < 2147483647) (F : Nat → va_E) (a0 : Nat) (a1 : Nat) (x2 : Int32) (ha0 : K a0 = 1) (ha1 : K a1 = 5) (hx2 : 0 ≤ x2.toInt ∧ x2.toInt ≤ 400) (hI : s_I K cs D F) (hPG : s_PG K cs F) : Met l yX0_behind (Cond.code yX0_behind cX0_behind 4 (some (.object "LaneWarps$State")) :: T0) ({ frames := 5, cells := 0, slots := 0, locals := 114 }) (va_Pc [.ref a0, .ref a1, .int x2] (s_W dC dI sz L F [(cs 0, .int), (cs 1, .byte), (cs 2, .long), (cs 3, .object RX5), (cs 4, .object RX4), (cs 5, .array .int), (cs 6, .char), (cs 7, .boolean)])) (va_Qr (fun (G : Nat → va_E) => True ∧ True ∧ s_I K cs Dm G ∧ ∀ b, K b ∉ [2, 5, 6, 24, 27, 28, 29, 30, 31, 32, 34, 35] → G b = F b) (fun (G : Nat → va_E) (r : Nat) (t : State) => K r = 5 ∧ va_P (dC, dI) vwCl (va_pl L G) t.heap ∧ va_K (dC, dI) vwCl [(cs 0, .int), (cs 1, .byte), (cs 2, .long), (cs 3, .object RX5), (cs 4, .object RX4), (cs 5, .array .int), (cs 6, .char), (cs 7, .boolean)] t) (fun q => q ∈ L)) 0 0 (fun q => q ∈ L) := by
  refine Met.ofW (cc := cX0_behind) (maxL := 4) (ret := (some (.object "LaneWarps$State"))) (by decide) rfl ?_
  intro p e s m args below meth c s₁ B hml hv
  obtain ⟨rfl, hsz, hP, hK, hD, hN⟩ := hv
  have hx := B.exec
  have hb := B.bytes
  have hr := B.returns
  have hts : ∀ w ∈ T0, w.before _ s = true := fun w h => atoms_spec (ws := Cond.code yX0_behind cX0_behind 4 (some (.object "LaneWarps$State")) :: T0) B.pre w (List.mem_cons_of_mem _ h)
  have hown : s.vm.findClass RX0 = some m.cls := findClass_of_methodNamed B.named
  have hlocks := B.notSynchronized
  have hS : va_S (fun q => q ∈ L) s.heap s.heap [] := va_S.rf
  have hfr : ∀ b, K b ∉ [2, 5, 6, 24, 27, 28, 29, 30, 31, 32, 34, 35] → F b = F b := fun _ _ => rfl
  have hl := lv_entry ([.ref a0, .ref a1, .int x2]) (n := 4) (Nat.le_of_ble_eq_true rfl)
  rw [lg_entry_eq]
  generalize (lg_sl ([.ref a0, .ref a1, .int x2]) ++ List.replicate (4 - (lg_sl ([.ref a0, .ref a1, .int x2])).length) Slot.unset).toArray = ls at hl ⊢
  have hl : lv_has ls 4 [(0, .ref a0), (1, .ref a1), (2, .int x2)] := hl
  have hI0 := hI
  refine s_gen hP hS (fun H locs hP hS => ?_)
  refine lv_aload_n hx hb dX0_behind_0 rfl (lv_at hl 0 rfl) ?_
  obtain ⟨z1, z3, z5, z7, z9, z11, z12, z14, z15, z17, z18, z20, z21, z22, o24, h2, h4, h6, h8, h10, h13, h16, h19, h23, -⟩ := s_op1 hI ha0
  refine th_get (D := (dC, dI)) (ci := 0) (v := .ref z5) (C := RX0) (T := TX0) (N := 14) hx hb hts inX0 hown hK hP (hLK _ ha0 (by decide)) o24 rfl 2 (by decide) (hts _ T_146) (fun _ h9 => h9) rfl dX0_behind_1 ?_
  refine lv_aload_n hx hb dX0_behind_4 rfl (lv_at hl 1 rfl) ?_
  obtain ⟨z25, z27, z29, z31, z33, z35, z37, z39, z41, z42, z43, z45, z46, z48, z49, o51, h26, h28, h30, h32, h34, h36, h38, h40, h44, h47, h50, -⟩ := s_op5 hI h6
  refine va_callv (va_runV (As := [.ref a1]) (rest := []) ⟨hx, hb, hml, hown, hts⟩ (s_X4_copyFrom l dC dI H.size hLK D F z5 a1 h6 ha1 hI) (cwV 1 hts (ax_gV T_558 T_560 T_561 T_142 T_559) rfl rfl rfl (by decide +kernel) ⟨Nat.le_of_ble_eq_true rfl, Nat.le_of_ble_eq_true rfl⟩) ⟨fun a U g mk q => ⟨q.1, s_pc rfl rfl q.2⟩, s_recv hK hP (hLK _ h6 (by decide)) (ci := 4) rfl o51, fun U hU hW => ⟨rfl, s_pw hU hW hP hK hD hN⟩⟩ rfl rfl hl.1 rfl (lv_room (Nat.le_of_ble_eq_true rfl)) dX0_behind_5 ⟨Nat.zero_le _, Nat.zero_le _⟩) hS (fun q _ h => h) (fun q h => h) (fun F52 t H1 locs ht hvm hw hB hz1 hk1 hS => ?_)
  obtain ⟨hP, hK1⟩ := hB
  rw [ht] at hP
  generalize H1 = H at hP hS ⊢
  obtain ⟨h53, h54, hI, hfr1⟩ := hw
  have o55 : F52 a0 = .inr (0, [.ref z1, .ref z3, .ref z5, .ref z7, .ref z9, .int z11, .ref z12, .long z14, .ref z15, .int z17, .ref z18, .int z20, .int z21, .int z22]) := (hfr1 _ (by rw [ha0]; decide)).trans o24
  have hfr : ∀ b, K b ∉ [2, 5, 6, 24, 27, 28, 29, 30, 31, 32, 34, 35] → F52 b = F b := fun b hb9 => (hfr1 b (fun q => hb9 (s_sub (by decide) q))).trans (hfr b hb9)
  refine lv_iconst (v := 0) hx hb dX0_behind_8 (by decide) ?_
  refine lv_istore_n (lv' := [(3, .int 0), (0, .ref a0), (1, .ref a1), (2, .int x2)]) hx hb dX0_behind_9 rfl hl (by decide) rfl (fun ls hl => ?_)
  refine th_loop (fun n g H locs => ∃ (G : Nat → va_E) (ls : Array Slot) (Dn : Nat) (w56 : Int32), g = F0 m 10 ls [] ∧ lv_has ls 4 [(0, .ref a0), (2, .int x2), (3, .int w56)] ∧ Dn + 1 * n + 0 ≤ Dm ∧ s_I K cs Dn G ∧ va_P (dC, dI) vwCl (va_pl L G) H ∧ va_S (fun q => q ∈ L) s.heap H locs ∧ (∀ b, K b ∉ [2, 5, 6, 24, 27, 28, 29, 30, 31, 32, 34, 35] → G b = F b) ∧ (0 ≤ w56.toInt ∧ w56.toInt ≤ 400) ∧ (0 ≤ x2.toInt ∧ x2.toInt ≤ 400) ∧ n = (401 - w56.toInt).toNat) _ ⟨F52, _, D, 0, rfl, lv_sub hl [1, 3, 0] rfl, by omega, hI, hP, hS, hfr, (by decide), ⟨by omega, by omega⟩, rfl⟩ (fun n ih10 g H locs hq => ?_)
  obtain ⟨F9, ls, D59, w56, rfl, hl, h60, hI, hP, hS, hfr, h57, h58, hn⟩ := hq
  have hn_10 := hn
  obtain ⟨n_10, hn9_10⟩ : ∃ q, q = n := ⟨_, rfl⟩
  refine lv_iload_n hx hb dX0_behind_10 rfl (lv_at hl 2 rfl) ?_
  refine lv_iload_n hx hb dX0_behind_11 rfl (lv_at hl 1 rfl) ?_
  refine lv_icmp_ge (tgt := 33) hx hb dX0_behind_12 (by decide) (fun c61 => ?_) (fun c61 => ?_)
  · have c61 := Int32.le_iff_toInt_le.mp c61
    refine lv_aload_n hx hb dX0_behind_33 rfl (lv_at hl 0 rfl) ?_
    obtain ⟨z62, z64, z66, z68, z70, z72, z73, z75, z76, z78, z79, z81, z82, z83, o85, h63, h65, h67, h69, h71, h74, h77, h80, h84, -⟩ := s_op1 hI ha0
    refine th_get (D := (dC, dI)) (ci := 0) (v := .ref z66) (C := RX0) (T := TX0) (N := 14) hx hb hts inX0 hown hK hP (hLK _ ha0 (by decide)) o85 rfl 2 (by decide) (hts _ T_146) (fun _ h9 => h9) rfl dX0_behind_34 ?_
    exact W.aret (v := .ref z66) hx hb hr (Or.inl ⟨_, rfl⟩) (Or.inr ⟨_, rfl⟩) (fun t ht hW => ⟨⟨F9, z66, rfl, ⟨trivial, trivial, (s_mono (by omega) hI), hfr⟩, h67, by rw [ht]; exact hP, va_K.moved hW.alike hK⟩, hS.F ht⟩) hS.2.2 dX0_behind_37
  · have c61 := mt Int32.le_iff_toInt_le.mpr c61
    refine lv_aload_n hx hb dX0_behind_15 rfl (lv_at hl 0 rfl) ?_
    obtain ⟨z86, z88, z90, z92, z94, z96, z97, z99, z100, z102, z103, z105, z106, z107, o109, h87, h89, h91, h93, h95, h98, h101, h104, h108, -⟩ := s_op1 hI ha0
    refine th_get (D := (dC, dI)) (ci := 0) (v := .ref z86) (C := RX0) (T := TX0) (N := 14) hx hb hts inX0 hown hK hP (hLK _ ha0 (by decide)) o109 rfl 0 (by decide) (hts _ T_139) (fun _ h9 => h9) rfl dX0_behind_16 ?_
    refine lv_aload_n hx hb dX0_behind_19 rfl (lv_at hl 0 rfl) ?_
    refine th_get (D := (dC, dI)) (ci := 0) (v := .ref z90) (C := RX0) (T := TX0) (N := 14) hx hb hts inX0 hown hK hP (hLK _ ha0 (by decide)) o109 rfl 2 (by decide) (hts _ T_146) (fun _ h9 => h9) rfl dX0_behind_20 ?_
    obtain ⟨z110, z112, z114, z116, z118, z120, z121, z123, z124, z125, z127, z128, o129, h111, h113, h115, h117, h119, h122, h126, -⟩ := s_op2 hI h87
    refine va_calli (va_runV (As := [.ref z90]) (rest := []) ⟨hx, hb, hml, hown, hts⟩ (s_X1_step l dC dI H.size hLK D59 (D59 + 1) (Nat.le_refl _) (by omega) F9 z86 z90 h87 h91 hI (s_PGt hI0 hfr (by decide) hPG)) (cwV 1 hts (ax_gV T_562 T_564 T_565 T_137 T_563) rfl rfl rfl (by decide +kernel) ⟨Nat.le_of_ble_eq_true rfl, Nat.le_of_ble_eq_true rfl⟩) ⟨fun a U g mk q => ⟨q.1, s_pc rfl rfl q.2⟩, s_recv hK hP (hLK _ h87 (by decide)) (ci := 1) rfl o129, fun U hU hW => ⟨rfl, s_pw hU hW hP hK hD hN⟩⟩ rfl rfl hl.1 rfl (lv_room (Nat.le_of_ble_eq_true rfl)) dX0_behind_23 ⟨Nat.zero_le _, Nat.zero_le _⟩) hS (fun q _ h => h) (fun q h => h) (fun r130 F131 t H1 locs ht hvm hw hB hz1 hk1 hS => ?_)
    obtain ⟨hP, hK1⟩ := hB
    rw [ht] at hP
    generalize H1 = H at hP hS ⊢
    obtain ⟨h132, h133, hI, hfr1⟩ := hw
    have o134 : F131 a0 = .inr (0, [.ref z86, .ref z88, .ref z90, .ref z92, .ref z94, .int z96, .ref z97, .long z99, .ref z100, .int z102, .ref z103, .int z105, .int z106, .int z107]) := (hfr1 _ (by rw [ha0]; decide)).trans o109
    have hfr : ∀ b, K b ∉ [2, 5, 6, 24, 27, 28, 29, 30, 31, 32, 34, 35] → F131 b = F b := fun b hb9 => (hfr1 b (fun q => hb9 (s_sub (by decide) q))).trans (hfr b hb9)
    refine lv_pop hx hb dX0_behind_26 rfl ?_
    obtain ⟨v135, ev135⟩ : ∃ y : Int32, w56 + 1 = y := ⟨_, rfl⟩
    have qv135 : v135.toInt = w56.toInt + 1 := by rw [← ev135]; exact th_add rfl (by decide) ⟨by omega, by omega⟩
    refine lv_iinc (v := v135) (lv' := [(3, .int v135), (0, .ref a0), (2, .int x2)]) hx hb dX0_behind_27 hl (k := 2) rfl ev135 (by decide) rfl (fun ls hl => ?_)
    refine lv_goto (tgt := 10) hx hb dX0_behind_30 (by decide) ?_
    exact ih10 _ _ _ _ (by omega) ⟨F131, _, (D59 + 1), v135, rfl, lv_sub hl [1, 2, 0] rfl, by omega, hI, hP, hS, hfr, ⟨by omega, by omega⟩, ⟨by omega, by omega⟩, rfl⟩

set_option maxHeartbeats 4000000 in
set_option maxRecDepth 100000 in
theorem s_X0_begun (l : Launch) (dC : Nat → ClassId) (dI : Nat → Nat → Nat) (sz : Nat) {L : List Nat} {K : Nat → Nat} {cs : Nat → ClassId} (hLK : ∀ a {k : Nat}, K a = k → k ≠ 0 → a ∈ L) (D : Nat) (F : Nat → va_E) (a0 : Nat) (x1 : Int32) (x2 : Int32) (x3 : Int32) (ha0 : K a0 = 1) (hx3 : 0 ≤ x3.toInt ∧ x3.toInt ≤ 3) (hI : s_I K cs D F) : Met l yX0_begun (Cond.code yX0_begun cX0_begun 4 (some (.object "LaneWarps$State")) :: T0) ({ frames := 3, cells := 0, slots := 0, locals := 82 }) (va_Pc [.ref a0, .int x1, .int x2, .int x3] (s_W dC dI sz L F [(cs 0, .int), (cs 1, .byte), (cs 2, .long), (cs 3, .object RX5), (cs 4, .object RX4), (cs 5, .array .int), (cs 6, .char), (cs 7, .boolean)])) (va_Qr (fun (G : Nat → va_E) => True ∧ True ∧ s_I K cs D G ∧ ∀ b, K b ∉ [5, 6, 24, 27, 28, 30, 31, 32] → G b = F b) (fun (G : Nat → va_E) (r : Nat) (t : State) => K r = 5 ∧ va_P (dC, dI) vwCl (va_pl L G) t.heap ∧ va_K (dC, dI) vwCl [(cs 0, .int), (cs 1, .byte), (cs 2, .long), (cs 3, .object RX5), (cs 4, .object RX4), (cs 5, .array .int), (cs 6, .char), (cs 7, .boolean)] t) (fun q => q ∈ L)) 0 0 (fun q => q ∈ L) := by
  refine Met.ofW (cc := cX0_begun) (maxL := 4) (ret := (some (.object "LaneWarps$State"))) (by decide) rfl ?_
  intro p e s m args below meth c s₁ B hml hv
  obtain ⟨rfl, hsz, hP, hK, hD, hN⟩ := hv
  have hx := B.exec
  have hb := B.bytes
  have hr := B.returns
  have hts : ∀ w ∈ T0, w.before _ s = true := fun w h => atoms_spec (ws := Cond.code yX0_begun cX0_begun 4 (some (.object "LaneWarps$State")) :: T0) B.pre w (List.mem_cons_of_mem _ h)
  have hown : s.vm.findClass RX0 = some m.cls := findClass_of_methodNamed B.named
  have hlocks := B.notSynchronized
  have hS : va_S (fun q => q ∈ L) s.heap s.heap [] := va_S.rf
  have hfr : ∀ b, K b ∉ [5, 6, 24, 27, 28, 30, 31, 32] → F b = F b := fun _ _ => rfl
  have hl := lv_entry ([.ref a0, .int x1, .int x2, .int x3]) (n := 4) (Nat.le_of_ble_eq_true rfl)
  rw [lg_entry_eq]
  generalize (lg_sl ([.ref a0, .int x1, .int x2, .int x3]) ++ List.replicate (4 - (lg_sl ([.ref a0, .int x1, .int x2, .int x3])).length) Slot.unset).toArray = ls at hl ⊢
  have hl : lv_has ls 4 [(0, .ref a0), (1, .int x1), (2, .int x2), (3, .int x3)] := hl
  refine s_gen hP hS (fun H locs hP hS => ?_)
  refine lv_aload_n hx hb dX0_begun_0 rfl (lv_at hl 0 rfl) ?_
  obtain ⟨z1, z3, z5, z7, z9, z11, z12, z14, z15, z17, z18, z20, z21, z22, o24, h2, h4, h6, h8, h10, h13, h16, h19, h23, -⟩ := s_op1 hI ha0
  refine th_get (D := (dC, dI)) (ci := 0) (v := .ref z3) (C := RX0) (T := TX0) (N := 14) hx hb hts inX0 hown hK hP (hLK _ ha0 (by decide)) o24 rfl 1 (by decide) (hts _ T_145) (fun _ h9 => h9) rfl dX0_begun_1 ?_
  refine lv_iload_n hx hb dX0_begun_4 rfl (lv_at hl 1 rfl) ?_
  refine lv_iload_n hx hb dX0_begun_5 rfl (lv_at hl 2 rfl) ?_
  refine lv_iload_n hx hb dX0_begun_6 rfl (lv_at hl 3 rfl) ?_
  obtain ⟨z25, z27, z29, z31, z33, z35, z37, z39, z41, z42, z43, z45, z46, z48, z49, o51, h26, h28, h30, h32, h34, h36, h38, h40, h44, h47, h50, -⟩ := s_op5 hI h4
  refine va_callv (va_runV (As := [.int x1, .int x2, .int x3]) (rest := []) ⟨hx, hb, hml, hown, hts⟩ (s_X4_lay l dC dI H.size hLK D F z3 x1 x2 x3 h4 (⟨by omega, by omega⟩) hI) (cwV 3 hts (ax_gV T_550 T_552 T_553 T_142 T_551) rfl rfl rfl (by decide +kernel) ⟨Nat.le_of_ble_eq_true rfl, Nat.le_of_ble_eq_true rfl⟩) ⟨fun a U g mk q => ⟨q.1, s_pc rfl rfl q.2⟩, s_recv hK hP (hLK _ h4 (by decide)) (ci := 4) rfl o51, fun U hU hW => ⟨rfl, s_pw hU hW hP hK hD hN⟩⟩ rfl rfl hl.1 rfl (lv_room (Nat.le_of_ble_eq_true rfl)) dX0_begun_7 ⟨Nat.zero_le _, Nat.zero_le _⟩) hS (fun q _ h => h) (fun q h => h) (fun F52 t H1 locs ht hvm hw hB hz1 hk1 hS => ?_)
  obtain ⟨hP, hK1⟩ := hB
  rw [ht] at hP
  generalize H1 = H at hP hS ⊢
  obtain ⟨h53, h54, hI, hfr1⟩ := hw
  have o55 : F52 a0 = .inr (0, [.ref z1, .ref z3, .ref z5, .ref z7, .ref z9, .int z11, .ref z12, .long z14, .ref z15, .int z17, .ref z18, .int z20, .int z21, .int z22]) := (hfr1 _ (by rw [ha0]; decide)).trans o24
  have hfr : ∀ b, K b ∉ [5, 6, 24, 27, 28, 30, 31, 32] → F52 b = F b := fun b hb9 => (hfr1 b (fun q => hb9 (s_sub (by decide) q))).trans (hfr b hb9)
  refine lv_aload_n hx hb dX0_begun_10 rfl (lv_at hl 0 rfl) ?_
  refine th_get (D := (dC, dI)) (ci := 0) (v := .ref z3) (C := RX0) (T := TX0) (N := 14) hx hb hts inX0 hown hK hP (hLK _ ha0 (by decide)) o55 rfl 1 (by decide) (hts _ T_145) (fun _ h9 => h9) rfl dX0_begun_11 ?_
  refine lv_aload_n hx hb dX0_begun_14 rfl (lv_at hl 0 rfl) ?_
  refine th_get (D := (dC, dI)) (ci := 0) (v := .ref z18) (C := RX0) (T := TX0) (N := 14) hx hb hts inX0 hown hK hP (hLK _ ha0 (by decide)) o55 rfl 10 (by decide) (hts _ T_151) (fun _ h9 => h9) rfl dX0_begun_15 ?_
  obtain ⟨z56, z58, z60, z62, z64, z66, z68, z70, z72, z73, z74, z76, z77, z79, z80, o82, h57, h59, h61, h63, h65, h67, h69, h71, h75, h78, h81, -⟩ := s_op5 hI h4
  refine va_callv (va_runV (As := [.ref z18]) (rest := []) ⟨hx, hb, hml, hown, hts⟩ (s_X4_restart l dC dI H.size hLK D F52 z3 z18 h4 h19 hI) (cwV 1 hts (ax_gV T_554 T_556 T_557 T_142 T_555) rfl rfl rfl (by decide +kernel) ⟨Nat.le_of_ble_eq_true rfl, Nat.le_of_ble_eq_true rfl⟩) ⟨fun a U g mk q => ⟨q.1, s_pc rfl rfl q.2⟩, s_recv hK hP (hLK _ h4 (by decide)) (ci := 4) rfl o82, fun U hU hW => ⟨rfl, s_pw hU hW hP hK hD hN⟩⟩ rfl rfl hl.1 rfl (lv_room (Nat.le_of_ble_eq_true rfl)) dX0_begun_18 ⟨Nat.zero_le _, Nat.zero_le _⟩) hS (fun q _ h => h) (fun q h => h) (fun F83 t H1 locs ht hvm hw hB hz1 hk1 hS => ?_)
  obtain ⟨hP, hK1⟩ := hB
  rw [ht] at hP
  generalize H1 = H at hP hS ⊢
  obtain ⟨h84, h85, hI, hfr1⟩ := hw
  have o86 : F83 a0 = .inr (0, [.ref z1, .ref z3, .ref z5, .ref z7, .ref z9, .int z11, .ref z12, .long z14, .ref z15, .int z17, .ref z18, .int z20, .int z21, .int z22]) := (hfr1 _ (by rw [ha0]; decide)).trans o55
  have hfr : ∀ b, K b ∉ [5, 6, 24, 27, 28, 30, 31, 32] → F83 b = F b := fun b hb9 => (hfr1 b (fun q => hb9 (s_sub (by decide) q))).trans (hfr b hb9)
  refine lv_aload_n hx hb dX0_begun_21 rfl (lv_at hl 0 rfl) ?_
  refine th_get (D := (dC, dI)) (ci := 0) (v := .ref z3) (C := RX0) (T := TX0) (N := 14) hx hb hts inX0 hown hK hP (hLK _ ha0 (by decide)) o86 rfl 1 (by decide) (hts _ T_145) (fun _ h9 => h9) rfl dX0_begun_22 ?_
  exact W.aret (v := .ref z3) hx hb hr (Or.inl ⟨_, rfl⟩) (Or.inr ⟨_, rfl⟩) (fun t ht hW => ⟨⟨F83, z3, rfl, ⟨trivial, trivial, hI, hfr⟩, h4, by rw [ht]; exact hP, va_K.moved hW.alike hK⟩, hS.F ht⟩) hS.2.2 dX0_begun_25

set_option maxHeartbeats 4000000 in
set_option maxRecDepth 100000 in
theorem s_X0_cyclesToRest (l : Launch) (dC : Nat → ClassId) (dI : Nat → Nat → Nat) (sz : Nat) {L : List Nat} {K : Nat → Nat} {cs : Nat → ClassId} (hLK : ∀ a {k : Nat}, K a = k → k ≠ 0 → a ∈ L) (D : Nat) (Dm : Nat) (hDm : D + 401 ≤ Dm) (hDM : Dm < 2147483647) (F : Nat → va_E) (a0 : Nat) (a1 : Nat) (ha0 : K a0 = 1) (ha1 : K a1 = 5) (hI : s_I K cs D F) (hPG : s_PG K cs F) : Met l yX0_cyclesToRest (Cond.code yX0_cyclesToRest cX0_cyclesToRest 3 (some .int) :: T0) ({ frames := 5, cells := 0, slots := 0, locals := 114 }) (va_Pc [.ref a0, .ref a1] (s_W dC dI sz L F [(cs 0, .int), (cs 1, .byte), (cs 2, .long), (cs 3, .object RX5), (cs 4, .object RX4), (cs 5, .array .int), (cs 6, .char), (cs 7, .boolean)])) (va_Qi (fun (r : Int32) (G : Nat → va_E) => (-1 ≤ r.toInt ∧ r.toInt ≤ 400) ∧ True ∧ s_I K cs Dm G ∧ ∀ b, K b ∉ [2, 5, 6, 24, 27, 28, 29, 30, 31, 32, 34, 35] → G b = F b) (fun (G : Nat → va_E) (t : State) => va_P (dC, dI) vwCl (va_pl L G) t.heap ∧ va_K (dC, dI) vwCl [(cs 0, .int), (cs 1, .byte), (cs 2, .long), (cs 3, .object RX5), (cs 4, .object RX4), (cs 5, .array .int), (cs 6, .char), (cs 7, .boolean)] t) (fun q => q ∈ L)) 0 0 (fun q => q ∈ L) := by
  refine Met.ofW (cc := cX0_cyclesToRest) (maxL := 3) (ret := (some .int)) (by decide) rfl ?_
  intro p e s m args below meth c s₁ B hml hv
  obtain ⟨rfl, hsz, hP, hK, hD, hN⟩ := hv
  have hx := B.exec
  have hb := B.bytes
  have hr := B.returns
  have hts : ∀ w ∈ T0, w.before _ s = true := fun w h => atoms_spec (ws := Cond.code yX0_cyclesToRest cX0_cyclesToRest 3 (some .int) :: T0) B.pre w (List.mem_cons_of_mem _ h)
  have hown : s.vm.findClass RX0 = some m.cls := findClass_of_methodNamed B.named
  have hlocks := B.notSynchronized
  have hS : va_S (fun q => q ∈ L) s.heap s.heap [] := va_S.rf
  have hfr : ∀ b, K b ∉ [2, 5, 6, 24, 27, 28, 29, 30, 31, 32, 34, 35] → F b = F b := fun _ _ => rfl
  have hl := lv_entry ([.ref a0, .ref a1]) (n := 3) (Nat.le_of_ble_eq_true rfl)
  rw [lg_entry_eq]
  generalize (lg_sl ([.ref a0, .ref a1]) ++ List.replicate (3 - (lg_sl ([.ref a0, .ref a1])).length) Slot.unset).toArray = ls at hl ⊢
  have hl : lv_has ls 3 [(0, .ref a0), (1, .ref a1)] := hl
  have hI0 := hI
  refine s_gen hP hS (fun H locs hP hS => ?_)
  refine lv_aload_n hx hb dX0_cyclesToRest_0 rfl (lv_at hl 0 rfl) ?_
  obtain ⟨z1, z3, z5, z7, z9, z11, z12, z14, z15, z17, z18, z20, z21, z22, o24, h2, h4, h6, h8, h10, h13, h16, h19, h23, -⟩ := s_op1 hI ha0
  refine th_get (D := (dC, dI)) (ci := 0) (v := .ref z5) (C := RX0) (T := TX0) (N := 14) hx hb hts inX0 hown hK hP (hLK _ ha0 (by decide)) o24 rfl 2 (by decide) (hts _ T_146) (fun _ h9 => h9) rfl dX0_cyclesToRest_1 ?_
  refine lv_aload_n hx hb dX0_cyclesToRest_4 rfl (lv_at hl 1 rfl) ?_
  obtain ⟨z25, z27, z29, z31, z33, z35, z37, z39, z41, z42, z43, z45, z46, z48, z49, o51, h26, h28, h30, h32, h34, h36, h38, h40, h44, h47, h50, -⟩ := s_op5 hI h6
  refine va_callv (va_runV (As := [.ref a1]) (rest := []) ⟨hx, hb, hml, hown, hts⟩ (s_X4_copyFrom l dC dI H.size hLK D F z5 a1 h6 ha1 hI) (cwV 1 hts (ax_gV T_558 T_560 T_561 T_142 T_559) rfl rfl rfl (by decide +kernel) ⟨Nat.le_of_ble_eq_true rfl, Nat.le_of_ble_eq_true rfl⟩) ⟨fun a U g mk q => ⟨q.1, s_pc rfl rfl q.2⟩, s_recv hK hP (hLK _ h6 (by decide)) (ci := 4) rfl o51, fun U hU hW => ⟨rfl, s_pw hU hW hP hK hD hN⟩⟩ rfl rfl hl.1 rfl (lv_room (Nat.le_of_ble_eq_true rfl)) dX0_cyclesToRest_5 ⟨Nat.zero_le _, Nat.zero_le _⟩) hS (fun q _ h => h) (fun q h => h) (fun F52 t H1 locs ht hvm hw hB hz1 hk1 hS => ?_)
  obtain ⟨hP, hK1⟩ := hB
  rw [ht] at hP
  generalize H1 = H at hP hS ⊢
  obtain ⟨h53, h54, hI, hfr1⟩ := hw
  have o55 : F52 a0 = .inr (0, [.ref z1, .ref z3, .ref z5, .ref z7, .ref z9, .int z11, .ref z12, .long z14, .ref z15, .int z17, .ref z18, .int z20, .int z21, .int z22]) := (hfr1 _ (by rw [ha0]; decide)).trans o24
  have hfr : ∀ b, K b ∉ [2, 5, 6, 24, 27, 28, 29, 30, 31, 32, 34, 35] → F52 b = F b := fun b hb9 => (hfr1 b (fun q => hb9 (s_sub (by decide) q))).trans (hfr b hb9)
  refine lv_iconst (v := 0) hx hb dX0_cyclesToRest_8 (by decide) ?_
  refine lv_istore_n (lv' := [(2, .int 0), (0, .ref a0), (1, .ref a1)]) hx hb dX0_cyclesToRest_9 rfl hl (by decide) rfl (fun ls hl => ?_)
  refine th_loop (fun n g H locs => ∃ (G : Nat → va_E) (ls : Array Slot) (Dn : Nat) (w56 : Int32), g = F0 m 10 ls [] ∧ lv_has ls 3 [(0, .ref a0), (2, .int w56)] ∧ Dn + 1 * n + 0 ≤ Dm ∧ s_I K cs Dn G ∧ va_P (dC, dI) vwCl (va_pl L G) H ∧ va_S (fun q => q ∈ L) s.heap H locs ∧ (∀ b, K b ∉ [2, 5, 6, 24, 27, 28, 29, 30, 31, 32, 34, 35] → G b = F b) ∧ (0 ≤ w56.toInt ∧ w56.toInt ≤ 400) ∧ n = (401 - w56.toInt).toNat) _ ⟨F52, _, D, 0, rfl, lv_sub hl [1, 0] rfl, by omega, hI, hP, hS, hfr, (by decide), rfl⟩ (fun n ih10 g H locs hq => ?_)
  obtain ⟨F9, ls, D58, w56, rfl, hl, h59, hI, hP, hS, hfr, h57, hn⟩ := hq
  have hn_10 := hn
  obtain ⟨n_10, hn9_10⟩ : ∃ q, q = n := ⟨_, rfl⟩
  refine lv_iload_n hx hb dX0_cyclesToRest_10 rfl (lv_at hl 1 rfl) ?_
  refine lv_sipush (v := 400) hx hb dX0_cyclesToRest_11 (by decide) ?_
  refine lv_icmp_ge (tgt := 47) hx hb dX0_cyclesToRest_14 (by decide) (fun c60 => ?_) (fun c60 => ?_)
  · have c60 := (ax_ge (n := 400) (by decide)).mp c60
    refine lv_aload_n hx hb dX0_cyclesToRest_47 rfl (lv_at hl 0 rfl) ?_
    obtain ⟨z61, z63, z65, z67, z69, z71, z72, z74, z75, z77, z78, z80, z81, z82, o84, h62, h64, h66, h68, h70, h73, h76, h79, h83, -⟩ := s_op1 hI ha0
    refine th_get (D := (dC, dI)) (ci := 0) (v := .ref z65) (C := RX0) (T := TX0) (N := 14) hx hb hts inX0 hown hK hP (hLK _ ha0 (by decide)) o84 rfl 2 (by decide) (hts _ T_146) (fun _ h9 => h9) rfl dX0_cyclesToRest_48 ?_
    obtain ⟨z85, z87, z89, z91, z93, z95, z97, z99, z101, z102, z103, z105, z106, z108, z109, o111, h86, h88, h90, h92, h94, h96, h98, h100, h104, h107, h110, -⟩ := s_op5 hI h66
    refine va_calli (va_runV (As := []) (rest := []) ⟨hx, hb, hml, hown, hts⟩ (s_X4_hasNoneToGo l dC dI H.size hLK D58 F9 z65 h66 hI) (cwV 0 hts (ax_gV T_582 T_584 T_585 T_142 T_583) rfl rfl rfl (by decide +kernel) ⟨Nat.le_of_ble_eq_true rfl, Nat.le_of_ble_eq_true rfl⟩) ⟨fun a U g mk q => ⟨q.1, s_pc rfl rfl q.2⟩, s_recv hK hP (hLK _ h66 (by decide)) (ci := 4) rfl o111, fun U hU hW => ⟨rfl, s_pw hU hW hP hK hD hN⟩⟩ rfl rfl hl.1 rfl (lv_room (Nat.le_of_ble_eq_true rfl)) dX0_cyclesToRest_51 ⟨Nat.zero_le _, Nat.zero_le _⟩) hS (fun q _ h => h) (fun q h => h) (fun r112 F113 t H1 locs ht hvm hw hB hz1 hk1 hS => ?_)
    obtain ⟨hP, hK1⟩ := hB
    rw [ht] at hP
    generalize H1 = H at hP hS ⊢
    obtain ⟨h114, h115, hI, hfr1⟩ := hw
    have o116 : F113 a0 = .inr (0, [.ref z61, .ref z63, .ref z65, .ref z67, .ref z69, .int z71, .ref z72, .long z74, .ref z75, .int z77, .ref z78, .int z80, .int z81, .int z82]) := (hfr1 _ (by rw [ha0]; decide)).trans o84
    have o117 : F113 z65 = .inr (4, [.ref z85, .ref z87, .ref z89, .ref z91, .ref z93, .ref z95, .ref z97, .int z99, .int z101, .int z102, .int z103, .int z105, .int z106, .int z108, .int z109]) := (hfr1 _ (by rw [h66]; decide)).trans o111
    have hfr : ∀ b, K b ∉ [2, 5, 6, 24, 27, 28, 29, 30, 31, 32, 34, 35] → F113 b = F b := fun b hb9 => (hfr1 b (fun q => hb9 (s_sub (by decide) q))).trans (hfr b hb9)
    refine lv_if_eq (tgt := 63) hx hb dX0_cyclesToRest_54 (by decide) (fun c118 => ?_) (fun c118 => ?_)
    · have c118 := (ax_eq (n := 0) (by decide)).mp c118
      refine lv_iconst (v := (-1)) hx hb dX0_cyclesToRest_63 (by decide) ?_
      exact W.iret (v := (-1)) hx hb hr (fun t ht hW => ⟨⟨(-1), F113, rfl, ⟨(by decide), trivial, (s_mono (by omega) hI), hfr⟩, by rw [ht]; exact hP, va_K.moved hW.alike hK⟩, hS.F ht⟩) hS.2.2 dX0_cyclesToRest_64
    · have c118 := mt (ax_eq (n := 0) (by decide)).mpr c118
      refine lv_sipush (v := 400) hx hb dX0_cyclesToRest_57 (by decide) ?_
      refine lv_goto (tgt := 64) hx hb dX0_cyclesToRest_60 (by decide) ?_
      exact W.iret (v := 400) hx hb hr (fun t ht hW => ⟨⟨400, F113, rfl, ⟨(by decide), trivial, (s_mono (by omega) hI), hfr⟩, by rw [ht]; exact hP, va_K.moved hW.alike hK⟩, hS.F ht⟩) hS.2.2 dX0_cyclesToRest_64
  · have c60 := mt (ax_ge (n := 400) (by decide)).mpr c60
    refine lv_aload_n hx hb dX0_cyclesToRest_17 rfl (lv_at hl 0 rfl) ?_
    obtain ⟨z119, z121, z123, z125, z127, z129, z130, z132, z133, z135, z136, z138, z139, z140, o142, h120, h122, h124, h126, h128, h131, h134, h137, h141, -⟩ := s_op1 hI ha0
    refine th_get (D := (dC, dI)) (ci := 0) (v := .ref z123) (C := RX0) (T := TX0) (N := 14) hx hb hts inX0 hown hK hP (hLK _ ha0 (by decide)) o142 rfl 2 (by decide) (hts _ T_146) (fun _ h9 => h9) rfl dX0_cyclesToRest_18 ?_
    obtain ⟨z143, z145, z147, z149, z151, z153, z155, z157, z159, z160, z161, z163, z164, z166, z167, o169, h144, h146, h148, h150, h152, h154, h156, h158, h162, h165, h168, -⟩ := s_op5 hI h124
    refine va_calli (va_runV (As := []) (rest := []) ⟨hx, hb, hml, hown, hts⟩ (s_X4_hasNoneToGo l dC dI H.size hLK D58 F9 z123 h124 hI) (cwV 0 hts (ax_gV T_582 T_584 T_585 T_142 T_583) rfl rfl rfl (by decide +kernel) ⟨Nat.le_of_ble_eq_true rfl, Nat.le_of_ble_eq_true rfl⟩) ⟨fun a U g mk q => ⟨q.1, s_pc rfl rfl q.2⟩, s_recv hK hP (hLK _ h124 (by decide)) (ci := 4) rfl o169, fun U hU hW => ⟨rfl, s_pw hU hW hP hK hD hN⟩⟩ rfl rfl hl.1 rfl (lv_room (Nat.le_of_ble_eq_true rfl)) dX0_cyclesToRest_21 ⟨Nat.zero_le _, Nat.zero_le _⟩) hS (fun q _ h => h) (fun q h => h) (fun r170 F171 t H1 locs ht hvm hw hB hz1 hk1 hS => ?_)
    obtain ⟨hP, hK1⟩ := hB
    rw [ht] at hP
    generalize H1 = H at hP hS ⊢
    obtain ⟨h172, h173, hI, hfr1⟩ := hw
    have o174 : F171 a0 = .inr (0, [.ref z119, .ref z121, .ref z123, .ref z125, .ref z127, .int z129, .ref z130, .long z132, .ref z133, .int z135, .ref z136, .int z138, .int z139, .int z140]) := (hfr1 _ (by rw [ha0]; decide)).trans o142
    have o175 : F171 z123 = .inr (4, [.ref z143, .ref z145, .ref z147, .ref z149, .ref z151, .ref z153, .ref z155, .int z157, .int z159, .int z160, .int z161, .int z163, .int z164, .int z166, .int z167]) := (hfr1 _ (by rw [h124]; decide)).trans o169
    have hfr : ∀ b, K b ∉ [2, 5, 6, 24, 27, 28, 29, 30, 31, 32, 34, 35] → F171 b = F b := fun b hb9 => (hfr1 b (fun q => hb9 (s_sub (by decide) q))).trans (hfr b hb9)
    refine lv_if_eq (tgt := 29) hx hb dX0_cyclesToRest_24 (by decide) (fun c176 => ?_) (fun c176 => ?_)
    · have c176 := (ax_eq (n := 0) (by decide)).mp c176
      refine lv_aload_n hx hb dX0_cyclesToRest_29 rfl (lv_at hl 0 rfl) ?_
      refine th_get (D := (dC, dI)) (ci := 0) (v := .ref z119) (C := RX0) (T := TX0) (N := 14) hx hb hts inX0 hown hK hP (hLK _ ha0 (by decide)) o174 rfl 0 (by decide) (hts _ T_139) (fun _ h9 => h9) rfl dX0_cyclesToRest_30 ?_
      refine lv_aload_n hx hb dX0_cyclesToRest_33 rfl (lv_at hl 0 rfl) ?_
      refine th_get (D := (dC, dI)) (ci := 0) (v := .ref z123) (C := RX0) (T := TX0) (N := 14) hx hb hts inX0 hown hK hP (hLK _ ha0 (by decide)) o174 rfl 2 (by decide) (hts _ T_146) (fun _ h9 => h9) rfl dX0_cyclesToRest_34 ?_
      obtain ⟨z177, z179, z181, z183, z185, z187, z188, z190, z191, z192, z194, z195, o196, h178, h180, h182, h184, h186, h189, h193, -⟩ := s_op2 hI h120
      refine va_calli (va_runV (As := [.ref z123]) (rest := []) ⟨hx, hb, hml, hown, hts⟩ (s_X1_step l dC dI H.size hLK D58 (D58 + 1) (Nat.le_refl _) (by omega) F171 z119 z123 h120 h124 hI (s_PGt hI0 hfr (by decide) hPG)) (cwV 1 hts (ax_gV T_562 T_564 T_565 T_137 T_563) rfl rfl rfl (by decide +kernel) ⟨Nat.le_of_ble_eq_true rfl, Nat.le_of_ble_eq_true rfl⟩) ⟨fun a U g mk q => ⟨q.1, s_pc rfl rfl q.2⟩, s_recv hK hP (hLK _ h120 (by decide)) (ci := 1) rfl o196, fun U hU hW => ⟨rfl, s_pw hU hW hP hK hD hN⟩⟩ rfl rfl hl.1 rfl (lv_room (Nat.le_of_ble_eq_true rfl)) dX0_cyclesToRest_37 ⟨Nat.zero_le _, Nat.zero_le _⟩) hS (fun q _ h => h) (fun q h => h) (fun r197 F198 t H1 locs ht hvm hw hB hz1 hk1 hS => ?_)
      obtain ⟨hP, hK1⟩ := hB
      rw [ht] at hP
      generalize H1 = H at hP hS ⊢
      obtain ⟨h199, h200, hI, hfr1⟩ := hw
      have o201 : F198 a0 = .inr (0, [.ref z119, .ref z121, .ref z123, .ref z125, .ref z127, .int z129, .ref z130, .long z132, .ref z133, .int z135, .ref z136, .int z138, .int z139, .int z140]) := (hfr1 _ (by rw [ha0]; decide)).trans o174
      have hfr : ∀ b, K b ∉ [2, 5, 6, 24, 27, 28, 29, 30, 31, 32, 34, 35] → F198 b = F b := fun b hb9 => (hfr1 b (fun q => hb9 (s_sub (by decide) q))).trans (hfr b hb9)
      refine lv_pop hx hb dX0_cyclesToRest_40 rfl ?_
      obtain ⟨v202, ev202⟩ : ∃ y : Int32, w56 + 1 = y := ⟨_, rfl⟩
      have qv202 : v202.toInt = w56.toInt + 1 := by rw [← ev202]; exact th_add rfl (by decide) ⟨by omega, by omega⟩
      refine lv_iinc (v := v202) (lv' := [(2, .int v202), (0, .ref a0)]) hx hb dX0_cyclesToRest_41 hl (k := 1) rfl ev202 (by decide) rfl (fun ls hl => ?_)
      refine lv_goto (tgt := 10) hx hb dX0_cyclesToRest_44 (by decide) ?_
      exact ih10 _ _ _ _ (by omega) ⟨F198, _, (D58 + 1), v202, rfl, lv_sub hl [1, 0] rfl, by omega, hI, hP, hS, hfr, ⟨by omega, by omega⟩, rfl⟩
    · have c176 := mt (ax_eq (n := 0) (by decide)).mpr c176
      refine lv_iload_n hx hb dX0_cyclesToRest_27 rfl (lv_at hl 1 rfl) ?_
      exact W.iret (v := w56) hx hb hr (fun t ht hW => ⟨⟨w56, F171, rfl, ⟨⟨by omega, by omega⟩, trivial, (s_mono (by omega) hI), hfr⟩, by rw [ht]; exact hP, va_K.moved hW.alike hK⟩, hS.F ht⟩) hS.2.2 dX0_cyclesToRest_28

set_option maxHeartbeats 4000000 in
set_option maxRecDepth 100000 in
theorem s_X0_roundFromHere (l : Launch) (dC : Nat → ClassId) (dI : Nat → Nat → Nat) (sz : Nat) {L : List Nat} {K : Nat → Nat} {cs : Nat → ClassId} (hLK : ∀ a {k : Nat}, K a = k → k ≠ 0 → a ∈ L) (D : Nat) (Dm : Nat) (hDm : D + 401 ≤ Dm) (hDM : Dm < 2147483647) (F : Nat → va_E) (a0 : Nat) (ha0 : K a0 = 1) (hI : s_I K cs D F) (hPG : s_PG K cs F) : Met l yX0_roundFromHere (Cond.code yX0_roundFromHere cX0_roundFromHere 2 (some .int) :: T0) ({ frames := 5, cells := 0, slots := 0, locals := 114 }) (va_Pc [.ref a0] (s_W dC dI sz L F [(cs 0, .int), (cs 1, .byte), (cs 2, .long), (cs 3, .object RX5), (cs 4, .object RX4), (cs 5, .array .int), (cs 6, .char), (cs 7, .boolean)])) (va_Qi (fun (r : Int32) (G : Nat → va_E) => (-1 ≤ r.toInt ∧ r.toInt ≤ 400) ∧ True ∧ s_I K cs Dm G ∧ ∀ b, K b ∉ [2, 5, 6, 24, 27, 28, 29, 30, 31, 32, 34, 35] → G b = F b) (fun (G : Nat → va_E) (t : State) => va_P (dC, dI) vwCl (va_pl L G) t.heap ∧ va_K (dC, dI) vwCl [(cs 0, .int), (cs 1, .byte), (cs 2, .long), (cs 3, .object RX5), (cs 4, .object RX4), (cs 5, .array .int), (cs 6, .char), (cs 7, .boolean)] t) (fun q => q ∈ L)) 0 0 (fun q => q ∈ L) := by
  refine Met.ofW (cc := cX0_roundFromHere) (maxL := 2) (ret := (some .int)) (by decide) rfl ?_
  intro p e s m args below meth c s₁ B hml hv
  obtain ⟨rfl, hsz, hP, hK, hD, hN⟩ := hv
  have hx := B.exec
  have hb := B.bytes
  have hr := B.returns
  have hts : ∀ w ∈ T0, w.before _ s = true := fun w h => atoms_spec (ws := Cond.code yX0_roundFromHere cX0_roundFromHere 2 (some .int) :: T0) B.pre w (List.mem_cons_of_mem _ h)
  have hown : s.vm.findClass RX0 = some m.cls := findClass_of_methodNamed B.named
  have hlocks := B.notSynchronized
  have hS : va_S (fun q => q ∈ L) s.heap s.heap [] := va_S.rf
  have hfr : ∀ b, K b ∉ [2, 5, 6, 24, 27, 28, 29, 30, 31, 32, 34, 35] → F b = F b := fun _ _ => rfl
  have hl := lv_entry ([.ref a0]) (n := 2) (Nat.le_of_ble_eq_true rfl)
  rw [lg_entry_eq]
  generalize (lg_sl ([.ref a0]) ++ List.replicate (2 - (lg_sl ([.ref a0])).length) Slot.unset).toArray = ls at hl ⊢
  have hl : lv_has ls 2 [(0, .ref a0)] := hl
  have hI0 := hI
  refine s_gen hP hS (fun H locs hP hS => ?_)
  refine lv_aload_n hx hb dX0_roundFromHere_0 rfl (lv_at hl 0 rfl) ?_
  obtain ⟨z1, z3, z5, z7, z9, z11, z12, z14, z15, z17, z18, z20, z21, z22, o24, h2, h4, h6, h8, h10, h13, h16, h19, h23, -⟩ := s_op1 hI ha0
  refine th_get (D := (dC, dI)) (ci := 0) (v := .ref z7) (C := RX0) (T := TX0) (N := 14) hx hb hts inX0 hown hK hP (hLK _ ha0 (by decide)) o24 rfl 3 (by decide) (hts _ T_147) (fun _ h9 => h9) rfl dX0_roundFromHere_1 ?_
  refine lv_aload_n hx hb dX0_roundFromHere_4 rfl (lv_at hl 0 rfl) ?_
  refine th_get (D := (dC, dI)) (ci := 0) (v := .ref z5) (C := RX0) (T := TX0) (N := 14) hx hb hts inX0 hown hK hP (hLK _ ha0 (by decide)) o24 rfl 2 (by decide) (hts _ T_146) (fun _ h9 => h9) rfl dX0_roundFromHere_5 ?_
  obtain ⟨z25, z27, z29, z31, z33, z35, z37, z39, z41, z42, z43, z45, z46, z48, z49, o51, h26, h28, h30, h32, h34, h36, h38, h40, h44, h47, h50, -⟩ := s_op5 hI h8
  refine va_callv (va_runV (As := [.ref z5]) (rest := []) ⟨hx, hb, hml, hown, hts⟩ (s_X4_copyFrom l dC dI H.size hLK D F z7 z5 h8 h6 hI) (cwV 1 hts (ax_gV T_558 T_560 T_561 T_142 T_559) rfl rfl rfl (by decide +kernel) ⟨Nat.le_of_ble_eq_true rfl, Nat.le_of_ble_eq_true rfl⟩) ⟨fun a U g mk q => ⟨q.1, s_pc rfl rfl q.2⟩, s_recv hK hP (hLK _ h8 (by decide)) (ci := 4) rfl o51, fun U hU hW => ⟨rfl, s_pw hU hW hP hK hD hN⟩⟩ rfl rfl hl.1 rfl (lv_room (Nat.le_of_ble_eq_true rfl)) dX0_roundFromHere_8 ⟨Nat.zero_le _, Nat.zero_le _⟩) hS (fun q _ h => h) (fun q h => h) (fun F52 t H1 locs ht hvm hw hB hz1 hk1 hS => ?_)
  obtain ⟨hP, hK1⟩ := hB
  rw [ht] at hP
  generalize H1 = H at hP hS ⊢
  obtain ⟨h53, h54, hI, hfr1⟩ := hw
  have o55 : F52 a0 = .inr (0, [.ref z1, .ref z3, .ref z5, .ref z7, .ref z9, .int z11, .ref z12, .long z14, .ref z15, .int z17, .ref z18, .int z20, .int z21, .int z22]) := (hfr1 _ (by rw [ha0]; decide)).trans o24
  have hfr : ∀ b, K b ∉ [2, 5, 6, 24, 27, 28, 29, 30, 31, 32, 34, 35] → F52 b = F b := fun b hb9 => (hfr1 b (fun q => hb9 (s_sub (by decide) q))).trans (hfr b hb9)
  refine lv_iconst (v := 1) hx hb dX0_roundFromHere_11 (by decide) ?_
  refine lv_istore_n (lv' := [(1, .int 1), (0, .ref a0)]) hx hb dX0_roundFromHere_12 rfl hl (by decide) rfl (fun ls hl => ?_)
  refine th_loop (fun n g H locs => ∃ (G : Nat → va_E) (ls : Array Slot) (Dn : Nat) (w56 : Int32), g = F0 m 13 ls [] ∧ lv_has ls 2 [(0, .ref a0), (1, .int w56)] ∧ Dn + 1 * n + 0 ≤ Dm ∧ s_I K cs Dn G ∧ va_P (dC, dI) vwCl (va_pl L G) H ∧ va_S (fun q => q ∈ L) s.heap H locs ∧ (∀ b, K b ∉ [2, 5, 6, 24, 27, 28, 29, 30, 31, 32, 34, 35] → G b = F b) ∧ (1 ≤ w56.toInt ∧ w56.toInt ≤ 401) ∧ n = (402 - w56.toInt).toNat) _ ⟨F52, _, D, 1, rfl, lv_sub hl [1, 0] rfl, by omega, hI, hP, hS, hfr, (by decide), rfl⟩ (fun n ih13 g H locs hq => ?_)
  obtain ⟨F9, ls, D58, w56, rfl, hl, h59, hI, hP, hS, hfr, h57, hn⟩ := hq
  have hn_13 := hn
  obtain ⟨n_13, hn9_13⟩ : ∃ q, q = n := ⟨_, rfl⟩
  refine lv_iload_n hx hb dX0_roundFromHere_13 rfl (lv_at hl 1 rfl) ?_
  refine lv_sipush (v := 400) hx hb dX0_roundFromHere_14 (by decide) ?_
  refine lv_icmp_gt (tgt := 54) hx hb dX0_roundFromHere_17 (by decide) (fun c60 => ?_) (fun c60 => ?_)
  · have c60 := (ax_gt (n := 400) (by decide)).mp c60
    refine lv_iconst (v := (-1)) hx hb dX0_roundFromHere_54 (by decide) ?_
    exact W.iret (v := (-1)) hx hb hr (fun t ht hW => ⟨⟨(-1), F9, rfl, ⟨(by decide), trivial, (s_mono (by omega) hI), hfr⟩, by rw [ht]; exact hP, va_K.moved hW.alike hK⟩, hS.F ht⟩) hS.2.2 dX0_roundFromHere_55
  · have c60 := mt (ax_gt (n := 400) (by decide)).mpr c60
    refine lv_aload_n hx hb dX0_roundFromHere_20 rfl (lv_at hl 0 rfl) ?_
    obtain ⟨z61, z63, z65, z67, z69, z71, z72, z74, z75, z77, z78, z80, z81, z82, o84, h62, h64, h66, h68, h70, h73, h76, h79, h83, -⟩ := s_op1 hI ha0
    refine th_get (D := (dC, dI)) (ci := 0) (v := .ref z61) (C := RX0) (T := TX0) (N := 14) hx hb hts inX0 hown hK hP (hLK _ ha0 (by decide)) o84 rfl 0 (by decide) (hts _ T_139) (fun _ h9 => h9) rfl dX0_roundFromHere_21 ?_
    refine lv_aload_n hx hb dX0_roundFromHere_24 rfl (lv_at hl 0 rfl) ?_
    refine th_get (D := (dC, dI)) (ci := 0) (v := .ref z65) (C := RX0) (T := TX0) (N := 14) hx hb hts inX0 hown hK hP (hLK _ ha0 (by decide)) o84 rfl 2 (by decide) (hts _ T_146) (fun _ h9 => h9) rfl dX0_roundFromHere_25 ?_
    obtain ⟨z85, z87, z89, z91, z93, z95, z96, z98, z99, z100, z102, z103, o104, h86, h88, h90, h92, h94, h97, h101, -⟩ := s_op2 hI h62
    refine va_calli (va_runV (As := [.ref z65]) (rest := []) ⟨hx, hb, hml, hown, hts⟩ (s_X1_step l dC dI H.size hLK D58 (D58 + 1) (Nat.le_refl _) (by omega) F9 z61 z65 h62 h66 hI (s_PGt hI0 hfr (by decide) hPG)) (cwV 1 hts (ax_gV T_562 T_564 T_565 T_137 T_563) rfl rfl rfl (by decide +kernel) ⟨Nat.le_of_ble_eq_true rfl, Nat.le_of_ble_eq_true rfl⟩) ⟨fun a U g mk q => ⟨q.1, s_pc rfl rfl q.2⟩, s_recv hK hP (hLK _ h62 (by decide)) (ci := 1) rfl o104, fun U hU hW => ⟨rfl, s_pw hU hW hP hK hD hN⟩⟩ rfl rfl hl.1 rfl (lv_room (Nat.le_of_ble_eq_true rfl)) dX0_roundFromHere_28 ⟨Nat.zero_le _, Nat.zero_le _⟩) hS (fun q _ h => h) (fun q h => h) (fun r105 F106 t H1 locs ht hvm hw hB hz1 hk1 hS => ?_)
    obtain ⟨hP, hK1⟩ := hB
    rw [ht] at hP
    generalize H1 = H at hP hS ⊢
    obtain ⟨h107, h108, hI, hfr1⟩ := hw
    have o109 : F106 a0 = .inr (0, [.ref z61, .ref z63, .ref z65, .ref z67, .ref z69, .int z71, .ref z72, .long z74, .ref z75, .int z77, .ref z78, .int z80, .int z81, .int z82]) := (hfr1 _ (by rw [ha0]; decide)).trans o84
    have hfr : ∀ b, K b ∉ [2, 5, 6, 24, 27, 28, 29, 30, 31, 32, 34, 35] → F106 b = F b := fun b hb9 => (hfr1 b (fun q => hb9 (s_sub (by decide) q))).trans (hfr b hb9)
    refine lv_pop hx hb dX0_roundFromHere_31 rfl ?_
    refine lv_aload_n hx hb dX0_roundFromHere_32 rfl (lv_at hl 0 rfl) ?_
    refine th_get (D := (dC, dI)) (ci := 0) (v := .ref z65) (C := RX0) (T := TX0) (N := 14) hx hb hts inX0 hown hK hP (hLK _ ha0 (by decide)) o109 rfl 2 (by decide) (hts _ T_146) (fun _ h9 => h9) rfl dX0_roundFromHere_33 ?_
    refine lv_aload_n hx hb dX0_roundFromHere_36 rfl (lv_at hl 0 rfl) ?_
    refine th_get (D := (dC, dI)) (ci := 0) (v := .ref z67) (C := RX0) (T := TX0) (N := 14) hx hb hts inX0 hown hK hP (hLK _ ha0 (by decide)) o109 rfl 3 (by decide) (hts _ T_147) (fun _ h9 => h9) rfl dX0_roundFromHere_37 ?_
    obtain ⟨z110, z112, z114, z116, z118, z120, z122, z124, z126, z127, z128, z130, z131, z133, z134, o136, h111, h113, h115, h117, h119, h121, h123, h125, h129, h132, h135, -⟩ := s_op5 hI h66
    refine va_calli (va_runV (As := [.ref z67]) (rest := []) ⟨hx, hb, hml, hown, hts⟩ (s_X4_isLike l dC dI H.size hLK (D58 + 1) F106 z65 z67 h66 h68 hI) (cwV 1 hts (ax_gV T_586 T_588 T_589 T_142 T_587) rfl rfl rfl (by decide +kernel) ⟨Nat.le_of_ble_eq_true rfl, Nat.le_of_ble_eq_true rfl⟩) ⟨fun a U g mk q => ⟨q.1, s_pc rfl rfl q.2⟩, s_recv hK hP (hLK _ h66 (by decide)) (ci := 4) rfl o136, fun U hU hW => ⟨rfl, s_pw hU hW hP hK hD hN⟩⟩ rfl rfl hl.1 rfl (lv_room (Nat.le_of_ble_eq_true rfl)) dX0_roundFromHere_40 ⟨Nat.zero_le _, Nat.zero_le _⟩) hS (fun q _ h => h) (fun q h => h) (fun r137 F138 t H1 locs ht hvm hw hB hz1 hk1 hS => ?_)
    obtain ⟨hP, hK1⟩ := hB
    rw [ht] at hP
    generalize H1 = H at hP hS ⊢
    obtain ⟨h139, h140, hI, hfr1⟩ := hw
    have o141 : F138 a0 = .inr (0, [.ref z61, .ref z63, .ref z65, .ref z67, .ref z69, .int z71, .ref z72, .long z74, .ref z75, .int z77, .ref z78, .int z80, .int z81, .int z82]) := (hfr1 _ (by rw [ha0]; decide)).trans o109
    have o142 : F138 z65 = .inr (4, [.ref z110, .ref z112, .ref z114, .ref z116, .ref z118, .ref z120, .ref z122, .int z124, .int z126, .int z127, .int z128, .int z130, .int z131, .int z133, .int z134]) := (hfr1 _ (by rw [h66]; decide)).trans o136
    have hfr : ∀ b, K b ∉ [2, 5, 6, 24, 27, 28, 29, 30, 31, 32, 34, 35] → F138 b = F b := fun b hb9 => (hfr1 b (fun q => hb9 (s_sub (by decide) q))).trans (hfr b hb9)
    refine lv_if_eq (tgt := 48) hx hb dX0_roundFromHere_43 (by decide) (fun c143 => ?_) (fun c143 => ?_)
    · have c143 := (ax_eq (n := 0) (by decide)).mp c143
      obtain ⟨v144, ev144⟩ : ∃ y : Int32, w56 + 1 = y := ⟨_, rfl⟩
      have qv144 : v144.toInt = w56.toInt + 1 := by rw [← ev144]; exact th_add rfl (by decide) ⟨by omega, by omega⟩
      refine lv_iinc (v := v144) (lv' := [(1, .int v144), (0, .ref a0)]) hx hb dX0_roundFromHere_48 hl (k := 1) rfl ev144 (by decide) rfl (fun ls hl => ?_)
      refine lv_goto (tgt := 13) hx hb dX0_roundFromHere_51 (by decide) ?_
      exact ih13 _ _ _ _ (by omega) ⟨F138, _, (D58 + 1), v144, rfl, lv_sub hl [1, 0] rfl, by omega, hI, hP, hS, hfr, ⟨by omega, by omega⟩, rfl⟩
    · have c143 := mt (ax_eq (n := 0) (by decide)).mpr c143
      refine lv_iload_n hx hb dX0_roundFromHere_46 rfl (lv_at hl 1 rfl) ?_
      exact W.iret (v := w56) hx hb hr (fun t ht hW => ⟨⟨w56, F138, rfl, ⟨⟨by omega, by omega⟩, trivial, (s_mono (by omega) hI), hfr⟩, by rw [ht]; exact hP, va_K.moved hW.alike hK⟩, hS.F ht⟩) hS.2.2 dX0_roundFromHere_47

set_option maxHeartbeats 4000000 in
set_option maxRecDepth 100000 in
theorem s_X0_firstAgain (l : Launch) (dC : Nat → ClassId) (dI : Nat → Nat → Nat) (sz : Nat) {L : List Nat} {K : Nat → Nat} {cs : Nat → ClassId} (hLK : ∀ a {k : Nat}, K a = k → k ≠ 0 → a ∈ L) (D : Nat) (Dm : Nat) (hDm : D + 1205 ≤ Dm) (hDM : Dm < 2147483647) (F : Nat → va_E) (a0 : Nat) (a1 : Nat) (x2 : Int32) (ha0 : K a0 = 1) (ha1 : K a1 = 5) (hx2 : -1 ≤ x2.toInt ∧ x2.toInt ≤ 400) (hI : s_I K cs D F) (hPG : s_PG K cs F) : Met l yX0_firstAgain (Cond.code yX0_firstAgain cX0_firstAgain 4 (some .int) :: T0) ({ frames := 5, cells := 0, slots := 0, locals := 114 }) (va_Pc [.ref a0, .ref a1, .int x2] (s_W dC dI sz L F [(cs 0, .int), (cs 1, .byte), (cs 2, .long), (cs 3, .object RX5), (cs 4, .object RX4), (cs 5, .array .int), (cs 6, .char), (cs 7, .boolean)])) (va_Qi (fun (r : Int32) (G : Nat → va_E) => (-1 ≤ r.toInt ∧ r.toInt ≤ 400) ∧ True ∧ s_I K cs Dm G ∧ ∀ b, K b ∉ [2, 5, 6, 24, 27, 28, 29, 30, 31, 32, 34, 35] → G b = F b) (fun (G : Nat → va_E) (t : State) => va_P (dC, dI) vwCl (va_pl L G) t.heap ∧ va_K (dC, dI) vwCl [(cs 0, .int), (cs 1, .byte), (cs 2, .long), (cs 3, .object RX5), (cs 4, .object RX4), (cs 5, .array .int), (cs 6, .char), (cs 7, .boolean)] t) (fun q => q ∈ L)) 0 0 (fun q => q ∈ L) := by
  refine Met.ofW (cc := cX0_firstAgain) (maxL := 4) (ret := (some .int)) (by decide) rfl ?_
  intro p e s m args below meth c s₁ B hml hv
  obtain ⟨rfl, hsz, hP, hK, hD, hN⟩ := hv
  have hx := B.exec
  have hb := B.bytes
  have hr := B.returns
  have hts : ∀ w ∈ T0, w.before _ s = true := fun w h => atoms_spec (ws := Cond.code yX0_firstAgain cX0_firstAgain 4 (some .int) :: T0) B.pre w (List.mem_cons_of_mem _ h)
  have hown : s.vm.findClass RX0 = some m.cls := findClass_of_methodNamed B.named
  have hlocks := B.notSynchronized
  have hS : va_S (fun q => q ∈ L) s.heap s.heap [] := va_S.rf
  have hfr : ∀ b, K b ∉ [2, 5, 6, 24, 27, 28, 29, 30, 31, 32, 34, 35] → F b = F b := fun _ _ => rfl
  have hl := lv_entry ([.ref a0, .ref a1, .int x2]) (n := 4) (Nat.le_of_ble_eq_true rfl)
  rw [lg_entry_eq]
  generalize (lg_sl ([.ref a0, .ref a1, .int x2]) ++ List.replicate (4 - (lg_sl ([.ref a0, .ref a1, .int x2])).length) Slot.unset).toArray = ls at hl ⊢
  have hl : lv_has ls 4 [(0, .ref a0), (1, .ref a1), (2, .int x2)] := hl
  have hI0 := hI
  refine s_gen hP hS (fun H locs hP hS => ?_)
  refine lv_iload_n hx hb dX0_firstAgain_0 rfl (lv_at hl 2 rfl) ?_
  refine lv_iconst (v := (-1)) hx hb dX0_firstAgain_1 (by decide) ?_
  refine lv_icmp_ne (tgt := 7) hx hb dX0_firstAgain_2 (by decide) (fun c1 => ?_) (fun c1 => ?_)
  · have c1 := mt (ax_eq (n := (-1)) (by decide)).mpr c1
    refine lv_aload_n hx hb dX0_firstAgain_7 rfl (lv_at hl 0 rfl) ?_
    obtain ⟨z2, z4, z6, z8, z10, z12, z13, z15, z16, z18, z19, z21, z22, z23, o25, h3, h5, h7, h9, h11, h14, h17, h20, h24, -⟩ := s_op1 hI ha0
    refine th_get (D := (dC, dI)) (ci := 0) (v := .ref z8) (C := RX0) (T := TX0) (N := 14) hx hb hts inX0 hown hK hP (hLK _ ha0 (by decide)) o25 rfl 3 (by decide) (hts _ T_147) (fun _ h9 => h9) rfl dX0_firstAgain_8 ?_
    refine lv_aload_n hx hb dX0_firstAgain_11 rfl (lv_at hl 1 rfl) ?_
    obtain ⟨z26, z28, z30, z32, z34, z36, z38, z40, z42, z43, z44, z46, z47, z49, z50, o52, h27, h29, h31, h33, h35, h37, h39, h41, h45, h48, h51, -⟩ := s_op5 hI h9
    refine va_callv (va_runV (As := [.ref a1]) (rest := []) ⟨hx, hb, hml, hown, hts⟩ (s_X4_copyFrom l dC dI H.size hLK D F z8 a1 h9 ha1 hI) (cwV 1 hts (ax_gV T_558 T_560 T_561 T_142 T_559) rfl rfl rfl (by decide +kernel) ⟨Nat.le_of_ble_eq_true rfl, Nat.le_of_ble_eq_true rfl⟩) ⟨fun a U g mk q => ⟨q.1, s_pc rfl rfl q.2⟩, s_recv hK hP (hLK _ h9 (by decide)) (ci := 4) rfl o52, fun U hU hW => ⟨rfl, s_pw hU hW hP hK hD hN⟩⟩ rfl rfl hl.1 rfl (lv_room (Nat.le_of_ble_eq_true rfl)) dX0_firstAgain_12 ⟨Nat.zero_le _, Nat.zero_le _⟩) hS (fun q _ h => h) (fun q h => h) (fun F53 t H1 locs ht hvm hw hB hz1 hk1 hS => ?_)
    obtain ⟨hP, hK1⟩ := hB
    rw [ht] at hP
    generalize H1 = H at hP hS ⊢
    obtain ⟨h54, h55, hI, hfr1⟩ := hw
    have o56 : F53 a0 = .inr (0, [.ref z2, .ref z4, .ref z6, .ref z8, .ref z10, .int z12, .ref z13, .long z15, .ref z16, .int z18, .ref z19, .int z21, .int z22, .int z23]) := (hfr1 _ (by rw [ha0]; decide)).trans o25
    have hfr : ∀ b, K b ∉ [2, 5, 6, 24, 27, 28, 29, 30, 31, 32, 34, 35] → F53 b = F b := fun b hb9 => (hfr1 b (fun q => hb9 (s_sub (by decide) q))).trans (hfr b hb9)
    refine lv_aload_n hx hb dX0_firstAgain_15 rfl (lv_at hl 0 rfl) ?_
    refine th_get (D := (dC, dI)) (ci := 0) (v := .ref z6) (C := RX0) (T := TX0) (N := 14) hx hb hts inX0 hown hK hP (hLK _ ha0 (by decide)) o56 rfl 2 (by decide) (hts _ T_146) (fun _ h9 => h9) rfl dX0_firstAgain_16 ?_
    refine lv_aload_n hx hb dX0_firstAgain_19 rfl (lv_at hl 1 rfl) ?_
    obtain ⟨z57, z59, z61, z63, z65, z67, z69, z71, z73, z74, z75, z77, z78, z80, z81, o83, h58, h60, h62, h64, h66, h68, h70, h72, h76, h79, h82, -⟩ := s_op5 hI h7
    refine va_callv (va_runV (As := [.ref a1]) (rest := []) ⟨hx, hb, hml, hown, hts⟩ (s_X4_copyFrom l dC dI H.size hLK D F53 z6 a1 h7 ha1 hI) (cwV 1 hts (ax_gV T_558 T_560 T_561 T_142 T_559) rfl rfl rfl (by decide +kernel) ⟨Nat.le_of_ble_eq_true rfl, Nat.le_of_ble_eq_true rfl⟩) ⟨fun a U g mk q => ⟨q.1, s_pc rfl rfl q.2⟩, s_recv hK hP (hLK _ h7 (by decide)) (ci := 4) rfl o83, fun U hU hW => ⟨rfl, s_pw hU hW hP hK hD hN⟩⟩ rfl rfl hl.1 rfl (lv_room (Nat.le_of_ble_eq_true rfl)) dX0_firstAgain_20 ⟨Nat.zero_le _, Nat.zero_le _⟩) hS (fun q _ h => h) (fun q h => h) (fun F84 t H1 locs ht hvm hw hB hz1 hk1 hS => ?_)
    obtain ⟨hP, hK1⟩ := hB
    rw [ht] at hP
    generalize H1 = H at hP hS ⊢
    obtain ⟨h85, h86, hI, hfr1⟩ := hw
    have o87 : F84 a0 = .inr (0, [.ref z2, .ref z4, .ref z6, .ref z8, .ref z10, .int z12, .ref z13, .long z15, .ref z16, .int z18, .ref z19, .int z21, .int z22, .int z23]) := (hfr1 _ (by rw [ha0]; decide)).trans o56
    have hfr : ∀ b, K b ∉ [2, 5, 6, 24, 27, 28, 29, 30, 31, 32, 34, 35] → F84 b = F b := fun b hb9 => (hfr1 b (fun q => hb9 (s_sub (by decide) q))).trans (hfr b hb9)
    refine lv_iconst (v := 0) hx hb dX0_firstAgain_23 (by decide) ?_
    refine lv_istore_n (lv' := [(3, .int 0), (0, .ref a0), (1, .ref a1), (2, .int x2)]) hx hb dX0_firstAgain_24 rfl hl (by decide) rfl (fun ls hl => ?_)
    refine th_loop (fun n g H locs => ∃ (G : Nat → va_E) (ls : Array Slot) (Dn : Nat) (w88 : Int32), g = F0 m 25 ls [] ∧ lv_has ls 4 [(0, .ref a0), (2, .int x2), (3, .int w88)] ∧ Dn + 1 * n + 804 ≤ Dm ∧ s_I K cs Dn G ∧ va_P (dC, dI) vwCl (va_pl L G) H ∧ va_S (fun q => q ∈ L) s.heap H locs ∧ (∀ b, K b ∉ [2, 5, 6, 24, 27, 28, 29, 30, 31, 32, 34, 35] → G b = F b) ∧ (0 ≤ w88.toInt ∧ w88.toInt ≤ 400) ∧ (0 ≤ x2.toInt ∧ x2.toInt ≤ 400) ∧ n = (401 - w88.toInt).toNat) _ ⟨F84, _, D, 0, rfl, lv_sub hl [1, 3, 0] rfl, by omega, hI, hP, hS, hfr, (by decide), ⟨by omega, by omega⟩, rfl⟩ (fun n ih25 g H locs hq => ?_)
    obtain ⟨F9, ls, D91, w88, rfl, hl, h92, hI, hP, hS, hfr, h89, h90, hn⟩ := hq
    have hn_25 := hn
    obtain ⟨n_25, hn9_25⟩ : ∃ q, q = n := ⟨_, rfl⟩
    refine lv_iload_n hx hb dX0_firstAgain_25 rfl (lv_at hl 2 rfl) ?_
    refine lv_iload_n hx hb dX0_firstAgain_26 rfl (lv_at hl 1 rfl) ?_
    refine lv_icmp_ge (tgt := 48) hx hb dX0_firstAgain_27 (by decide) (fun c93 => ?_) (fun c93 => ?_)
    · have c93 := Int32.le_iff_toInt_le.mp c93
      refine lv_iload_n hx hb dX0_firstAgain_48 rfl (lv_at hl 1 rfl) ?_
      refine lv_istore_n (lv' := [(3, .int x2), (0, .ref a0), (2, .int x2)]) hx hb dX0_firstAgain_49 rfl hl (by decide) rfl (fun ls hl => ?_)
      refine th_loop (fun n g H locs => ∃ (G : Nat → va_E) (ls : Array Slot) (Dn : Nat) (w94 : Int32), g = F0 m 50 ls [] ∧ lv_has ls 4 [(0, .ref a0), (3, .int w94)] ∧ Dn + 2 * n + 0 ≤ Dm ∧ s_I K cs Dn G ∧ va_P (dC, dI) vwCl (va_pl L G) H ∧ va_S (fun q => q ∈ L) s.heap H locs ∧ (∀ b, K b ∉ [2, 5, 6, 24, 27, 28, 29, 30, 31, 32, 34, 35] → G b = F b) ∧ (0 ≤ w94.toInt ∧ w94.toInt ≤ 401) ∧ n = (402 - w94.toInt).toNat) _ ⟨F9, _, D91, x2, rfl, lv_sub hl [1, 0] rfl, by omega, hI, hP, hS, hfr, ⟨by omega, by omega⟩, rfl⟩ (fun n ih50 g H locs hq => ?_)
      obtain ⟨F9, ls, D96, w94, rfl, hl, h97, hI, hP, hS, hfr, h95, hn⟩ := hq
      have hn_50 := hn
      obtain ⟨n_50, hn9_50⟩ : ∃ q, q = n := ⟨_, rfl⟩
      refine lv_iload_n hx hb dX0_firstAgain_50 rfl (lv_at hl 1 rfl) ?_
      refine lv_sipush (v := 400) hx hb dX0_firstAgain_51 (by decide) ?_
      refine lv_icmp_gt (tgt := 103) hx hb dX0_firstAgain_54 (by decide) (fun c98 => ?_) (fun c98 => ?_)
      · have c98 := (ax_gt (n := 400) (by decide)).mp c98
        refine lv_iconst (v := (-1)) hx hb dX0_firstAgain_103 (by decide) ?_
        exact W.iret (v := (-1)) hx hb hr (fun t ht hW => ⟨⟨(-1), F9, rfl, ⟨(by decide), trivial, (s_mono (by omega) hI), hfr⟩, by rw [ht]; exact hP, va_K.moved hW.alike hK⟩, hS.F ht⟩) hS.2.2 dX0_firstAgain_104
      · have c98 := mt (ax_gt (n := 400) (by decide)).mpr c98
        refine lv_aload_n hx hb dX0_firstAgain_57 rfl (lv_at hl 0 rfl) ?_
        obtain ⟨z99, z101, z103, z105, z107, z109, z110, z112, z113, z115, z116, z118, z119, z120, o122, h100, h102, h104, h106, h108, h111, h114, h117, h121, -⟩ := s_op1 hI ha0
        refine th_get (D := (dC, dI)) (ci := 0) (v := .ref z103) (C := RX0) (T := TX0) (N := 14) hx hb hts inX0 hown hK hP (hLK _ ha0 (by decide)) o122 rfl 2 (by decide) (hts _ T_146) (fun _ h9 => h9) rfl dX0_firstAgain_58 ?_
        refine lv_aload_n hx hb dX0_firstAgain_61 rfl (lv_at hl 0 rfl) ?_
        refine th_get (D := (dC, dI)) (ci := 0) (v := .ref z105) (C := RX0) (T := TX0) (N := 14) hx hb hts inX0 hown hK hP (hLK _ ha0 (by decide)) o122 rfl 3 (by decide) (hts _ T_147) (fun _ h9 => h9) rfl dX0_firstAgain_62 ?_
        obtain ⟨z123, z125, z127, z129, z131, z133, z135, z137, z139, z140, z141, z143, z144, z146, z147, o149, h124, h126, h128, h130, h132, h134, h136, h138, h142, h145, h148, -⟩ := s_op5 hI h104
        refine va_calli (va_runV (As := [.ref z105]) (rest := []) ⟨hx, hb, hml, hown, hts⟩ (s_X4_isLike l dC dI H.size hLK D96 F9 z103 z105 h104 h106 hI) (cwV 1 hts (ax_gV T_586 T_588 T_589 T_142 T_587) rfl rfl rfl (by decide +kernel) ⟨Nat.le_of_ble_eq_true rfl, Nat.le_of_ble_eq_true rfl⟩) ⟨fun a U g mk q => ⟨q.1, s_pc rfl rfl q.2⟩, s_recv hK hP (hLK _ h104 (by decide)) (ci := 4) rfl o149, fun U hU hW => ⟨rfl, s_pw hU hW hP hK hD hN⟩⟩ rfl rfl hl.1 rfl (lv_room (Nat.le_of_ble_eq_true rfl)) dX0_firstAgain_65 ⟨Nat.zero_le _, Nat.zero_le _⟩) hS (fun q _ h => h) (fun q h => h) (fun r150 F151 t H1 locs ht hvm hw hB hz1 hk1 hS => ?_)
        obtain ⟨hP, hK1⟩ := hB
        rw [ht] at hP
        generalize H1 = H at hP hS ⊢
        obtain ⟨h152, h153, hI, hfr1⟩ := hw
        have o154 : F151 a0 = .inr (0, [.ref z99, .ref z101, .ref z103, .ref z105, .ref z107, .int z109, .ref z110, .long z112, .ref z113, .int z115, .ref z116, .int z118, .int z119, .int z120]) := (hfr1 _ (by rw [ha0]; decide)).trans o122
        have o155 : F151 z103 = .inr (4, [.ref z123, .ref z125, .ref z127, .ref z129, .ref z131, .ref z133, .ref z135, .int z137, .int z139, .int z140, .int z141, .int z143, .int z144, .int z146, .int z147]) := (hfr1 _ (by rw [h104]; decide)).trans o149
        have hfr : ∀ b, K b ∉ [2, 5, 6, 24, 27, 28, 29, 30, 31, 32, 34, 35] → F151 b = F b := fun b hb9 => (hfr1 b (fun q => hb9 (s_sub (by decide) q))).trans (hfr b hb9)
        refine lv_if_eq (tgt := 73) hx hb dX0_firstAgain_68 (by decide) (fun c156 => ?_) (fun c156 => ?_)
        · have c156 := (ax_eq (n := 0) (by decide)).mp c156
          refine lv_aload_n hx hb dX0_firstAgain_73 rfl (lv_at hl 0 rfl) ?_
          refine th_get (D := (dC, dI)) (ci := 0) (v := .ref z99) (C := RX0) (T := TX0) (N := 14) hx hb hts inX0 hown hK hP (hLK _ ha0 (by decide)) o154 rfl 0 (by decide) (hts _ T_139) (fun _ h9 => h9) rfl dX0_firstAgain_74 ?_
          refine lv_aload_n hx hb dX0_firstAgain_77 rfl (lv_at hl 0 rfl) ?_
          refine th_get (D := (dC, dI)) (ci := 0) (v := .ref z103) (C := RX0) (T := TX0) (N := 14) hx hb hts inX0 hown hK hP (hLK _ ha0 (by decide)) o154 rfl 2 (by decide) (hts _ T_146) (fun _ h9 => h9) rfl dX0_firstAgain_78 ?_
          obtain ⟨z157, z159, z161, z163, z165, z167, z168, z170, z171, z172, z174, z175, o176, h158, h160, h162, h164, h166, h169, h173, -⟩ := s_op2 hI h100
          refine va_calli (va_runV (As := [.ref z103]) (rest := []) ⟨hx, hb, hml, hown, hts⟩ (s_X1_step l dC dI H.size hLK D96 (D96 + 1) (Nat.le_refl _) (by omega) F151 z99 z103 h100 h104 hI (s_PGt hI0 hfr (by decide) hPG)) (cwV 1 hts (ax_gV T_562 T_564 T_565 T_137 T_563) rfl rfl rfl (by decide +kernel) ⟨Nat.le_of_ble_eq_true rfl, Nat.le_of_ble_eq_true rfl⟩) ⟨fun a U g mk q => ⟨q.1, s_pc rfl rfl q.2⟩, s_recv hK hP (hLK _ h100 (by decide)) (ci := 1) rfl o176, fun U hU hW => ⟨rfl, s_pw hU hW hP hK hD hN⟩⟩ rfl rfl hl.1 rfl (lv_room (Nat.le_of_ble_eq_true rfl)) dX0_firstAgain_81 ⟨Nat.zero_le _, Nat.zero_le _⟩) hS (fun q _ h => h) (fun q h => h) (fun r177 F178 t H1 locs ht hvm hw hB hz1 hk1 hS => ?_)
          obtain ⟨hP, hK1⟩ := hB
          rw [ht] at hP
          generalize H1 = H at hP hS ⊢
          obtain ⟨h179, h180, hI, hfr1⟩ := hw
          have o181 : F178 a0 = .inr (0, [.ref z99, .ref z101, .ref z103, .ref z105, .ref z107, .int z109, .ref z110, .long z112, .ref z113, .int z115, .ref z116, .int z118, .int z119, .int z120]) := (hfr1 _ (by rw [ha0]; decide)).trans o154
          have hfr : ∀ b, K b ∉ [2, 5, 6, 24, 27, 28, 29, 30, 31, 32, 34, 35] → F178 b = F b := fun b hb9 => (hfr1 b (fun q => hb9 (s_sub (by decide) q))).trans (hfr b hb9)
          refine lv_pop hx hb dX0_firstAgain_84 rfl ?_
          refine lv_aload_n hx hb dX0_firstAgain_85 rfl (lv_at hl 0 rfl) ?_
          refine th_get (D := (dC, dI)) (ci := 0) (v := .ref z99) (C := RX0) (T := TX0) (N := 14) hx hb hts inX0 hown hK hP (hLK _ ha0 (by decide)) o181 rfl 0 (by decide) (hts _ T_139) (fun _ h9 => h9) rfl dX0_firstAgain_86 ?_
          refine lv_aload_n hx hb dX0_firstAgain_89 rfl (lv_at hl 0 rfl) ?_
          refine th_get (D := (dC, dI)) (ci := 0) (v := .ref z105) (C := RX0) (T := TX0) (N := 14) hx hb hts inX0 hown hK hP (hLK _ ha0 (by decide)) o181 rfl 3 (by decide) (hts _ T_147) (fun _ h9 => h9) rfl dX0_firstAgain_90 ?_
          obtain ⟨z182, z184, z186, z188, z190, z192, z193, z195, z196, z197, z199, z200, o201, h183, h185, h187, h189, h191, h194, h198, -⟩ := s_op2 hI h100
          refine va_calli (va_runV (As := [.ref z105]) (rest := []) ⟨hx, hb, hml, hown, hts⟩ (s_X1_step l dC dI H.size hLK (D96 + 1) ((D96 + 1) + 1) (Nat.le_refl _) (by omega) F178 z99 z105 h100 h106 hI (s_PGt hI0 hfr (by decide) hPG)) (cwV 1 hts (ax_gV T_562 T_564 T_565 T_137 T_563) rfl rfl rfl (by decide +kernel) ⟨Nat.le_of_ble_eq_true rfl, Nat.le_of_ble_eq_true rfl⟩) ⟨fun a U g mk q => ⟨q.1, s_pc rfl rfl q.2⟩, s_recv hK hP (hLK _ h100 (by decide)) (ci := 1) rfl o201, fun U hU hW => ⟨rfl, s_pw hU hW hP hK hD hN⟩⟩ rfl rfl hl.1 rfl (lv_room (Nat.le_of_ble_eq_true rfl)) dX0_firstAgain_93 ⟨Nat.zero_le _, Nat.zero_le _⟩) hS (fun q _ h => h) (fun q h => h) (fun r202 F203 t H1 locs ht hvm hw hB hz1 hk1 hS => ?_)
          obtain ⟨hP, hK1⟩ := hB
          rw [ht] at hP
          generalize H1 = H at hP hS ⊢
          obtain ⟨h204, h205, hI, hfr1⟩ := hw
          have o206 : F203 a0 = .inr (0, [.ref z99, .ref z101, .ref z103, .ref z105, .ref z107, .int z109, .ref z110, .long z112, .ref z113, .int z115, .ref z116, .int z118, .int z119, .int z120]) := (hfr1 _ (by rw [ha0]; decide)).trans o181
          have hfr : ∀ b, K b ∉ [2, 5, 6, 24, 27, 28, 29, 30, 31, 32, 34, 35] → F203 b = F b := fun b hb9 => (hfr1 b (fun q => hb9 (s_sub (by decide) q))).trans (hfr b hb9)
          refine lv_pop hx hb dX0_firstAgain_96 rfl ?_
          obtain ⟨v207, ev207⟩ : ∃ y : Int32, w94 + 1 = y := ⟨_, rfl⟩
          have qv207 : v207.toInt = w94.toInt + 1 := by rw [← ev207]; exact th_add rfl (by decide) ⟨by omega, by omega⟩
          refine lv_iinc (v := v207) (lv' := [(3, .int v207), (0, .ref a0)]) hx hb dX0_firstAgain_97 hl (k := 1) rfl ev207 (by decide) rfl (fun ls hl => ?_)
          refine lv_goto (tgt := 50) hx hb dX0_firstAgain_100 (by decide) ?_
          exact ih50 _ _ _ _ (by omega) ⟨F203, _, ((D96 + 1) + 1), v207, rfl, lv_sub hl [1, 0] rfl, by omega, hI, hP, hS, hfr, ⟨by omega, by omega⟩, rfl⟩
        · have c156 := mt (ax_eq (n := 0) (by decide)).mpr c156
          refine lv_iload_n hx hb dX0_firstAgain_71 rfl (lv_at hl 1 rfl) ?_
          exact W.iret (v := w94) hx hb hr (fun t ht hW => ⟨⟨w94, F151, rfl, ⟨⟨by omega, by omega⟩, trivial, (s_mono (by omega) hI), hfr⟩, by rw [ht]; exact hP, va_K.moved hW.alike hK⟩, hS.F ht⟩) hS.2.2 dX0_firstAgain_72
    · have c93 := mt Int32.le_iff_toInt_le.mpr c93
      refine lv_aload_n hx hb dX0_firstAgain_30 rfl (lv_at hl 0 rfl) ?_
      obtain ⟨z208, z210, z212, z214, z216, z218, z219, z221, z222, z224, z225, z227, z228, z229, o231, h209, h211, h213, h215, h217, h220, h223, h226, h230, -⟩ := s_op1 hI ha0
      refine th_get (D := (dC, dI)) (ci := 0) (v := .ref z208) (C := RX0) (T := TX0) (N := 14) hx hb hts inX0 hown hK hP (hLK _ ha0 (by decide)) o231 rfl 0 (by decide) (hts _ T_139) (fun _ h9 => h9) rfl dX0_firstAgain_31 ?_
      refine lv_aload_n hx hb dX0_firstAgain_34 rfl (lv_at hl 0 rfl) ?_
      refine th_get (D := (dC, dI)) (ci := 0) (v := .ref z212) (C := RX0) (T := TX0) (N := 14) hx hb hts inX0 hown hK hP (hLK _ ha0 (by decide)) o231 rfl 2 (by decide) (hts _ T_146) (fun _ h9 => h9) rfl dX0_firstAgain_35 ?_
      obtain ⟨z232, z234, z236, z238, z240, z242, z243, z245, z246, z247, z249, z250, o251, h233, h235, h237, h239, h241, h244, h248, -⟩ := s_op2 hI h209
      refine va_calli (va_runV (As := [.ref z212]) (rest := []) ⟨hx, hb, hml, hown, hts⟩ (s_X1_step l dC dI H.size hLK D91 (D91 + 1) (Nat.le_refl _) (by omega) F9 z208 z212 h209 h213 hI (s_PGt hI0 hfr (by decide) hPG)) (cwV 1 hts (ax_gV T_562 T_564 T_565 T_137 T_563) rfl rfl rfl (by decide +kernel) ⟨Nat.le_of_ble_eq_true rfl, Nat.le_of_ble_eq_true rfl⟩) ⟨fun a U g mk q => ⟨q.1, s_pc rfl rfl q.2⟩, s_recv hK hP (hLK _ h209 (by decide)) (ci := 1) rfl o251, fun U hU hW => ⟨rfl, s_pw hU hW hP hK hD hN⟩⟩ rfl rfl hl.1 rfl (lv_room (Nat.le_of_ble_eq_true rfl)) dX0_firstAgain_38 ⟨Nat.zero_le _, Nat.zero_le _⟩) hS (fun q _ h => h) (fun q h => h) (fun r252 F253 t H1 locs ht hvm hw hB hz1 hk1 hS => ?_)
      obtain ⟨hP, hK1⟩ := hB
      rw [ht] at hP
      generalize H1 = H at hP hS ⊢
      obtain ⟨h254, h255, hI, hfr1⟩ := hw
      have o256 : F253 a0 = .inr (0, [.ref z208, .ref z210, .ref z212, .ref z214, .ref z216, .int z218, .ref z219, .long z221, .ref z222, .int z224, .ref z225, .int z227, .int z228, .int z229]) := (hfr1 _ (by rw [ha0]; decide)).trans o231
      have hfr : ∀ b, K b ∉ [2, 5, 6, 24, 27, 28, 29, 30, 31, 32, 34, 35] → F253 b = F b := fun b hb9 => (hfr1 b (fun q => hb9 (s_sub (by decide) q))).trans (hfr b hb9)
      refine lv_pop hx hb dX0_firstAgain_41 rfl ?_
      obtain ⟨v257, ev257⟩ : ∃ y : Int32, w88 + 1 = y := ⟨_, rfl⟩
      have qv257 : v257.toInt = w88.toInt + 1 := by rw [← ev257]; exact th_add rfl (by decide) ⟨by omega, by omega⟩
      refine lv_iinc (v := v257) (lv' := [(3, .int v257), (0, .ref a0), (2, .int x2)]) hx hb dX0_firstAgain_42 hl (k := 2) rfl ev257 (by decide) rfl (fun ls hl => ?_)
      refine lv_goto (tgt := 25) hx hb dX0_firstAgain_45 (by decide) ?_
      exact ih25 _ _ _ _ (by omega) ⟨F253, _, (D91 + 1), v257, rfl, lv_sub hl [1, 2, 0] rfl, by omega, hI, hP, hS, hfr, ⟨by omega, by omega⟩, ⟨by omega, by omega⟩, rfl⟩
  · have c1 := (ax_eq (n := (-1)) (by decide)).mp c1
    refine lv_iconst (v := (-1)) hx hb dX0_firstAgain_5 (by decide) ?_
    exact W.iret (v := (-1)) hx hb hr (fun t ht hW => ⟨⟨(-1), F, rfl, ⟨(by decide), trivial, (s_mono (by omega) hI), hfr⟩, by rw [ht]; exact hP, va_K.moved hW.alike hK⟩, hS.F ht⟩) hS.2.2 dX0_firstAgain_6

set_option maxHeartbeats 4000000 in
set_option maxRecDepth 100000 in
theorem s_X0_course (l : Launch) (dC : Nat → ClassId) (dI : Nat → Nat → Nat) (sz : Nat) {L : List Nat} {K : Nat → Nat} {cs : Nat → ClassId} (hLK : ∀ a {k : Nat}, K a = k → k ≠ 0 → a ∈ L) (D : Nat) (Dm : Nat) (hDm : D + 2007 ≤ Dm) (hDM : Dm < 2147483647) (F : Nat → va_E) (a0 : Nat) (a1 : Nat) (x2 : Int32) (x3 : Int32) (ha0 : K a0 = 1) (ha1 : K a1 = 5) (hx2 : 0 ≤ x2.toInt ∧ x2.toInt ≤ 16) (hx3 : 0 ≤ x3.toInt ∧ x3.toInt ≤ 2) (hI : s_I K cs D F) (hPG : s_PG K cs F) : Met l yX0_course (Cond.code yX0_course cX0_course 7 (some .int) :: T0) ({ frames := 6, cells := 0, slots := 0, locals := 137 }) (va_Pc [.ref a0, .ref a1, .int x2, .int x3] (s_W dC dI sz L F [(cs 0, .int), (cs 1, .byte), (cs 2, .long), (cs 3, .object RX5), (cs 4, .object RX4), (cs 5, .array .int), (cs 6, .char), (cs 7, .boolean)])) (va_Qi (fun (r : Int32) (G : Nat → va_E) => True ∧ True ∧ s_I K cs Dm G ∧ ∀ b, K b ∉ [1, 2, 5, 6, 24, 27, 28, 29, 30, 31, 32, 34, 35, 36] → G b = F b) (fun (G : Nat → va_E) (t : State) => va_P (dC, dI) vwCl (va_pl L G) t.heap ∧ va_K (dC, dI) vwCl [(cs 0, .int), (cs 1, .byte), (cs 2, .long), (cs 3, .object RX5), (cs 4, .object RX4), (cs 5, .array .int), (cs 6, .char), (cs 7, .boolean)] t) (fun q => q ∈ L)) 0 0 (fun q => q ∈ L) := by
  refine Met.ofW (cc := cX0_course) (maxL := 7) (ret := (some .int)) (by decide) rfl ?_
  intro p e s m args below meth c s₁ B hml hv
  obtain ⟨rfl, hsz, hP, hK, hD, hN⟩ := hv
  have hx := B.exec
  have hb := B.bytes
  have hr := B.returns
  have hts : ∀ w ∈ T0, w.before _ s = true := fun w h => atoms_spec (ws := Cond.code yX0_course cX0_course 7 (some .int) :: T0) B.pre w (List.mem_cons_of_mem _ h)
  have hown : s.vm.findClass RX0 = some m.cls := findClass_of_methodNamed B.named
  have hlocks := B.notSynchronized
  have hS : va_S (fun q => q ∈ L) s.heap s.heap [] := va_S.rf
  have hfr : ∀ b, K b ∉ [1, 2, 5, 6, 24, 27, 28, 29, 30, 31, 32, 34, 35, 36] → F b = F b := fun _ _ => rfl
  have hl := lv_entry ([.ref a0, .ref a1, .int x2, .int x3]) (n := 7) (Nat.le_of_ble_eq_true rfl)
  rw [lg_entry_eq]
  generalize (lg_sl ([.ref a0, .ref a1, .int x2, .int x3]) ++ List.replicate (7 - (lg_sl ([.ref a0, .ref a1, .int x2, .int x3])).length) Slot.unset).toArray = ls at hl ⊢
  have hl : lv_has ls 7 [(0, .ref a0), (1, .ref a1), (2, .int x2), (3, .int x3)] := hl
  have hI0 := hI
  refine s_gen hP hS (fun H locs hP hS => ?_)
  refine th_join (fun g H locs => ∃ (G : Nat → va_E) (ls : Array Slot) (Dn : Nat) (w1 : Int32), g = F0 m 131 ls [] ∧ lv_has ls 7 [(0, .ref a0), (3, .int x3), (4, .int w1)] ∧ Dn + 0 ≤ Dm ∧ s_I K cs Dn G ∧ va_P (dC, dI) vwCl (va_pl L G) H ∧ va_S (fun q => q ∈ L) s.heap H locs ∧ (∀ b, K b ∉ [1, 2, 5, 6, 24, 27, 28, 29, 30, 31, 32, 34, 35, 36] → G b = F b) ∧ (0 ≤ w1.toInt ∧ w1.toInt ≤ 48) ∧ (0 ≤ x3.toInt ∧ x3.toInt ≤ 2)) (fun K131 => ?_) ?_
  refine th_join (fun g H locs => ∃ (G : Nat → va_E) (ls : Array Slot) (Dn : Nat) (w2 : Int32) (w3 : Int32) (w4 : Int32) (w5 : Nat), g = F0 m 118 ls [.int w3, .int w4, .ref w5] ∧ lv_has ls 7 [(0, .ref a0), (2, .int x2), (3, .int x3), (4, .int w2)] ∧ Dn + 0 ≤ Dm ∧ s_I K cs Dn G ∧ va_P (dC, dI) vwCl (va_pl L G) H ∧ va_S (fun q => q ∈ L) s.heap H locs ∧ (∀ b, K b ∉ [1, 2, 5, 6, 24, 27, 28, 29, 30, 31, 32, 34, 35, 36] → G b = F b) ∧ (0 ≤ w2.toInt ∧ w2.toInt ≤ 48) ∧ (-1 ≤ w3.toInt ∧ w3.toInt ≤ 400) ∧ (2 ≤ w4.toInt ∧ w4.toInt ≤ 50) ∧ K w5 = 36 ∧ (0 ≤ x2.toInt ∧ x2.toInt ≤ 16) ∧ (0 ≤ x3.toInt ∧ x3.toInt ≤ 2)) (fun K118 => ?_) ?_
  refine th_join (fun g H locs => ∃ (G : Nat → va_E) (ls : Array Slot) (Dn : Nat) (w6 : Int32) (w7 : Int32) (w8 : Int32), g = F0 m 87 ls [] ∧ lv_has ls 7 [(0, .ref a0), (2, .int x2), (3, .int x3), (4, .int w6), (5, .int w7), (6, .int w8)] ∧ Dn + 0 ≤ Dm ∧ s_I K cs Dn G ∧ va_P (dC, dI) vwCl (va_pl L G) H ∧ va_S (fun q => q ∈ L) s.heap H locs ∧ (∀ b, K b ∉ [1, 2, 5, 6, 24, 27, 28, 29, 30, 31, 32, 34, 35, 36] → G b = F b) ∧ (0 ≤ w6.toInt ∧ w6.toInt ≤ 48) ∧ (-1 ≤ w7.toInt ∧ w7.toInt ≤ 400) ∧ (-1 ≤ w8.toInt ∧ w8.toInt ≤ 400) ∧ (0 ≤ x2.toInt ∧ x2.toInt ≤ 16) ∧ (0 ≤ x3.toInt ∧ x3.toInt ≤ 2)) (fun K87 => ?_) ?_
  refine th_join (fun g H locs => ∃ (G : Nat → va_E) (ls : Array Slot) (Dn : Nat) (w9 : Int32) (w10 : Int32) (w11 : Int32) (w12 : Int32) (w13 : Int32) (w14 : Nat), g = F0 m 86 ls [.int w12, .int w13, .ref w14] ∧ lv_has ls 7 [(0, .ref a0), (2, .int x2), (3, .int x3), (4, .int w9), (5, .int w10), (6, .int w11)] ∧ Dn + 0 ≤ Dm ∧ s_I K cs Dn G ∧ va_P (dC, dI) vwCl (va_pl L G) H ∧ va_S (fun q => q ∈ L) s.heap H locs ∧ (∀ b, K b ∉ [1, 2, 5, 6, 24, 27, 28, 29, 30, 31, 32, 34, 35, 36] → G b = F b) ∧ (0 ≤ w9.toInt ∧ w9.toInt ≤ 48) ∧ (-1 ≤ w10.toInt ∧ w10.toInt ≤ 400) ∧ (-1 ≤ w11.toInt ∧ w11.toInt ≤ 400) ∧ (2 ≤ w12.toInt ∧ w12.toInt ≤ 3) ∧ (0 ≤ w13.toInt ∧ w13.toInt ≤ 48) ∧ K w14 = 36 ∧ (0 ≤ x2.toInt ∧ x2.toInt ≤ 16) ∧ (0 ≤ x3.toInt ∧ x3.toInt ≤ 2)) (fun K86 => ?_) ?_
  refine th_join (fun g H locs => ∃ (G : Nat → va_E) (ls : Array Slot) (Dn : Nat) (w15 : Int32) (w16 : Int32) (w17 : Int32) (w18 : Int32) (w19 : Int32) (w20 : Nat), g = F0 m 47 ls [.int w18, .int w19, .ref w20] ∧ lv_has ls 7 [(0, .ref a0), (1, .ref a1), (2, .int x2), (3, .int x3), (4, .int w15), (5, .int w16), (6, .int w17)] ∧ Dn + 1606 ≤ Dm ∧ s_I K cs Dn G ∧ va_P (dC, dI) vwCl (va_pl L G) H ∧ va_S (fun q => q ∈ L) s.heap H locs ∧ (∀ b, K b ∉ [1, 2, 5, 6, 24, 27, 28, 29, 30, 31, 32, 34, 35, 36] → G b = F b) ∧ (0 ≤ w15.toInt ∧ w15.toInt ≤ 48) ∧ (-1 ≤ w16.toInt ∧ w16.toInt ≤ 400) ∧ (-1 ≤ w17.toInt ∧ w17.toInt ≤ -1) ∧ (0 ≤ w18.toInt ∧ w18.toInt ≤ 1) ∧ (0 ≤ w19.toInt ∧ w19.toInt ≤ 48) ∧ K w20 = 36 ∧ (0 ≤ x2.toInt ∧ x2.toInt ≤ 16) ∧ (0 ≤ x3.toInt ∧ x3.toInt ≤ 2)) (fun K47 => ?_) ?_
  · refine lv_iload_n hx hb dX0_course_0 rfl (lv_at hl 2 rfl) ?_
    refine lv_iconst (v := 3) hx hb dX0_course_1 (by decide) ?_
    refine lv_imul hx hb dX0_course_2 ?_
    refine lv_topi (fun v21 ev21 => ?_)
    have qv21 : v21.toInt = x2.toInt * 3 := by rw [ev21]; exact th_mul rfl (by decide) ⟨by omega, by omega⟩
    refine lv_istore (lv' := [(4, .int v21), (0, .ref a0), (1, .ref a1), (2, .int x2), (3, .int x3)]) hx hb dX0_course_3 hl (by decide) rfl (fun ls hl => ?_)
    refine lv_aload_n hx hb dX0_course_5 rfl (lv_at hl 1 rfl) ?_
    obtain ⟨z22, z24, z26, z28, z30, z32, z33, z35, z36, z38, z39, z41, z42, z43, o45, h23, h25, h27, h29, h31, h34, h37, h40, h44, -⟩ := s_op1 hI ha0
    refine th_get (D := (dC, dI)) (ci := 0) (v := .int z32) (C := RX0) (T := TX0) (N := 14) hx hb hts inX0 hown hK hP (hLK _ ha0 (by decide)) o45 rfl 5 (by decide) (hts _ T_155) (fun _ h9 => h9) rfl dX0_course_6 ?_
    refine lv_iload_n hx hb dX0_course_9 rfl (lv_at hl 3 rfl) ?_
    refine lv_ishr hx hb dX0_course_10 ?_
    refine lv_topi (fun v46 ev46 => ?_)
    refine lv_iconst (v := 1) hx hb dX0_course_11 (by decide) ?_
    refine lv_iand hx hb dX0_course_12 ?_
    refine lv_topi (fun v47 ev47 => ?_)
    have qv47 : 0 ≤ v47.toInt ∧ v47.toInt ≤ 1 := by rw [ev47]; exact th_and 1 (by decide) (by decide)
    refine lv_if_ne (tgt := 131) hx hb dX0_course_13 (by decide) (fun c48 => ?_) (fun c48 => ?_)
    · have c48 := mt (ax_eq (n := 0) (by decide)).mpr c48
      exact K131 _ _ _ ⟨F, _, D, v21, rfl, lv_sub hl [1, 4, 0] rfl, by omega, hI, hP, hS, hfr, ⟨by omega, by omega⟩, ⟨by omega, by omega⟩⟩
    · have c48 := (ax_eq (n := 0) (by decide)).mp c48
      refine lv_aload_n hx hb dX0_course_16 rfl (lv_at hl 1 rfl) ?_
      refine lv_aload_n hx hb dX0_course_17 rfl (lv_at hl 2 rfl) ?_
      refine va_calli (va_runV (As := [.ref a1]) (rest := []) ⟨hx, hb, hml, hown, hts⟩ (s_X0_cyclesToRest l dC dI H.size hLK D (D + 401) (Nat.le_refl _) (by omega) F a0 a1 ha0 ha1 hI (s_PGt hI0 hfr (by decide) hPG)) (cwV 1 hts (ax_gV T_566 T_568 T_569 T_180 T_567) rfl rfl rfl (by decide +kernel) ⟨Nat.le_of_ble_eq_true rfl, Nat.le_of_ble_eq_true rfl⟩) ⟨fun a U g mk q => ⟨q.1, s_pc rfl rfl q.2⟩, s_recv hK hP (hLK _ ha0 (by decide)) (ci := 0) rfl o45, fun U hU hW => ⟨rfl, s_pw hU hW hP hK hD hN⟩⟩ rfl rfl hl.1 rfl (lv_room (Nat.le_of_ble_eq_true rfl)) dX0_course_18 ⟨Nat.zero_le _, Nat.zero_le _⟩) hS (fun q _ h => h) (fun q h => h) (fun r49 F50 t H1 locs ht hvm hw hB hz1 hk1 hS => ?_)
      obtain ⟨hP, hK1⟩ := hB
      rw [ht] at hP
      generalize H1 = H at hP hS ⊢
      obtain ⟨h51, h52, hI, hfr1⟩ := hw
      have o53 : F50 a0 = .inr (0, [.ref z22, .ref z24, .ref z26, .ref z28, .ref z30, .int z32, .ref z33, .long z35, .ref z36, .int z38, .ref z39, .int z41, .int z42, .int z43]) := (hfr1 _ (by rw [ha0]; decide)).trans o45
      have hfr : ∀ b, K b ∉ [1, 2, 5, 6, 24, 27, 28, 29, 30, 31, 32, 34, 35, 36] → F50 b = F b := fun b hb9 => (hfr1 b (fun q => hb9 (s_sub (by decide) q))).trans (hfr b hb9)
      refine lv_istore (lv' := [(5, .int r49), (4, .int v21), (0, .ref a0), (1, .ref a1), (2, .int x2), (3, .int x3)]) hx hb dX0_course_21 hl (by decide) rfl (fun ls hl => ?_)
      refine lv_iconst (v := (-1)) hx hb dX0_course_23 (by decide) ?_
      refine lv_istore (lv' := [(6, .int (-1)), (5, .int r49), (4, .int v21), (0, .ref a0), (1, .ref a1), (2, .int x2), (3, .int x3)]) hx hb dX0_course_24 hl (by decide) rfl (fun ls hl => ?_)
      refine lv_aload_n hx hb dX0_course_26 rfl (lv_at hl 3 rfl) ?_
      refine th_get (D := (dC, dI)) (ci := 0) (v := .ref z30) (C := RX0) (T := TX0) (N := 14) hx hb hts inX0 hown hK hP (hLK _ ha0 (by decide)) o53 rfl 4 (by decide) (hts _ T_148) (fun _ h9 => h9) rfl dX0_course_27 ?_
      refine lv_iload hx hb dX0_course_30 (lv_at hl 2 rfl) ?_
      refine lv_aload_n hx hb dX0_course_32 rfl (lv_at hl 3 rfl) ?_
      refine th_get (D := (dC, dI)) (ci := 0) (v := .ref z26) (C := RX0) (T := TX0) (N := 14) hx hb hts inX0 hown hK hP (hLK _ ha0 (by decide)) o53 rfl 2 (by decide) (hts _ T_146) (fun _ h9 => h9) rfl dX0_course_33 ?_
      obtain ⟨z54, z56, z58, z60, z62, z64, z66, z68, z70, z71, z72, z74, z75, z77, z78, o80, h55, h57, h59, h61, h63, h65, h67, h69, h73, h76, h79, -⟩ := s_op5 hI h27
      refine va_calli (va_runV (As := []) (rest := [.int v21, .ref z30]) ⟨hx, hb, hml, hown, hts⟩ (s_X4_hasEnded l dC dI H.size hLK (D + 401) F50 z26 h27 hI) (cwV 0 hts (ax_gV T_570 T_572 T_573 T_142 T_571) rfl rfl rfl (by decide +kernel) ⟨Nat.le_of_ble_eq_true rfl, Nat.le_of_ble_eq_true rfl⟩) ⟨fun a U g mk q => ⟨q.1, s_pc rfl rfl q.2⟩, s_recv hK hP (hLK _ h27 (by decide)) (ci := 4) rfl o80, fun U hU hW => ⟨rfl, s_pw hU hW hP hK hD hN⟩⟩ rfl rfl hl.1 rfl (lv_room (Nat.le_of_ble_eq_true rfl)) dX0_course_36 ⟨Nat.zero_le _, Nat.zero_le _⟩) hS (fun q _ h => h) (fun q h => h) (fun r81 F82 t H1 locs ht hvm hw hB hz1 hk1 hS => ?_)
      obtain ⟨hP, hK1⟩ := hB
      rw [ht] at hP
      generalize H1 = H at hP hS ⊢
      obtain ⟨h83, h84, hI, hfr1⟩ := hw
      have o85 : F82 a0 = .inr (0, [.ref z22, .ref z24, .ref z26, .ref z28, .ref z30, .int z32, .ref z33, .long z35, .ref z36, .int z38, .ref z39, .int z41, .int z42, .int z43]) := (hfr1 _ (by rw [ha0]; decide)).trans o53
      have o86 : F82 z26 = .inr (4, [.ref z54, .ref z56, .ref z58, .ref z60, .ref z62, .ref z64, .ref z66, .int z68, .int z70, .int z71, .int z72, .int z74, .int z75, .int z77, .int z78]) := (hfr1 _ (by rw [h27]; decide)).trans o80
      have hfr : ∀ b, K b ∉ [1, 2, 5, 6, 24, 27, 28, 29, 30, 31, 32, 34, 35, 36] → F82 b = F b := fun b hb9 => (hfr1 b (fun q => hb9 (s_sub (by decide) q))).trans (hfr b hb9)
      refine lv_if_eq (tgt := 46) hx hb dX0_course_39 (by decide) (fun c87 => ?_) (fun c87 => ?_)
      · have c87 := (ax_eq (n := 0) (by decide)).mp c87
        refine lv_iconst (v := 1) hx hb dX0_course_46 (by decide) ?_
        exact K47 _ _ _ ⟨F82, _, (D + 401), v21, r49, (-1), 1, v21, z30, rfl, lv_sub hl [3, 4, 5, 6, 2, 1, 0] rfl, by omega, hI, hP, hS, hfr, ⟨by omega, by omega⟩, ⟨by omega, by omega⟩, (by decide), (by decide), ⟨by omega, by omega⟩, h31, ⟨by omega, by omega⟩, ⟨by omega, by omega⟩⟩
      · have c87 := mt (ax_eq (n := 0) (by decide)).mpr c87
        refine lv_iconst (v := 0) hx hb dX0_course_42 (by decide) ?_
        refine lv_goto (tgt := 47) hx hb dX0_course_43 (by decide) ?_
        exact K47 _ _ _ ⟨F82, _, (D + 401), v21, r49, (-1), 0, v21, z30, rfl, lv_sub hl [3, 4, 5, 6, 2, 1, 0] rfl, by omega, hI, hP, hS, hfr, ⟨by omega, by omega⟩, ⟨by omega, by omega⟩, (by decide), (by decide), ⟨by omega, by omega⟩, h31, ⟨by omega, by omega⟩, ⟨by omega, by omega⟩⟩
  · intro g H locs hq
    obtain ⟨F9, ls, D96, w15, w16, w17, w18, w19, w20, rfl, hl, h97, hI, hP, hS, hfr, h88, h89, h90, h91, h92, h93, h94, h95⟩ := hq
    obtain ⟨f98, o99, h100⟩ := s_op36 hI h93
    refine th_iast hx hb hK hP hD hS (hLK _ h93 (by decide)) 0 o99 rfl (th_in ⟨by omega, by omega⟩) dX0_course_47 (fun H locs hP hS => ?_)
    have hP : va_P (dC, dI) vwCl (va_pl L (va_up F9 w20 (.inl (cs 0, 51, .inl (upd f98 (w19 : Int32).toNatClampNeg w18))))) H := hP
    obtain ⟨F101, hF102⟩ : ∃ G : Nat → va_E, G = va_up F9 w20 (.inl (cs 0, 51, .inl (upd f98 (w19 : Int32).toNatClampNeg w18))) := ⟨_, rfl⟩
    rw [← hF102] at hP
    have hI : s_I K cs D96 F101 := by rw [hF102]; exact s_cl36 hI h93 ⟨_, rfl, trivial⟩
    have hfr : ∀ b, K b ∉ [1, 2, 5, 6, 24, 27, 28, 29, 30, 31, 32, 34, 35, 36] → F101 b = F b := by rw [hF102]; exact s_fr hfr h93 (by decide)
    refine lv_iload hx hb dX0_course_48 (lv_at hl 5 rfl) ?_
    refine lv_iconst (v := (-1)) hx hb dX0_course_50 (by decide) ?_
    refine lv_icmp_ne (tgt := 87) hx hb dX0_course_51 (by decide) (fun c103 => ?_) (fun c103 => ?_)
    · have c103 := mt (ax_eq (n := (-1)) (by decide)).mpr c103
      exact K87 _ _ _ ⟨F101, _, D96, w15, w16, w17, rfl, lv_sub hl [0, 2, 3, 4, 5, 6] rfl, by omega, hI, hP, hS, hfr, ⟨by omega, by omega⟩, ⟨by omega, by omega⟩, ⟨by omega, by omega⟩, ⟨by omega, by omega⟩, ⟨by omega, by omega⟩⟩
    · have c103 := (ax_eq (n := (-1)) (by decide)).mp c103
      refine lv_aload_n hx hb dX0_course_54 rfl (lv_at hl 0 rfl) ?_
      obtain ⟨z104, z106, z108, z110, z112, z114, z115, z117, z118, z120, z121, z123, z124, z125, o127, h105, h107, h109, h111, h113, h116, h119, h122, h126, -⟩ := s_op1 hI ha0
      refine va_calli (va_runV (As := []) (rest := []) ⟨hx, hb, hml, hown, hts⟩ (s_X0_roundFromHere l dC dI H.size hLK D96 (D96 + 401) (Nat.le_refl _) (by omega) F101 a0 ha0 hI (s_PGt hI0 hfr (by decide) hPG)) (cwV 0 hts (ax_gV T_574 T_576 T_577 T_180 T_575) rfl rfl rfl (by decide +kernel) ⟨Nat.le_of_ble_eq_true rfl, Nat.le_of_ble_eq_true rfl⟩) ⟨fun a U g mk q => ⟨q.1, s_pc rfl rfl q.2⟩, s_recv hK hP (hLK _ ha0 (by decide)) (ci := 0) rfl o127, fun U hU hW => ⟨rfl, s_pw hU hW hP hK hD hN⟩⟩ rfl rfl hl.1 rfl (lv_room (Nat.le_of_ble_eq_true rfl)) dX0_course_55 ⟨Nat.zero_le _, Nat.zero_le _⟩) hS (fun q _ h => h) (fun q h => h) (fun r128 F129 t H1 locs ht hvm hw hB hz1 hk1 hS => ?_)
      obtain ⟨hP, hK1⟩ := hB
      rw [ht] at hP
      generalize H1 = H at hP hS ⊢
      obtain ⟨h130, h131, hI, hfr1⟩ := hw
      have o132 : F129 a0 = .inr (0, [.ref z104, .ref z106, .ref z108, .ref z110, .ref z112, .int z114, .ref z115, .long z117, .ref z118, .int z120, .ref z121, .int z123, .int z124, .int z125]) := (hfr1 _ (by rw [ha0]; decide)).trans o127
      have hfr : ∀ b, K b ∉ [1, 2, 5, 6, 24, 27, 28, 29, 30, 31, 32, 34, 35, 36] → F129 b = F b := fun b hb9 => (hfr1 b (fun q => hb9 (s_sub (by decide) q))).trans (hfr b hb9)
      refine lv_istore (lv' := [(6, .int r128), (0, .ref a0), (1, .ref a1), (2, .int x2), (3, .int x3), (4, .int w15), (5, .int w16)]) hx hb dX0_course_58 hl (by decide) rfl (fun ls hl => ?_)
      refine lv_aload_n hx hb dX0_course_60 rfl (lv_at hl 1 rfl) ?_
      refine lv_aload_n hx hb dX0_course_61 rfl (lv_at hl 2 rfl) ?_
      refine lv_iload hx hb dX0_course_62 (lv_at hl 0 rfl) ?_
      refine va_calli (va_runV (As := [.ref a1, .int r128]) (rest := []) ⟨hx, hb, hml, hown, hts⟩ (s_X0_firstAgain l dC dI H.size hLK (D96 + 401) ((D96 + 401) + 1205) (Nat.le_refl _) (by omega) F129 a0 a1 r128 ha0 ha1 (⟨by omega, by omega⟩) hI (s_PGt hI0 hfr (by decide) hPG)) (cwV 2 hts (ax_gV T_578 T_580 T_581 T_180 T_579) rfl rfl rfl (by decide +kernel) ⟨Nat.le_of_ble_eq_true rfl, Nat.le_of_ble_eq_true rfl⟩) ⟨fun a U g mk q => ⟨q.1, s_pc rfl rfl q.2⟩, s_recv hK hP (hLK _ ha0 (by decide)) (ci := 0) rfl o132, fun U hU hW => ⟨rfl, s_pw hU hW hP hK hD hN⟩⟩ rfl rfl hl.1 rfl (lv_room (Nat.le_of_ble_eq_true rfl)) dX0_course_64 ⟨Nat.zero_le _, Nat.zero_le _⟩) hS (fun q _ h => h) (fun q h => h) (fun r133 F134 t H1 locs ht hvm hw hB hz1 hk1 hS => ?_)
      obtain ⟨hP, hK1⟩ := hB
      rw [ht] at hP
      generalize H1 = H at hP hS ⊢
      obtain ⟨h135, h136, hI, hfr1⟩ := hw
      have o137 : F134 a0 = .inr (0, [.ref z104, .ref z106, .ref z108, .ref z110, .ref z112, .int z114, .ref z115, .long z117, .ref z118, .int z120, .ref z121, .int z123, .int z124, .int z125]) := (hfr1 _ (by rw [ha0]; decide)).trans o132
      have hfr : ∀ b, K b ∉ [1, 2, 5, 6, 24, 27, 28, 29, 30, 31, 32, 34, 35, 36] → F134 b = F b := fun b hb9 => (hfr1 b (fun q => hb9 (s_sub (by decide) q))).trans (hfr b hb9)
      refine lv_istore (lv' := [(5, .int r133), (6, .int r128), (0, .ref a0), (1, .ref a1), (2, .int x2), (3, .int x3), (4, .int w15)]) hx hb dX0_course_67 hl (by decide) rfl (fun ls hl => ?_)
      refine lv_aload_n hx hb dX0_course_69 rfl (lv_at hl 2 rfl) ?_
      refine th_get (D := (dC, dI)) (ci := 0) (v := .ref z112) (C := RX0) (T := TX0) (N := 14) hx hb hts inX0 hown hK hP (hLK _ ha0 (by decide)) o137 rfl 4 (by decide) (hts _ T_148) (fun _ h9 => h9) rfl dX0_course_70 ?_
      refine lv_iload hx hb dX0_course_73 (lv_at hl 6 rfl) ?_
      refine lv_iload hx hb dX0_course_75 (lv_at hl 0 rfl) ?_
      refine lv_iconst (v := (-1)) hx hb dX0_course_77 (by decide) ?_
      refine lv_icmp_ne (tgt := 85) hx hb dX0_course_78 (by decide) (fun c138 => ?_) (fun c138 => ?_)
      · have c138 := mt (ax_eq (n := (-1)) (by decide)).mpr c138
        refine lv_iconst (v := 2) hx hb dX0_course_85 (by decide) ?_
        exact K86 _ _ _ ⟨F134, _, ((D96 + 401) + 1205), w15, r133, r128, 2, w15, z112, rfl, lv_sub hl [2, 4, 5, 6, 0, 1] rfl, by omega, hI, hP, hS, hfr, ⟨by omega, by omega⟩, ⟨by omega, by omega⟩, ⟨by omega, by omega⟩, (by decide), ⟨by omega, by omega⟩, h113, ⟨by omega, by omega⟩, ⟨by omega, by omega⟩⟩
      · have c138 := (ax_eq (n := (-1)) (by decide)).mp c138
        refine lv_iconst (v := 3) hx hb dX0_course_81 (by decide) ?_
        refine lv_goto (tgt := 86) hx hb dX0_course_82 (by decide) ?_
        exact K86 _ _ _ ⟨F134, _, ((D96 + 401) + 1205), w15, r133, r128, 3, w15, z112, rfl, lv_sub hl [2, 4, 5, 6, 0, 1] rfl, by omega, hI, hP, hS, hfr, ⟨by omega, by omega⟩, ⟨by omega, by omega⟩, ⟨by omega, by omega⟩, (by decide), ⟨by omega, by omega⟩, h113, ⟨by omega, by omega⟩, ⟨by omega, by omega⟩⟩
  · intro g H locs hq
    obtain ⟨F9, ls, D147, w9, w10, w11, w12, w13, w14, rfl, hl, h148, hI, hP, hS, hfr, h139, h140, h141, h142, h143, h144, h145, h146⟩ := hq
    obtain ⟨f149, o150, h151⟩ := s_op36 hI h144
    refine th_iast hx hb hK hP hD hS (hLK _ h144 (by decide)) 0 o150 rfl (th_in ⟨by omega, by omega⟩) dX0_course_86 (fun H locs hP hS => ?_)
    have hP : va_P (dC, dI) vwCl (va_pl L (va_up F9 w14 (.inl (cs 0, 51, .inl (upd f149 (w13 : Int32).toNatClampNeg w12))))) H := hP
    obtain ⟨F152, hF153⟩ : ∃ G : Nat → va_E, G = va_up F9 w14 (.inl (cs 0, 51, .inl (upd f149 (w13 : Int32).toNatClampNeg w12))) := ⟨_, rfl⟩
    rw [← hF153] at hP
    have hI : s_I K cs D147 F152 := by rw [hF153]; exact s_cl36 hI h144 ⟨_, rfl, trivial⟩
    have hfr : ∀ b, K b ∉ [1, 2, 5, 6, 24, 27, 28, 29, 30, 31, 32, 34, 35, 36] → F152 b = F b := by rw [hF153]; exact s_fr hfr h144 (by decide)
    exact K87 _ _ _ ⟨F152, _, D147, w9, w10, w11, rfl, lv_sub hl [0, 1, 2, 3, 4, 5] rfl, by omega, hI, hP, hS, hfr, ⟨by omega, by omega⟩, ⟨by omega, by omega⟩, ⟨by omega, by omega⟩, ⟨by omega, by omega⟩, ⟨by omega, by omega⟩⟩
  · intro g H locs hq
    obtain ⟨F9, ls, D159, w6, w7, w8, rfl, hl, h160, hI, hP, hS, hfr, h154, h155, h156, h157, h158⟩ := hq
    refine lv_aload_n hx hb dX0_course_87 rfl (lv_at hl 0 rfl) ?_
    obtain ⟨z161, z163, z165, z167, z169, z171, z172, z174, z175, z177, z178, z180, z181, z182, o184, h162, h164, h166, h168, h170, h173, h176, h179, h183, -⟩ := s_op1 hI ha0
    refine th_get (D := (dC, dI)) (ci := 0) (v := .ref z169) (C := RX0) (T := TX0) (N := 14) hx hb hts inX0 hown hK hP (hLK _ ha0 (by decide)) o184 rfl 4 (by decide) (hts _ T_148) (fun _ h9 => h9) rfl dX0_course_88 ?_
    refine lv_iload hx hb dX0_course_91 (lv_at hl 3 rfl) ?_
    refine lv_iconst (v := 1) hx hb dX0_course_93 (by decide) ?_
    refine lv_iadd hx hb dX0_course_94 ?_
    refine lv_topi (fun v185 ev185 => ?_)
    have qv185 : v185.toInt = w6.toInt + 1 := by rw [ev185]; exact th_add rfl (by decide) ⟨by omega, by omega⟩
    refine lv_iload hx hb dX0_course_95 (lv_at hl 4 rfl) ?_
    obtain ⟨f186, o187, h188⟩ := s_op36 hI h170
    refine th_iast hx hb hK hP hD hS (hLK _ h170 (by decide)) 0 o187 rfl (th_in ⟨by omega, by omega⟩) dX0_course_97 (fun H locs hP hS => ?_)
    have hP : va_P (dC, dI) vwCl (va_pl L (va_up F9 z169 (.inl (cs 0, 51, .inl (upd f186 (v185 : Int32).toNatClampNeg w7))))) H := hP
    obtain ⟨F189, hF190⟩ : ∃ G : Nat → va_E, G = va_up F9 z169 (.inl (cs 0, 51, .inl (upd f186 (v185 : Int32).toNatClampNeg w7))) := ⟨_, rfl⟩
    rw [← hF190] at hP
    have hI : s_I K cs D159 F189 := by rw [hF190]; exact s_cl36 hI h170 ⟨_, rfl, trivial⟩
    have hfr : ∀ b, K b ∉ [1, 2, 5, 6, 24, 27, 28, 29, 30, 31, 32, 34, 35, 36] → F189 b = F b := by rw [hF190]; exact s_fr hfr h170 (by decide)
    have o191 : F189 a0 = .inr (0, [.ref z161, .ref z163, .ref z165, .ref z167, .ref z169, .int z171, .ref z172, .long z174, .ref z175, .int z177, .ref z178, .int z180, .int z181, .int z182]) := by rw [hF190]; exact th_ne (th_kd ha0 h170 (by decide)) o184
    refine lv_aload_n hx hb dX0_course_98 rfl (lv_at hl 0 rfl) ?_
    refine th_get (D := (dC, dI)) (ci := 0) (v := .ref z169) (C := RX0) (T := TX0) (N := 14) hx hb hts inX0 hown hK hP (hLK _ ha0 (by decide)) o191 rfl 4 (by decide) (hts _ T_148) (fun _ h9 => h9) rfl dX0_course_99 ?_
    refine lv_iload hx hb dX0_course_102 (lv_at hl 3 rfl) ?_
    refine lv_iconst (v := 2) hx hb dX0_course_104 (by decide) ?_
    refine lv_iadd hx hb dX0_course_105 ?_
    refine lv_topi (fun v192 ev192 => ?_)
    have qv192 : v192.toInt = w6.toInt + 2 := by rw [ev192]; exact th_add rfl (by decide) ⟨by omega, by omega⟩
    refine lv_iload hx hb dX0_course_106 (lv_at hl 4 rfl) ?_
    refine lv_iconst (v := (-1)) hx hb dX0_course_108 (by decide) ?_
    refine lv_icmp_ne (tgt := 116) hx hb dX0_course_109 (by decide) (fun c193 => ?_) (fun c193 => ?_)
    · have c193 := mt (ax_eq (n := (-1)) (by decide)).mpr c193
      refine lv_iload hx hb dX0_course_116 (lv_at hl 5 rfl) ?_
      exact K118 _ _ _ ⟨F189, _, D159, w6, w8, v192, z169, rfl, lv_sub hl [0, 1, 2, 3] rfl, by omega, hI, hP, hS, hfr, ⟨by omega, by omega⟩, ⟨by omega, by omega⟩, ⟨by omega, by omega⟩, h170, ⟨by omega, by omega⟩, ⟨by omega, by omega⟩⟩
    · have c193 := (ax_eq (n := (-1)) (by decide)).mp c193
      refine lv_iconst (v := (-1)) hx hb dX0_course_112 (by decide) ?_
      refine lv_goto (tgt := 118) hx hb dX0_course_113 (by decide) ?_
      exact K118 _ _ _ ⟨F189, _, D159, w6, (-1), v192, z169, rfl, lv_sub hl [0, 1, 2, 3] rfl, by omega, hI, hP, hS, hfr, ⟨by omega, by omega⟩, (by decide), ⟨by omega, by omega⟩, h170, ⟨by omega, by omega⟩, ⟨by omega, by omega⟩⟩
  · intro g H locs hq
    obtain ⟨F9, ls, D200, w2, w3, w4, w5, rfl, hl, h201, hI, hP, hS, hfr, h194, h195, h196, h197, h198, h199⟩ := hq
    obtain ⟨f202, o203, h204⟩ := s_op36 hI h197
    refine th_iast hx hb hK hP hD hS (hLK _ h197 (by decide)) 0 o203 rfl (th_in ⟨by omega, by omega⟩) dX0_course_118 (fun H locs hP hS => ?_)
    have hP : va_P (dC, dI) vwCl (va_pl L (va_up F9 w5 (.inl (cs 0, 51, .inl (upd f202 (w4 : Int32).toNatClampNeg w3))))) H := hP
    obtain ⟨F205, hF206⟩ : ∃ G : Nat → va_E, G = va_up F9 w5 (.inl (cs 0, 51, .inl (upd f202 (w4 : Int32).toNatClampNeg w3))) := ⟨_, rfl⟩
    rw [← hF206] at hP
    have hI : s_I K cs D200 F205 := by rw [hF206]; exact s_cl36 hI h197 ⟨_, rfl, trivial⟩
    have hfr : ∀ b, K b ∉ [1, 2, 5, 6, 24, 27, 28, 29, 30, 31, 32, 34, 35, 36] → F205 b = F b := by rw [hF206]; exact s_fr hfr h197 (by decide)
    refine lv_aload_n hx hb dX0_course_119 rfl (lv_at hl 0 rfl) ?_
    refine lv_dup hx hb dX0_course_120 rfl ?_
    obtain ⟨z207, z209, z211, z213, z215, z217, z218, z220, z221, z223, z224, z226, z227, z228, o230, h208, h210, h212, h214, h216, h219, h222, h225, h229, -⟩ := s_op1 hI ha0
    refine th_get (D := (dC, dI)) (ci := 0) (v := .int z217) (C := RX0) (T := TX0) (N := 14) hx hb hts inX0 hown hK hP (hLK _ ha0 (by decide)) o230 rfl 5 (by decide) (hts _ T_155) (fun _ h9 => h9) rfl dX0_course_121 ?_
    refine lv_iconst (v := 1) hx hb dX0_course_124 (by decide) ?_
    refine lv_iload_n hx hb dX0_course_125 rfl (lv_at hl 1 rfl) ?_
    refine lv_ishl hx hb dX0_course_126 ?_
    refine lv_topi (fun v231 ev231 => ?_)
    refine lv_ior hx hb dX0_course_127 ?_
    refine lv_topi (fun v232 ev232 => ?_)
    refine th_put (D := (dC, dI)) (ci := 0) (v := .int v232) (ty := .int) (C := RX0) (T := TX0) (N := 14) hx hb hts inX0 tyX0 tyX0_ok nmX0 hown hK hP hD hS (hLK _ ha0 (by decide)) o230 rfl 5 (by decide) (hts _ T_155) (fun _ h9 => h9) rfl (by decide +kernel) rfl rfl (Nat.le_of_ble_eq_true rfl) dX0_course_128 (fun H locs hP hS => ?_)
    have hP : va_P (dC, dI) vwCl (va_pl L (va_up F205 a0 (.inr (0, [.ref z207, .ref z209, .ref z211, .ref z213, .ref z215, .int v232, .ref z218, .long z220, .ref z221, .int z223, .ref z224, .int z226, .int z227, .int z228])))) H := hP
    obtain ⟨F233, hF234⟩ : ∃ G : Nat → va_E, G = va_up F205 a0 (.inr (0, [.ref z207, .ref z209, .ref z211, .ref z213, .ref z215, .int v232, .ref z218, .long z220, .ref z221, .int z223, .ref z224, .int z226, .int z227, .int z228])) := ⟨_, rfl⟩
    rw [← hF234] at hP
    have hI : s_I K cs D200 F233 := by rw [hF234]; exact s_cl1 hI ha0 ⟨z207, z209, z211, z213, z215, v232, z218, z220, z221, z223, z224, z226, z227, z228, rfl, h208, h210, h212, h214, h216, h219, h222, h225, ⟨by omega, by omega⟩, trivial⟩
    have hfr : ∀ b, K b ∉ [1, 2, 5, 6, 24, 27, 28, 29, 30, 31, 32, 34, 35, 36] → F233 b = F b := by rw [hF234]; exact s_fr hfr ha0 (by decide)
    have o235 : F233 a0 = .inr (0, [.ref z207, .ref z209, .ref z211, .ref z213, .ref z215, .int v232, .ref z218, .long z220, .ref z221, .int z223, .ref z224, .int z226, .int z227, .int z228]) := by rw [hF234]; exact th_up
    exact K131 _ _ _ ⟨F233, _, D200, w2, rfl, lv_sub hl [0, 2, 3] rfl, by omega, hI, hP, hS, hfr, ⟨by omega, by omega⟩, ⟨by omega, by omega⟩⟩
  · intro g H locs hq
    obtain ⟨F9, ls, D238, w1, rfl, hl, h239, hI, hP, hS, hfr, h236, h237⟩ := hq
    refine lv_aload_n hx hb dX0_course_131 rfl (lv_at hl 0 rfl) ?_
    obtain ⟨z240, z242, z244, z246, z248, z250, z251, z253, z254, z256, z257, z259, z260, z261, o263, h241, h243, h245, h247, h249, h252, h255, h258, h262, -⟩ := s_op1 hI ha0
    refine th_get (D := (dC, dI)) (ci := 0) (v := .ref z248) (C := RX0) (T := TX0) (N := 14) hx hb hts inX0 hown hK hP (hLK _ ha0 (by decide)) o263 rfl 4 (by decide) (hts _ T_148) (fun _ h9 => h9) rfl dX0_course_132 ?_
    refine lv_iload hx hb dX0_course_135 (lv_at hl 2 rfl) ?_
    refine lv_iload_n hx hb dX0_course_137 rfl (lv_at hl 1 rfl) ?_
    refine lv_iadd hx hb dX0_course_138 ?_
    refine lv_topi (fun v264 ev264 => ?_)
    have qv264 : v264.toInt = w1.toInt + x3.toInt := by rw [ev264]; exact th_add rfl rfl ⟨by omega, by omega⟩
    obtain ⟨f265, o266, h267⟩ := s_op36 hI h249
    refine th_iald hx hb hK hP (hLK _ h249 (by decide)) 0 o266 rfl (th_in ⟨by omega, by omega⟩) dX0_course_139 ?_
    refine lv_topi (fun v268 ev268 => ?_)
    exact W.iret (v := v268) hx hb hr (fun t ht hW => ⟨⟨v268, F9, rfl, ⟨trivial, trivial, (s_mono (by omega) hI), hfr⟩, by rw [ht]; exact hP, va_K.moved hW.alike hK⟩, hS.F ht⟩) hS.2.2 dX0_course_140

set_option maxHeartbeats 4000000 in
set_option maxRecDepth 100000 in
theorem s_X0_tryWord (l : Launch) (dC : Nat → ClassId) (dI : Nat → Nat → Nat) (sz : Nat) {L : List Nat} {K : Nat → Nat} {cs : Nat → ClassId} (hLK : ∀ a {k : Nat}, K a = k → k ≠ 0 → a ∈ L) (D : Nat) (Dm : Nat) (hDm : D + 6817 ≤ Dm) (hDM : Dm < 2147483647) (F : Nat → va_E) (a0 : Nat) (x1 : Int32) (ha0 : K a0 = 1) (hx1 : 0 ≤ x1.toInt ∧ x1.toInt ≤ 63) (hI : s_I K cs D F) (hPG : s_PG K cs F) : Met l yX0_tryWord (Cond.code yX0_tryWord cX0_tryWord 6 none :: T0) ({ frames := 6, cells := 0, slots := 0, locals := 136 }) (va_Pc [.ref a0, .int x1] (s_W dC dI sz L F [(cs 0, .int), (cs 1, .byte), (cs 2, .long), (cs 3, .object RX5), (cs 4, .object RX4), (cs 5, .array .int), (cs 6, .char), (cs 7, .boolean)])) (va_Qv (fun (G : Nat → va_E) => True ∧ True ∧ s_I K cs Dm G ∧ ∀ b, K b ∉ [1, 2, 5, 6, 24, 27, 28, 29, 30, 31, 32, 34, 35, 37] → G b = F b) (fun (G : Nat → va_E) (t : State) => va_P (dC, dI) vwCl (va_pl L G) t.heap ∧ va_K (dC, dI) vwCl [(cs 0, .int), (cs 1, .byte), (cs 2, .long), (cs 3, .object RX5), (cs 4, .object RX4), (cs 5, .array .int), (cs 6, .char), (cs 7, .boolean)] t) (fun q => q ∈ L)) 0 0 (fun q => q ∈ L) := by
  refine Met.ofW (cc := cX0_tryWord) (maxL := 6) (ret := none) (by decide) rfl ?_
  intro p e s m args below meth c s₁ B hml hv
  obtain ⟨rfl, hsz, hP, hK, hD, hN⟩ := hv
  have hx := B.exec
  have hb := B.bytes
  have hr := B.returns
  have hts : ∀ w ∈ T0, w.before _ s = true := fun w h => atoms_spec (ws := Cond.code yX0_tryWord cX0_tryWord 6 none :: T0) B.pre w (List.mem_cons_of_mem _ h)
  have hown : s.vm.findClass RX0 = some m.cls := findClass_of_methodNamed B.named
  have hlocks := B.notSynchronized
  have hS : va_S (fun q => q ∈ L) s.heap s.heap [] := va_S.rf
  have hfr : ∀ b, K b ∉ [1, 2, 5, 6, 24, 27, 28, 29, 30, 31, 32, 34, 35, 37] → F b = F b := fun _ _ => rfl
  have hl := lv_entry ([.ref a0, .int x1]) (n := 6) (Nat.le_of_ble_eq_true rfl)
  rw [lg_entry_eq]
  generalize (lg_sl ([.ref a0, .int x1]) ++ List.replicate (6 - (lg_sl ([.ref a0, .int x1])).length) Slot.unset).toArray = ls at hl ⊢
  have hl : lv_has ls 6 [(0, .ref a0), (1, .int x1)] := hl
  have hI0 := hI
  refine s_gen hP hS (fun H locs hP hS => ?_)
  refine lv_aload_n hx hb dX0_tryWord_0 rfl (lv_at hl 0 rfl) ?_
  obtain ⟨z1, z3, z5, z7, z9, z11, z12, z14, z15, z17, z18, z20, z21, z22, o24, h2, h4, h6, h8, h10, h13, h16, h19, h23, -⟩ := s_op1 hI ha0
  refine th_get (D := (dC, dI)) (ci := 0) (v := .long z14) (C := RX0) (T := TX0) (N := 14) hx hb hts inX0 hown hK hP (hLK _ ha0 (by decide)) o24 rfl 7 (by decide) (hts _ T_156) (fun _ h9 => h9) rfl dX0_tryWord_1 ?_
  refine lv_iload_n hx hb dX0_tryWord_4 rfl (lv_at hl 1 rfl) ?_
  refine lv_lshr hx hb dX0_tryWord_5 rfl ?_
  refine lv_topl (fun v25 _ => ?_)
  refine lv_lconst (v := 1) hx hb dX0_tryWord_6 (by decide) ?_
  refine lv_land hx hb dX0_tryWord_7 ?_
  refine lv_topl (fun v26 ev26 => ?_)
  refine lv_lconst (v := 0) hx hb dX0_tryWord_8 (by decide) ?_
  refine W.lcmp hx hb dX0_tryWord_9 ?_
  refine lv_topi (fun v27 _ => ?_)
  refine lv_if_eq (tgt := 14) hx hb dX0_tryWord_10 (by decide) (fun c28 => ?_) (fun c28 => ?_)
  · have c28 := (ax_eq (n := 0) (by decide)).mp c28
    refine lv_iconst (v := 1) hx hb dX0_tryWord_14 (by decide) ?_
    refine lv_istore_n (lv' := [(2, .int 1), (0, .ref a0), (1, .int x1)]) hx hb dX0_tryWord_15 rfl hl (by decide) rfl (fun ls hl => ?_)
    refine lv_iconst (v := 0) hx hb dX0_tryWord_16 (by decide) ?_
    refine lv_istore_n (lv' := [(3, .int 0), (2, .int 1), (0, .ref a0), (1, .int x1)]) hx hb dX0_tryWord_17 rfl hl (by decide) rfl (fun ls hl => ?_)
    refine th_loop (fun n g H locs => ∃ (G : Nat → va_E) (ls : Array Slot) (Dn : Nat) (w29 : Int32) (w30 : Int32), g = F0 m 18 ls [] ∧ lv_has ls 6 [(0, .ref a0), (1, .int x1), (2, .int w29), (3, .int w30)] ∧ Dn + 401 * n + 0 ≤ Dm ∧ s_I K cs Dn G ∧ va_P (dC, dI) vwCl (va_pl L G) H ∧ va_S (fun q => q ∈ L) s.heap H locs ∧ (∀ b, K b ∉ [1, 2, 5, 6, 24, 27, 28, 29, 30, 31, 32, 34, 35, 37] → G b = F b) ∧ (0 ≤ w29.toInt ∧ w29.toInt ≤ 1) ∧ (0 ≤ w30.toInt ∧ w30.toInt ≤ 16) ∧ (0 ≤ x1.toInt ∧ x1.toInt ≤ 63) ∧ n = (17 - w30.toInt).toNat) _ ⟨F, _, D, 1, 0, rfl, lv_sub hl [2, 3, 1, 0] rfl, by omega, hI, hP, hS, hfr, (by decide), (by decide), ⟨by omega, by omega⟩, rfl⟩ (fun n ih18 g H locs hq => ?_)
    obtain ⟨F9, ls, D34, w29, w30, rfl, hl, h35, hI, hP, hS, hfr, h31, h32, h33, hn⟩ := hq
    have hn_18 := hn
    obtain ⟨n_18, hn9_18⟩ : ∃ q, q = n := ⟨_, rfl⟩
    refine th_join (fun g H locs => ∃ (G : Nat → va_E) (ls : Array Slot) (Dn : Nat) (w36 : Int32), g = F0 m 140 ls [] ∧ lv_has ls 6 [(0, .ref a0), (1, .int x1), (2, .int w36), (3, .int w30)] ∧ Dn + 0 + 401 * (n_18 - 1) + 0 ≤ Dm ∧ s_I K cs Dn G ∧ va_P (dC, dI) vwCl (va_pl L G) H ∧ va_S (fun q => q ∈ L) s.heap H locs ∧ (∀ b, K b ∉ [1, 2, 5, 6, 24, 27, 28, 29, 30, 31, 32, 34, 35, 37] → G b = F b) ∧ (0 ≤ w36.toInt ∧ w36.toInt ≤ 1) ∧ (0 ≤ x1.toInt ∧ x1.toInt ≤ 63) ∧ (0 ≤ w30.toInt ∧ w30.toInt ≤ 15)) (fun K140 => ?_) ?_
    refine th_join (fun g H locs => ∃ (G : Nat → va_E) (ls : Array Slot) (Dn : Nat) (w37 : Int32), g = F0 m 120 ls [.int w37] ∧ lv_has ls 6 [(0, .ref a0), (1, .int x1), (3, .int w30)] ∧ Dn + 0 + 401 * (n_18 - 1) + 0 ≤ Dm ∧ s_I K cs Dn G ∧ va_P (dC, dI) vwCl (va_pl L G) H ∧ va_S (fun q => q ∈ L) s.heap H locs ∧ (∀ b, K b ∉ [1, 2, 5, 6, 24, 27, 28, 29, 30, 31, 32, 34, 35, 37] → G b = F b) ∧ (0 ≤ w37.toInt ∧ w37.toInt ≤ 1) ∧ (0 ≤ x1.toInt ∧ x1.toInt ≤ 63) ∧ (0 ≤ w30.toInt ∧ w30.toInt ≤ 15)) (fun K120 => ?_) ?_
    refine th_join (fun g H locs => ∃ (G : Nat → va_E) (ls : Array Slot) (Dn : Nat) (w38 : Int32) (w39 : Int32) (w40 : Nat), g = F0 m 98 ls [.int w38, .int w39, .ref w40] ∧ lv_has ls 6 [(0, .ref a0), (1, .int x1), (3, .int w30)] ∧ Dn + 0 + 401 * (n_18 - 1) + 0 ≤ Dm ∧ s_I K cs Dn G ∧ va_P (dC, dI) vwCl (va_pl L G) H ∧ va_S (fun q => q ∈ L) s.heap H locs ∧ (∀ b, K b ∉ [1, 2, 5, 6, 24, 27, 28, 29, 30, 31, 32, 34, 35, 37] → G b = F b) ∧ (-1 ≤ w38.toInt ∧ w38.toInt ≤ 400) ∧ (0 ≤ w39.toInt ∧ w39.toInt ≤ 1023) ∧ K w40 = 37 ∧ (0 ≤ x1.toInt ∧ x1.toInt ≤ 63) ∧ (0 ≤ w30.toInt ∧ w30.toInt ≤ 15)) (fun K98 => ?_) ?_
    · refine lv_iload_n hx hb dX0_tryWord_18 rfl (lv_at hl 3 rfl) ?_
      refine lv_bipush (v := 16) hx hb dX0_tryWord_19 (by decide) ?_
      refine lv_icmp_ge (tgt := 146) hx hb dX0_tryWord_21 (by decide) (fun c41 => ?_) (fun c41 => ?_)
      · have c41 := (ax_ge (n := 16) (by decide)).mp c41
        refine lv_aload_n hx hb dX0_tryWord_146 rfl (lv_at hl 0 rfl) ?_
        refine lv_dup hx hb dX0_tryWord_147 rfl ?_
        obtain ⟨z42, z44, z46, z48, z50, z52, z53, z55, z56, z58, z59, z61, z62, z63, o65, h43, h45, h47, h49, h51, h54, h57, h60, h64, -⟩ := s_op1 hI ha0
        refine th_get (D := (dC, dI)) (ci := 0) (v := .long z55) (C := RX0) (T := TX0) (N := 14) hx hb hts inX0 hown hK hP (hLK _ ha0 (by decide)) o65 rfl 7 (by decide) (hts _ T_156) (fun _ h9 => h9) rfl dX0_tryWord_148 ?_
        refine lv_lconst (v := 1) hx hb dX0_tryWord_151 (by decide) ?_
        refine lv_iload_n hx hb dX0_tryWord_152 rfl (lv_at hl 1 rfl) ?_
        refine lv_lshl hx hb dX0_tryWord_153 rfl ?_
        refine lv_topl (fun v66 _ => ?_)
        refine lv_lor hx hb dX0_tryWord_154 ?_
        refine lv_topl (fun v67 ev67 => ?_)
        refine th_put (D := (dC, dI)) (ci := 0) (v := .long v67) (ty := .long) (C := RX0) (T := TX0) (N := 14) hx hb hts inX0 tyX0 tyX0_ok nmX0 hown hK hP hD hS (hLK _ ha0 (by decide)) o65 rfl 7 (by decide) (hts _ T_156) (fun _ h9 => h9) rfl (by decide +kernel) rfl rfl (Nat.le_of_ble_eq_true rfl) dX0_tryWord_155 (fun H locs hP hS => ?_)
        have hP : va_P (dC, dI) vwCl (va_pl L (va_up F9 a0 (.inr (0, [.ref z42, .ref z44, .ref z46, .ref z48, .ref z50, .int z52, .ref z53, .long v67, .ref z56, .int z58, .ref z59, .int z61, .int z62, .int z63])))) H := hP
        obtain ⟨F68, hF69⟩ : ∃ G : Nat → va_E, G = va_up F9 a0 (.inr (0, [.ref z42, .ref z44, .ref z46, .ref z48, .ref z50, .int z52, .ref z53, .long v67, .ref z56, .int z58, .ref z59, .int z61, .int z62, .int z63])) := ⟨_, rfl⟩
        rw [← hF69] at hP
        have hI : s_I K cs D34 F68 := by rw [hF69]; exact s_cl1 hI ha0 ⟨z42, z44, z46, z48, z50, z52, z53, v67, z56, z58, z59, z61, z62, z63, rfl, h43, h45, h47, h49, h51, h54, h57, h60, ⟨by omega, by omega⟩, trivial⟩
        have hfr : ∀ b, K b ∉ [1, 2, 5, 6, 24, 27, 28, 29, 30, 31, 32, 34, 35, 37] → F68 b = F b := by rw [hF69]; exact s_fr hfr ha0 (by decide)
        have o70 : F68 a0 = .inr (0, [.ref z42, .ref z44, .ref z46, .ref z48, .ref z50, .int z52, .ref z53, .long v67, .ref z56, .int z58, .ref z59, .int z61, .int z62, .int z63]) := by rw [hF69]; exact th_up
        exact W.vret hx hb hr (fun t ht hW => ⟨⟨F68, rfl, ⟨trivial, trivial, (s_mono (by omega) hI), hfr⟩, by rw [ht]; exact hP, va_K.moved hW.alike hK⟩, hS.F ht⟩) hS.2.2 dX0_tryWord_158
      · have c41 := mt (ax_ge (n := 16) (by decide)).mpr c41
        refine lv_iload_n hx hb dX0_tryWord_24 rfl (lv_at hl 1 rfl) ?_
        refine lv_bipush (v := 16) hx hb dX0_tryWord_25 (by decide) ?_
        refine lv_imul hx hb dX0_tryWord_27 ?_
        refine lv_topi (fun v71 ev71 => ?_)
        have qv71 : v71.toInt = x1.toInt * 16 := by rw [ev71]; exact th_mul rfl (by decide) ⟨by omega, by omega⟩
        refine lv_iload_n hx hb dX0_tryWord_28 rfl (lv_at hl 3 rfl) ?_
        refine lv_iadd hx hb dX0_tryWord_29 ?_
        refine lv_topi (fun v72 ev72 => ?_)
        have qv72 : v72.toInt = v71.toInt + w30.toInt := by rw [ev72]; exact th_add rfl rfl ⟨by omega, by omega⟩
        refine lv_istore (lv' := [(4, .int v72), (0, .ref a0), (1, .int x1), (2, .int w29), (3, .int w30)]) hx hb dX0_tryWord_30 hl (by decide) rfl (fun ls hl => ?_)
        refine lv_iload_n hx hb dX0_tryWord_32 rfl (lv_at hl 3 rfl) ?_
        refine lv_if_eq (tgt := 124) hx hb dX0_tryWord_33 (by decide) (fun c73 => ?_) (fun c73 => ?_)
        · have c73 := (ax_eq (n := 0) (by decide)).mp c73
          refine lv_aload_n hx hb dX0_tryWord_124 rfl (lv_at hl 1 rfl) ?_
          obtain ⟨z74, z76, z78, z80, z82, z84, z85, z87, z88, z90, z91, z93, z94, z95, o97, h75, h77, h79, h81, h83, h86, h89, h92, h96, -⟩ := s_op1 hI ha0
          refine th_get (D := (dC, dI)) (ci := 0) (v := .ref z85) (C := RX0) (T := TX0) (N := 14) hx hb hts inX0 hown hK hP (hLK _ ha0 (by decide)) o97 rfl 6 (by decide) (hts _ T_149) (fun _ h9 => h9) rfl dX0_tryWord_125 ?_
          refine lv_iload hx hb dX0_tryWord_128 (lv_at hl 0 rfl) ?_
          refine lv_aload_n hx hb dX0_tryWord_130 rfl (lv_at hl 1 rfl) ?_
          refine th_get (D := (dC, dI)) (ci := 0) (v := .ref z85) (C := RX0) (T := TX0) (N := 14) hx hb hts inX0 hown hK hP (hLK _ ha0 (by decide)) o97 rfl 6 (by decide) (hts _ T_149) (fun _ h9 => h9) rfl dX0_tryWord_131 ?_
          refine lv_iload hx hb dX0_tryWord_134 (lv_at hl 0 rfl) ?_
          refine lv_iconst (v := 1) hx hb dX0_tryWord_136 (by decide) ?_
          refine lv_isub hx hb dX0_tryWord_137 ?_
          refine lv_topi (fun v98 ev98 => ?_)
          have qv98 : v98.toInt = v72.toInt - 1 := by rw [ev98]; exact th_sub rfl (by decide) ⟨by omega, by omega⟩
          obtain ⟨f99, o100, h101⟩ := s_op37 hI h86
          refine th_iald hx hb hK hP (hLK _ h86 (by decide)) 0 o100 rfl (th_in ⟨by omega, by omega⟩) dX0_tryWord_138 ?_
          refine lv_topi (fun v102 ev102 => ?_)
          obtain ⟨f103, o104, h105⟩ := s_op37 hI h86
          refine th_iast hx hb hK hP hD hS (hLK _ h86 (by decide)) 0 o104 rfl (th_in ⟨by omega, by omega⟩) dX0_tryWord_139 (fun H locs hP hS => ?_)
          have hP : va_P (dC, dI) vwCl (va_pl L (va_up F9 z85 (.inl (cs 0, 1024, .inl (upd f103 (v72 : Int32).toNatClampNeg v102))))) H := hP
          obtain ⟨F106, hF107⟩ : ∃ G : Nat → va_E, G = va_up F9 z85 (.inl (cs 0, 1024, .inl (upd f103 (v72 : Int32).toNatClampNeg v102))) := ⟨_, rfl⟩
          rw [← hF107] at hP
          have hI : s_I K cs D34 F106 := by rw [hF107]; exact s_cl37 hI h86 ⟨_, rfl, trivial⟩
          have hfr : ∀ b, K b ∉ [1, 2, 5, 6, 24, 27, 28, 29, 30, 31, 32, 34, 35, 37] → F106 b = F b := by rw [hF107]; exact s_fr hfr h86 (by decide)
          have o108 : F106 a0 = .inr (0, [.ref z74, .ref z76, .ref z78, .ref z80, .ref z82, .int z84, .ref z85, .long z87, .ref z88, .int z90, .ref z91, .int z93, .int z94, .int z95]) := by rw [hF107]; exact th_ne (th_kd ha0 h86 (by decide)) o97
          exact K140 _ _ _ ⟨F106, _, D34, w29, rfl, lv_sub hl [1, 2, 3, 4] rfl, by omega, hI, hP, hS, hfr, ⟨by omega, by omega⟩, ⟨by omega, by omega⟩, ⟨by omega, by omega⟩⟩
        · have c73 := mt (ax_eq (n := 0) (by decide)).mpr c73
          refine lv_aload_n hx hb dX0_tryWord_36 rfl (lv_at hl 1 rfl) ?_
          refine lv_aload_n hx hb dX0_tryWord_37 rfl (lv_at hl 1 rfl) ?_
          obtain ⟨z109, z111, z113, z115, z117, z119, z120, z122, z123, z125, z126, z128, z129, z130, o132, h110, h112, h114, h116, h118, h121, h124, h127, h131, -⟩ := s_op1 hI ha0
          refine th_get (D := (dC, dI)) (ci := 0) (v := .int z128) (C := RX0) (T := TX0) (N := 14) hx hb hts inX0 hown hK hP (hLK _ ha0 (by decide)) o132 rfl 11 (by decide) (hts _ T_591) (fun _ h9 => h9) rfl dX0_tryWord_38 ?_
          refine lv_aload_n hx hb dX0_tryWord_41 rfl (lv_at hl 1 rfl) ?_
          refine th_get (D := (dC, dI)) (ci := 0) (v := .int z129) (C := RX0) (T := TX0) (N := 14) hx hb hts inX0 hown hK hP (hLK _ ha0 (by decide)) o132 rfl 12 (by decide) (hts _ T_592) (fun _ h9 => h9) rfl dX0_tryWord_42 ?_
          refine lv_aload_n hx hb dX0_tryWord_45 rfl (lv_at hl 1 rfl) ?_
          refine th_get (D := (dC, dI)) (ci := 0) (v := .int z130) (C := RX0) (T := TX0) (N := 14) hx hb hts inX0 hown hK hP (hLK _ ha0 (by decide)) o132 rfl 13 (by decide) (hts _ T_593) (fun _ h9 => h9) rfl dX0_tryWord_46 ?_
          refine va_callr (va_runV (As := [.int z128, .int z129, .int z130]) (rest := []) ⟨hx, hb, hml, hown, hts⟩ (s_X0_begun l dC dI H.size hLK D34 F9 a0 z128 z129 z130 ha0 (⟨by omega, by omega⟩) hI) (cwV 3 hts (ax_gV T_594 T_596 T_597 T_180 T_595) rfl rfl rfl (by decide +kernel) ⟨Nat.le_of_ble_eq_true rfl, Nat.le_of_ble_eq_true rfl⟩) ⟨fun a U g mk q => ⟨q.1, s_pc rfl rfl q.2⟩, s_recv hK hP (hLK _ ha0 (by decide)) (ci := 0) rfl o132, fun U hU hW => ⟨rfl, s_pw hU hW hP hK hD hN⟩⟩ rfl rfl hl.1 rfl (lv_room (Nat.le_of_ble_eq_true rfl)) dX0_tryWord_49 ⟨Nat.zero_le _, Nat.zero_le _⟩) hS (fun q _ h => h) (fun q h => h) (fun F134 r133 t H1 locs ht hvm hw hB hz1 hk1 hS => ?_)
          obtain ⟨hk_r133, hP, hK1⟩ := hB
          rw [ht] at hP
          generalize H1 = H at hP hS ⊢
          obtain ⟨h135, h136, hI, hfr1⟩ := hw
          have o137 : F134 a0 = .inr (0, [.ref z109, .ref z111, .ref z113, .ref z115, .ref z117, .int z119, .ref z120, .long z122, .ref z123, .int z125, .ref z126, .int z128, .int z129, .int z130]) := (hfr1 _ (by rw [ha0]; decide)).trans o132
          have hfr : ∀ b, K b ∉ [1, 2, 5, 6, 24, 27, 28, 29, 30, 31, 32, 34, 35, 37] → F134 b = F b := fun b hb9 => (hfr1 b (fun q => hb9 (s_sub (by decide) q))).trans (hfr b hb9)
          obtain ⟨z138, z140, z142, z144, z146, z148, z150, z152, z154, z155, z156, z158, z159, z161, z162, o164, h139, h141, h143, h145, h147, h149, h151, h153, h157, h160, h163, -⟩ := s_op5 hI hk_r133
          refine th_getN (D := (dC, dI)) (ci := 4) (v := .ref z140) (C := RX4) (T := TX4) (N := 15) hx hb hts inX4 hown hK hP (hLK _ hk_r133 (by decide)) o164 rfl 1 (by decide) (va_Nw.use rfl (ax_n16 hN)) (fun _ h9 => h9) rfl dX0_tryWord_52 ?_
          refine lv_iload_n hx hb dX0_tryWord_55 rfl (lv_at hl 2 rfl) ?_
          refine lv_iload_n hx hb dX0_tryWord_56 rfl (lv_at hl 4 rfl) ?_
          obtain ⟨f165, o166, h167⟩ := s_op24 hI h141
          refine th_iast hx hb hK hP hD hS (hLK _ h141 (by decide)) 0 o166 rfl (th_in ⟨by omega, by omega⟩) dX0_tryWord_57 (fun H locs hP hS => ?_)
          have hP : va_P (dC, dI) vwCl (va_pl L (va_up F134 z140 (.inl (cs 0, 64, .inl (upd f165 (x1 : Int32).toNatClampNeg w30))))) H := hP
          obtain ⟨F168, hF169⟩ : ∃ G : Nat → va_E, G = va_up F134 z140 (.inl (cs 0, 64, .inl (upd f165 (x1 : Int32).toNatClampNeg w30))) := ⟨_, rfl⟩
          rw [← hF169] at hP
          have hI : s_I K cs D34 F168 := by rw [hF169]; exact s_cl24 hI h141 ⟨_, rfl, trivial⟩
          have hfr : ∀ b, K b ∉ [1, 2, 5, 6, 24, 27, 28, 29, 30, 31, 32, 34, 35, 37] → F168 b = F b := by rw [hF169]; exact s_fr hfr h141 (by decide)
          have o170 : F168 a0 = .inr (0, [.ref z109, .ref z111, .ref z113, .ref z115, .ref z117, .int z119, .ref z120, .long z122, .ref z123, .int z125, .ref z126, .int z128, .int z129, .int z130]) := by rw [hF169]; exact th_ne (th_kd ha0 h141 (by decide)) o137
          have o171 : F168 r133 = .inr (4, [.ref z138, .ref z140, .ref z142, .ref z144, .ref z146, .ref z148, .ref z150, .int z152, .int z154, .int z155, .int z156, .int z158, .int z159, .int z161, .int z162]) := by rw [hF169]; exact th_ne (th_kd hk_r133 h141 (by decide)) o164
          refine lv_aload_n hx hb dX0_tryWord_58 rfl (lv_at hl 1 rfl) ?_
          refine th_get (D := (dC, dI)) (ci := 0) (v := .ref z109) (C := RX0) (T := TX0) (N := 14) hx hb hts inX0 hown hK hP (hLK _ ha0 (by decide)) o170 rfl 0 (by decide) (hts _ T_139) (fun _ h9 => h9) rfl dX0_tryWord_59 ?_
          refine lv_lconst (v := 0) hx hb dX0_tryWord_62 (by decide) ?_
          obtain ⟨z172, z174, z176, z178, z180, z182, z183, z185, z186, z187, z189, z190, o191, h173, h175, h177, h179, h181, h184, h188, -⟩ := s_op2 hI h110
          refine th_putN (D := (dC, dI)) (ci := 1) (v := .long 0) (ty := .long) (C := RX1) (T := TX1) (N := 12) hx hb hts inX1 tyX1 tyX1_ok nmX1 hown hK hP hD hS (hLK _ h110 (by decide)) o191 rfl 11 (by decide) (va_Nw.use rfl (ax_n17 hN)) (fun _ h9 => h9) rfl (by decide +kernel) rfl rfl (Nat.le_of_ble_eq_true rfl) dX0_tryWord_63 (fun H locs hP hS => ?_)
          have hP : va_P (dC, dI) vwCl (va_pl L (va_up F168 z109 (.inr (1, [.ref z172, .ref z174, .ref z176, va_rf z178, va_rf z180, va_rf z182, .int z183, .int z185, .int z186, .int z187, .int z189, .long 0])))) H := hP
          obtain ⟨F192, hF193⟩ : ∃ G : Nat → va_E, G = va_up F168 z109 (.inr (1, [.ref z172, .ref z174, .ref z176, va_rf z178, va_rf z180, va_rf z182, .int z183, .int z185, .int z186, .int z187, .int z189, .long 0])) := ⟨_, rfl⟩
          rw [← hF193] at hP
          have hI : s_I K cs D34 F192 := by rw [hF193]; exact s_cl2 hI h110 ⟨z172, z174, z176, z178, z180, z182, z183, z185, z186, z187, z189, 0, rfl, h173, h175, h177, h179, h181, ⟨by omega, by omega⟩, ⟨by omega, by omega⟩, trivial⟩
          have hfr : ∀ b, K b ∉ [1, 2, 5, 6, 24, 27, 28, 29, 30, 31, 32, 34, 35, 37] → F192 b = F b := by rw [hF193]; exact s_fr hfr h110 (by decide)
          have o194 : F192 a0 = .inr (0, [.ref z109, .ref z111, .ref z113, .ref z115, .ref z117, .int z119, .ref z120, .long z122, .ref z123, .int z125, .ref z126, .int z128, .int z129, .int z130]) := by rw [hF193]; exact th_ne (th_kd ha0 h110 (by decide)) o170
          have o195 : F192 r133 = .inr (4, [.ref z138, .ref z140, .ref z142, .ref z144, .ref z146, .ref z148, .ref z150, .int z152, .int z154, .int z155, .int z156, .int z158, .int z159, .int z161, .int z162]) := by rw [hF193]; exact th_ne (th_kd hk_r133 h110 (by decide)) o171
          have o196 : F192 z109 = .inr (1, [.ref z172, .ref z174, .ref z176, va_rf z178, va_rf z180, va_rf z182, .int z183, .int z185, .int z186, .int z187, .int z189, .long 0]) := by rw [hF193]; exact th_up
          refine lv_aload_n hx hb dX0_tryWord_66 rfl (lv_at hl 1 rfl) ?_
          refine lv_aload_n hx hb dX0_tryWord_67 rfl (lv_at hl 1 rfl) ?_
          refine th_get (D := (dC, dI)) (ci := 0) (v := .ref z111) (C := RX0) (T := TX0) (N := 14) hx hb hts inX0 hown hK hP (hLK _ ha0 (by decide)) o194 rfl 1 (by decide) (hts _ T_145) (fun _ h9 => h9) rfl dX0_tryWord_68 ?_
          refine va_calli (va_runV (As := [.ref z111]) (rest := []) ⟨hx, hb, hml, hown, hts⟩ (s_X0_cyclesToRest l dC dI H.size hLK D34 (D34 + 401) (Nat.le_refl _) (by omega) F192 a0 z111 ha0 h112 hI (s_PGt hI0 hfr (by decide) hPG)) (cwV 1 hts (ax_gV T_566 T_568 T_569 T_180 T_567) rfl rfl rfl (by decide +kernel) ⟨Nat.le_of_ble_eq_true rfl, Nat.le_of_ble_eq_true rfl⟩) ⟨fun a U g mk q => ⟨q.1, s_pc rfl rfl q.2⟩, s_recv hK hP (hLK _ ha0 (by decide)) (ci := 0) rfl o194, fun U hU hW => ⟨rfl, s_pw hU hW hP hK hD hN⟩⟩ rfl rfl hl.1 rfl (lv_room (Nat.le_of_ble_eq_true rfl)) dX0_tryWord_71 ⟨Nat.zero_le _, Nat.zero_le _⟩) hS (fun q _ h => h) (fun q h => h) (fun r197 F198 t H1 locs ht hvm hw hB hz1 hk1 hS => ?_)
          obtain ⟨hP, hK1⟩ := hB
          rw [ht] at hP
          generalize H1 = H at hP hS ⊢
          obtain ⟨h199, h200, hI, hfr1⟩ := hw
          have o201 : F198 a0 = .inr (0, [.ref z109, .ref z111, .ref z113, .ref z115, .ref z117, .int z119, .ref z120, .long z122, .ref z123, .int z125, .ref z126, .int z128, .int z129, .int z130]) := (hfr1 _ (by rw [ha0]; decide)).trans o194
          have hfr : ∀ b, K b ∉ [1, 2, 5, 6, 24, 27, 28, 29, 30, 31, 32, 34, 35, 37] → F198 b = F b := fun b hb9 => (hfr1 b (fun q => hb9 (s_sub (by decide) q))).trans (hfr b hb9)
          refine lv_istore (lv' := [(5, .int r197), (4, .int v72), (0, .ref a0), (1, .int x1), (2, .int w29), (3, .int w30)]) hx hb dX0_tryWord_74 hl (by decide) rfl (fun ls hl => ?_)
          refine lv_aload_n hx hb dX0_tryWord_76 rfl (lv_at hl 2 rfl) ?_
          refine th_get (D := (dC, dI)) (ci := 0) (v := .ref z120) (C := RX0) (T := TX0) (N := 14) hx hb hts inX0 hown hK hP (hLK _ ha0 (by decide)) o201 rfl 6 (by decide) (hts _ T_149) (fun _ h9 => h9) rfl dX0_tryWord_77 ?_
          refine lv_iload hx hb dX0_tryWord_80 (lv_at hl 1 rfl) ?_
          refine lv_aload_n hx hb dX0_tryWord_82 rfl (lv_at hl 2 rfl) ?_
          refine th_get (D := (dC, dI)) (ci := 0) (v := .ref z113) (C := RX0) (T := TX0) (N := 14) hx hb hts inX0 hown hK hP (hLK _ ha0 (by decide)) o201 rfl 2 (by decide) (hts _ T_146) (fun _ h9 => h9) rfl dX0_tryWord_83 ?_
          obtain ⟨z202, z204, z206, z208, z210, z212, z214, z216, z218, z219, z220, z222, z223, z225, z226, o228, h203, h205, h207, h209, h211, h213, h215, h217, h221, h224, h227, -⟩ := s_op5 hI h114
          refine va_calli (va_runV (As := []) (rest := [.int v72, .ref z120]) ⟨hx, hb, hml, hown, hts⟩ (s_X4_hasEnded l dC dI H.size hLK (D34 + 401) F198 z113 h114 hI) (cwV 0 hts (ax_gV T_570 T_572 T_573 T_142 T_571) rfl rfl rfl (by decide +kernel) ⟨Nat.le_of_ble_eq_true rfl, Nat.le_of_ble_eq_true rfl⟩) ⟨fun a U g mk q => ⟨q.1, s_pc rfl rfl q.2⟩, s_recv hK hP (hLK _ h114 (by decide)) (ci := 4) rfl o228, fun U hU hW => ⟨rfl, s_pw hU hW hP hK hD hN⟩⟩ rfl rfl hl.1 rfl (lv_room (Nat.le_of_ble_eq_true rfl)) dX0_tryWord_86 ⟨Nat.zero_le _, Nat.zero_le _⟩) hS (fun q _ h => h) (fun q h => h) (fun r229 F230 t H1 locs ht hvm hw hB hz1 hk1 hS => ?_)
          obtain ⟨hP, hK1⟩ := hB
          rw [ht] at hP
          generalize H1 = H at hP hS ⊢
          obtain ⟨h231, h232, hI, hfr1⟩ := hw
          have o233 : F230 a0 = .inr (0, [.ref z109, .ref z111, .ref z113, .ref z115, .ref z117, .int z119, .ref z120, .long z122, .ref z123, .int z125, .ref z126, .int z128, .int z129, .int z130]) := (hfr1 _ (by rw [ha0]; decide)).trans o201
          have o234 : F230 z113 = .inr (4, [.ref z202, .ref z204, .ref z206, .ref z208, .ref z210, .ref z212, .ref z214, .int z216, .int z218, .int z219, .int z220, .int z222, .int z223, .int z225, .int z226]) := (hfr1 _ (by rw [h114]; decide)).trans o228
          have hfr : ∀ b, K b ∉ [1, 2, 5, 6, 24, 27, 28, 29, 30, 31, 32, 34, 35, 37] → F230 b = F b := fun b hb9 => (hfr1 b (fun q => hb9 (s_sub (by decide) q))).trans (hfr b hb9)
          refine lv_if_eq (tgt := 97) hx hb dX0_tryWord_89 (by decide) (fun c235 => ?_) (fun c235 => ?_)
          · have c235 := (ax_eq (n := 0) (by decide)).mp c235
            refine lv_iconst (v := (-1)) hx hb dX0_tryWord_97 (by decide) ?_
            exact K98 _ _ _ ⟨F230, _, (D34 + 401), (-1), v72, z120, rfl, lv_sub hl [2, 3, 5] rfl, by omega, hI, hP, hS, hfr, (by decide), ⟨by omega, by omega⟩, h121, ⟨by omega, by omega⟩, ⟨by omega, by omega⟩⟩
          · have c235 := mt (ax_eq (n := 0) (by decide)).mpr c235
            refine lv_iload hx hb dX0_tryWord_92 (lv_at hl 0 rfl) ?_
            refine lv_goto (tgt := 98) hx hb dX0_tryWord_94 (by decide) ?_
            exact K98 _ _ _ ⟨F230, _, (D34 + 401), r197, v72, z120, rfl, lv_sub hl [2, 3, 5] rfl, by omega, hI, hP, hS, hfr, ⟨by omega, by omega⟩, ⟨by omega, by omega⟩, h121, ⟨by omega, by omega⟩, ⟨by omega, by omega⟩⟩
    · intro g H locs hq
      obtain ⟨F9, ls, D241, w38, w39, w40, rfl, hl, h242, hI, hP, hS, hfr, h236, h237, h238, h239, h240⟩ := hq
      obtain ⟨f243, o244, h245⟩ := s_op37 hI h238
      refine th_iast hx hb hK hP hD hS (hLK _ h238 (by decide)) 0 o244 rfl (th_in ⟨by omega, by omega⟩) dX0_tryWord_98 (fun H locs hP hS => ?_)
      have hP : va_P (dC, dI) vwCl (va_pl L (va_up F9 w40 (.inl (cs 0, 1024, .inl (upd f243 (w39 : Int32).toNatClampNeg w38))))) H := hP
      obtain ⟨F246, hF247⟩ : ∃ G : Nat → va_E, G = va_up F9 w40 (.inl (cs 0, 1024, .inl (upd f243 (w39 : Int32).toNatClampNeg w38))) := ⟨_, rfl⟩
      rw [← hF247] at hP
      have hI : s_I K cs D241 F246 := by rw [hF247]; exact s_cl37 hI h238 ⟨_, rfl, trivial⟩
      have hfr : ∀ b, K b ∉ [1, 2, 5, 6, 24, 27, 28, 29, 30, 31, 32, 34, 35, 37] → F246 b = F b := by rw [hF247]; exact s_fr hfr h238 (by decide)
      refine lv_aload_n hx hb dX0_tryWord_99 rfl (lv_at hl 0 rfl) ?_
      obtain ⟨z248, z250, z252, z254, z256, z258, z259, z261, z262, z264, z265, z267, z268, z269, o271, h249, h251, h253, h255, h257, h260, h263, h266, h270, -⟩ := s_op1 hI ha0
      refine th_get (D := (dC, dI)) (ci := 0) (v := .ref z248) (C := RX0) (T := TX0) (N := 14) hx hb hts inX0 hown hK hP (hLK _ ha0 (by decide)) o271 rfl 0 (by decide) (hts _ T_139) (fun _ h9 => h9) rfl dX0_tryWord_100 ?_
      obtain ⟨z272, z274, z276, z278, z280, z282, z283, z285, z286, z287, z289, z290, o291, h273, h275, h277, h279, h281, h284, h288, -⟩ := s_op2 hI h249
      refine th_getN (D := (dC, dI)) (ci := 1) (v := .long z290) (C := RX1) (T := TX1) (N := 12) hx hb hts inX1 hown hK hP (hLK _ h249 (by decide)) o291 rfl 11 (by decide) (va_Nw.use rfl (ax_n17 hN)) (fun _ h9 => h9) rfl dX0_tryWord_103 ?_
      refine lv_iload_n hx hb dX0_tryWord_106 rfl (lv_at hl 1 rfl) ?_
      refine lv_lshr hx hb dX0_tryWord_107 rfl ?_
      refine lv_topl (fun v292 _ => ?_)
      refine lv_lconst (v := 1) hx hb dX0_tryWord_108 (by decide) ?_
      refine lv_land hx hb dX0_tryWord_109 ?_
      refine lv_topl (fun v293 ev293 => ?_)
      refine lv_lconst (v := 0) hx hb dX0_tryWord_110 (by decide) ?_
      refine W.lcmp hx hb dX0_tryWord_111 ?_
      refine lv_topi (fun v294 _ => ?_)
      refine lv_if_eq (tgt := 119) hx hb dX0_tryWord_112 (by decide) (fun c295 => ?_) (fun c295 => ?_)
      · have c295 := (ax_eq (n := 0) (by decide)).mp c295
        refine lv_iconst (v := 0) hx hb dX0_tryWord_119 (by decide) ?_
        exact K120 _ _ _ ⟨F246, _, D241, 0, rfl, lv_sub hl [0, 1, 2] rfl, by omega, hI, hP, hS, hfr, (by decide), ⟨by omega, by omega⟩, ⟨by omega, by omega⟩⟩
      · have c295 := mt (ax_eq (n := 0) (by decide)).mpr c295
        refine lv_iconst (v := 1) hx hb dX0_tryWord_115 (by decide) ?_
        refine lv_goto (tgt := 120) hx hb dX0_tryWord_116 (by decide) ?_
        exact K120 _ _ _ ⟨F246, _, D241, 1, rfl, lv_sub hl [0, 1, 2] rfl, by omega, hI, hP, hS, hfr, (by decide), ⟨by omega, by omega⟩, ⟨by omega, by omega⟩⟩
    · intro g H locs hq
      obtain ⟨F9, ls, D299, w37, rfl, hl, h300, hI, hP, hS, hfr, h296, h297, h298⟩ := hq
      refine lv_istore_n (lv' := [(2, .int w37), (0, .ref a0), (1, .int x1), (3, .int w30)]) hx hb dX0_tryWord_120 rfl hl (by decide) rfl (fun ls hl => ?_)
      refine lv_goto (tgt := 140) hx hb dX0_tryWord_121 (by decide) ?_
      exact K140 _ _ _ ⟨F9, _, D299, w37, rfl, lv_sub hl [1, 2, 0, 3] rfl, by omega, hI, hP, hS, hfr, ⟨by omega, by omega⟩, ⟨by omega, by omega⟩, ⟨by omega, by omega⟩⟩
    · intro g H locs hq
      obtain ⟨F9, ls, D304, w36, rfl, hl, h305, hI, hP, hS, hfr, h301, h302, h303⟩ := hq
      obtain ⟨v306, ev306⟩ : ∃ y : Int32, w30 + 1 = y := ⟨_, rfl⟩
      have qv306 : v306.toInt = w30.toInt + 1 := by rw [← ev306]; exact th_add rfl (by decide) ⟨by omega, by omega⟩
      refine lv_iinc (v := v306) (lv' := [(3, .int v306), (0, .ref a0), (1, .int x1), (2, .int w36)]) hx hb dX0_tryWord_140 hl (k := 3) rfl ev306 (by decide) rfl (fun ls hl => ?_)
      refine lv_goto (tgt := 18) hx hb dX0_tryWord_143 (by decide) ?_
      exact ih18 _ _ _ _ (by omega) ⟨F9, _, D304, w36, v306, rfl, lv_sub hl [1, 2, 3, 0] rfl, by omega, hI, hP, hS, hfr, ⟨by omega, by omega⟩, ⟨by omega, by omega⟩, ⟨by omega, by omega⟩, rfl⟩
  · have c28 := mt (ax_eq (n := 0) (by decide)).mpr c28
    exact W.vret hx hb hr (fun t ht hW => ⟨⟨F, rfl, ⟨trivial, trivial, (s_mono (by omega) hI), hfr⟩, by rw [ht]; exact hP, va_K.moved hW.alike hK⟩, hS.F ht⟩) hS.2.2 dX0_tryWord_13

set_option maxHeartbeats 4000000 in
set_option maxRecDepth 100000 in
theorem s_X0_tryLane (l : Launch) (dC : Nat → ClassId) (dI : Nat → Nat → Nat) (sz : Nat) {L : List Nat} {K : Nat → Nat} {cs : Nat → ClassId} (hLK : ∀ a {k : Nat}, K a = k → k ≠ 0 → a ∈ L) (D : Nat) (Dm : Nat) (hDm : D + 401 ≤ Dm) (hDM : Dm < 2147483647) (F : Nat → va_E) (a0 : Nat) (x1 : Int32) (x2 : Int32) (ha0 : K a0 = 1) (hx1 : 0 ≤ x1.toInt ∧ x1.toInt ≤ 3) (hx2 : 0 ≤ x2.toInt ∧ x2.toInt ≤ 7) (hI : s_I K cs D F) (hPG : s_PG K cs F) : Met l yX0_tryLane (Cond.code yX0_tryLane cX0_tryLane 8 none :: T0) ({ frames := 6, cells := 0, slots := 0, locals := 136 }) (va_Pc [.ref a0, .int x1, .int x2] (s_W dC dI sz L F [(cs 0, .int), (cs 1, .byte), (cs 2, .long), (cs 3, .object RX5), (cs 4, .object RX4), (cs 5, .array .int), (cs 6, .char), (cs 7, .boolean)])) (va_Qv (fun (G : Nat → va_E) => True ∧ True ∧ s_I K cs Dm G ∧ ∀ b, K b ∉ [1, 2, 5, 6, 24, 27, 28, 29, 30, 31, 32, 34, 35, 38] → G b = F b) (fun (G : Nat → va_E) (t : State) => va_P (dC, dI) vwCl (va_pl L G) t.heap ∧ va_K (dC, dI) vwCl [(cs 0, .int), (cs 1, .byte), (cs 2, .long), (cs 3, .object RX5), (cs 4, .object RX4), (cs 5, .array .int), (cs 6, .char), (cs 7, .boolean)] t) (fun q => q ∈ L)) 0 0 (fun q => q ∈ L) := by
  refine Met.ofW (cc := cX0_tryLane) (maxL := 8) (ret := none) (by decide) rfl ?_
  intro p e s m args below meth c s₁ B hml hv
  obtain ⟨rfl, hsz, hP, hK, hD, hN⟩ := hv
  have hx := B.exec
  have hb := B.bytes
  have hr := B.returns
  have hts : ∀ w ∈ T0, w.before _ s = true := fun w h => atoms_spec (ws := Cond.code yX0_tryLane cX0_tryLane 8 none :: T0) B.pre w (List.mem_cons_of_mem _ h)
  have hown : s.vm.findClass RX0 = some m.cls := findClass_of_methodNamed B.named
  have hlocks := B.notSynchronized
  have hS : va_S (fun q => q ∈ L) s.heap s.heap [] := va_S.rf
  have hfr : ∀ b, K b ∉ [1, 2, 5, 6, 24, 27, 28, 29, 30, 31, 32, 34, 35, 38] → F b = F b := fun _ _ => rfl
  have hl := lv_entry ([.ref a0, .int x1, .int x2]) (n := 8) (Nat.le_of_ble_eq_true rfl)
  rw [lg_entry_eq]
  generalize (lg_sl ([.ref a0, .int x1, .int x2]) ++ List.replicate (8 - (lg_sl ([.ref a0, .int x1, .int x2])).length) Slot.unset).toArray = ls at hl ⊢
  have hl : lv_has ls 8 [(0, .ref a0), (1, .int x1), (2, .int x2)] := hl
  have hI0 := hI
  refine s_gen hP hS (fun H locs hP hS => ?_)
  refine th_join (fun g H locs => ∃ (G : Nat → va_E) (ls : Array Slot) (Dn : Nat) (w1 : Int32) (w2 : Int32) (w3 : Int32) (w4 : Nat), g = F0 m 145 ls [.int w2, .int w3, .ref w4] ∧ lv_has ls 8 [(0, .ref a0), (3, .int w1)] ∧ Dn + 0 ≤ Dm ∧ s_I K cs Dn G ∧ va_P (dC, dI) vwCl (va_pl L G) H ∧ va_S (fun q => q ∈ L) s.heap H locs ∧ (∀ b, K b ∉ [1, 2, 5, 6, 24, 27, 28, 29, 30, 31, 32, 34, 35, 38] → G b = F b) ∧ (0 ≤ w1.toInt ∧ w1.toInt ≤ 31) ∧ (-1000000 ≤ w2.toInt ∧ w2.toInt ≤ 400) ∧ (4 ≤ w3.toInt ∧ w3.toInt ≤ 159) ∧ K w4 = 38) (fun K145 => ?_) ?_
  · refine lv_iload_n hx hb dX0_tryLane_0 rfl (lv_at hl 1 rfl) ?_
    refine lv_bipush (v := 8) hx hb dX0_tryLane_1 (by decide) ?_
    refine lv_imul hx hb dX0_tryLane_3 ?_
    refine lv_topi (fun v5 ev5 => ?_)
    have qv5 : v5.toInt = x1.toInt * 8 := by rw [ev5]; exact th_mul rfl (by decide) ⟨by omega, by omega⟩
    refine lv_iload_n hx hb dX0_tryLane_4 rfl (lv_at hl 2 rfl) ?_
    refine lv_iadd hx hb dX0_tryLane_5 ?_
    refine lv_topi (fun v6 ev6 => ?_)
    have qv6 : v6.toInt = v5.toInt + x2.toInt := by rw [ev6]; exact th_add rfl rfl ⟨by omega, by omega⟩
    refine lv_istore_n (lv' := [(3, .int v6), (0, .ref a0), (1, .int x1), (2, .int x2)]) hx hb dX0_tryLane_6 rfl hl (by decide) rfl (fun ls hl => ?_)
    refine lv_aload_n hx hb dX0_tryLane_7 rfl (lv_at hl 1 rfl) ?_
    obtain ⟨z7, z9, z11, z13, z15, z17, z18, z20, z21, z23, z24, z26, z27, z28, o30, h8, h10, h12, h14, h16, h19, h22, h25, h29, -⟩ := s_op1 hI ha0
    refine th_get (D := (dC, dI)) (ci := 0) (v := .int z23) (C := RX0) (T := TX0) (N := 14) hx hb hts inX0 hown hK hP (hLK _ ha0 (by decide)) o30 rfl 9 (by decide) (hts _ T_157) (fun _ h9 => h9) rfl dX0_tryLane_8 ?_
    refine lv_iload_n hx hb dX0_tryLane_11 rfl (lv_at hl 0 rfl) ?_
    refine lv_ishr hx hb dX0_tryLane_12 ?_
    refine lv_topi (fun v31 ev31 => ?_)
    refine lv_iconst (v := 1) hx hb dX0_tryLane_13 (by decide) ?_
    refine lv_iand hx hb dX0_tryLane_14 ?_
    refine lv_topi (fun v32 ev32 => ?_)
    have qv32 : 0 ≤ v32.toInt ∧ v32.toInt ≤ 1 := by rw [ev32]; exact th_and 1 (by decide) (by decide)
    refine lv_if_eq (tgt := 19) hx hb dX0_tryLane_15 (by decide) (fun c33 => ?_) (fun c33 => ?_)
    · have c33 := (ax_eq (n := 0) (by decide)).mp c33
      refine lv_aload_n hx hb dX0_tryLane_19 rfl (lv_at hl 1 rfl) ?_
      refine lv_aload_n hx hb dX0_tryLane_20 rfl (lv_at hl 1 rfl) ?_
      refine th_get (D := (dC, dI)) (ci := 0) (v := .int z26) (C := RX0) (T := TX0) (N := 14) hx hb hts inX0 hown hK hP (hLK _ ha0 (by decide)) o30 rfl 11 (by decide) (hts _ T_591) (fun _ h9 => h9) rfl dX0_tryLane_21 ?_
      refine lv_aload_n hx hb dX0_tryLane_24 rfl (lv_at hl 1 rfl) ?_
      refine th_get (D := (dC, dI)) (ci := 0) (v := .int z27) (C := RX0) (T := TX0) (N := 14) hx hb hts inX0 hown hK hP (hLK _ ha0 (by decide)) o30 rfl 12 (by decide) (hts _ T_592) (fun _ h9 => h9) rfl dX0_tryLane_25 ?_
      refine lv_aload_n hx hb dX0_tryLane_28 rfl (lv_at hl 1 rfl) ?_
      refine th_get (D := (dC, dI)) (ci := 0) (v := .int z28) (C := RX0) (T := TX0) (N := 14) hx hb hts inX0 hown hK hP (hLK _ ha0 (by decide)) o30 rfl 13 (by decide) (hts _ T_593) (fun _ h9 => h9) rfl dX0_tryLane_29 ?_
      refine va_callr (va_runV (As := [.int z26, .int z27, .int z28]) (rest := []) ⟨hx, hb, hml, hown, hts⟩ (s_X0_begun l dC dI H.size hLK D F a0 z26 z27 z28 ha0 (⟨by omega, by omega⟩) hI) (cwV 3 hts (ax_gV T_594 T_596 T_597 T_180 T_595) rfl rfl rfl (by decide +kernel) ⟨Nat.le_of_ble_eq_true rfl, Nat.le_of_ble_eq_true rfl⟩) ⟨fun a U g mk q => ⟨q.1, s_pc rfl rfl q.2⟩, s_recv hK hP (hLK _ ha0 (by decide)) (ci := 0) rfl o30, fun U hU hW => ⟨rfl, s_pw hU hW hP hK hD hN⟩⟩ rfl rfl hl.1 rfl (lv_room (Nat.le_of_ble_eq_true rfl)) dX0_tryLane_32 ⟨Nat.zero_le _, Nat.zero_le _⟩) hS (fun q _ h => h) (fun q h => h) (fun F35 r34 t H1 locs ht hvm hw hB hz1 hk1 hS => ?_)
      obtain ⟨hk_r34, hP, hK1⟩ := hB
      rw [ht] at hP
      generalize H1 = H at hP hS ⊢
      obtain ⟨h36, h37, hI, hfr1⟩ := hw
      have o38 : F35 a0 = .inr (0, [.ref z7, .ref z9, .ref z11, .ref z13, .ref z15, .int z17, .ref z18, .long z20, .ref z21, .int z23, .ref z24, .int z26, .int z27, .int z28]) := (hfr1 _ (by rw [ha0]; decide)).trans o30
      have hfr : ∀ b, K b ∉ [1, 2, 5, 6, 24, 27, 28, 29, 30, 31, 32, 34, 35, 38] → F35 b = F b := fun b hb9 => (hfr1 b (fun q => hb9 (s_sub (by decide) q))).trans (hfr b hb9)
      refine lv_iload_n hx hb dX0_tryLane_35 rfl (lv_at hl 2 rfl) ?_
      refine lv_iload_n hx hb dX0_tryLane_36 rfl (lv_at hl 3 rfl) ?_
      refine lv_aload_n hx hb dX0_tryLane_37 rfl (lv_at hl 1 rfl) ?_
      refine th_get (D := (dC, dI)) (ci := 0) (v := .ref z24) (C := RX0) (T := TX0) (N := 14) hx hb hts inX0 hown hK hP (hLK _ ha0 (by decide)) o38 rfl 10 (by decide) (hts _ T_151) (fun _ h9 => h9) rfl dX0_tryLane_38 ?_
      obtain ⟨z39, z41, z43, z45, z47, z49, z50, o51, h40, h42, h44, h46, h48, -⟩ := s_op3 hI h25
      refine th_getN (D := (dC, dI)) (ci := 2) (v := .int z45) (C := RX2) (T := TX2) (N := 7) hx hb hts inX2 hown hK hP (hLK _ h25 (by decide)) o51 rfl 3 (by decide) (va_Nw.use rfl (ax_n13 hN)) (fun _ h9 => h9) rfl dX0_tryLane_41 ?_
      obtain ⟨z52, z54, z56, z58, z60, z62, z64, z66, z68, z69, z70, z72, z73, z75, z76, o78, h53, h55, h57, h59, h61, h63, h65, h67, h71, h74, h77, -⟩ := s_op5 hI hk_r34
      refine va_callv (va_runV (As := [.int x1, .int x2, .int z45]) (rest := []) ⟨hx, hb, hml, hown, hts⟩ (s_X4_leaveAlone l dC dI H.size hLK D F35 r34 x1 x2 z45 hk_r34 hI) (cwV 3 hts (ax_gV T_598 T_600 T_601 T_142 T_599) rfl rfl rfl (by decide +kernel) ⟨Nat.le_of_ble_eq_true rfl, Nat.le_of_ble_eq_true rfl⟩) ⟨fun a U g mk q => ⟨q.1, s_pc rfl rfl q.2⟩, s_recv hK hP (hLK _ hk_r34 (by decide)) (ci := 4) rfl o78, fun U hU hW => ⟨rfl, s_pw hU hW hP hK hD hN⟩⟩ rfl rfl hl.1 rfl (lv_room (Nat.le_of_ble_eq_true rfl)) dX0_tryLane_44 ⟨Nat.zero_le _, Nat.zero_le _⟩) hS (fun q _ h => h) (fun q h => h) (fun F79 t H1 locs ht hvm hw hB hz1 hk1 hS => ?_)
      obtain ⟨hP, hK1⟩ := hB
      rw [ht] at hP
      generalize H1 = H at hP hS ⊢
      obtain ⟨h80, h81, hI, hfr1⟩ := hw
      have o82 : F79 a0 = .inr (0, [.ref z7, .ref z9, .ref z11, .ref z13, .ref z15, .int z17, .ref z18, .long z20, .ref z21, .int z23, .ref z24, .int z26, .int z27, .int z28]) := (hfr1 _ (by rw [ha0]; decide)).trans o38
      have o83 : F79 z24 = .inr (2, [.ref z39, .ref z41, .ref z43, .int z45, .int z47, .int z49, .int z50]) := (hfr1 _ (by rw [h25]; decide)).trans o51
      have o84 : F79 r34 = .inr (4, [.ref z52, .ref z54, .ref z56, .ref z58, .ref z60, .ref z62, .ref z64, .int z66, .int z68, .int z69, .int z70, .int z72, .int z73, .int z75, .int z76]) := (hfr1 _ (by rw [hk_r34]; decide)).trans o78
      have hfr : ∀ b, K b ∉ [1, 2, 5, 6, 24, 27, 28, 29, 30, 31, 32, 34, 35, 38] → F79 b = F b := fun b hb9 => (hfr1 b (fun q => hb9 (s_sub (by decide) q))).trans (hfr b hb9)
      refine lv_aload_n hx hb dX0_tryLane_47 rfl (lv_at hl 1 rfl) ?_
      refine lv_aload_n hx hb dX0_tryLane_48 rfl (lv_at hl 1 rfl) ?_
      refine th_get (D := (dC, dI)) (ci := 0) (v := .ref z9) (C := RX0) (T := TX0) (N := 14) hx hb hts inX0 hown hK hP (hLK _ ha0 (by decide)) o82 rfl 1 (by decide) (hts _ T_145) (fun _ h9 => h9) rfl dX0_tryLane_49 ?_
      refine va_calli (va_runV (As := [.ref z9]) (rest := []) ⟨hx, hb, hml, hown, hts⟩ (s_X0_cyclesToRest l dC dI H.size hLK D (D + 401) (Nat.le_refl _) (by omega) F79 a0 z9 ha0 h10 hI (s_PGt hI0 hfr (by decide) hPG)) (cwV 1 hts (ax_gV T_566 T_568 T_569 T_180 T_567) rfl rfl rfl (by decide +kernel) ⟨Nat.le_of_ble_eq_true rfl, Nat.le_of_ble_eq_true rfl⟩) ⟨fun a U g mk q => ⟨q.1, s_pc rfl rfl q.2⟩, s_recv hK hP (hLK _ ha0 (by decide)) (ci := 0) rfl o82, fun U hU hW => ⟨rfl, s_pw hU hW hP hK hD hN⟩⟩ rfl rfl hl.1 rfl (lv_room (Nat.le_of_ble_eq_true rfl)) dX0_tryLane_52 ⟨Nat.zero_le _, Nat.zero_le _⟩) hS (fun q _ h => h) (fun q h => h) (fun r85 F86 t H1 locs ht hvm hw hB hz1 hk1 hS => ?_)
      obtain ⟨hP, hK1⟩ := hB
      rw [ht] at hP
      generalize H1 = H at hP hS ⊢
      obtain ⟨h87, h88, hI, hfr1⟩ := hw
      have o89 : F86 a0 = .inr (0, [.ref z7, .ref z9, .ref z11, .ref z13, .ref z15, .int z17, .ref z18, .long z20, .ref z21, .int z23, .ref z24, .int z26, .int z27, .int z28]) := (hfr1 _ (by rw [ha0]; decide)).trans o82
      have o90 : F86 z24 = .inr (2, [.ref z39, .ref z41, .ref z43, .int z45, .int z47, .int z49, .int z50]) := (hfr1 _ (by rw [h25]; decide)).trans o83
      have hfr : ∀ b, K b ∉ [1, 2, 5, 6, 24, 27, 28, 29, 30, 31, 32, 34, 35, 38] → F86 b = F b := fun b hb9 => (hfr1 b (fun q => hb9 (s_sub (by decide) q))).trans (hfr b hb9)
      refine lv_istore (lv' := [(4, .int r85), (3, .int v6), (0, .ref a0), (1, .int x1), (2, .int x2)]) hx hb dX0_tryLane_55 hl (by decide) rfl (fun ls hl => ?_)
      refine lv_aload_n hx hb dX0_tryLane_57 rfl (lv_at hl 2 rfl) ?_
      refine th_get (D := (dC, dI)) (ci := 0) (v := .ref z11) (C := RX0) (T := TX0) (N := 14) hx hb hts inX0 hown hK hP (hLK _ ha0 (by decide)) o89 rfl 2 (by decide) (hts _ T_146) (fun _ h9 => h9) rfl dX0_tryLane_58 ?_
      obtain ⟨z91, z93, z95, z97, z99, z101, z103, z105, z107, z108, z109, z111, z112, z114, z115, o117, h92, h94, h96, h98, h100, h102, h104, h106, h110, h113, h116, -⟩ := s_op5 hI h12
      refine va_calli (va_runV (As := []) (rest := []) ⟨hx, hb, hml, hown, hts⟩ (s_X4_hasEnded l dC dI H.size hLK (D + 401) F86 z11 h12 hI) (cwV 0 hts (ax_gV T_570 T_572 T_573 T_142 T_571) rfl rfl rfl (by decide +kernel) ⟨Nat.le_of_ble_eq_true rfl, Nat.le_of_ble_eq_true rfl⟩) ⟨fun a U g mk q => ⟨q.1, s_pc rfl rfl q.2⟩, s_recv hK hP (hLK _ h12 (by decide)) (ci := 4) rfl o117, fun U hU hW => ⟨rfl, s_pw hU hW hP hK hD hN⟩⟩ rfl rfl hl.1 rfl (lv_room (Nat.le_of_ble_eq_true rfl)) dX0_tryLane_61 ⟨Nat.zero_le _, Nat.zero_le _⟩) hS (fun q _ h => h) (fun q h => h) (fun r118 F119 t H1 locs ht hvm hw hB hz1 hk1 hS => ?_)
      obtain ⟨hP, hK1⟩ := hB
      rw [ht] at hP
      generalize H1 = H at hP hS ⊢
      obtain ⟨h120, h121, hI, hfr1⟩ := hw
      have o122 : F119 a0 = .inr (0, [.ref z7, .ref z9, .ref z11, .ref z13, .ref z15, .int z17, .ref z18, .long z20, .ref z21, .int z23, .ref z24, .int z26, .int z27, .int z28]) := (hfr1 _ (by rw [ha0]; decide)).trans o89
      have o123 : F119 z24 = .inr (2, [.ref z39, .ref z41, .ref z43, .int z45, .int z47, .int z49, .int z50]) := (hfr1 _ (by rw [h25]; decide)).trans o90
      have o124 : F119 z11 = .inr (4, [.ref z91, .ref z93, .ref z95, .ref z97, .ref z99, .ref z101, .ref z103, .int z105, .int z107, .int z108, .int z109, .int z111, .int z112, .int z114, .int z115]) := (hfr1 _ (by rw [h12]; decide)).trans o117
      have hfr : ∀ b, K b ∉ [1, 2, 5, 6, 24, 27, 28, 29, 30, 31, 32, 34, 35, 38] → F119 b = F b := fun b hb9 => (hfr1 b (fun q => hb9 (s_sub (by decide) q))).trans (hfr b hb9)
      refine lv_istore (lv' := [(5, .int r118), (4, .int r85), (3, .int v6), (0, .ref a0), (1, .int x1), (2, .int x2)]) hx hb dX0_tryLane_64 hl (by decide) rfl (fun ls hl => ?_)
      refine lv_iload_n hx hb dX0_tryLane_66 rfl (lv_at hl 2 rfl) ?_
      refine lv_iconst (v := 5) hx hb dX0_tryLane_67 (by decide) ?_
      refine lv_imul hx hb dX0_tryLane_68 ?_
      refine lv_topi (fun v125 ev125 => ?_)
      have qv125 : v125.toInt = v6.toInt * 5 := by rw [ev125]; exact th_mul rfl (by decide) ⟨by omega, by omega⟩
      refine lv_istore (lv' := [(6, .int v125), (5, .int r118), (4, .int r85), (3, .int v6), (0, .ref a0), (1, .int x1), (2, .int x2)]) hx hb dX0_tryLane_69 hl (by decide) rfl (fun ls hl => ?_)
      refine lv_iconst (v := 0) hx hb dX0_tryLane_71 (by decide) ?_
      refine lv_istore (lv' := [(7, .int 0), (6, .int v125), (5, .int r118), (4, .int r85), (3, .int v6), (0, .ref a0), (1, .int x1), (2, .int x2)]) hx hb dX0_tryLane_72 hl (by decide) rfl (fun ls hl => ?_)
      refine th_loop (fun n g H locs => ∃ (G : Nat → va_E) (ls : Array Slot) (Dn : Nat) (w126 : Int32), g = F0 m 74 ls [] ∧ lv_has ls 8 [(0, .ref a0), (1, .int x1), (2, .int x2), (3, .int v6), (4, .int r85), (5, .int r118), (6, .int v125), (7, .int w126)] ∧ Dn + 0 * n + 0 ≤ Dm ∧ s_I K cs Dn G ∧ va_P (dC, dI) vwCl (va_pl L G) H ∧ va_S (fun q => q ∈ L) s.heap H locs ∧ (∀ b, K b ∉ [1, 2, 5, 6, 24, 27, 28, 29, 30, 31, 32, 34, 35, 38] → G b = F b) ∧ (0 ≤ w126.toInt ∧ w126.toInt ≤ 4) ∧ (0 ≤ x1.toInt ∧ x1.toInt ≤ 3) ∧ (0 ≤ x2.toInt ∧ x2.toInt ≤ 7) ∧ (0 ≤ v6.toInt ∧ v6.toInt ≤ 31) ∧ (-1 ≤ r85.toInt ∧ r85.toInt ≤ 400) ∧ (0 ≤ r118.toInt ∧ r118.toInt ≤ 1) ∧ (0 ≤ v125.toInt ∧ v125.toInt ≤ 155) ∧ n = (5 - w126.toInt).toNat) _ ⟨F119, _, (D + 401), 0, rfl, lv_sub hl [5, 6, 7, 4, 3, 2, 1, 0] rfl, by omega, hI, hP, hS, hfr, (by decide), ⟨by omega, by omega⟩, ⟨by omega, by omega⟩, ⟨by omega, by omega⟩, ⟨by omega, by omega⟩, ⟨by omega, by omega⟩, ⟨by omega, by omega⟩, rfl⟩ (fun n ih74 g H locs hq => ?_)
      obtain ⟨F9, ls, D134, w126, rfl, hl, h135, hI, hP, hS, hfr, h127, h128, h129, h130, h131, h132, h133, hn⟩ := hq
      have hn_74 := hn
      obtain ⟨n_74, hn9_74⟩ : ∃ q, q = n := ⟨_, rfl⟩
      refine th_join (fun g H locs => ∃ (G : Nat → va_E) (ls : Array Slot) (Dn : Nat) (w136 : Int32) (w137 : Int32) (w138 : Nat), g = F0 m 118 ls [.int w136, .int w137, .ref w138] ∧ lv_has ls 8 [(0, .ref a0), (1, .int x1), (2, .int x2), (3, .int v6), (4, .int r85), (5, .int r118), (6, .int v125), (7, .int w126)] ∧ Dn + 0 + 0 * (n_74 - 1) + 0 ≤ Dm ∧ s_I K cs Dn G ∧ va_P (dC, dI) vwCl (va_pl L G) H ∧ va_S (fun q => q ∈ L) s.heap H locs ∧ (∀ b, K b ∉ [1, 2, 5, 6, 24, 27, 28, 29, 30, 31, 32, 34, 35, 38] → G b = F b) ∧ True ∧ (0 ≤ w137.toInt ∧ w137.toInt ≤ 158) ∧ K w138 = 38 ∧ (0 ≤ x1.toInt ∧ x1.toInt ≤ 3) ∧ (0 ≤ x2.toInt ∧ x2.toInt ≤ 7) ∧ (0 ≤ v6.toInt ∧ v6.toInt ≤ 31) ∧ (-1 ≤ r85.toInt ∧ r85.toInt ≤ 400) ∧ (0 ≤ r118.toInt ∧ r118.toInt ≤ 1) ∧ (0 ≤ v125.toInt ∧ v125.toInt ≤ 155) ∧ (0 ≤ w126.toInt ∧ w126.toInt ≤ 3)) (fun K118 => ?_) ?_
      · refine lv_iload hx hb dX0_tryLane_74 (lv_at hl 7 rfl) ?_
        refine lv_iconst (v := 4) hx hb dX0_tryLane_76 (by decide) ?_
        refine lv_icmp_ge (tgt := 125) hx hb dX0_tryLane_77 (by decide) (fun c139 => ?_) (fun c139 => ?_)
        · have c139 := (ax_ge (n := 4) (by decide)).mp c139
          refine lv_aload_n hx hb dX0_tryLane_125 rfl (lv_at hl 0 rfl) ?_
          obtain ⟨z140, z142, z144, z146, z148, z150, z151, z153, z154, z156, z157, z159, z160, z161, o163, h141, h143, h145, h147, h149, h152, h155, h158, h162, -⟩ := s_op1 hI ha0
          refine th_get (D := (dC, dI)) (ci := 0) (v := .ref z154) (C := RX0) (T := TX0) (N := 14) hx hb hts inX0 hown hK hP (hLK _ ha0 (by decide)) o163 rfl 8 (by decide) (hts _ T_150) (fun _ h9 => h9) rfl dX0_tryLane_126 ?_
          refine lv_iload hx hb dX0_tryLane_129 (lv_at hl 6 rfl) ?_
          refine lv_iconst (v := 4) hx hb dX0_tryLane_131 (by decide) ?_
          refine lv_iadd hx hb dX0_tryLane_132 ?_
          refine lv_topi (fun v164 ev164 => ?_)
          have qv164 : v164.toInt = v125.toInt + 4 := by rw [ev164]; exact th_add rfl (by decide) ⟨by omega, by omega⟩
          refine lv_iload hx hb dX0_tryLane_133 (lv_at hl 5 rfl) ?_
          refine lv_if_eq (tgt := 143) hx hb dX0_tryLane_135 (by decide) (fun c165 => ?_) (fun c165 => ?_)
          · have c165 := (ax_eq (n := 0) (by decide)).mp c165
            refine lv_ldc (v := (-1000000)) hx hb hown (hts _ T_602) dX0_tryLane_143 ?_
            exact K145 _ _ _ ⟨F9, _, D134, v6, (-1000000), v164, z154, rfl, lv_sub hl [0, 3] rfl, by omega, hI, hP, hS, hfr, ⟨by omega, by omega⟩, (by decide), ⟨by omega, by omega⟩, h155⟩
          · have c165 := mt (ax_eq (n := 0) (by decide)).mpr c165
            refine lv_iload hx hb dX0_tryLane_138 (lv_at hl 4 rfl) ?_
            refine lv_goto (tgt := 145) hx hb dX0_tryLane_140 (by decide) ?_
            exact K145 _ _ _ ⟨F9, _, D134, v6, r85, v164, z154, rfl, lv_sub hl [0, 3] rfl, by omega, hI, hP, hS, hfr, ⟨by omega, by omega⟩, ⟨by omega, by omega⟩, ⟨by omega, by omega⟩, h155⟩
        · have c139 := mt (ax_ge (n := 4) (by decide)).mpr c139
          refine lv_aload_n hx hb dX0_tryLane_80 rfl (lv_at hl 0 rfl) ?_
          obtain ⟨z166, z168, z170, z172, z174, z176, z177, z179, z180, z182, z183, z185, z186, z187, o189, h167, h169, h171, h173, h175, h178, h181, h184, h188, -⟩ := s_op1 hI ha0
          refine th_get (D := (dC, dI)) (ci := 0) (v := .ref z180) (C := RX0) (T := TX0) (N := 14) hx hb hts inX0 hown hK hP (hLK _ ha0 (by decide)) o189 rfl 8 (by decide) (hts _ T_150) (fun _ h9 => h9) rfl dX0_tryLane_81 ?_
          refine lv_iload hx hb dX0_tryLane_84 (lv_at hl 6 rfl) ?_
          refine lv_iload hx hb dX0_tryLane_86 (lv_at hl 7 rfl) ?_
          refine lv_iadd hx hb dX0_tryLane_88 ?_
          refine lv_topi (fun v190 ev190 => ?_)
          have qv190 : v190.toInt = v125.toInt + w126.toInt := by rw [ev190]; exact th_add rfl rfl ⟨by omega, by omega⟩
          refine lv_iload hx hb dX0_tryLane_89 (lv_at hl 5 rfl) ?_
          refine lv_if_eq (tgt := 116) hx hb dX0_tryLane_91 (by decide) (fun c191 => ?_) (fun c191 => ?_)
          · have c191 := (ax_eq (n := 0) (by decide)).mp c191
            refine lv_ldc (v := (-1000000)) hx hb hown (hts _ T_602) dX0_tryLane_116 ?_
            exact K118 _ _ _ ⟨F9, _, D134, (-1000000), v190, z180, rfl, lv_sub hl [0, 1, 2, 3, 4, 5, 6, 7] rfl, by omega, hI, hP, hS, hfr, trivial, ⟨by omega, by omega⟩, h181, ⟨by omega, by omega⟩, ⟨by omega, by omega⟩, ⟨by omega, by omega⟩, ⟨by omega, by omega⟩, ⟨by omega, by omega⟩, ⟨by omega, by omega⟩, ⟨by omega, by omega⟩⟩
          · have c191 := mt (ax_eq (n := 0) (by decide)).mpr c191
            refine lv_aload_n hx hb dX0_tryLane_94 rfl (lv_at hl 0 rfl) ?_
            refine th_get (D := (dC, dI)) (ci := 0) (v := .ref z170) (C := RX0) (T := TX0) (N := 14) hx hb hts inX0 hown hK hP (hLK _ ha0 (by decide)) o189 rfl 2 (by decide) (hts _ T_146) (fun _ h9 => h9) rfl dX0_tryLane_95 ?_
            obtain ⟨z192, z194, z196, z198, z200, z202, z204, z206, z208, z209, z210, z212, z213, z215, z216, o218, h193, h195, h197, h199, h201, h203, h205, h207, h211, h214, h217, -⟩ := s_op5 hI h171
            refine th_getN (D := (dC, dI)) (ci := 4) (v := .ref z192) (C := RX4) (T := TX4) (N := 15) hx hb hts inX4 hown hK hP (hLK _ h171 (by decide)) o218 rfl 0 (by decide) (va_Nw.use rfl (ax_n14 hN)) (fun _ h9 => h9) rfl dX0_tryLane_98 ?_
            refine lv_iload_n hx hb dX0_tryLane_101 rfl (lv_at hl 1 rfl) ?_
            obtain ⟨f219, o220, h221⟩ := s_op26 hI h193
            obtain ⟨z222, o224, h223⟩ := h221 (x1 : Int32).toNatClampNeg (th_cl ⟨by omega, by omega⟩)
            refine th_aald hx hb hK hP (hLK _ h193 (by decide)) 3 o220 rfl (th_in ⟨by omega, by omega⟩) o224 dX0_tryLane_102 ?_
            obtain ⟨z225, z227, z229, z231, z233, z235, z237, z238, z239, z240, z241, o243, h226, h228, h230, h232, h234, h236, h242, -⟩ := s_op6 hI h223
            refine th_getN (D := (dC, dI)) (ci := 5) (v := .ref z225) (C := RX5) (T := TX5) (N := 11) hx hb hts inX5 hown hK hP (hLK _ h223 (by decide)) o243 rfl 0 (by decide) (va_Nw.use rfl (ax_n15 hN)) (fun _ h9 => h9) rfl dX0_tryLane_103 ?_
            refine lv_iload_n hx hb dX0_tryLane_106 rfl (lv_at hl 2 rfl) ?_
            refine lv_iconst (v := 4) hx hb dX0_tryLane_107 (by decide) ?_
            refine lv_imul hx hb dX0_tryLane_108 ?_
            refine lv_topi (fun v244 ev244 => ?_)
            have qv244 : v244.toInt = x2.toInt * 4 := by rw [ev244]; exact th_mul rfl (by decide) ⟨by omega, by omega⟩
            refine lv_iload hx hb dX0_tryLane_109 (lv_at hl 7 rfl) ?_
            refine lv_iadd hx hb dX0_tryLane_111 ?_
            refine lv_topi (fun v245 ev245 => ?_)
            have qv245 : v245.toInt = v244.toInt + w126.toInt := by rw [ev245]; exact th_add rfl rfl ⟨by omega, by omega⟩
            obtain ⟨f246, o247, h248⟩ := s_op30 hI h226
            refine th_iald hx hb hK hP (hLK _ h226 (by decide)) 0 o247 rfl (th_in ⟨by omega, by omega⟩) dX0_tryLane_112 ?_
            refine lv_topi (fun v249 ev249 => ?_)
            refine lv_goto (tgt := 118) hx hb dX0_tryLane_113 (by decide) ?_
            exact K118 _ _ _ ⟨F9, _, D134, v249, v190, z180, rfl, lv_sub hl [0, 1, 2, 3, 4, 5, 6, 7] rfl, by omega, hI, hP, hS, hfr, trivial, ⟨by omega, by omega⟩, h181, ⟨by omega, by omega⟩, ⟨by omega, by omega⟩, ⟨by omega, by omega⟩, ⟨by omega, by omega⟩, ⟨by omega, by omega⟩, ⟨by omega, by omega⟩, ⟨by omega, by omega⟩⟩
      · intro g H locs hq
        obtain ⟨F9, ls, D260, w136, w137, w138, rfl, hl, h261, hI, hP, hS, hfr, h250, h251, h252, h253, h254, h255, h256, h257, h258, h259⟩ := hq
        obtain ⟨f262, o263, h264⟩ := s_op38 hI h252
        refine th_iast hx hb hK hP hD hS (hLK _ h252 (by decide)) 0 o263 rfl (th_in ⟨by omega, by omega⟩) dX0_tryLane_118 (fun H locs hP hS => ?_)
        have hP : va_P (dC, dI) vwCl (va_pl L (va_up F9 w138 (.inl (cs 0, 160, .inl (upd f262 (w137 : Int32).toNatClampNeg w136))))) H := hP
        obtain ⟨F265, hF266⟩ : ∃ G : Nat → va_E, G = va_up F9 w138 (.inl (cs 0, 160, .inl (upd f262 (w137 : Int32).toNatClampNeg w136))) := ⟨_, rfl⟩
        rw [← hF266] at hP
        have hI : s_I K cs D260 F265 := by rw [hF266]; exact s_cl38 hI h252 ⟨_, rfl, trivial⟩
        have hfr : ∀ b, K b ∉ [1, 2, 5, 6, 24, 27, 28, 29, 30, 31, 32, 34, 35, 38] → F265 b = F b := by rw [hF266]; exact s_fr hfr h252 (by decide)
        obtain ⟨v267, ev267⟩ : ∃ y : Int32, w126 + 1 = y := ⟨_, rfl⟩
        have qv267 : v267.toInt = w126.toInt + 1 := by rw [← ev267]; exact th_add rfl (by decide) ⟨by omega, by omega⟩
        refine lv_iinc (v := v267) (lv' := [(7, .int v267), (0, .ref a0), (1, .int x1), (2, .int x2), (3, .int v6), (4, .int r85), (5, .int r118), (6, .int v125)]) hx hb dX0_tryLane_119 hl (k := 7) rfl ev267 (by decide) rfl (fun ls hl => ?_)
        refine lv_goto (tgt := 74) hx hb dX0_tryLane_122 (by decide) ?_
        exact ih74 _ _ _ _ (by omega) ⟨F265, _, D260, v267, rfl, lv_sub hl [1, 2, 3, 4, 5, 6, 7, 0] rfl, by omega, hI, hP, hS, hfr, ⟨by omega, by omega⟩, ⟨by omega, by omega⟩, ⟨by omega, by omega⟩, ⟨by omega, by omega⟩, ⟨by omega, by omega⟩, ⟨by omega, by omega⟩, ⟨by omega, by omega⟩, rfl⟩
    · have c33 := mt (ax_eq (n := 0) (by decide)).mpr c33
      exact W.vret hx hb hr (fun t ht hW => ⟨⟨F, rfl, ⟨trivial, trivial, (s_mono (by omega) hI), hfr⟩, by rw [ht]; exact hP, va_K.moved hW.alike hK⟩, hS.F ht⟩) hS.2.2 dX0_tryLane_18
  · intro g H locs hq
    obtain ⟨F9, ls, D272, w1, w2, w3, w4, rfl, hl, h273, hI, hP, hS, hfr, h268, h269, h270, h271⟩ := hq
    obtain ⟨f274, o275, h276⟩ := s_op38 hI h271
    refine th_iast hx hb hK hP hD hS (hLK _ h271 (by decide)) 0 o275 rfl (th_in ⟨by omega, by omega⟩) dX0_tryLane_145 (fun H locs hP hS => ?_)
    have hP : va_P (dC, dI) vwCl (va_pl L (va_up F9 w4 (.inl (cs 0, 160, .inl (upd f274 (w3 : Int32).toNatClampNeg w2))))) H := hP
    obtain ⟨F277, hF278⟩ : ∃ G : Nat → va_E, G = va_up F9 w4 (.inl (cs 0, 160, .inl (upd f274 (w3 : Int32).toNatClampNeg w2))) := ⟨_, rfl⟩
    rw [← hF278] at hP
    have hI : s_I K cs D272 F277 := by rw [hF278]; exact s_cl38 hI h271 ⟨_, rfl, trivial⟩
    have hfr : ∀ b, K b ∉ [1, 2, 5, 6, 24, 27, 28, 29, 30, 31, 32, 34, 35, 38] → F277 b = F b := by rw [hF278]; exact s_fr hfr h271 (by decide)
    refine lv_aload_n hx hb dX0_tryLane_146 rfl (lv_at hl 0 rfl) ?_
    refine lv_dup hx hb dX0_tryLane_147 rfl ?_
    obtain ⟨z279, z281, z283, z285, z287, z289, z290, z292, z293, z295, z296, z298, z299, z300, o302, h280, h282, h284, h286, h288, h291, h294, h297, h301, -⟩ := s_op1 hI ha0
    refine th_get (D := (dC, dI)) (ci := 0) (v := .int z295) (C := RX0) (T := TX0) (N := 14) hx hb hts inX0 hown hK hP (hLK _ ha0 (by decide)) o302 rfl 9 (by decide) (hts _ T_157) (fun _ h9 => h9) rfl dX0_tryLane_148 ?_
    refine lv_iconst (v := 1) hx hb dX0_tryLane_151 (by decide) ?_
    refine lv_iload_n hx hb dX0_tryLane_152 rfl (lv_at hl 1 rfl) ?_
    refine lv_ishl hx hb dX0_tryLane_153 ?_
    refine lv_topi (fun v303 ev303 => ?_)
    refine lv_ior hx hb dX0_tryLane_154 ?_
    refine lv_topi (fun v304 ev304 => ?_)
    refine th_put (D := (dC, dI)) (ci := 0) (v := .int v304) (ty := .int) (C := RX0) (T := TX0) (N := 14) hx hb hts inX0 tyX0 tyX0_ok nmX0 hown hK hP hD hS (hLK _ ha0 (by decide)) o302 rfl 9 (by decide) (hts _ T_157) (fun _ h9 => h9) rfl (by decide +kernel) rfl rfl (Nat.le_of_ble_eq_true rfl) dX0_tryLane_155 (fun H locs hP hS => ?_)
    have hP : va_P (dC, dI) vwCl (va_pl L (va_up F277 a0 (.inr (0, [.ref z279, .ref z281, .ref z283, .ref z285, .ref z287, .int z289, .ref z290, .long z292, .ref z293, .int v304, .ref z296, .int z298, .int z299, .int z300])))) H := hP
    obtain ⟨F305, hF306⟩ : ∃ G : Nat → va_E, G = va_up F277 a0 (.inr (0, [.ref z279, .ref z281, .ref z283, .ref z285, .ref z287, .int z289, .ref z290, .long z292, .ref z293, .int v304, .ref z296, .int z298, .int z299, .int z300])) := ⟨_, rfl⟩
    rw [← hF306] at hP
    have hI : s_I K cs D272 F305 := by rw [hF306]; exact s_cl1 hI ha0 ⟨z279, z281, z283, z285, z287, z289, z290, z292, z293, v304, z296, z298, z299, z300, rfl, h280, h282, h284, h286, h288, h291, h294, h297, ⟨by omega, by omega⟩, trivial⟩
    have hfr : ∀ b, K b ∉ [1, 2, 5, 6, 24, 27, 28, 29, 30, 31, 32, 34, 35, 38] → F305 b = F b := by rw [hF306]; exact s_fr hfr ha0 (by decide)
    have o307 : F305 a0 = .inr (0, [.ref z279, .ref z281, .ref z283, .ref z285, .ref z287, .int z289, .ref z290, .long z292, .ref z293, .int v304, .ref z296, .int z298, .int z299, .int z300]) := by rw [hF306]; exact th_up
    exact W.vret hx hb hr (fun t ht hW => ⟨⟨F305, rfl, ⟨trivial, trivial, (s_mono (by omega) hI), hfr⟩, by rw [ht]; exact hP, va_K.moved hW.alike hK⟩, hS.F ht⟩) hS.2.2 dX0_tryLane_158

