set_option maxHeartbeats 4000000 in
set_option maxRecDepth 100000 in
theorem s_X1_step (l : Launch) (dC : Nat → ClassId) (dI : Nat → Nat → Nat) (sz : Nat) {L : List Nat} {K : Nat → Nat} {cs : Nat → ClassId} (hLK : ∀ a {k : Nat}, K a = k → k ≠ 0 → a ∈ L) (D : Nat) (Dm : Nat) (hDm : D + 1 ≤ Dm) (hDM : Dm < 2147483647) (F : Nat → va_E) (a0 : Nat) (a1 : Nat) (ha0 : K a0 = 2) (ha1 : K a1 = 5) (hI : s_I K cs D F) (hPG : s_PG K cs F) : Met l yX1_step (Cond.code yX1_step cX1_step 3 (some .boolean) :: T0) ({ frames := 4, cells := 0, slots := 0, locals := 92 }) (va_Pc [.ref a0, .ref a1] (s_W dC dI sz L F [(cs 0, .int), (cs 1, .byte), (cs 2, .long), (cs 3, .object RX5), (cs 4, .object RX4), (cs 5, .array .int), (cs 6, .char), (cs 7, .boolean)])) (va_Qi (fun (r : Int32) (G : Nat → va_E) => (0 ≤ r.toInt ∧ r.toInt ≤ 1) ∧ True ∧ s_I K cs Dm G ∧ ∀ b, K b ∉ [2, 5, 6, 24, 27, 28, 29, 30, 31, 32, 34, 35] → G b = F b) (fun (G : Nat → va_E) (t : State) => va_P (dC, dI) vwCl (va_pl L G) t.heap ∧ va_K (dC, dI) vwCl [(cs 0, .int), (cs 1, .byte), (cs 2, .long), (cs 3, .object RX5), (cs 4, .object RX4), (cs 5, .array .int), (cs 6, .char), (cs 7, .boolean)] t) (fun q => q ∈ L)) 0 0 (fun q => q ∈ L) := by
  refine Met.ofW (cc := cX1_step) (maxL := 3) (ret := (some .boolean)) (by decide) rfl ?_
  intro p e s m args below meth c s₁ B hml hv
  obtain ⟨rfl, hsz, hP, hK, hD, hN⟩ := hv
  have hx := B.exec
  have hb := B.bytes
  have hr := B.returns
  have hts : ∀ w ∈ T0, w.before _ s = true := fun w h => atoms_spec (ws := Cond.code yX1_step cX1_step 3 (some .boolean) :: T0) B.pre w (List.mem_cons_of_mem _ h)
  have hown : s.vm.findClass RX1 = some m.cls := findClass_of_methodNamed B.named
  have hlocks := B.notSynchronized
  have hS : va_S (fun q => q ∈ L) s.heap s.heap [] := va_S.rf
  have hfr : ∀ b, K b ∉ [2, 5, 6, 24, 27, 28, 29, 30, 31, 32, 34, 35] → F b = F b := fun _ _ => rfl
  have hl := lv_entry ([.ref a0, .ref a1]) (n := 3) (Nat.le_of_ble_eq_true rfl)
  rw [lg_entry_eq]
  generalize (lg_sl ([.ref a0, .ref a1]) ++ List.replicate (3 - (lg_sl ([.ref a0, .ref a1])).length) Slot.unset).toArray = ls at hl ⊢
  have hl : lv_has ls 3 [(0, .ref a0), (1, .ref a1)] := hl
  have hI0 := hI
  refine s_gen hP hS (fun H locs hP hS => ?_)
  refine th_join (fun g H locs => ∃ (G : Nat → va_E) (ls : Array Slot) (Dn : Nat) (w1 : Int32), g = F0 m 63 ls [] ∧ lv_has ls 3 [(1, .ref a1), (2, .int w1)] ∧ Dn + 0 ≤ Dm ∧ s_I K cs Dn G ∧ va_P (dC, dI) vwCl (va_pl L G) H ∧ va_S (fun q => q ∈ L) s.heap H locs ∧ (∀ b, K b ∉ [2, 5, 6, 24, 27, 28, 29, 30, 31, 32, 34, 35] → G b = F b) ∧ (0 ≤ w1.toInt ∧ w1.toInt ≤ 1)) (fun K63 => ?_) ?_
  refine th_join (fun g H locs => ∃ (G : Nat → va_E) (ls : Array Slot) (Dn : Nat) (w2 : Int32), g = F0 m 52 ls [] ∧ lv_has ls 3 [(0, .ref a0), (1, .ref a1), (2, .int w2)] ∧ Dn + 0 ≤ Dm ∧ s_I K cs Dn G ∧ va_P (dC, dI) vwCl (va_pl L G) H ∧ va_S (fun q => q ∈ L) s.heap H locs ∧ (∀ b, K b ∉ [2, 5, 6, 24, 27, 28, 29, 30, 31, 32, 34, 35] → G b = F b) ∧ (1 ≤ w2.toInt ∧ w2.toInt ≤ 1)) (fun K52 => ?_) ?_
  · refine lv_aload_n hx hb dX1_step_0 rfl (lv_at hl 0 rfl) ?_
    refine lv_aload_n hx hb dX1_step_1 rfl (lv_at hl 1 rfl) ?_
    obtain ⟨z3, z5, z7, z9, z11, z13, z14, z16, z17, z18, z20, z21, o22, h4, h6, h8, h10, h12, h15, h19, -⟩ := s_op2 hI ha0
    refine va_calli (va_runV (As := [.ref a1]) (rest := []) ⟨hx, hb, hml, hown, hts⟩ (s_X1_foresee l dC dI H.size hLK D F a0 a1 ha0 ha1 hI (s_PGt hI0 hfr (by decide) hPG)) (cwV 1 hts (ax_gV T_701 T_703 T_704 T_137 T_702) rfl rfl rfl (by decide +kernel) ⟨Nat.le_of_ble_eq_true rfl, Nat.le_of_ble_eq_true rfl⟩) ⟨fun a U g mk q => ⟨q.1, s_pc (U := U) rfl rfl q.2⟩, s_recv hK hP (hLK _ ha0 (by decide)) (ci := 1) rfl o22, fun U hU hW => ⟨rfl, s_pw hU hW hP hK hD hN⟩⟩ rfl rfl hl.1 rfl (lv_room (Nat.le_of_ble_eq_true rfl)) dX1_step_2 ⟨Nat.zero_le _, Nat.zero_le _⟩) hS (fun q _ h => h) (fun q h => h) (fun r23 F24 t H1 locs ht hvm hw hB hz1 hk1 hS => ?_)
    obtain ⟨hP, hK1⟩ := hB
    rw [ht] at hP
    generalize H1 = H at hP hS ⊢
    clear hz1 hk1
    obtain ⟨h25, h26, hI, hfr1, h27⟩ := hw
    have hfr : ∀ b, K b ∉ [2, 5, 6, 24, 27, 28, 29, 30, 31, 32, 34, 35] → F24 b = F b := fun b hb9 => (hfr1 b (fun q => hb9 (s_sub (by decide) q))).trans (hfr b hb9)
    obtain ⟨h26, h28⟩ := h26
    have h28 : (¬ r23 = 0 → (∀ z0 z1 z2 z3 z4 z5 z6 z7 z8 z9 z10 z11 f g, F24 a0 = .inr (1, [.ref z0, .ref z1, .ref z2, .ref z3, .ref z4, .ref z5, .int z6, .int z7, .int z8, .int z9, .int z10, .long z11]) → F24 z0 = .inl (cs 0, 8, .inl f) → F24 z5 = .inl (cs 0, 7, .inl g) → ∀ i : Int32, 0 ≤ i.toInt → i.toInt < 8 → ¬ (z8 >>> (i &&& 31) &&& 1) = 0 → 9 ≤ (g 0).toInt → (g 0).toInt ≤ 11 → (f i.toNatClampNeg).toInt ≤ 31) ∧ (∀ z0 z1 z2 z3 z4 z5 z6 z7 z8 z9 z10 z11 g, F24 a0 = .inr (1, [.ref z0, .ref z1, .ref z2, .ref z3, .ref z4, .ref z5, .int z6, .int z7, .int z8, .int z9, .int z10, .long z11]) → F24 z5 = .inl (cs 0, 7, .inl g) → (g 0).toInt < 7 → 0 ≤ (g 1).toInt)) := h28
    refine lv_istore_n (lv' := [(2, .int r23), (0, .ref a0), (1, .ref a1)]) hx hb dX1_step_5 rfl hl (by decide) rfl (fun ls hl => ?_)
    refine lv_iload_n hx hb dX1_step_6 rfl (lv_at hl 0 rfl) ?_
    refine lv_if_eq (tgt := 63) hx hb dX1_step_7 (by decide) (fun c29 => ?_) (fun c29 => ?_)
    · have c29 := (ax_eq (n := 0) (by decide)).mp c29
      exact K63 _ _ _ ⟨F24, _, D, r23, rfl, lv_sub hl [2, 0] rfl, by omega, hI, hP, hS, hfr, ⟨by omega, by omega⟩⟩
    · have c29 := mt (ax_eq (n := 0) (by decide)).mpr c29
      obtain ⟨z30, z32, z34, z36, z38, z40, z42, z44, z45, z46, z48, z49, o50, h31, h33, h35, h37, h39, h41, h43, h47, -⟩ := h27 (fun q => c29 (by rw [q]; decide))
      obtain ⟨hMR, hGR⟩ := h28 (fun q => c29 (by rw [q]; decide))
      obtain ⟨f51, o52, h53⟩ := s_op34 hI h31
      obtain ⟨f54, o55, h56⟩ := s_op23 hI h41
      have hadr := hMR _ _ _ _ _ _ _ _ _ _ _ _ f51 f54 o50 o52 o55
      have hrow := hGR _ _ _ _ _ _ _ _ _ _ _ _ f54 o50 o55
      refine lv_aload_n hx hb dX1_step_10 rfl (lv_at hl 1 rfl) ?_
      refine va_callv (va_runV (As := []) (rest := []) ⟨hx, hb, hml, hown, hts⟩ (s_X1_keepLine l dC dI H.size hLK D (D + 1) (Nat.le_refl _) (by omega) F24 a0 ha0 hI ⟨z30, z32, z34, z36, z38, z40, z42, z44, z45, z46, z48, z49, o50, h31, h33, h35, h37, h39, h41, ⟨by omega, by omega⟩, ⟨by omega, by omega⟩, trivial⟩) (cwV 0 hts (ax_gV T_705 T_707 T_708 T_137 T_706) rfl rfl rfl (by decide +kernel) ⟨Nat.le_of_ble_eq_true rfl, Nat.le_of_ble_eq_true rfl⟩) ⟨fun a U g mk q => ⟨q.1, s_pc (U := U) rfl rfl q.2⟩, s_recv hK hP (hLK _ ha0 (by decide)) (ci := 1) rfl o50, fun U hU hW => ⟨rfl, s_pw hU hW hP hK hD hN⟩⟩ rfl rfl hl.1 rfl (lv_room (Nat.le_of_ble_eq_true rfl)) dX1_step_11 ⟨Nat.zero_le _, Nat.zero_le _⟩) hS (fun q _ h => h) (fun q h => h) (fun F57 t H1 locs ht hvm hw hB hz1 hk1 hS => ?_)
      obtain ⟨hP, hK1⟩ := hB
      rw [ht] at hP
      generalize H1 = H at hP hS ⊢
      clear hz1 hk1
      obtain ⟨h58, h59, hI, hfr1⟩ := hw
      have o60 : F57 a0 = .inr (1, [.ref z30, .ref z32, .ref z34, .ref z36, .ref z38, .ref z40, .int z42, .int z44, .int z45, .int z46, .int z48, .long z49]) := (hfr1 _ (by rw [ha0]; decide)).trans o50
      have o61 : F57 z30 = .inl (cs 0, 8, .inl f51) := (hfr1 _ (by rw [h31]; decide)).trans o52
      have o62 : F57 z40 = .inl (cs 0, 7, .inl f54) := (hfr1 _ (by rw [h41]; decide)).trans o55
      have hfr : ∀ b, K b ∉ [2, 5, 6, 24, 27, 28, 29, 30, 31, 32, 34, 35] → F57 b = F b := fun b hb9 => (hfr1 b (fun q => hb9 (s_sub (by decide) q))).trans (hfr b hb9)
      refine lv_aload_n hx hb dX1_step_14 rfl (lv_at hl 1 rfl) ?_
      refine th_get (D := (dC, dI)) (ci := 1) (v := .ref z38) (C := RX1) (T := TX1) (N := 12) hx hb hts inX1 hown hK hP (hLK _ ha0 (by decide)) o60 rfl 4 (by decide) (hts _ T_612) (fun _ h9 => h9) rfl dX1_step_15 ?_
      refine lv_aload_n hx hb dX1_step_18 rfl (lv_at hl 2 rfl) ?_
      obtain ⟨z63, z65, z67, z69, z71, z73, z75, z77, z79, z81, z83, z85, z86, z88, z89, o91, h64, h66, h68, h70, h72, h74, h76, h78, h80, h82, h84, h87, h90, -⟩ := s_op5 hI ha1
      refine th_getN (D := (dC, dI)) (ci := 4) (v := .int z85) (C := RX4) (T := TX4) (N := 15) hx hb hts inX4 hown hK hP (hLK _ ha1 (by decide)) o91 rfl 11 (by decide) (va_Nw.use rfl (ax_n25 hN)) (fun _ h9 => h9) rfl dX1_step_19 ?_
      refine lv_aload_n hx hb dX1_step_22 rfl (lv_at hl 1 rfl) ?_
      refine th_get (D := (dC, dI)) (ci := 1) (v := .int z48) (C := RX1) (T := TX1) (N := 12) hx hb hts inX1 hown hK hP (hLK _ ha0 (by decide)) o60 rfl 10 (by decide) (hts _ T_646) (fun _ h9 => h9) rfl dX1_step_23 ?_
      refine lv_iadd hx hb dX1_step_26 ?_
      refine lv_topi (fun v92 ev92 => ?_)
      obtain ⟨z93, z95, z97, z99, z101, z103, z105, z106, z107, z108, z109, o111, h94, h96, h98, h100, h102, h104, h110, -⟩ := s_op6 hI h39
      refine th_putN (D := (dC, dI)) (ci := 5) (v := .int v92) (ty := .int) (C := RX5) (T := TX5) (N := 11) hx hb hts inX5 tyX5 tyX5_ok nmX5 hown hK hP hD hS (hLK _ h39 (by decide)) o111 rfl 8 (by decide) (va_Nw.use rfl (ax_n38 hN)) (fun _ h9 => h9) rfl (by decide +kernel) rfl rfl (Nat.le_of_ble_eq_true rfl) dX1_step_27 (fun H locs hP hS => ?_)
      have hP : va_P (dC, dI) vwCl (va_pl L (va_up F57 z38 (.inr (5, [.ref z93, .ref z95, .ref z97, .ref z99, .ref z101, .int z103, .int z105, .int z106, .int v92, .int z108, .int z109])))) H := hP
      obtain ⟨F112, hF113⟩ : ∃ G : Nat → va_E, G = va_up F57 z38 (.inr (5, [.ref z93, .ref z95, .ref z97, .ref z99, .ref z101, .int z103, .int z105, .int z106, .int v92, .int z108, .int z109])) := ⟨_, rfl⟩
      rw [← hF113] at hP
      have hI : s_I K cs (D + 1) F112 := by rw [hF113]; exact s_cl6 hI h39 ⟨z93, z95, z97, z99, z101, z103, z105, z106, v92, z108, z109, rfl, h94, h96, h98, h100, h102, ⟨by omega, by omega⟩, ⟨by omega, by omega⟩, trivial⟩
      have hfr : ∀ b, K b ∉ [2, 5, 6, 24, 27, 28, 29, 30, 31, 32, 34, 35] → F112 b = F b := by rw [hF113]; exact s_fr hfr h39 (by decide)
      have o114 : F112 a0 = .inr (1, [.ref z30, .ref z32, .ref z34, .ref z36, .ref z38, .ref z40, .int z42, .int z44, .int z45, .int z46, .int z48, .long z49]) := by rw [hF113]; exact th_ne (th_kd ha0 h39 (by decide)) o60
      have o115 : F112 a1 = .inr (4, [.ref z63, .ref z65, .ref z67, .ref z69, .ref z71, .ref z73, .ref z75, .int z77, .int z79, .int z81, .int z83, .int z85, .int z86, .int z88, .int z89]) := by rw [hF113]; exact th_ne (th_kd ha1 h39 (by decide)) o91
      have o116 : F112 z30 = .inl (cs 0, 8, .inl f51) := by rw [hF113]; exact th_ne (th_kd h31 h39 (by decide)) o61
      have o117 : F112 z40 = .inl (cs 0, 7, .inl f54) := by rw [hF113]; exact th_ne (th_kd h41 h39 (by decide)) o62
      have o118 : F112 z38 = .inr (5, [.ref z93, .ref z95, .ref z97, .ref z99, .ref z101, .int z103, .int z105, .int z106, .int v92, .int z108, .int z109]) := by rw [hF113]; exact th_up
      refine lv_aload_n hx hb dX1_step_30 rfl (lv_at hl 1 rfl) ?_
      refine va_callv (va_runV (As := []) (rest := []) ⟨hx, hb, hml, hown, hts⟩ (s_X1_work l dC dI H.size hLK (D + 1) F112 a0 ha0 hI ⟨z30, z32, z34, z36, z38, z40, z42, z44, z45, z46, z48, z49, o114, h31, h33, h35, h37, h39, h41, ⟨by omega, by omega⟩, ⟨by omega, by omega⟩, trivial⟩ (fun z0 z1 z2 z3 z4 z5 z6 z7 z8 z9 z10 z11 f g q1 q2 q3 => by rw [o114] at q1; cases q1; rw [o116] at q2; cases q2; rw [o117] at q3; cases q3; exact hadr) (fun z0 z1 z2 z3 z4 z5 z6 z7 z8 z9 z10 z11 g q1 q3 => by rw [o114] at q1; cases q1; rw [o117] at q3; cases q3; exact hrow)) (cwV 0 hts (ax_gV T_709 T_711 T_712 T_137 T_710) rfl rfl rfl (by decide +kernel) ⟨Nat.le_of_ble_eq_true rfl, Nat.le_of_ble_eq_true rfl⟩) ⟨fun a U g mk q => ⟨q.1, s_pc (U := U) rfl rfl q.2⟩, s_recv hK hP (hLK _ ha0 (by decide)) (ci := 1) rfl o114, fun U hU hW => ⟨rfl, s_pw hU hW hP hK hD hN⟩⟩ rfl rfl hl.1 rfl (lv_room (Nat.le_of_ble_eq_true rfl)) dX1_step_31 ⟨Nat.zero_le _, Nat.zero_le _⟩) hS (fun q _ h => h) (fun q h => h) (fun F119 t H1 locs ht hvm hw hB hz1 hk1 hS => ?_)
      obtain ⟨hP, hK1⟩ := hB
      rw [ht] at hP
      generalize H1 = H at hP hS ⊢
      clear hz1 hk1
      obtain ⟨h120, h121, hI, hfr1⟩ := hw
      have o122 : F119 a1 = .inr (4, [.ref z63, .ref z65, .ref z67, .ref z69, .ref z71, .ref z73, .ref z75, .int z77, .int z79, .int z81, .int z83, .int z85, .int z86, .int z88, .int z89]) := (hfr1 _ (by rw [ha1]; decide)).trans o115
      have o123 : F119 z38 = .inr (5, [.ref z93, .ref z95, .ref z97, .ref z99, .ref z101, .int z103, .int z105, .int z106, .int v92, .int z108, .int z109]) := (hfr1 _ (by rw [h39]; decide)).trans o118
      have o124 : F119 z30 = .inl (cs 0, 8, .inl f51) := (hfr1 _ (by rw [h31]; decide)).trans o116
      have o125 : F119 z40 = .inl (cs 0, 7, .inl f54) := (hfr1 _ (by rw [h41]; decide)).trans o117
      have hfr : ∀ b, K b ∉ [2, 5, 6, 24, 27, 28, 29, 30, 31, 32, 34, 35] → F119 b = F b := fun b hb9 => (hfr1 b (fun q => hb9 (s_sub (by decide) q))).trans (hfr b hb9)
      obtain ⟨h121, h126⟩ := h121
      have h126 : (∀ vs, F112 a0 = .inr (1, vs) → ∃ w, F119 a0 = .inr (1, vs.set 11 (.long w))) := h126
      obtain ⟨z127, o128⟩ := h126 _ o114
      have o128 : F119 a0 = .inr (1, [.ref z30, .ref z32, .ref z34, .ref z36, .ref z38, .ref z40, .int z42, .int z44, .int z45, .int z46, .int z48, .long z127]) := o128
      refine lv_aload_n hx hb dX1_step_34 rfl (lv_at hl 2 rfl) ?_
      refine th_getN (D := (dC, dI)) (ci := 4) (v := .int z79) (C := RX4) (T := TX4) (N := 15) hx hb hts inX4 hown hK hP (hLK _ ha1 (by decide)) o122 rfl 8 (by decide) (va_Nw.use rfl (ax_n31 hN)) (fun _ h9 => h9) rfl dX1_step_35 ?_
      refine lv_if_ne (tgt := 48) hx hb dX1_step_38 (by decide) (fun c129 => ?_) (fun c129 => ?_)
      · have c129 := mt (ax_eq (n := 0) (by decide)).mpr c129
        refine lv_aload_n hx hb dX1_step_48 rfl (lv_at hl 1 rfl) ?_
        refine va_callv (va_runV (As := []) (rest := []) ⟨hx, hb, hml, hown, hts⟩ (s_X1_moveEach l dC dI H.size hLK (D + 1) F119 a0 ha0 hI ⟨z30, z32, z34, z36, z38, z40, z42, z44, z45, z46, z48, z127, o128, h31, h33, h35, h37, h39, h41, ⟨by omega, by omega⟩, ⟨by omega, by omega⟩, trivial⟩) (cwV 0 hts (ax_gV T_717 T_719 T_720 T_137 T_718) rfl rfl rfl (by decide +kernel) ⟨Nat.le_of_ble_eq_true rfl, Nat.le_of_ble_eq_true rfl⟩) ⟨fun a U g mk q => ⟨q.1, s_pc (U := U) rfl rfl q.2⟩, s_recv hK hP (hLK _ ha0 (by decide)) (ci := 1) rfl o128, fun U hU hW => ⟨rfl, s_pw hU hW hP hK hD hN⟩⟩ rfl rfl hl.1 rfl (lv_room (Nat.le_of_ble_eq_true rfl)) dX1_step_49 ⟨Nat.zero_le _, Nat.zero_le _⟩) hS (fun q _ h => h) (fun q h => h) (fun F130 t H1 locs ht hvm hw hB hz1 hk1 hS => ?_)
        obtain ⟨hP, hK1⟩ := hB
        rw [ht] at hP
        generalize H1 = H at hP hS ⊢
        clear hz1 hk1
        obtain ⟨h131, h132, hI, hfr1⟩ := hw
        have o133 : F130 a1 = .inr (4, [.ref z63, .ref z65, .ref z67, .ref z69, .ref z71, .ref z73, .ref z75, .int z77, .int z79, .int z81, .int z83, .int z85, .int z86, .int z88, .int z89]) := (hfr1 _ (by rw [ha1]; decide)).trans o122
        have o134 : F130 a0 = .inr (1, [.ref z30, .ref z32, .ref z34, .ref z36, .ref z38, .ref z40, .int z42, .int z44, .int z45, .int z46, .int z48, .long z127]) := (hfr1 _ (by rw [ha0]; decide)).trans o128
        have o135 : F130 z30 = .inl (cs 0, 8, .inl f51) := (hfr1 _ (by rw [h31]; decide)).trans o124
        have o136 : F130 z40 = .inl (cs 0, 7, .inl f54) := (hfr1 _ (by rw [h41]; decide)).trans o125
        have hfr : ∀ b, K b ∉ [2, 5, 6, 24, 27, 28, 29, 30, 31, 32, 34, 35] → F130 b = F b := fun b hb9 => (hfr1 b (fun q => hb9 (s_sub (by decide) q))).trans (hfr b hb9)
        exact K52 _ _ _ ⟨F130, _, (D + 1), r23, rfl, lv_sub hl [1, 2, 0] rfl, by omega, hI, hP, hS, hfr, ⟨by omega, by omega⟩⟩
      · have c129 := (ax_eq (n := 0) (by decide)).mp c129
        refine lv_aload_n hx hb dX1_step_41 rfl (lv_at hl 1 rfl) ?_
        refine va_callv (va_runV (As := []) (rest := []) ⟨hx, hb, hml, hown, hts⟩ (s_X1_moveTop l dC dI H.size hLK (D + 1) F119 a0 ha0 hI ⟨z30, z32, z34, z36, z38, z40, z42, z44, z45, z46, z48, z127, o128, h31, h33, h35, h37, h39, h41, ⟨by omega, by omega⟩, ⟨by omega, by omega⟩, trivial⟩) (cwV 0 hts (ax_gV T_713 T_715 T_716 T_137 T_714) rfl rfl rfl (by decide +kernel) ⟨Nat.le_of_ble_eq_true rfl, Nat.le_of_ble_eq_true rfl⟩) ⟨fun a U g mk q => ⟨q.1, s_pc (U := U) rfl rfl q.2⟩, s_recv hK hP (hLK _ ha0 (by decide)) (ci := 1) rfl o128, fun U hU hW => ⟨rfl, s_pw hU hW hP hK hD hN⟩⟩ rfl rfl hl.1 rfl (lv_room (Nat.le_of_ble_eq_true rfl)) dX1_step_42 ⟨Nat.zero_le _, Nat.zero_le _⟩) hS (fun q _ h => h) (fun q h => h) (fun F137 t H1 locs ht hvm hw hB hz1 hk1 hS => ?_)
        obtain ⟨hP, hK1⟩ := hB
        rw [ht] at hP
        generalize H1 = H at hP hS ⊢
        clear hz1 hk1
        obtain ⟨h138, h139, hI, hfr1⟩ := hw
        have o140 : F137 a1 = .inr (4, [.ref z63, .ref z65, .ref z67, .ref z69, .ref z71, .ref z73, .ref z75, .int z77, .int z79, .int z81, .int z83, .int z85, .int z86, .int z88, .int z89]) := (hfr1 _ (by rw [ha1]; decide)).trans o122
        have o141 : F137 a0 = .inr (1, [.ref z30, .ref z32, .ref z34, .ref z36, .ref z38, .ref z40, .int z42, .int z44, .int z45, .int z46, .int z48, .long z127]) := (hfr1 _ (by rw [ha0]; decide)).trans o128
        have o142 : F137 z30 = .inl (cs 0, 8, .inl f51) := (hfr1 _ (by rw [h31]; decide)).trans o124
        have o143 : F137 z40 = .inl (cs 0, 7, .inl f54) := (hfr1 _ (by rw [h41]; decide)).trans o125
        have hfr : ∀ b, K b ∉ [2, 5, 6, 24, 27, 28, 29, 30, 31, 32, 34, 35] → F137 b = F b := fun b hb9 => (hfr1 b (fun q => hb9 (s_sub (by decide) q))).trans (hfr b hb9)
        refine lv_goto (tgt := 52) hx hb dX1_step_45 (by decide) ?_
        exact K52 _ _ _ ⟨F137, _, (D + 1), r23, rfl, lv_sub hl [1, 2, 0] rfl, by omega, hI, hP, hS, hfr, ⟨by omega, by omega⟩⟩
  · intro g H locs hq
    obtain ⟨F9, ls, D145, w2, rfl, hl, h146, hI, hP, hS, hfr, h144⟩ := hq
    refine lv_aload_n hx hb dX1_step_52 rfl (lv_at hl 1 rfl) ?_
    refine lv_aload_n hx hb dX1_step_53 rfl (lv_at hl 0 rfl) ?_
    obtain ⟨z147, z149, z151, z153, z155, z157, z158, z160, z161, z162, z164, z165, o166, h148, h150, h152, h154, h156, h159, h163, -⟩ := s_op2 hI ha0
    refine th_get (D := (dC, dI)) (ci := 1) (v := .ref z151) (C := RX1) (T := TX1) (N := 12) hx hb hts inX1 hown hK hP (hLK _ ha0 (by decide)) o166 rfl 2 (by decide) (hts _ T_121) (fun _ h9 => h9) rfl dX1_step_54 ?_
    obtain ⟨z167, z169, z171, z173, z175, z177, z178, o179, h168, h170, h172, h174, h176, -⟩ := s_op3 hI h152
    refine th_getN (D := (dC, dI)) (ci := 2) (v := .int z173) (C := RX2) (T := TX2) (N := 7) hx hb hts inX2 hown hK hP (hLK _ h152 (by decide)) o179 rfl 3 (by decide) (va_Nw.use rfl (ax_n21 hN)) (fun _ h9 => h9) rfl dX1_step_57 ?_
    obtain ⟨z180, z182, z184, z186, z188, z190, z192, z194, z196, z198, z200, z202, z203, z205, z206, o208, h181, h183, h185, h187, h189, h191, h193, h195, h197, h199, h201, h204, h207, -⟩ := s_op5 hI ha1
    refine va_callv (va_runV (As := [.int z173]) (rest := []) ⟨hx, hb, hml, hown, hts⟩ (s_X4_passBarIfAllWait l dC dI H.size hLK D145 F9 a1 z173 ha1 hI) (cwV 1 hts (ax_gV T_721 T_723 T_724 T_142 T_722) rfl rfl rfl (by decide +kernel) ⟨Nat.le_of_ble_eq_true rfl, Nat.le_of_ble_eq_true rfl⟩) ⟨fun a U g mk q => ⟨q.1, s_pc (U := U) rfl rfl q.2⟩, s_recv hK hP (hLK _ ha1 (by decide)) (ci := 4) rfl o208, fun U hU hW => ⟨rfl, s_pw hU hW hP hK hD hN⟩⟩ rfl rfl hl.1 rfl (lv_room (Nat.le_of_ble_eq_true rfl)) dX1_step_60 ⟨Nat.zero_le _, Nat.zero_le _⟩) hS (fun q _ h => h) (fun q h => h) (fun F209 t H1 locs ht hvm hw hB hz1 hk1 hS => ?_)
    obtain ⟨hP, hK1⟩ := hB
    rw [ht] at hP
    generalize H1 = H at hP hS ⊢
    clear hz1 hk1
    obtain ⟨h210, h211, hI, hfr1⟩ := hw
    have o212 : F209 a0 = .inr (1, [.ref z147, .ref z149, .ref z151, va_rf z153, va_rf z155, va_rf z157, .int z158, .int z160, .int z161, .int z162, .int z164, .long z165]) := (hfr1 _ (by rw [ha0]; decide)).trans o166
    have o213 : F209 z151 = .inr (2, [.ref z167, .ref z169, .ref z171, .int z173, .int z175, .int z177, .int z178]) := (hfr1 _ (by rw [h152]; decide)).trans o179
    have hfr : ∀ b, K b ∉ [2, 5, 6, 24, 27, 28, 29, 30, 31, 32, 34, 35] → F209 b = F b := fun b hb9 => (hfr1 b (fun q => hb9 (s_sub (by decide) q))).trans (hfr b hb9)
    exact K63 _ _ _ ⟨F209, _, D145, w2, rfl, lv_sub hl [1, 2] rfl, by omega, hI, hP, hS, hfr, ⟨by omega, by omega⟩⟩
  · intro g H locs hq
    obtain ⟨F9, ls, D215, w1, rfl, hl, h216, hI, hP, hS, hfr, h214⟩ := hq
    refine lv_aload_n hx hb dX1_step_63 rfl (lv_at hl 0 rfl) ?_
    refine lv_dup hx hb dX1_step_64 rfl ?_
    obtain ⟨z217, z219, z221, z223, z225, z227, z229, z231, z233, z235, z237, z239, z240, z242, z243, o245, h218, h220, h222, h224, h226, h228, h230, h232, h234, h236, h238, h241, h244, -⟩ := s_op5 hI ha1
    refine th_getN (D := (dC, dI)) (ci := 4) (v := .int z239) (C := RX4) (T := TX4) (N := 15) hx hb hts inX4 hown hK hP (hLK _ ha1 (by decide)) o245 rfl 11 (by decide) (va_Nw.use rfl (ax_n25 hN)) (fun _ h9 => h9) rfl dX1_step_65 ?_
    refine lv_iconst (v := 1) hx hb dX1_step_68 (by decide) ?_
    refine lv_iadd hx hb dX1_step_69 ?_
    refine lv_topi (fun v246 ev246 => ?_)
    refine th_putN (D := (dC, dI)) (ci := 4) (v := .int v246) (ty := .int) (C := RX4) (T := TX4) (N := 15) hx hb hts inX4 tyX4 tyX4_ok nmX4 hown hK hP hD hS (hLK _ ha1 (by decide)) o245 rfl 11 (by decide) (va_Nw.use rfl (ax_n25 hN)) (fun _ h9 => h9) rfl (by decide +kernel) rfl rfl (Nat.le_of_ble_eq_true rfl) dX1_step_70 (fun H locs hP hS => ?_)
    have hP : va_P (dC, dI) vwCl (va_pl L (va_up F9 a1 (.inr (4, [.ref z217, .ref z219, .ref z221, .ref z223, .ref z225, .ref z227, .ref z229, .int z231, .int z233, .int z235, .int z237, .int v246, .int z240, .int z242, .int z243])))) H := hP
    obtain ⟨F247, hF248⟩ : ∃ G : Nat → va_E, G = va_up F9 a1 (.inr (4, [.ref z217, .ref z219, .ref z221, .ref z223, .ref z225, .ref z227, .ref z229, .int z231, .int z233, .int z235, .int z237, .int v246, .int z240, .int z242, .int z243])) := ⟨_, rfl⟩
    rw [← hF248] at hP
    have hI : s_I K cs D215 F247 := by rw [hF248]; exact s_cl5 hI ha1 ⟨z217, z219, z221, z223, z225, z227, z229, z231, z233, z235, z237, v246, z240, z242, z243, rfl, h218, h220, h222, h224, h226, h228, h230, ⟨by omega, by omega⟩, ⟨by omega, by omega⟩, ⟨by omega, by omega⟩, ⟨by omega, by omega⟩, ⟨by omega, by omega⟩, ⟨by omega, by omega⟩, trivial⟩
    have hfr : ∀ b, K b ∉ [2, 5, 6, 24, 27, 28, 29, 30, 31, 32, 34, 35] → F247 b = F b := by rw [hF248]; exact s_fr hfr ha1 (by decide)
    have o249 : F247 a1 = .inr (4, [.ref z217, .ref z219, .ref z221, .ref z223, .ref z225, .ref z227, .ref z229, .int z231, .int z233, .int z235, .int z237, .int v246, .int z240, .int z242, .int z243]) := by rw [hF248]; exact th_up
    refine lv_iload_n hx hb dX1_step_73 rfl (lv_at hl 1 rfl) ?_
    exact W.zret (v := w1) (ty := .boolean) hx hb hr (th_nz ⟨by omega, by omega⟩) (fun t ht hW => ⟨⟨w1, F247, rfl, ⟨⟨by omega, by omega⟩, trivial, (s_mono (by omega) hI), hfr⟩, by rw [ht]; exact hP, va_K.moved hW.alike hK⟩, hS.F ht⟩) hS.2.2 dX1_step_74

set_option maxHeartbeats 4000000 in
set_option maxRecDepth 100000 in
theorem s_X0_behind (l : Launch) (dC : Nat → ClassId) (dI : Nat → Nat → Nat) (sz : Nat) {L : List Nat} {K : Nat → Nat} {cs : Nat → ClassId} (hLK : ∀ a {k : Nat}, K a = k → k ≠ 0 → a ∈ L) (D : Nat) (Dm : Nat) (hDm : D + 401 ≤ Dm) (hDM : Dm < 2147483647) (F : Nat → va_E) (a0 : Nat) (a1 : Nat) (x2 : Int32) (ha0 : K a0 = 1) (ha1 : K a1 = 5) (hx2 : 0 ≤ x2.toInt ∧ x2.toInt ≤ 400) (hI : s_I K cs D F) (hPG : s_PG K cs F) : Met l yX0_behind (Cond.code yX0_behind cX0_behind 4 (some (.object "LaneWarps$State")) :: T0) ({ frames := 5, cells := 0, slots := 0, locals := 114 }) (va_Pc [.ref a0, .ref a1, .int x2] (s_W dC dI sz L F [(cs 0, .int), (cs 1, .byte), (cs 2, .long), (cs 3, .object RX5), (cs 4, .object RX4), (cs 5, .array .int), (cs 6, .char), (cs 7, .boolean)])) (va_Qr (fun (G : Nat → va_E) => True ∧ True ∧ s_I K cs Dm G ∧ ∀ b, K b ∉ [2, 5, 6, 24, 27, 28, 29, 30, 31, 32, 34, 35] → G b = F b) (fun (G : Nat → va_E) (r : Nat) (t : State) => K r = 5 ∧ va_P (dC, dI) vwCl (va_pl L G) t.heap ∧ va_K (dC, dI) vwCl [(cs 0, .int), (cs 1, .byte), (cs 2, .long), (cs 3, .object RX5), (cs 4, .object RX4), (cs 5, .array .int), (cs 6, .char), (cs 7, .boolean)] t) (fun q => q ∈ L)) 0 0 (fun q => q ∈ L) := by
  refine Met.ofW (cc := cX0_behind) (maxL := 4) (ret := (some (.object "LaneWarps$State"))) (by decide) rfl ?_
  intro p e s m args below meth c s₁ B hml hv
  obtain ⟨rfl, hsz, hP, hK, hD, hN⟩ := hv
  have hx := B.exec
  have hb := B.bytes
  have hr := B.returns
  have hts : ∀ w ∈ T0, w.before _ s = true := fun w h => atoms_spec (ws := Cond.code yX0_behind cX0_behind 4 (some (.object "LaneWarps$State")) :: T0) B.pre w (List.mem_cons_of_mem _ h)
  have hown : s.vm.findClass RX0 = some m.cls := findClass_of_methodNamed B.named
  have hlocks := B.notSynchronized
  have hS : va_S (fun q => q ∈ L) s.heap s.heap [] := va_S.rf
  have hfr : ∀ b, K b ∉ [2, 5, 6, 24, 27, 28, 29, 30, 31, 32, 34, 35] → F b = F b := fun _ _ => rfl
  have hl := lv_entry ([.ref a0, .ref a1, .int x2]) (n := 4) (Nat.le_of_ble_eq_true rfl)
  rw [lg_entry_eq]
  generalize (lg_sl ([.ref a0, .ref a1, .int x2]) ++ List.replicate (4 - (lg_sl ([.ref a0, .ref a1, .int x2])).length) Slot.unset).toArray = ls at hl ⊢
  have hl : lv_has ls 4 [(0, .ref a0), (1, .ref a1), (2, .int x2)] := hl
  have hI0 := hI
  refine s_gen hP hS (fun H locs hP hS => ?_)
  refine lv_aload_n hx hb dX0_behind_0 rfl (lv_at hl 0 rfl) ?_
  obtain ⟨z1, z3, z5, z7, z9, z11, z12, z14, z15, z17, z18, z20, z22, z24, o27, h2, h4, h6, h8, h10, h13, h16, h19, h21, h23, h25, h26, -⟩ := s_op1 hI ha0
  refine th_get (D := (dC, dI)) (ci := 0) (v := .ref z5) (C := RX0) (T := TX0) (N := 14) hx hb hts inX0 hown hK hP (hLK _ ha0 (by decide)) o27 rfl 2 (by decide) (hts _ T_146) (fun _ h9 => h9) rfl dX0_behind_1 ?_
  refine lv_aload_n hx hb dX0_behind_4 rfl (lv_at hl 1 rfl) ?_
  obtain ⟨z28, z30, z32, z34, z36, z38, z40, z42, z44, z46, z48, z50, z51, z53, z54, o56, h29, h31, h33, h35, h37, h39, h41, h43, h45, h47, h49, h52, h55, -⟩ := s_op5 hI h6
  refine va_callv (va_runV (As := [.ref a1]) (rest := []) ⟨hx, hb, hml, hown, hts⟩ (s_X4_copyFrom l dC dI H.size hLK D F z5 a1 h6 ha1 hI) (cwV 1 hts (ax_gV T_558 T_560 T_561 T_142 T_559) rfl rfl rfl (by decide +kernel) ⟨Nat.le_of_ble_eq_true rfl, Nat.le_of_ble_eq_true rfl⟩) ⟨fun a U g mk q => ⟨q.1, s_pc (U := U) rfl rfl q.2⟩, s_recv hK hP (hLK _ h6 (by decide)) (ci := 4) rfl o56, fun U hU hW => ⟨rfl, s_pw hU hW hP hK hD hN⟩⟩ rfl rfl hl.1 rfl (lv_room (Nat.le_of_ble_eq_true rfl)) dX0_behind_5 ⟨Nat.zero_le _, Nat.zero_le _⟩) hS (fun q _ h => h) (fun q h => h) (fun F57 t H1 locs ht hvm hw hB hz1 hk1 hS => ?_)
  obtain ⟨hP, hK1⟩ := hB
  rw [ht] at hP
  generalize H1 = H at hP hS ⊢
  clear hz1 hk1
  obtain ⟨h58, h59, hI, hfr1⟩ := hw
  have o60 : F57 a0 = .inr (0, [.ref z1, .ref z3, .ref z5, .ref z7, .ref z9, .int z11, .ref z12, .long z14, .ref z15, .int z17, .ref z18, .int z20, .int z22, .int z24]) := (hfr1 _ (by rw [ha0]; decide)).trans o27
  have hfr : ∀ b, K b ∉ [2, 5, 6, 24, 27, 28, 29, 30, 31, 32, 34, 35] → F57 b = F b := fun b hb9 => (hfr1 b (fun q => hb9 (s_sub (by decide) q))).trans (hfr b hb9)
  refine lv_iconst (v := 0) hx hb dX0_behind_8 (by decide) ?_
  refine lv_istore_n (lv' := [(3, .int 0), (0, .ref a0), (1, .ref a1), (2, .int x2)]) hx hb dX0_behind_9 rfl hl (by decide) rfl (fun ls hl => ?_)
  refine th_loop (fun n g H locs => ∃ (G : Nat → va_E) (ls : Array Slot) (Dn : Nat) (w61 : Int32), g = F0 m 10 ls [] ∧ lv_has ls 4 [(0, .ref a0), (2, .int x2), (3, .int w61)] ∧ Dn + 1 * n + 0 ≤ Dm ∧ s_I K cs Dn G ∧ va_P (dC, dI) vwCl (va_pl L G) H ∧ va_S (fun q => q ∈ L) s.heap H locs ∧ (∀ b, K b ∉ [2, 5, 6, 24, 27, 28, 29, 30, 31, 32, 34, 35] → G b = F b) ∧ (0 ≤ w61.toInt ∧ w61.toInt ≤ 400) ∧ (0 ≤ x2.toInt ∧ x2.toInt ≤ 400) ∧ n = (401 - w61.toInt).toNat) _ ⟨F57, _, D, 0, rfl, lv_sub hl [1, 3, 0] rfl, by have q7a : (0 : Int32).toInt = 0 := (by decide); omega, hI, hP, hS, hfr, (by decide), ⟨by omega, by omega⟩, rfl⟩ (fun n ih10 g H locs hq => ?_)
  obtain ⟨F9, ls, D64, w61, rfl, hl, h65, hI, hP, hS, hfr, h62, h63, hn⟩ := hq
  have hn_10 := hn
  obtain ⟨n_10, hn9_10⟩ : ∃ q, q = n := ⟨_, rfl⟩
  refine lv_iload_n hx hb dX0_behind_10 rfl (lv_at hl 2 rfl) ?_
  refine lv_iload_n hx hb dX0_behind_11 rfl (lv_at hl 1 rfl) ?_
  refine lv_icmp_ge (tgt := 33) hx hb dX0_behind_12 (by decide) (fun c66 => ?_) (fun c66 => ?_)
  · have c66 := Int32.le_iff_toInt_le.mp c66
    refine lv_aload_n hx hb dX0_behind_33 rfl (lv_at hl 0 rfl) ?_
    obtain ⟨z67, z69, z71, z73, z75, z77, z78, z80, z81, z83, z84, z86, z88, z90, o93, h68, h70, h72, h74, h76, h79, h82, h85, h87, h89, h91, h92, -⟩ := s_op1 hI ha0
    refine th_get (D := (dC, dI)) (ci := 0) (v := .ref z71) (C := RX0) (T := TX0) (N := 14) hx hb hts inX0 hown hK hP (hLK _ ha0 (by decide)) o93 rfl 2 (by decide) (hts _ T_146) (fun _ h9 => h9) rfl dX0_behind_34 ?_
    exact W.aret (v := .ref z71) hx hb hr (Or.inl ⟨_, rfl⟩) (Or.inr ⟨_, rfl⟩) (fun t ht hW => ⟨⟨F9, z71, rfl, ⟨trivial, trivial, (s_mono (by omega) hI), hfr⟩, h72, by rw [ht]; exact hP, va_K.moved hW.alike hK⟩, hS.F ht⟩) hS.2.2 dX0_behind_37
  · have c66 := mt Int32.le_iff_toInt_le.mpr c66
    refine lv_aload_n hx hb dX0_behind_15 rfl (lv_at hl 0 rfl) ?_
    obtain ⟨z94, z96, z98, z100, z102, z104, z105, z107, z108, z110, z111, z113, z115, z117, o120, h95, h97, h99, h101, h103, h106, h109, h112, h114, h116, h118, h119, -⟩ := s_op1 hI ha0
    refine th_get (D := (dC, dI)) (ci := 0) (v := .ref z94) (C := RX0) (T := TX0) (N := 14) hx hb hts inX0 hown hK hP (hLK _ ha0 (by decide)) o120 rfl 0 (by decide) (hts _ T_139) (fun _ h9 => h9) rfl dX0_behind_16 ?_
    refine lv_aload_n hx hb dX0_behind_19 rfl (lv_at hl 0 rfl) ?_
    refine th_get (D := (dC, dI)) (ci := 0) (v := .ref z98) (C := RX0) (T := TX0) (N := 14) hx hb hts inX0 hown hK hP (hLK _ ha0 (by decide)) o120 rfl 2 (by decide) (hts _ T_146) (fun _ h9 => h9) rfl dX0_behind_20 ?_
    obtain ⟨z121, z123, z125, z127, z129, z131, z132, z134, z135, z136, z138, z139, o140, h122, h124, h126, h128, h130, h133, h137, -⟩ := s_op2 hI h95
    refine va_calli (va_runV (As := [.ref z98]) (rest := []) ⟨hx, hb, hml, hown, hts⟩ (s_X1_step l dC dI H.size hLK D64 (D64 + 1) (Nat.le_refl _) (by omega) F9 z94 z98 h95 h99 hI (s_PGt hI0 hfr (by decide) hPG)) (cwV 1 hts (ax_gV T_562 T_564 T_565 T_137 T_563) rfl rfl rfl (by decide +kernel) ⟨Nat.le_of_ble_eq_true rfl, Nat.le_of_ble_eq_true rfl⟩) ⟨fun a U g mk q => ⟨q.1, s_pc (U := U) rfl rfl q.2⟩, s_recv hK hP (hLK _ h95 (by decide)) (ci := 1) rfl o140, fun U hU hW => ⟨rfl, s_pw hU hW hP hK hD hN⟩⟩ rfl rfl hl.1 rfl (lv_room (Nat.le_of_ble_eq_true rfl)) dX0_behind_23 ⟨Nat.zero_le _, Nat.zero_le _⟩) hS (fun q _ h => h) (fun q h => h) (fun r141 F142 t H1 locs ht hvm hw hB hz1 hk1 hS => ?_)
    obtain ⟨hP, hK1⟩ := hB
    rw [ht] at hP
    generalize H1 = H at hP hS ⊢
    clear hz1 hk1
    obtain ⟨h143, h144, hI, hfr1⟩ := hw
    have o145 : F142 a0 = .inr (0, [.ref z94, .ref z96, .ref z98, .ref z100, .ref z102, .int z104, .ref z105, .long z107, .ref z108, .int z110, .ref z111, .int z113, .int z115, .int z117]) := (hfr1 _ (by rw [ha0]; decide)).trans o120
    have hfr : ∀ b, K b ∉ [2, 5, 6, 24, 27, 28, 29, 30, 31, 32, 34, 35] → F142 b = F b := fun b hb9 => (hfr1 b (fun q => hb9 (s_sub (by decide) q))).trans (hfr b hb9)
    refine lv_pop hx hb dX0_behind_26 rfl ?_
    obtain ⟨v146, ev146⟩ : ∃ y : Int32, w61 + 1 = y := ⟨_, rfl⟩
    have qv146 : v146.toInt = w61.toInt + 1 := by rw [← ev146]; exact th_add rfl (by decide) ⟨by omega, by omega⟩
    refine lv_iinc (v := v146) (lv' := [(3, .int v146), (0, .ref a0), (2, .int x2)]) hx hb dX0_behind_27 hl (k := 2) rfl ev146 (by decide) rfl (fun ls hl => ?_)
    refine lv_goto (tgt := 10) hx hb dX0_behind_30 (by decide) ?_
    exact ih10 _ _ _ _ (by omega) ⟨F142, _, (D64 + 1), v146, rfl, lv_sub hl [1, 2, 0] rfl, by omega, hI, hP, hS, hfr, ⟨by omega, by omega⟩, ⟨by omega, by omega⟩, rfl⟩

set_option maxHeartbeats 4000000 in
set_option maxRecDepth 100000 in
theorem s_X0_begun (l : Launch) (dC : Nat → ClassId) (dI : Nat → Nat → Nat) (sz : Nat) {L : List Nat} {K : Nat → Nat} {cs : Nat → ClassId} (hLK : ∀ a {k : Nat}, K a = k → k ≠ 0 → a ∈ L) (D : Nat) (F : Nat → va_E) (a0 : Nat) (x1 : Int32) (x2 : Int32) (x3 : Int32) (ha0 : K a0 = 1) (hx1 : 0 ≤ x1.toInt ∧ x1.toInt ≤ 1) (hx2 : 0 ≤ x2.toInt ∧ x2.toInt ≤ 1) (hx3 : 0 ≤ x3.toInt ∧ x3.toInt ≤ 3) (hI : s_I K cs D F) : Met l yX0_begun (Cond.code yX0_begun cX0_begun 4 (some (.object "LaneWarps$State")) :: T0) ({ frames := 3, cells := 0, slots := 0, locals := 82 }) (va_Pc [.ref a0, .int x1, .int x2, .int x3] (s_W dC dI sz L F [(cs 0, .int), (cs 1, .byte), (cs 2, .long), (cs 3, .object RX5), (cs 4, .object RX4), (cs 5, .array .int), (cs 6, .char), (cs 7, .boolean)])) (va_Qr (fun (G : Nat → va_E) => True ∧ True ∧ s_I K cs D G ∧ ∀ b, K b ∉ [5, 6, 24, 27, 28, 30, 31, 32] → G b = F b) (fun (G : Nat → va_E) (r : Nat) (t : State) => K r = 5 ∧ va_P (dC, dI) vwCl (va_pl L G) t.heap ∧ va_K (dC, dI) vwCl [(cs 0, .int), (cs 1, .byte), (cs 2, .long), (cs 3, .object RX5), (cs 4, .object RX4), (cs 5, .array .int), (cs 6, .char), (cs 7, .boolean)] t) (fun q => q ∈ L)) 0 0 (fun q => q ∈ L) := by
  refine Met.ofW (cc := cX0_begun) (maxL := 4) (ret := (some (.object "LaneWarps$State"))) (by decide) rfl ?_
  intro p e s m args below meth c s₁ B hml hv
  obtain ⟨rfl, hsz, hP, hK, hD, hN⟩ := hv
  have hx := B.exec
  have hb := B.bytes
  have hr := B.returns
  have hts : ∀ w ∈ T0, w.before _ s = true := fun w h => atoms_spec (ws := Cond.code yX0_begun cX0_begun 4 (some (.object "LaneWarps$State")) :: T0) B.pre w (List.mem_cons_of_mem _ h)
  have hown : s.vm.findClass RX0 = some m.cls := findClass_of_methodNamed B.named
  have hlocks := B.notSynchronized
  have hS : va_S (fun q => q ∈ L) s.heap s.heap [] := va_S.rf
  have hfr : ∀ b, K b ∉ [5, 6, 24, 27, 28, 30, 31, 32] → F b = F b := fun _ _ => rfl
  have hl := lv_entry ([.ref a0, .int x1, .int x2, .int x3]) (n := 4) (Nat.le_of_ble_eq_true rfl)
  rw [lg_entry_eq]
  generalize (lg_sl ([.ref a0, .int x1, .int x2, .int x3]) ++ List.replicate (4 - (lg_sl ([.ref a0, .int x1, .int x2, .int x3])).length) Slot.unset).toArray = ls at hl ⊢
  have hl : lv_has ls 4 [(0, .ref a0), (1, .int x1), (2, .int x2), (3, .int x3)] := hl
  refine s_gen hP hS (fun H locs hP hS => ?_)
  refine lv_aload_n hx hb dX0_begun_0 rfl (lv_at hl 0 rfl) ?_
  obtain ⟨z1, z3, z5, z7, z9, z11, z12, z14, z15, z17, z18, z20, z22, z24, o27, h2, h4, h6, h8, h10, h13, h16, h19, h21, h23, h25, h26, -⟩ := s_op1 hI ha0
  refine th_get (D := (dC, dI)) (ci := 0) (v := .ref z3) (C := RX0) (T := TX0) (N := 14) hx hb hts inX0 hown hK hP (hLK _ ha0 (by decide)) o27 rfl 1 (by decide) (hts _ T_145) (fun _ h9 => h9) rfl dX0_begun_1 ?_
  refine lv_iload_n hx hb dX0_begun_4 rfl (lv_at hl 1 rfl) ?_
  refine lv_iload_n hx hb dX0_begun_5 rfl (lv_at hl 2 rfl) ?_
  refine lv_iload_n hx hb dX0_begun_6 rfl (lv_at hl 3 rfl) ?_
  obtain ⟨z28, z30, z32, z34, z36, z38, z40, z42, z44, z46, z48, z50, z51, z53, z54, o56, h29, h31, h33, h35, h37, h39, h41, h43, h45, h47, h49, h52, h55, -⟩ := s_op5 hI h4
  refine va_callv (va_runV (As := [.int x1, .int x2, .int x3]) (rest := []) ⟨hx, hb, hml, hown, hts⟩ (s_X4_lay l dC dI H.size hLK D F z3 x1 x2 x3 h4 (⟨by omega, by omega⟩) (⟨by omega, by omega⟩) (⟨by omega, by omega⟩) hI) (cwV 3 hts (ax_gV T_550 T_552 T_553 T_142 T_551) rfl rfl rfl (by decide +kernel) ⟨Nat.le_of_ble_eq_true rfl, Nat.le_of_ble_eq_true rfl⟩) ⟨fun a U g mk q => ⟨q.1, s_pc (U := U) rfl rfl q.2⟩, s_recv hK hP (hLK _ h4 (by decide)) (ci := 4) rfl o56, fun U hU hW => ⟨rfl, s_pw hU hW hP hK hD hN⟩⟩ rfl rfl hl.1 rfl (lv_room (Nat.le_of_ble_eq_true rfl)) dX0_begun_7 ⟨Nat.zero_le _, Nat.zero_le _⟩) hS (fun q _ h => h) (fun q h => h) (fun F57 t H1 locs ht hvm hw hB hz1 hk1 hS => ?_)
  obtain ⟨hP, hK1⟩ := hB
  rw [ht] at hP
  generalize H1 = H at hP hS ⊢
  clear hz1 hk1
  obtain ⟨h58, h59, hI, hfr1⟩ := hw
  have o60 : F57 a0 = .inr (0, [.ref z1, .ref z3, .ref z5, .ref z7, .ref z9, .int z11, .ref z12, .long z14, .ref z15, .int z17, .ref z18, .int z20, .int z22, .int z24]) := (hfr1 _ (by rw [ha0]; decide)).trans o27
  have hfr : ∀ b, K b ∉ [5, 6, 24, 27, 28, 30, 31, 32] → F57 b = F b := fun b hb9 => (hfr1 b (fun q => hb9 (s_sub (by decide) q))).trans (hfr b hb9)
  refine lv_aload_n hx hb dX0_begun_10 rfl (lv_at hl 0 rfl) ?_
  refine th_get (D := (dC, dI)) (ci := 0) (v := .ref z3) (C := RX0) (T := TX0) (N := 14) hx hb hts inX0 hown hK hP (hLK _ ha0 (by decide)) o60 rfl 1 (by decide) (hts _ T_145) (fun _ h9 => h9) rfl dX0_begun_11 ?_
  refine lv_aload_n hx hb dX0_begun_14 rfl (lv_at hl 0 rfl) ?_
  refine th_get (D := (dC, dI)) (ci := 0) (v := .ref z18) (C := RX0) (T := TX0) (N := 14) hx hb hts inX0 hown hK hP (hLK _ ha0 (by decide)) o60 rfl 10 (by decide) (hts _ T_151) (fun _ h9 => h9) rfl dX0_begun_15 ?_
  obtain ⟨z61, z63, z65, z67, z69, z71, z73, z75, z77, z79, z81, z83, z84, z86, z87, o89, h62, h64, h66, h68, h70, h72, h74, h76, h78, h80, h82, h85, h88, -⟩ := s_op5 hI h4
  refine va_callv (va_runV (As := [.ref z18]) (rest := []) ⟨hx, hb, hml, hown, hts⟩ (s_X4_restart l dC dI H.size hLK D F57 z3 z18 h4 h19 hI) (cwV 1 hts (ax_gV T_554 T_556 T_557 T_142 T_555) rfl rfl rfl (by decide +kernel) ⟨Nat.le_of_ble_eq_true rfl, Nat.le_of_ble_eq_true rfl⟩) ⟨fun a U g mk q => ⟨q.1, s_pc (U := U) rfl rfl q.2⟩, s_recv hK hP (hLK _ h4 (by decide)) (ci := 4) rfl o89, fun U hU hW => ⟨rfl, s_pw hU hW hP hK hD hN⟩⟩ rfl rfl hl.1 rfl (lv_room (Nat.le_of_ble_eq_true rfl)) dX0_begun_18 ⟨Nat.zero_le _, Nat.zero_le _⟩) hS (fun q _ h => h) (fun q h => h) (fun F90 t H1 locs ht hvm hw hB hz1 hk1 hS => ?_)
  obtain ⟨hP, hK1⟩ := hB
  rw [ht] at hP
  generalize H1 = H at hP hS ⊢
  clear hz1 hk1
  obtain ⟨h91, h92, hI, hfr1⟩ := hw
  have o93 : F90 a0 = .inr (0, [.ref z1, .ref z3, .ref z5, .ref z7, .ref z9, .int z11, .ref z12, .long z14, .ref z15, .int z17, .ref z18, .int z20, .int z22, .int z24]) := (hfr1 _ (by rw [ha0]; decide)).trans o60
  have hfr : ∀ b, K b ∉ [5, 6, 24, 27, 28, 30, 31, 32] → F90 b = F b := fun b hb9 => (hfr1 b (fun q => hb9 (s_sub (by decide) q))).trans (hfr b hb9)
  refine lv_aload_n hx hb dX0_begun_21 rfl (lv_at hl 0 rfl) ?_
  refine th_get (D := (dC, dI)) (ci := 0) (v := .ref z3) (C := RX0) (T := TX0) (N := 14) hx hb hts inX0 hown hK hP (hLK _ ha0 (by decide)) o93 rfl 1 (by decide) (hts _ T_145) (fun _ h9 => h9) rfl dX0_begun_22 ?_
  exact W.aret (v := .ref z3) hx hb hr (Or.inl ⟨_, rfl⟩) (Or.inr ⟨_, rfl⟩) (fun t ht hW => ⟨⟨F90, z3, rfl, ⟨trivial, trivial, hI, hfr⟩, h4, by rw [ht]; exact hP, va_K.moved hW.alike hK⟩, hS.F ht⟩) hS.2.2 dX0_begun_25

set_option maxHeartbeats 4000000 in
set_option maxRecDepth 100000 in
theorem s_X0_cyclesToRest (l : Launch) (dC : Nat → ClassId) (dI : Nat → Nat → Nat) (sz : Nat) {L : List Nat} {K : Nat → Nat} {cs : Nat → ClassId} (hLK : ∀ a {k : Nat}, K a = k → k ≠ 0 → a ∈ L) (D : Nat) (Dm : Nat) (hDm : D + 401 ≤ Dm) (hDM : Dm < 2147483647) (F : Nat → va_E) (a0 : Nat) (a1 : Nat) (ha0 : K a0 = 1) (ha1 : K a1 = 5) (hI : s_I K cs D F) (hPG : s_PG K cs F) : Met l yX0_cyclesToRest (Cond.code yX0_cyclesToRest cX0_cyclesToRest 3 (some .int) :: T0) ({ frames := 5, cells := 0, slots := 0, locals := 114 }) (va_Pc [.ref a0, .ref a1] (s_W dC dI sz L F [(cs 0, .int), (cs 1, .byte), (cs 2, .long), (cs 3, .object RX5), (cs 4, .object RX4), (cs 5, .array .int), (cs 6, .char), (cs 7, .boolean)])) (va_Qi (fun (r : Int32) (G : Nat → va_E) => (-1 ≤ r.toInt ∧ r.toInt ≤ 400) ∧ True ∧ s_I K cs Dm G ∧ ∀ b, K b ∉ [2, 5, 6, 24, 27, 28, 29, 30, 31, 32, 34, 35] → G b = F b) (fun (G : Nat → va_E) (t : State) => va_P (dC, dI) vwCl (va_pl L G) t.heap ∧ va_K (dC, dI) vwCl [(cs 0, .int), (cs 1, .byte), (cs 2, .long), (cs 3, .object RX5), (cs 4, .object RX4), (cs 5, .array .int), (cs 6, .char), (cs 7, .boolean)] t) (fun q => q ∈ L)) 0 0 (fun q => q ∈ L) := by
  refine Met.ofW (cc := cX0_cyclesToRest) (maxL := 3) (ret := (some .int)) (by decide) rfl ?_
  intro p e s m args below meth c s₁ B hml hv
  obtain ⟨rfl, hsz, hP, hK, hD, hN⟩ := hv
  have hx := B.exec
  have hb := B.bytes
  have hr := B.returns
  have hts : ∀ w ∈ T0, w.before _ s = true := fun w h => atoms_spec (ws := Cond.code yX0_cyclesToRest cX0_cyclesToRest 3 (some .int) :: T0) B.pre w (List.mem_cons_of_mem _ h)
  have hown : s.vm.findClass RX0 = some m.cls := findClass_of_methodNamed B.named
  have hlocks := B.notSynchronized
  have hS : va_S (fun q => q ∈ L) s.heap s.heap [] := va_S.rf
  have hfr : ∀ b, K b ∉ [2, 5, 6, 24, 27, 28, 29, 30, 31, 32, 34, 35] → F b = F b := fun _ _ => rfl
  have hl := lv_entry ([.ref a0, .ref a1]) (n := 3) (Nat.le_of_ble_eq_true rfl)
  rw [lg_entry_eq]
  generalize (lg_sl ([.ref a0, .ref a1]) ++ List.replicate (3 - (lg_sl ([.ref a0, .ref a1])).length) Slot.unset).toArray = ls at hl ⊢
  have hl : lv_has ls 3 [(0, .ref a0), (1, .ref a1)] := hl
  have hI0 := hI
  refine s_gen hP hS (fun H locs hP hS => ?_)
  refine lv_aload_n hx hb dX0_cyclesToRest_0 rfl (lv_at hl 0 rfl) ?_
  obtain ⟨z1, z3, z5, z7, z9, z11, z12, z14, z15, z17, z18, z20, z22, z24, o27, h2, h4, h6, h8, h10, h13, h16, h19, h21, h23, h25, h26, -⟩ := s_op1 hI ha0
  refine th_get (D := (dC, dI)) (ci := 0) (v := .ref z5) (C := RX0) (T := TX0) (N := 14) hx hb hts inX0 hown hK hP (hLK _ ha0 (by decide)) o27 rfl 2 (by decide) (hts _ T_146) (fun _ h9 => h9) rfl dX0_cyclesToRest_1 ?_
  refine lv_aload_n hx hb dX0_cyclesToRest_4 rfl (lv_at hl 1 rfl) ?_
  obtain ⟨z28, z30, z32, z34, z36, z38, z40, z42, z44, z46, z48, z50, z51, z53, z54, o56, h29, h31, h33, h35, h37, h39, h41, h43, h45, h47, h49, h52, h55, -⟩ := s_op5 hI h6
  refine va_callv (va_runV (As := [.ref a1]) (rest := []) ⟨hx, hb, hml, hown, hts⟩ (s_X4_copyFrom l dC dI H.size hLK D F z5 a1 h6 ha1 hI) (cwV 1 hts (ax_gV T_558 T_560 T_561 T_142 T_559) rfl rfl rfl (by decide +kernel) ⟨Nat.le_of_ble_eq_true rfl, Nat.le_of_ble_eq_true rfl⟩) ⟨fun a U g mk q => ⟨q.1, s_pc (U := U) rfl rfl q.2⟩, s_recv hK hP (hLK _ h6 (by decide)) (ci := 4) rfl o56, fun U hU hW => ⟨rfl, s_pw hU hW hP hK hD hN⟩⟩ rfl rfl hl.1 rfl (lv_room (Nat.le_of_ble_eq_true rfl)) dX0_cyclesToRest_5 ⟨Nat.zero_le _, Nat.zero_le _⟩) hS (fun q _ h => h) (fun q h => h) (fun F57 t H1 locs ht hvm hw hB hz1 hk1 hS => ?_)
  obtain ⟨hP, hK1⟩ := hB
  rw [ht] at hP
  generalize H1 = H at hP hS ⊢
  clear hz1 hk1
  obtain ⟨h58, h59, hI, hfr1⟩ := hw
  have o60 : F57 a0 = .inr (0, [.ref z1, .ref z3, .ref z5, .ref z7, .ref z9, .int z11, .ref z12, .long z14, .ref z15, .int z17, .ref z18, .int z20, .int z22, .int z24]) := (hfr1 _ (by rw [ha0]; decide)).trans o27
  have hfr : ∀ b, K b ∉ [2, 5, 6, 24, 27, 28, 29, 30, 31, 32, 34, 35] → F57 b = F b := fun b hb9 => (hfr1 b (fun q => hb9 (s_sub (by decide) q))).trans (hfr b hb9)
  refine lv_iconst (v := 0) hx hb dX0_cyclesToRest_8 (by decide) ?_
  refine lv_istore_n (lv' := [(2, .int 0), (0, .ref a0), (1, .ref a1)]) hx hb dX0_cyclesToRest_9 rfl hl (by decide) rfl (fun ls hl => ?_)
  refine th_loop (fun n g H locs => ∃ (G : Nat → va_E) (ls : Array Slot) (Dn : Nat) (w61 : Int32), g = F0 m 10 ls [] ∧ lv_has ls 3 [(0, .ref a0), (2, .int w61)] ∧ Dn + 1 * n + 0 ≤ Dm ∧ s_I K cs Dn G ∧ va_P (dC, dI) vwCl (va_pl L G) H ∧ va_S (fun q => q ∈ L) s.heap H locs ∧ (∀ b, K b ∉ [2, 5, 6, 24, 27, 28, 29, 30, 31, 32, 34, 35] → G b = F b) ∧ (0 ≤ w61.toInt ∧ w61.toInt ≤ 400) ∧ n = (401 - w61.toInt).toNat) _ ⟨F57, _, D, 0, rfl, lv_sub hl [1, 0] rfl, by have q7a : (0 : Int32).toInt = 0 := (by decide); omega, hI, hP, hS, hfr, (by decide), rfl⟩ (fun n ih10 g H locs hq => ?_)
  obtain ⟨F9, ls, D63, w61, rfl, hl, h64, hI, hP, hS, hfr, h62, hn⟩ := hq
  have hn_10 := hn
  obtain ⟨n_10, hn9_10⟩ : ∃ q, q = n := ⟨_, rfl⟩
  refine lv_iload_n hx hb dX0_cyclesToRest_10 rfl (lv_at hl 1 rfl) ?_
  refine lv_sipush (v := 400) hx hb dX0_cyclesToRest_11 (by decide) ?_
  refine lv_icmp_ge (tgt := 47) hx hb dX0_cyclesToRest_14 (by decide) (fun c65 => ?_) (fun c65 => ?_)
  · have c65 := (ax_ge (n := 400) (by decide)).mp c65
    refine lv_aload_n hx hb dX0_cyclesToRest_47 rfl (lv_at hl 0 rfl) ?_
    obtain ⟨z66, z68, z70, z72, z74, z76, z77, z79, z80, z82, z83, z85, z87, z89, o92, h67, h69, h71, h73, h75, h78, h81, h84, h86, h88, h90, h91, -⟩ := s_op1 hI ha0
    refine th_get (D := (dC, dI)) (ci := 0) (v := .ref z70) (C := RX0) (T := TX0) (N := 14) hx hb hts inX0 hown hK hP (hLK _ ha0 (by decide)) o92 rfl 2 (by decide) (hts _ T_146) (fun _ h9 => h9) rfl dX0_cyclesToRest_48 ?_
    obtain ⟨z93, z95, z97, z99, z101, z103, z105, z107, z109, z111, z113, z115, z116, z118, z119, o121, h94, h96, h98, h100, h102, h104, h106, h108, h110, h112, h114, h117, h120, -⟩ := s_op5 hI h71
    refine va_calli (va_runV (As := []) (rest := []) ⟨hx, hb, hml, hown, hts⟩ (s_X4_hasNoneToGo l dC dI H.size hLK D63 F9 z70 h71 hI) (cwV 0 hts (ax_gV T_582 T_584 T_585 T_142 T_583) rfl rfl rfl (by decide +kernel) ⟨Nat.le_of_ble_eq_true rfl, Nat.le_of_ble_eq_true rfl⟩) ⟨fun a U g mk q => ⟨q.1, s_pc (U := U) rfl rfl q.2⟩, s_recv hK hP (hLK _ h71 (by decide)) (ci := 4) rfl o121, fun U hU hW => ⟨rfl, s_pw hU hW hP hK hD hN⟩⟩ rfl rfl hl.1 rfl (lv_room (Nat.le_of_ble_eq_true rfl)) dX0_cyclesToRest_51 ⟨Nat.zero_le _, Nat.zero_le _⟩) hS (fun q _ h => h) (fun q h => h) (fun r122 F123 t H1 locs ht hvm hw hB hz1 hk1 hS => ?_)
    obtain ⟨hP, hK1⟩ := hB
    rw [ht] at hP
    generalize H1 = H at hP hS ⊢
    clear hz1 hk1
    obtain ⟨h124, h125, hI, hfr1⟩ := hw
    have o126 : F123 a0 = .inr (0, [.ref z66, .ref z68, .ref z70, .ref z72, .ref z74, .int z76, .ref z77, .long z79, .ref z80, .int z82, .ref z83, .int z85, .int z87, .int z89]) := (hfr1 _ (by rw [ha0]; decide)).trans o92
    have o127 : F123 z70 = .inr (4, [.ref z93, .ref z95, .ref z97, .ref z99, .ref z101, .ref z103, .ref z105, .int z107, .int z109, .int z111, .int z113, .int z115, .int z116, .int z118, .int z119]) := (hfr1 _ (by rw [h71]; decide)).trans o121
    have hfr : ∀ b, K b ∉ [2, 5, 6, 24, 27, 28, 29, 30, 31, 32, 34, 35] → F123 b = F b := fun b hb9 => (hfr1 b (fun q => hb9 (s_sub (by decide) q))).trans (hfr b hb9)
    refine lv_if_eq (tgt := 63) hx hb dX0_cyclesToRest_54 (by decide) (fun c128 => ?_) (fun c128 => ?_)
    · have c128 := (ax_eq (n := 0) (by decide)).mp c128
      refine lv_iconst (v := (-1)) hx hb dX0_cyclesToRest_63 (by decide) ?_
      exact W.iret (v := (-1)) hx hb hr (fun t ht hW => ⟨⟨(-1), F123, rfl, ⟨(by decide), trivial, (s_mono (by omega) hI), hfr⟩, by rw [ht]; exact hP, va_K.moved hW.alike hK⟩, hS.F ht⟩) hS.2.2 dX0_cyclesToRest_64
    · have c128 := mt (ax_eq (n := 0) (by decide)).mpr c128
      refine lv_sipush (v := 400) hx hb dX0_cyclesToRest_57 (by decide) ?_
      refine lv_goto (tgt := 64) hx hb dX0_cyclesToRest_60 (by decide) ?_
      exact W.iret (v := 400) hx hb hr (fun t ht hW => ⟨⟨400, F123, rfl, ⟨(by decide), trivial, (s_mono (by omega) hI), hfr⟩, by rw [ht]; exact hP, va_K.moved hW.alike hK⟩, hS.F ht⟩) hS.2.2 dX0_cyclesToRest_64
  · have c65 := mt (ax_ge (n := 400) (by decide)).mpr c65
    refine lv_aload_n hx hb dX0_cyclesToRest_17 rfl (lv_at hl 0 rfl) ?_
    obtain ⟨z129, z131, z133, z135, z137, z139, z140, z142, z143, z145, z146, z148, z150, z152, o155, h130, h132, h134, h136, h138, h141, h144, h147, h149, h151, h153, h154, -⟩ := s_op1 hI ha0
    refine th_get (D := (dC, dI)) (ci := 0) (v := .ref z133) (C := RX0) (T := TX0) (N := 14) hx hb hts inX0 hown hK hP (hLK _ ha0 (by decide)) o155 rfl 2 (by decide) (hts _ T_146) (fun _ h9 => h9) rfl dX0_cyclesToRest_18 ?_
    obtain ⟨z156, z158, z160, z162, z164, z166, z168, z170, z172, z174, z176, z178, z179, z181, z182, o184, h157, h159, h161, h163, h165, h167, h169, h171, h173, h175, h177, h180, h183, -⟩ := s_op5 hI h134
    refine va_calli (va_runV (As := []) (rest := []) ⟨hx, hb, hml, hown, hts⟩ (s_X4_hasNoneToGo l dC dI H.size hLK D63 F9 z133 h134 hI) (cwV 0 hts (ax_gV T_582 T_584 T_585 T_142 T_583) rfl rfl rfl (by decide +kernel) ⟨Nat.le_of_ble_eq_true rfl, Nat.le_of_ble_eq_true rfl⟩) ⟨fun a U g mk q => ⟨q.1, s_pc (U := U) rfl rfl q.2⟩, s_recv hK hP (hLK _ h134 (by decide)) (ci := 4) rfl o184, fun U hU hW => ⟨rfl, s_pw hU hW hP hK hD hN⟩⟩ rfl rfl hl.1 rfl (lv_room (Nat.le_of_ble_eq_true rfl)) dX0_cyclesToRest_21 ⟨Nat.zero_le _, Nat.zero_le _⟩) hS (fun q _ h => h) (fun q h => h) (fun r185 F186 t H1 locs ht hvm hw hB hz1 hk1 hS => ?_)
    obtain ⟨hP, hK1⟩ := hB
    rw [ht] at hP
    generalize H1 = H at hP hS ⊢
    clear hz1 hk1
    obtain ⟨h187, h188, hI, hfr1⟩ := hw
    have o189 : F186 a0 = .inr (0, [.ref z129, .ref z131, .ref z133, .ref z135, .ref z137, .int z139, .ref z140, .long z142, .ref z143, .int z145, .ref z146, .int z148, .int z150, .int z152]) := (hfr1 _ (by rw [ha0]; decide)).trans o155
    have o190 : F186 z133 = .inr (4, [.ref z156, .ref z158, .ref z160, .ref z162, .ref z164, .ref z166, .ref z168, .int z170, .int z172, .int z174, .int z176, .int z178, .int z179, .int z181, .int z182]) := (hfr1 _ (by rw [h134]; decide)).trans o184
    have hfr : ∀ b, K b ∉ [2, 5, 6, 24, 27, 28, 29, 30, 31, 32, 34, 35] → F186 b = F b := fun b hb9 => (hfr1 b (fun q => hb9 (s_sub (by decide) q))).trans (hfr b hb9)
    refine lv_if_eq (tgt := 29) hx hb dX0_cyclesToRest_24 (by decide) (fun c191 => ?_) (fun c191 => ?_)
    · have c191 := (ax_eq (n := 0) (by decide)).mp c191
      refine lv_aload_n hx hb dX0_cyclesToRest_29 rfl (lv_at hl 0 rfl) ?_
      refine th_get (D := (dC, dI)) (ci := 0) (v := .ref z129) (C := RX0) (T := TX0) (N := 14) hx hb hts inX0 hown hK hP (hLK _ ha0 (by decide)) o189 rfl 0 (by decide) (hts _ T_139) (fun _ h9 => h9) rfl dX0_cyclesToRest_30 ?_
      refine lv_aload_n hx hb dX0_cyclesToRest_33 rfl (lv_at hl 0 rfl) ?_
      refine th_get (D := (dC, dI)) (ci := 0) (v := .ref z133) (C := RX0) (T := TX0) (N := 14) hx hb hts inX0 hown hK hP (hLK _ ha0 (by decide)) o189 rfl 2 (by decide) (hts _ T_146) (fun _ h9 => h9) rfl dX0_cyclesToRest_34 ?_
      obtain ⟨z192, z194, z196, z198, z200, z202, z203, z205, z206, z207, z209, z210, o211, h193, h195, h197, h199, h201, h204, h208, -⟩ := s_op2 hI h130
      refine va_calli (va_runV (As := [.ref z133]) (rest := []) ⟨hx, hb, hml, hown, hts⟩ (s_X1_step l dC dI H.size hLK D63 (D63 + 1) (Nat.le_refl _) (by omega) F186 z129 z133 h130 h134 hI (s_PGt hI0 hfr (by decide) hPG)) (cwV 1 hts (ax_gV T_562 T_564 T_565 T_137 T_563) rfl rfl rfl (by decide +kernel) ⟨Nat.le_of_ble_eq_true rfl, Nat.le_of_ble_eq_true rfl⟩) ⟨fun a U g mk q => ⟨q.1, s_pc (U := U) rfl rfl q.2⟩, s_recv hK hP (hLK _ h130 (by decide)) (ci := 1) rfl o211, fun U hU hW => ⟨rfl, s_pw hU hW hP hK hD hN⟩⟩ rfl rfl hl.1 rfl (lv_room (Nat.le_of_ble_eq_true rfl)) dX0_cyclesToRest_37 ⟨Nat.zero_le _, Nat.zero_le _⟩) hS (fun q _ h => h) (fun q h => h) (fun r212 F213 t H1 locs ht hvm hw hB hz1 hk1 hS => ?_)
      obtain ⟨hP, hK1⟩ := hB
      rw [ht] at hP
      generalize H1 = H at hP hS ⊢
      clear hz1 hk1
      obtain ⟨h214, h215, hI, hfr1⟩ := hw
      have o216 : F213 a0 = .inr (0, [.ref z129, .ref z131, .ref z133, .ref z135, .ref z137, .int z139, .ref z140, .long z142, .ref z143, .int z145, .ref z146, .int z148, .int z150, .int z152]) := (hfr1 _ (by rw [ha0]; decide)).trans o189
      have hfr : ∀ b, K b ∉ [2, 5, 6, 24, 27, 28, 29, 30, 31, 32, 34, 35] → F213 b = F b := fun b hb9 => (hfr1 b (fun q => hb9 (s_sub (by decide) q))).trans (hfr b hb9)
      refine lv_pop hx hb dX0_cyclesToRest_40 rfl ?_
      obtain ⟨v217, ev217⟩ : ∃ y : Int32, w61 + 1 = y := ⟨_, rfl⟩
      have qv217 : v217.toInt = w61.toInt + 1 := by rw [← ev217]; exact th_add rfl (by decide) ⟨by omega, by omega⟩
      refine lv_iinc (v := v217) (lv' := [(2, .int v217), (0, .ref a0)]) hx hb dX0_cyclesToRest_41 hl (k := 1) rfl ev217 (by decide) rfl (fun ls hl => ?_)
      refine lv_goto (tgt := 10) hx hb dX0_cyclesToRest_44 (by decide) ?_
      exact ih10 _ _ _ _ (by omega) ⟨F213, _, (D63 + 1), v217, rfl, lv_sub hl [1, 0] rfl, by omega, hI, hP, hS, hfr, ⟨by omega, by omega⟩, rfl⟩
    · have c191 := mt (ax_eq (n := 0) (by decide)).mpr c191
      refine lv_iload_n hx hb dX0_cyclesToRest_27 rfl (lv_at hl 1 rfl) ?_
      exact W.iret (v := w61) hx hb hr (fun t ht hW => ⟨⟨w61, F186, rfl, ⟨⟨by omega, by omega⟩, trivial, (s_mono (by omega) hI), hfr⟩, by rw [ht]; exact hP, va_K.moved hW.alike hK⟩, hS.F ht⟩) hS.2.2 dX0_cyclesToRest_28

set_option maxHeartbeats 4000000 in
set_option maxRecDepth 100000 in
theorem s_X0_roundFromHere (l : Launch) (dC : Nat → ClassId) (dI : Nat → Nat → Nat) (sz : Nat) {L : List Nat} {K : Nat → Nat} {cs : Nat → ClassId} (hLK : ∀ a {k : Nat}, K a = k → k ≠ 0 → a ∈ L) (D : Nat) (Dm : Nat) (hDm : D + 401 ≤ Dm) (hDM : Dm < 2147483647) (F : Nat → va_E) (a0 : Nat) (ha0 : K a0 = 1) (hI : s_I K cs D F) (hPG : s_PG K cs F) : Met l yX0_roundFromHere (Cond.code yX0_roundFromHere cX0_roundFromHere 2 (some .int) :: T0) ({ frames := 5, cells := 0, slots := 0, locals := 114 }) (va_Pc [.ref a0] (s_W dC dI sz L F [(cs 0, .int), (cs 1, .byte), (cs 2, .long), (cs 3, .object RX5), (cs 4, .object RX4), (cs 5, .array .int), (cs 6, .char), (cs 7, .boolean)])) (va_Qi (fun (r : Int32) (G : Nat → va_E) => (-1 ≤ r.toInt ∧ r.toInt ≤ 400) ∧ True ∧ s_I K cs Dm G ∧ ∀ b, K b ∉ [2, 5, 6, 24, 27, 28, 29, 30, 31, 32, 34, 35] → G b = F b) (fun (G : Nat → va_E) (t : State) => va_P (dC, dI) vwCl (va_pl L G) t.heap ∧ va_K (dC, dI) vwCl [(cs 0, .int), (cs 1, .byte), (cs 2, .long), (cs 3, .object RX5), (cs 4, .object RX4), (cs 5, .array .int), (cs 6, .char), (cs 7, .boolean)] t) (fun q => q ∈ L)) 0 0 (fun q => q ∈ L) := by
  refine Met.ofW (cc := cX0_roundFromHere) (maxL := 2) (ret := (some .int)) (by decide) rfl ?_
  intro p e s m args below meth c s₁ B hml hv
  obtain ⟨rfl, hsz, hP, hK, hD, hN⟩ := hv
  have hx := B.exec
  have hb := B.bytes
  have hr := B.returns
  have hts : ∀ w ∈ T0, w.before _ s = true := fun w h => atoms_spec (ws := Cond.code yX0_roundFromHere cX0_roundFromHere 2 (some .int) :: T0) B.pre w (List.mem_cons_of_mem _ h)
  have hown : s.vm.findClass RX0 = some m.cls := findClass_of_methodNamed B.named
  have hlocks := B.notSynchronized
  have hS : va_S (fun q => q ∈ L) s.heap s.heap [] := va_S.rf
  have hfr : ∀ b, K b ∉ [2, 5, 6, 24, 27, 28, 29, 30, 31, 32, 34, 35] → F b = F b := fun _ _ => rfl
  have hl := lv_entry ([.ref a0]) (n := 2) (Nat.le_of_ble_eq_true rfl)
  rw [lg_entry_eq]
  generalize (lg_sl ([.ref a0]) ++ List.replicate (2 - (lg_sl ([.ref a0])).length) Slot.unset).toArray = ls at hl ⊢
  have hl : lv_has ls 2 [(0, .ref a0)] := hl
  have hI0 := hI
  refine s_gen hP hS (fun H locs hP hS => ?_)
  refine lv_aload_n hx hb dX0_roundFromHere_0 rfl (lv_at hl 0 rfl) ?_
  obtain ⟨z1, z3, z5, z7, z9, z11, z12, z14, z15, z17, z18, z20, z22, z24, o27, h2, h4, h6, h8, h10, h13, h16, h19, h21, h23, h25, h26, -⟩ := s_op1 hI ha0
  refine th_get (D := (dC, dI)) (ci := 0) (v := .ref z7) (C := RX0) (T := TX0) (N := 14) hx hb hts inX0 hown hK hP (hLK _ ha0 (by decide)) o27 rfl 3 (by decide) (hts _ T_147) (fun _ h9 => h9) rfl dX0_roundFromHere_1 ?_
  refine lv_aload_n hx hb dX0_roundFromHere_4 rfl (lv_at hl 0 rfl) ?_
  refine th_get (D := (dC, dI)) (ci := 0) (v := .ref z5) (C := RX0) (T := TX0) (N := 14) hx hb hts inX0 hown hK hP (hLK _ ha0 (by decide)) o27 rfl 2 (by decide) (hts _ T_146) (fun _ h9 => h9) rfl dX0_roundFromHere_5 ?_
  obtain ⟨z28, z30, z32, z34, z36, z38, z40, z42, z44, z46, z48, z50, z51, z53, z54, o56, h29, h31, h33, h35, h37, h39, h41, h43, h45, h47, h49, h52, h55, -⟩ := s_op5 hI h8
  refine va_callv (va_runV (As := [.ref z5]) (rest := []) ⟨hx, hb, hml, hown, hts⟩ (s_X4_copyFrom l dC dI H.size hLK D F z7 z5 h8 h6 hI) (cwV 1 hts (ax_gV T_558 T_560 T_561 T_142 T_559) rfl rfl rfl (by decide +kernel) ⟨Nat.le_of_ble_eq_true rfl, Nat.le_of_ble_eq_true rfl⟩) ⟨fun a U g mk q => ⟨q.1, s_pc (U := U) rfl rfl q.2⟩, s_recv hK hP (hLK _ h8 (by decide)) (ci := 4) rfl o56, fun U hU hW => ⟨rfl, s_pw hU hW hP hK hD hN⟩⟩ rfl rfl hl.1 rfl (lv_room (Nat.le_of_ble_eq_true rfl)) dX0_roundFromHere_8 ⟨Nat.zero_le _, Nat.zero_le _⟩) hS (fun q _ h => h) (fun q h => h) (fun F57 t H1 locs ht hvm hw hB hz1 hk1 hS => ?_)
  obtain ⟨hP, hK1⟩ := hB
  rw [ht] at hP
  generalize H1 = H at hP hS ⊢
  clear hz1 hk1
  obtain ⟨h58, h59, hI, hfr1⟩ := hw
  have o60 : F57 a0 = .inr (0, [.ref z1, .ref z3, .ref z5, .ref z7, .ref z9, .int z11, .ref z12, .long z14, .ref z15, .int z17, .ref z18, .int z20, .int z22, .int z24]) := (hfr1 _ (by rw [ha0]; decide)).trans o27
  have hfr : ∀ b, K b ∉ [2, 5, 6, 24, 27, 28, 29, 30, 31, 32, 34, 35] → F57 b = F b := fun b hb9 => (hfr1 b (fun q => hb9 (s_sub (by decide) q))).trans (hfr b hb9)
  refine lv_iconst (v := 1) hx hb dX0_roundFromHere_11 (by decide) ?_
  refine lv_istore_n (lv' := [(1, .int 1), (0, .ref a0)]) hx hb dX0_roundFromHere_12 rfl hl (by decide) rfl (fun ls hl => ?_)
  refine th_loop (fun n g H locs => ∃ (G : Nat → va_E) (ls : Array Slot) (Dn : Nat) (w61 : Int32), g = F0 m 13 ls [] ∧ lv_has ls 2 [(0, .ref a0), (1, .int w61)] ∧ Dn + 1 * n + 0 ≤ Dm ∧ s_I K cs Dn G ∧ va_P (dC, dI) vwCl (va_pl L G) H ∧ va_S (fun q => q ∈ L) s.heap H locs ∧ (∀ b, K b ∉ [2, 5, 6, 24, 27, 28, 29, 30, 31, 32, 34, 35] → G b = F b) ∧ (1 ≤ w61.toInt ∧ w61.toInt ≤ 401) ∧ n = (402 - w61.toInt).toNat) _ ⟨F57, _, D, 1, rfl, lv_sub hl [1, 0] rfl, by have q7a : (1 : Int32).toInt = 1 := (by decide); omega, hI, hP, hS, hfr, (by decide), rfl⟩ (fun n ih13 g H locs hq => ?_)
  obtain ⟨F9, ls, D63, w61, rfl, hl, h64, hI, hP, hS, hfr, h62, hn⟩ := hq
  have hn_13 := hn
  obtain ⟨n_13, hn9_13⟩ : ∃ q, q = n := ⟨_, rfl⟩
  refine lv_iload_n hx hb dX0_roundFromHere_13 rfl (lv_at hl 1 rfl) ?_
  refine lv_sipush (v := 400) hx hb dX0_roundFromHere_14 (by decide) ?_
  refine lv_icmp_gt (tgt := 54) hx hb dX0_roundFromHere_17 (by decide) (fun c65 => ?_) (fun c65 => ?_)
  · have c65 := (ax_gt (n := 400) (by decide)).mp c65
    refine lv_iconst (v := (-1)) hx hb dX0_roundFromHere_54 (by decide) ?_
    exact W.iret (v := (-1)) hx hb hr (fun t ht hW => ⟨⟨(-1), F9, rfl, ⟨(by decide), trivial, (s_mono (by omega) hI), hfr⟩, by rw [ht]; exact hP, va_K.moved hW.alike hK⟩, hS.F ht⟩) hS.2.2 dX0_roundFromHere_55
  · have c65 := mt (ax_gt (n := 400) (by decide)).mpr c65
    refine lv_aload_n hx hb dX0_roundFromHere_20 rfl (lv_at hl 0 rfl) ?_
    obtain ⟨z66, z68, z70, z72, z74, z76, z77, z79, z80, z82, z83, z85, z87, z89, o92, h67, h69, h71, h73, h75, h78, h81, h84, h86, h88, h90, h91, -⟩ := s_op1 hI ha0
    refine th_get (D := (dC, dI)) (ci := 0) (v := .ref z66) (C := RX0) (T := TX0) (N := 14) hx hb hts inX0 hown hK hP (hLK _ ha0 (by decide)) o92 rfl 0 (by decide) (hts _ T_139) (fun _ h9 => h9) rfl dX0_roundFromHere_21 ?_
    refine lv_aload_n hx hb dX0_roundFromHere_24 rfl (lv_at hl 0 rfl) ?_
    refine th_get (D := (dC, dI)) (ci := 0) (v := .ref z70) (C := RX0) (T := TX0) (N := 14) hx hb hts inX0 hown hK hP (hLK _ ha0 (by decide)) o92 rfl 2 (by decide) (hts _ T_146) (fun _ h9 => h9) rfl dX0_roundFromHere_25 ?_
    obtain ⟨z93, z95, z97, z99, z101, z103, z104, z106, z107, z108, z110, z111, o112, h94, h96, h98, h100, h102, h105, h109, -⟩ := s_op2 hI h67
    refine va_calli (va_runV (As := [.ref z70]) (rest := []) ⟨hx, hb, hml, hown, hts⟩ (s_X1_step l dC dI H.size hLK D63 (D63 + 1) (Nat.le_refl _) (by omega) F9 z66 z70 h67 h71 hI (s_PGt hI0 hfr (by decide) hPG)) (cwV 1 hts (ax_gV T_562 T_564 T_565 T_137 T_563) rfl rfl rfl (by decide +kernel) ⟨Nat.le_of_ble_eq_true rfl, Nat.le_of_ble_eq_true rfl⟩) ⟨fun a U g mk q => ⟨q.1, s_pc (U := U) rfl rfl q.2⟩, s_recv hK hP (hLK _ h67 (by decide)) (ci := 1) rfl o112, fun U hU hW => ⟨rfl, s_pw hU hW hP hK hD hN⟩⟩ rfl rfl hl.1 rfl (lv_room (Nat.le_of_ble_eq_true rfl)) dX0_roundFromHere_28 ⟨Nat.zero_le _, Nat.zero_le _⟩) hS (fun q _ h => h) (fun q h => h) (fun r113 F114 t H1 locs ht hvm hw hB hz1 hk1 hS => ?_)
    obtain ⟨hP, hK1⟩ := hB
    rw [ht] at hP
    generalize H1 = H at hP hS ⊢
    clear hz1 hk1
    obtain ⟨h115, h116, hI, hfr1⟩ := hw
    have o117 : F114 a0 = .inr (0, [.ref z66, .ref z68, .ref z70, .ref z72, .ref z74, .int z76, .ref z77, .long z79, .ref z80, .int z82, .ref z83, .int z85, .int z87, .int z89]) := (hfr1 _ (by rw [ha0]; decide)).trans o92
    have hfr : ∀ b, K b ∉ [2, 5, 6, 24, 27, 28, 29, 30, 31, 32, 34, 35] → F114 b = F b := fun b hb9 => (hfr1 b (fun q => hb9 (s_sub (by decide) q))).trans (hfr b hb9)
    refine lv_pop hx hb dX0_roundFromHere_31 rfl ?_
    refine lv_aload_n hx hb dX0_roundFromHere_32 rfl (lv_at hl 0 rfl) ?_
    refine th_get (D := (dC, dI)) (ci := 0) (v := .ref z70) (C := RX0) (T := TX0) (N := 14) hx hb hts inX0 hown hK hP (hLK _ ha0 (by decide)) o117 rfl 2 (by decide) (hts _ T_146) (fun _ h9 => h9) rfl dX0_roundFromHere_33 ?_
    refine lv_aload_n hx hb dX0_roundFromHere_36 rfl (lv_at hl 0 rfl) ?_
    refine th_get (D := (dC, dI)) (ci := 0) (v := .ref z72) (C := RX0) (T := TX0) (N := 14) hx hb hts inX0 hown hK hP (hLK _ ha0 (by decide)) o117 rfl 3 (by decide) (hts _ T_147) (fun _ h9 => h9) rfl dX0_roundFromHere_37 ?_
    obtain ⟨z118, z120, z122, z124, z126, z128, z130, z132, z134, z136, z138, z140, z141, z143, z144, o146, h119, h121, h123, h125, h127, h129, h131, h133, h135, h137, h139, h142, h145, -⟩ := s_op5 hI h71
    refine va_calli (va_runV (As := [.ref z72]) (rest := []) ⟨hx, hb, hml, hown, hts⟩ (s_X4_isLike l dC dI H.size hLK (D63 + 1) F114 z70 z72 h71 h73 hI) (cwV 1 hts (ax_gV T_586 T_588 T_589 T_142 T_587) rfl rfl rfl (by decide +kernel) ⟨Nat.le_of_ble_eq_true rfl, Nat.le_of_ble_eq_true rfl⟩) ⟨fun a U g mk q => ⟨q.1, s_pc (U := U) rfl rfl q.2⟩, s_recv hK hP (hLK _ h71 (by decide)) (ci := 4) rfl o146, fun U hU hW => ⟨rfl, s_pw hU hW hP hK hD hN⟩⟩ rfl rfl hl.1 rfl (lv_room (Nat.le_of_ble_eq_true rfl)) dX0_roundFromHere_40 ⟨Nat.zero_le _, Nat.zero_le _⟩) hS (fun q _ h => h) (fun q h => h) (fun r147 F148 t H1 locs ht hvm hw hB hz1 hk1 hS => ?_)
    obtain ⟨hP, hK1⟩ := hB
    rw [ht] at hP
    generalize H1 = H at hP hS ⊢
    clear hz1 hk1
    obtain ⟨h149, h150, hI, hfr1⟩ := hw
    have o151 : F148 a0 = .inr (0, [.ref z66, .ref z68, .ref z70, .ref z72, .ref z74, .int z76, .ref z77, .long z79, .ref z80, .int z82, .ref z83, .int z85, .int z87, .int z89]) := (hfr1 _ (by rw [ha0]; decide)).trans o117
    have o152 : F148 z70 = .inr (4, [.ref z118, .ref z120, .ref z122, .ref z124, .ref z126, .ref z128, .ref z130, .int z132, .int z134, .int z136, .int z138, .int z140, .int z141, .int z143, .int z144]) := (hfr1 _ (by rw [h71]; decide)).trans o146
    have hfr : ∀ b, K b ∉ [2, 5, 6, 24, 27, 28, 29, 30, 31, 32, 34, 35] → F148 b = F b := fun b hb9 => (hfr1 b (fun q => hb9 (s_sub (by decide) q))).trans (hfr b hb9)
    refine lv_if_eq (tgt := 48) hx hb dX0_roundFromHere_43 (by decide) (fun c153 => ?_) (fun c153 => ?_)
    · have c153 := (ax_eq (n := 0) (by decide)).mp c153
      obtain ⟨v154, ev154⟩ : ∃ y : Int32, w61 + 1 = y := ⟨_, rfl⟩
      have qv154 : v154.toInt = w61.toInt + 1 := by rw [← ev154]; exact th_add rfl (by decide) ⟨by omega, by omega⟩
      refine lv_iinc (v := v154) (lv' := [(1, .int v154), (0, .ref a0)]) hx hb dX0_roundFromHere_48 hl (k := 1) rfl ev154 (by decide) rfl (fun ls hl => ?_)
      refine lv_goto (tgt := 13) hx hb dX0_roundFromHere_51 (by decide) ?_
      exact ih13 _ _ _ _ (by omega) ⟨F148, _, (D63 + 1), v154, rfl, lv_sub hl [1, 0] rfl, by omega, hI, hP, hS, hfr, ⟨by omega, by omega⟩, rfl⟩
    · have c153 := mt (ax_eq (n := 0) (by decide)).mpr c153
      refine lv_iload_n hx hb dX0_roundFromHere_46 rfl (lv_at hl 1 rfl) ?_
      exact W.iret (v := w61) hx hb hr (fun t ht hW => ⟨⟨w61, F148, rfl, ⟨⟨by omega, by omega⟩, trivial, (s_mono (by omega) hI), hfr⟩, by rw [ht]; exact hP, va_K.moved hW.alike hK⟩, hS.F ht⟩) hS.2.2 dX0_roundFromHere_47

set_option maxHeartbeats 4000000 in
set_option maxRecDepth 100000 in
theorem s_X0_firstAgain (l : Launch) (dC : Nat → ClassId) (dI : Nat → Nat → Nat) (sz : Nat) {L : List Nat} {K : Nat → Nat} {cs : Nat → ClassId} (hLK : ∀ a {k : Nat}, K a = k → k ≠ 0 → a ∈ L) (D : Nat) (Dm : Nat) (hDm : D + 1205 ≤ Dm) (hDM : Dm < 2147483647) (F : Nat → va_E) (a0 : Nat) (a1 : Nat) (x2 : Int32) (ha0 : K a0 = 1) (ha1 : K a1 = 5) (hx2 : -1 ≤ x2.toInt ∧ x2.toInt ≤ 400) (hI : s_I K cs D F) (hPG : s_PG K cs F) : Met l yX0_firstAgain (Cond.code yX0_firstAgain cX0_firstAgain 4 (some .int) :: T0) ({ frames := 5, cells := 0, slots := 0, locals := 114 }) (va_Pc [.ref a0, .ref a1, .int x2] (s_W dC dI sz L F [(cs 0, .int), (cs 1, .byte), (cs 2, .long), (cs 3, .object RX5), (cs 4, .object RX4), (cs 5, .array .int), (cs 6, .char), (cs 7, .boolean)])) (va_Qi (fun (r : Int32) (G : Nat → va_E) => (-1 ≤ r.toInt ∧ r.toInt ≤ 400) ∧ True ∧ s_I K cs Dm G ∧ ∀ b, K b ∉ [2, 5, 6, 24, 27, 28, 29, 30, 31, 32, 34, 35] → G b = F b) (fun (G : Nat → va_E) (t : State) => va_P (dC, dI) vwCl (va_pl L G) t.heap ∧ va_K (dC, dI) vwCl [(cs 0, .int), (cs 1, .byte), (cs 2, .long), (cs 3, .object RX5), (cs 4, .object RX4), (cs 5, .array .int), (cs 6, .char), (cs 7, .boolean)] t) (fun q => q ∈ L)) 0 0 (fun q => q ∈ L) := by
  refine Met.ofW (cc := cX0_firstAgain) (maxL := 4) (ret := (some .int)) (by decide) rfl ?_
  intro p e s m args below meth c s₁ B hml hv
  obtain ⟨rfl, hsz, hP, hK, hD, hN⟩ := hv
  have hx := B.exec
  have hb := B.bytes
  have hr := B.returns
  have hts : ∀ w ∈ T0, w.before _ s = true := fun w h => atoms_spec (ws := Cond.code yX0_firstAgain cX0_firstAgain 4 (some .int) :: T0) B.pre w (List.mem_cons_of_mem _ h)
  have hown : s.vm.findClass RX0 = some m.cls := findClass_of_methodNamed B.named
  have hlocks := B.notSynchronized
  have hS : va_S (fun q => q ∈ L) s.heap s.heap [] := va_S.rf
  have hfr : ∀ b, K b ∉ [2, 5, 6, 24, 27, 28, 29, 30, 31, 32, 34, 35] → F b = F b := fun _ _ => rfl
  have hl := lv_entry ([.ref a0, .ref a1, .int x2]) (n := 4) (Nat.le_of_ble_eq_true rfl)
  rw [lg_entry_eq]
  generalize (lg_sl ([.ref a0, .ref a1, .int x2]) ++ List.replicate (4 - (lg_sl ([.ref a0, .ref a1, .int x2])).length) Slot.unset).toArray = ls at hl ⊢
  have hl : lv_has ls 4 [(0, .ref a0), (1, .ref a1), (2, .int x2)] := hl
  have hI0 := hI
  refine s_gen hP hS (fun H locs hP hS => ?_)
  refine lv_iload_n hx hb dX0_firstAgain_0 rfl (lv_at hl 2 rfl) ?_
  refine lv_iconst (v := (-1)) hx hb dX0_firstAgain_1 (by decide) ?_
  refine lv_icmp_ne (tgt := 7) hx hb dX0_firstAgain_2 (by decide) (fun c1 => ?_) (fun c1 => ?_)
  · have c1 := mt (ax_eq (n := (-1)) (by decide)).mpr c1
    refine lv_aload_n hx hb dX0_firstAgain_7 rfl (lv_at hl 0 rfl) ?_
    obtain ⟨z2, z4, z6, z8, z10, z12, z13, z15, z16, z18, z19, z21, z23, z25, o28, h3, h5, h7, h9, h11, h14, h17, h20, h22, h24, h26, h27, -⟩ := s_op1 hI ha0
    refine th_get (D := (dC, dI)) (ci := 0) (v := .ref z8) (C := RX0) (T := TX0) (N := 14) hx hb hts inX0 hown hK hP (hLK _ ha0 (by decide)) o28 rfl 3 (by decide) (hts _ T_147) (fun _ h9 => h9) rfl dX0_firstAgain_8 ?_
    refine lv_aload_n hx hb dX0_firstAgain_11 rfl (lv_at hl 1 rfl) ?_
    obtain ⟨z29, z31, z33, z35, z37, z39, z41, z43, z45, z47, z49, z51, z52, z54, z55, o57, h30, h32, h34, h36, h38, h40, h42, h44, h46, h48, h50, h53, h56, -⟩ := s_op5 hI h9
    refine va_callv (va_runV (As := [.ref a1]) (rest := []) ⟨hx, hb, hml, hown, hts⟩ (s_X4_copyFrom l dC dI H.size hLK D F z8 a1 h9 ha1 hI) (cwV 1 hts (ax_gV T_558 T_560 T_561 T_142 T_559) rfl rfl rfl (by decide +kernel) ⟨Nat.le_of_ble_eq_true rfl, Nat.le_of_ble_eq_true rfl⟩) ⟨fun a U g mk q => ⟨q.1, s_pc (U := U) rfl rfl q.2⟩, s_recv hK hP (hLK _ h9 (by decide)) (ci := 4) rfl o57, fun U hU hW => ⟨rfl, s_pw hU hW hP hK hD hN⟩⟩ rfl rfl hl.1 rfl (lv_room (Nat.le_of_ble_eq_true rfl)) dX0_firstAgain_12 ⟨Nat.zero_le _, Nat.zero_le _⟩) hS (fun q _ h => h) (fun q h => h) (fun F58 t H1 locs ht hvm hw hB hz1 hk1 hS => ?_)
    obtain ⟨hP, hK1⟩ := hB
    rw [ht] at hP
    generalize H1 = H at hP hS ⊢
    clear hz1 hk1
    obtain ⟨h59, h60, hI, hfr1⟩ := hw
    have o61 : F58 a0 = .inr (0, [.ref z2, .ref z4, .ref z6, .ref z8, .ref z10, .int z12, .ref z13, .long z15, .ref z16, .int z18, .ref z19, .int z21, .int z23, .int z25]) := (hfr1 _ (by rw [ha0]; decide)).trans o28
    have hfr : ∀ b, K b ∉ [2, 5, 6, 24, 27, 28, 29, 30, 31, 32, 34, 35] → F58 b = F b := fun b hb9 => (hfr1 b (fun q => hb9 (s_sub (by decide) q))).trans (hfr b hb9)
    refine lv_aload_n hx hb dX0_firstAgain_15 rfl (lv_at hl 0 rfl) ?_
    refine th_get (D := (dC, dI)) (ci := 0) (v := .ref z6) (C := RX0) (T := TX0) (N := 14) hx hb hts inX0 hown hK hP (hLK _ ha0 (by decide)) o61 rfl 2 (by decide) (hts _ T_146) (fun _ h9 => h9) rfl dX0_firstAgain_16 ?_
    refine lv_aload_n hx hb dX0_firstAgain_19 rfl (lv_at hl 1 rfl) ?_
    obtain ⟨z62, z64, z66, z68, z70, z72, z74, z76, z78, z80, z82, z84, z85, z87, z88, o90, h63, h65, h67, h69, h71, h73, h75, h77, h79, h81, h83, h86, h89, -⟩ := s_op5 hI h7
    refine va_callv (va_runV (As := [.ref a1]) (rest := []) ⟨hx, hb, hml, hown, hts⟩ (s_X4_copyFrom l dC dI H.size hLK D F58 z6 a1 h7 ha1 hI) (cwV 1 hts (ax_gV T_558 T_560 T_561 T_142 T_559) rfl rfl rfl (by decide +kernel) ⟨Nat.le_of_ble_eq_true rfl, Nat.le_of_ble_eq_true rfl⟩) ⟨fun a U g mk q => ⟨q.1, s_pc (U := U) rfl rfl q.2⟩, s_recv hK hP (hLK _ h7 (by decide)) (ci := 4) rfl o90, fun U hU hW => ⟨rfl, s_pw hU hW hP hK hD hN⟩⟩ rfl rfl hl.1 rfl (lv_room (Nat.le_of_ble_eq_true rfl)) dX0_firstAgain_20 ⟨Nat.zero_le _, Nat.zero_le _⟩) hS (fun q _ h => h) (fun q h => h) (fun F91 t H1 locs ht hvm hw hB hz1 hk1 hS => ?_)
    obtain ⟨hP, hK1⟩ := hB
    rw [ht] at hP
    generalize H1 = H at hP hS ⊢
    clear hz1 hk1
    obtain ⟨h92, h93, hI, hfr1⟩ := hw
    have o94 : F91 a0 = .inr (0, [.ref z2, .ref z4, .ref z6, .ref z8, .ref z10, .int z12, .ref z13, .long z15, .ref z16, .int z18, .ref z19, .int z21, .int z23, .int z25]) := (hfr1 _ (by rw [ha0]; decide)).trans o61
    have hfr : ∀ b, K b ∉ [2, 5, 6, 24, 27, 28, 29, 30, 31, 32, 34, 35] → F91 b = F b := fun b hb9 => (hfr1 b (fun q => hb9 (s_sub (by decide) q))).trans (hfr b hb9)
    refine lv_iconst (v := 0) hx hb dX0_firstAgain_23 (by decide) ?_
    refine lv_istore_n (lv' := [(3, .int 0), (0, .ref a0), (1, .ref a1), (2, .int x2)]) hx hb dX0_firstAgain_24 rfl hl (by decide) rfl (fun ls hl => ?_)
    refine th_loop (fun n g H locs => ∃ (G : Nat → va_E) (ls : Array Slot) (Dn : Nat) (w95 : Int32), g = F0 m 25 ls [] ∧ lv_has ls 4 [(0, .ref a0), (2, .int x2), (3, .int w95)] ∧ Dn + 1 * n + 804 ≤ Dm ∧ s_I K cs Dn G ∧ va_P (dC, dI) vwCl (va_pl L G) H ∧ va_S (fun q => q ∈ L) s.heap H locs ∧ (∀ b, K b ∉ [2, 5, 6, 24, 27, 28, 29, 30, 31, 32, 34, 35] → G b = F b) ∧ (0 ≤ w95.toInt ∧ w95.toInt ≤ 400) ∧ (0 ≤ x2.toInt ∧ x2.toInt ≤ 400) ∧ n = (401 - w95.toInt).toNat) _ ⟨F91, _, D, 0, rfl, lv_sub hl [1, 3, 0] rfl, by have q7a : (0 : Int32).toInt = 0 := (by decide); omega, hI, hP, hS, hfr, (by decide), ⟨by omega, by omega⟩, rfl⟩ (fun n ih25 g H locs hq => ?_)
    obtain ⟨F9, ls, D98, w95, rfl, hl, h99, hI, hP, hS, hfr, h96, h97, hn⟩ := hq
    have hn_25 := hn
    obtain ⟨n_25, hn9_25⟩ : ∃ q, q = n := ⟨_, rfl⟩
    refine lv_iload_n hx hb dX0_firstAgain_25 rfl (lv_at hl 2 rfl) ?_
    refine lv_iload_n hx hb dX0_firstAgain_26 rfl (lv_at hl 1 rfl) ?_
    refine lv_icmp_ge (tgt := 48) hx hb dX0_firstAgain_27 (by decide) (fun c100 => ?_) (fun c100 => ?_)
    · have c100 := Int32.le_iff_toInt_le.mp c100
      refine lv_iload_n hx hb dX0_firstAgain_48 rfl (lv_at hl 1 rfl) ?_
      refine lv_istore_n (lv' := [(3, .int x2), (0, .ref a0), (2, .int x2)]) hx hb dX0_firstAgain_49 rfl hl (by decide) rfl (fun ls hl => ?_)
      refine th_loop (fun n g H locs => ∃ (G : Nat → va_E) (ls : Array Slot) (Dn : Nat) (w101 : Int32), g = F0 m 50 ls [] ∧ lv_has ls 4 [(0, .ref a0), (3, .int w101)] ∧ Dn + 2 * n + 0 ≤ Dm ∧ s_I K cs Dn G ∧ va_P (dC, dI) vwCl (va_pl L G) H ∧ va_S (fun q => q ∈ L) s.heap H locs ∧ (∀ b, K b ∉ [2, 5, 6, 24, 27, 28, 29, 30, 31, 32, 34, 35] → G b = F b) ∧ (0 ≤ w101.toInt ∧ w101.toInt ≤ 401) ∧ n = (402 - w101.toInt).toNat) _ ⟨F9, _, D98, x2, rfl, lv_sub hl [1, 0] rfl, by omega, hI, hP, hS, hfr, ⟨by omega, by omega⟩, rfl⟩ (fun n ih50 g H locs hq => ?_)
      obtain ⟨F9, ls, D103, w101, rfl, hl, h104, hI, hP, hS, hfr, h102, hn⟩ := hq
      have hn_50 := hn
      obtain ⟨n_50, hn9_50⟩ : ∃ q, q = n := ⟨_, rfl⟩
      refine lv_iload_n hx hb dX0_firstAgain_50 rfl (lv_at hl 1 rfl) ?_
      refine lv_sipush (v := 400) hx hb dX0_firstAgain_51 (by decide) ?_
      refine lv_icmp_gt (tgt := 103) hx hb dX0_firstAgain_54 (by decide) (fun c105 => ?_) (fun c105 => ?_)
      · have c105 := (ax_gt (n := 400) (by decide)).mp c105
        refine lv_iconst (v := (-1)) hx hb dX0_firstAgain_103 (by decide) ?_
        exact W.iret (v := (-1)) hx hb hr (fun t ht hW => ⟨⟨(-1), F9, rfl, ⟨(by decide), trivial, (s_mono (by omega) hI), hfr⟩, by rw [ht]; exact hP, va_K.moved hW.alike hK⟩, hS.F ht⟩) hS.2.2 dX0_firstAgain_104
      · have c105 := mt (ax_gt (n := 400) (by decide)).mpr c105
        refine lv_aload_n hx hb dX0_firstAgain_57 rfl (lv_at hl 0 rfl) ?_
        obtain ⟨z106, z108, z110, z112, z114, z116, z117, z119, z120, z122, z123, z125, z127, z129, o132, h107, h109, h111, h113, h115, h118, h121, h124, h126, h128, h130, h131, -⟩ := s_op1 hI ha0
        refine th_get (D := (dC, dI)) (ci := 0) (v := .ref z110) (C := RX0) (T := TX0) (N := 14) hx hb hts inX0 hown hK hP (hLK _ ha0 (by decide)) o132 rfl 2 (by decide) (hts _ T_146) (fun _ h9 => h9) rfl dX0_firstAgain_58 ?_
        refine lv_aload_n hx hb dX0_firstAgain_61 rfl (lv_at hl 0 rfl) ?_
        refine th_get (D := (dC, dI)) (ci := 0) (v := .ref z112) (C := RX0) (T := TX0) (N := 14) hx hb hts inX0 hown hK hP (hLK _ ha0 (by decide)) o132 rfl 3 (by decide) (hts _ T_147) (fun _ h9 => h9) rfl dX0_firstAgain_62 ?_
        obtain ⟨z133, z135, z137, z139, z141, z143, z145, z147, z149, z151, z153, z155, z156, z158, z159, o161, h134, h136, h138, h140, h142, h144, h146, h148, h150, h152, h154, h157, h160, -⟩ := s_op5 hI h111
        refine va_calli (va_runV (As := [.ref z112]) (rest := []) ⟨hx, hb, hml, hown, hts⟩ (s_X4_isLike l dC dI H.size hLK D103 F9 z110 z112 h111 h113 hI) (cwV 1 hts (ax_gV T_586 T_588 T_589 T_142 T_587) rfl rfl rfl (by decide +kernel) ⟨Nat.le_of_ble_eq_true rfl, Nat.le_of_ble_eq_true rfl⟩) ⟨fun a U g mk q => ⟨q.1, s_pc (U := U) rfl rfl q.2⟩, s_recv hK hP (hLK _ h111 (by decide)) (ci := 4) rfl o161, fun U hU hW => ⟨rfl, s_pw hU hW hP hK hD hN⟩⟩ rfl rfl hl.1 rfl (lv_room (Nat.le_of_ble_eq_true rfl)) dX0_firstAgain_65 ⟨Nat.zero_le _, Nat.zero_le _⟩) hS (fun q _ h => h) (fun q h => h) (fun r162 F163 t H1 locs ht hvm hw hB hz1 hk1 hS => ?_)
        obtain ⟨hP, hK1⟩ := hB
        rw [ht] at hP
        generalize H1 = H at hP hS ⊢
        clear hz1 hk1
        obtain ⟨h164, h165, hI, hfr1⟩ := hw
        have o166 : F163 a0 = .inr (0, [.ref z106, .ref z108, .ref z110, .ref z112, .ref z114, .int z116, .ref z117, .long z119, .ref z120, .int z122, .ref z123, .int z125, .int z127, .int z129]) := (hfr1 _ (by rw [ha0]; decide)).trans o132
        have o167 : F163 z110 = .inr (4, [.ref z133, .ref z135, .ref z137, .ref z139, .ref z141, .ref z143, .ref z145, .int z147, .int z149, .int z151, .int z153, .int z155, .int z156, .int z158, .int z159]) := (hfr1 _ (by rw [h111]; decide)).trans o161
        have hfr : ∀ b, K b ∉ [2, 5, 6, 24, 27, 28, 29, 30, 31, 32, 34, 35] → F163 b = F b := fun b hb9 => (hfr1 b (fun q => hb9 (s_sub (by decide) q))).trans (hfr b hb9)
        refine lv_if_eq (tgt := 73) hx hb dX0_firstAgain_68 (by decide) (fun c168 => ?_) (fun c168 => ?_)
        · have c168 := (ax_eq (n := 0) (by decide)).mp c168
          refine lv_aload_n hx hb dX0_firstAgain_73 rfl (lv_at hl 0 rfl) ?_
          refine th_get (D := (dC, dI)) (ci := 0) (v := .ref z106) (C := RX0) (T := TX0) (N := 14) hx hb hts inX0 hown hK hP (hLK _ ha0 (by decide)) o166 rfl 0 (by decide) (hts _ T_139) (fun _ h9 => h9) rfl dX0_firstAgain_74 ?_
          refine lv_aload_n hx hb dX0_firstAgain_77 rfl (lv_at hl 0 rfl) ?_
          refine th_get (D := (dC, dI)) (ci := 0) (v := .ref z110) (C := RX0) (T := TX0) (N := 14) hx hb hts inX0 hown hK hP (hLK _ ha0 (by decide)) o166 rfl 2 (by decide) (hts _ T_146) (fun _ h9 => h9) rfl dX0_firstAgain_78 ?_
          obtain ⟨z169, z171, z173, z175, z177, z179, z180, z182, z183, z184, z186, z187, o188, h170, h172, h174, h176, h178, h181, h185, -⟩ := s_op2 hI h107
          refine va_calli (va_runV (As := [.ref z110]) (rest := []) ⟨hx, hb, hml, hown, hts⟩ (s_X1_step l dC dI H.size hLK D103 (D103 + 1) (Nat.le_refl _) (by omega) F163 z106 z110 h107 h111 hI (s_PGt hI0 hfr (by decide) hPG)) (cwV 1 hts (ax_gV T_562 T_564 T_565 T_137 T_563) rfl rfl rfl (by decide +kernel) ⟨Nat.le_of_ble_eq_true rfl, Nat.le_of_ble_eq_true rfl⟩) ⟨fun a U g mk q => ⟨q.1, s_pc (U := U) rfl rfl q.2⟩, s_recv hK hP (hLK _ h107 (by decide)) (ci := 1) rfl o188, fun U hU hW => ⟨rfl, s_pw hU hW hP hK hD hN⟩⟩ rfl rfl hl.1 rfl (lv_room (Nat.le_of_ble_eq_true rfl)) dX0_firstAgain_81 ⟨Nat.zero_le _, Nat.zero_le _⟩) hS (fun q _ h => h) (fun q h => h) (fun r189 F190 t H1 locs ht hvm hw hB hz1 hk1 hS => ?_)
          obtain ⟨hP, hK1⟩ := hB
          rw [ht] at hP
          generalize H1 = H at hP hS ⊢
          clear hz1 hk1
          obtain ⟨h191, h192, hI, hfr1⟩ := hw
          have o193 : F190 a0 = .inr (0, [.ref z106, .ref z108, .ref z110, .ref z112, .ref z114, .int z116, .ref z117, .long z119, .ref z120, .int z122, .ref z123, .int z125, .int z127, .int z129]) := (hfr1 _ (by rw [ha0]; decide)).trans o166
          have hfr : ∀ b, K b ∉ [2, 5, 6, 24, 27, 28, 29, 30, 31, 32, 34, 35] → F190 b = F b := fun b hb9 => (hfr1 b (fun q => hb9 (s_sub (by decide) q))).trans (hfr b hb9)
          refine lv_pop hx hb dX0_firstAgain_84 rfl ?_
          refine lv_aload_n hx hb dX0_firstAgain_85 rfl (lv_at hl 0 rfl) ?_
          refine th_get (D := (dC, dI)) (ci := 0) (v := .ref z106) (C := RX0) (T := TX0) (N := 14) hx hb hts inX0 hown hK hP (hLK _ ha0 (by decide)) o193 rfl 0 (by decide) (hts _ T_139) (fun _ h9 => h9) rfl dX0_firstAgain_86 ?_
          refine lv_aload_n hx hb dX0_firstAgain_89 rfl (lv_at hl 0 rfl) ?_
          refine th_get (D := (dC, dI)) (ci := 0) (v := .ref z112) (C := RX0) (T := TX0) (N := 14) hx hb hts inX0 hown hK hP (hLK _ ha0 (by decide)) o193 rfl 3 (by decide) (hts _ T_147) (fun _ h9 => h9) rfl dX0_firstAgain_90 ?_
          obtain ⟨z194, z196, z198, z200, z202, z204, z205, z207, z208, z209, z211, z212, o213, h195, h197, h199, h201, h203, h206, h210, -⟩ := s_op2 hI h107
          refine va_calli (va_runV (As := [.ref z112]) (rest := []) ⟨hx, hb, hml, hown, hts⟩ (s_X1_step l dC dI H.size hLK (D103 + 1) ((D103 + 1) + 1) (Nat.le_refl _) (by omega) F190 z106 z112 h107 h113 hI (s_PGt hI0 hfr (by decide) hPG)) (cwV 1 hts (ax_gV T_562 T_564 T_565 T_137 T_563) rfl rfl rfl (by decide +kernel) ⟨Nat.le_of_ble_eq_true rfl, Nat.le_of_ble_eq_true rfl⟩) ⟨fun a U g mk q => ⟨q.1, s_pc (U := U) rfl rfl q.2⟩, s_recv hK hP (hLK _ h107 (by decide)) (ci := 1) rfl o213, fun U hU hW => ⟨rfl, s_pw hU hW hP hK hD hN⟩⟩ rfl rfl hl.1 rfl (lv_room (Nat.le_of_ble_eq_true rfl)) dX0_firstAgain_93 ⟨Nat.zero_le _, Nat.zero_le _⟩) hS (fun q _ h => h) (fun q h => h) (fun r214 F215 t H1 locs ht hvm hw hB hz1 hk1 hS => ?_)
          obtain ⟨hP, hK1⟩ := hB
          rw [ht] at hP
          generalize H1 = H at hP hS ⊢
          clear hz1 hk1
          obtain ⟨h216, h217, hI, hfr1⟩ := hw
          have o218 : F215 a0 = .inr (0, [.ref z106, .ref z108, .ref z110, .ref z112, .ref z114, .int z116, .ref z117, .long z119, .ref z120, .int z122, .ref z123, .int z125, .int z127, .int z129]) := (hfr1 _ (by rw [ha0]; decide)).trans o193
          have hfr : ∀ b, K b ∉ [2, 5, 6, 24, 27, 28, 29, 30, 31, 32, 34, 35] → F215 b = F b := fun b hb9 => (hfr1 b (fun q => hb9 (s_sub (by decide) q))).trans (hfr b hb9)
          refine lv_pop hx hb dX0_firstAgain_96 rfl ?_
          obtain ⟨v219, ev219⟩ : ∃ y : Int32, w101 + 1 = y := ⟨_, rfl⟩
          have qv219 : v219.toInt = w101.toInt + 1 := by rw [← ev219]; exact th_add rfl (by decide) ⟨by omega, by omega⟩
          refine lv_iinc (v := v219) (lv' := [(3, .int v219), (0, .ref a0)]) hx hb dX0_firstAgain_97 hl (k := 1) rfl ev219 (by decide) rfl (fun ls hl => ?_)
          refine lv_goto (tgt := 50) hx hb dX0_firstAgain_100 (by decide) ?_
          exact ih50 _ _ _ _ (by omega) ⟨F215, _, ((D103 + 1) + 1), v219, rfl, lv_sub hl [1, 0] rfl, by omega, hI, hP, hS, hfr, ⟨by omega, by omega⟩, rfl⟩
        · have c168 := mt (ax_eq (n := 0) (by decide)).mpr c168
          refine lv_iload_n hx hb dX0_firstAgain_71 rfl (lv_at hl 1 rfl) ?_
          exact W.iret (v := w101) hx hb hr (fun t ht hW => ⟨⟨w101, F163, rfl, ⟨⟨by omega, by omega⟩, trivial, (s_mono (by omega) hI), hfr⟩, by rw [ht]; exact hP, va_K.moved hW.alike hK⟩, hS.F ht⟩) hS.2.2 dX0_firstAgain_72
    · have c100 := mt Int32.le_iff_toInt_le.mpr c100
      refine lv_aload_n hx hb dX0_firstAgain_30 rfl (lv_at hl 0 rfl) ?_
      obtain ⟨z220, z222, z224, z226, z228, z230, z231, z233, z234, z236, z237, z239, z241, z243, o246, h221, h223, h225, h227, h229, h232, h235, h238, h240, h242, h244, h245, -⟩ := s_op1 hI ha0
      refine th_get (D := (dC, dI)) (ci := 0) (v := .ref z220) (C := RX0) (T := TX0) (N := 14) hx hb hts inX0 hown hK hP (hLK _ ha0 (by decide)) o246 rfl 0 (by decide) (hts _ T_139) (fun _ h9 => h9) rfl dX0_firstAgain_31 ?_
      refine lv_aload_n hx hb dX0_firstAgain_34 rfl (lv_at hl 0 rfl) ?_
      refine th_get (D := (dC, dI)) (ci := 0) (v := .ref z224) (C := RX0) (T := TX0) (N := 14) hx hb hts inX0 hown hK hP (hLK _ ha0 (by decide)) o246 rfl 2 (by decide) (hts _ T_146) (fun _ h9 => h9) rfl dX0_firstAgain_35 ?_
      obtain ⟨z247, z249, z251, z253, z255, z257, z258, z260, z261, z262, z264, z265, o266, h248, h250, h252, h254, h256, h259, h263, -⟩ := s_op2 hI h221
      refine va_calli (va_runV (As := [.ref z224]) (rest := []) ⟨hx, hb, hml, hown, hts⟩ (s_X1_step l dC dI H.size hLK D98 (D98 + 1) (Nat.le_refl _) (by omega) F9 z220 z224 h221 h225 hI (s_PGt hI0 hfr (by decide) hPG)) (cwV 1 hts (ax_gV T_562 T_564 T_565 T_137 T_563) rfl rfl rfl (by decide +kernel) ⟨Nat.le_of_ble_eq_true rfl, Nat.le_of_ble_eq_true rfl⟩) ⟨fun a U g mk q => ⟨q.1, s_pc (U := U) rfl rfl q.2⟩, s_recv hK hP (hLK _ h221 (by decide)) (ci := 1) rfl o266, fun U hU hW => ⟨rfl, s_pw hU hW hP hK hD hN⟩⟩ rfl rfl hl.1 rfl (lv_room (Nat.le_of_ble_eq_true rfl)) dX0_firstAgain_38 ⟨Nat.zero_le _, Nat.zero_le _⟩) hS (fun q _ h => h) (fun q h => h) (fun r267 F268 t H1 locs ht hvm hw hB hz1 hk1 hS => ?_)
      obtain ⟨hP, hK1⟩ := hB
      rw [ht] at hP
      generalize H1 = H at hP hS ⊢
      clear hz1 hk1
      obtain ⟨h269, h270, hI, hfr1⟩ := hw
      have o271 : F268 a0 = .inr (0, [.ref z220, .ref z222, .ref z224, .ref z226, .ref z228, .int z230, .ref z231, .long z233, .ref z234, .int z236, .ref z237, .int z239, .int z241, .int z243]) := (hfr1 _ (by rw [ha0]; decide)).trans o246
      have hfr : ∀ b, K b ∉ [2, 5, 6, 24, 27, 28, 29, 30, 31, 32, 34, 35] → F268 b = F b := fun b hb9 => (hfr1 b (fun q => hb9 (s_sub (by decide) q))).trans (hfr b hb9)
      refine lv_pop hx hb dX0_firstAgain_41 rfl ?_
      obtain ⟨v272, ev272⟩ : ∃ y : Int32, w95 + 1 = y := ⟨_, rfl⟩
      have qv272 : v272.toInt = w95.toInt + 1 := by rw [← ev272]; exact th_add rfl (by decide) ⟨by omega, by omega⟩
      refine lv_iinc (v := v272) (lv' := [(3, .int v272), (0, .ref a0), (2, .int x2)]) hx hb dX0_firstAgain_42 hl (k := 2) rfl ev272 (by decide) rfl (fun ls hl => ?_)
      refine lv_goto (tgt := 25) hx hb dX0_firstAgain_45 (by decide) ?_
      exact ih25 _ _ _ _ (by omega) ⟨F268, _, (D98 + 1), v272, rfl, lv_sub hl [1, 2, 0] rfl, by omega, hI, hP, hS, hfr, ⟨by omega, by omega⟩, ⟨by omega, by omega⟩, rfl⟩
  · have c1 := (ax_eq (n := (-1)) (by decide)).mp c1
    refine lv_iconst (v := (-1)) hx hb dX0_firstAgain_5 (by decide) ?_
    exact W.iret (v := (-1)) hx hb hr (fun t ht hW => ⟨⟨(-1), F, rfl, ⟨(by decide), trivial, (s_mono (by omega) hI), hfr⟩, by rw [ht]; exact hP, va_K.moved hW.alike hK⟩, hS.F ht⟩) hS.2.2 dX0_firstAgain_6

set_option maxHeartbeats 4000000 in
set_option maxRecDepth 100000 in
theorem s_X0_course (l : Launch) (dC : Nat → ClassId) (dI : Nat → Nat → Nat) (sz : Nat) {L : List Nat} {K : Nat → Nat} {cs : Nat → ClassId} (hLK : ∀ a {k : Nat}, K a = k → k ≠ 0 → a ∈ L) (D : Nat) (Dm : Nat) (hDm : D + 2007 ≤ Dm) (hDM : Dm < 2147483647) (F : Nat → va_E) (a0 : Nat) (a1 : Nat) (x2 : Int32) (x3 : Int32) (ha0 : K a0 = 1) (ha1 : K a1 = 5) (hx2 : 0 ≤ x2.toInt ∧ x2.toInt ≤ 16) (hx3 : 0 ≤ x3.toInt ∧ x3.toInt ≤ 2) (hI : s_I K cs D F) (hPG : s_PG K cs F) : Met l yX0_course (Cond.code yX0_course cX0_course 7 (some .int) :: T0) ({ frames := 6, cells := 0, slots := 0, locals := 137 }) (va_Pc [.ref a0, .ref a1, .int x2, .int x3] (s_W dC dI sz L F [(cs 0, .int), (cs 1, .byte), (cs 2, .long), (cs 3, .object RX5), (cs 4, .object RX4), (cs 5, .array .int), (cs 6, .char), (cs 7, .boolean)])) (va_Qi (fun (r : Int32) (G : Nat → va_E) => True ∧ True ∧ s_I K cs Dm G ∧ ∀ b, K b ∉ [1, 2, 5, 6, 24, 27, 28, 29, 30, 31, 32, 34, 35, 36] → G b = F b) (fun (G : Nat → va_E) (t : State) => va_P (dC, dI) vwCl (va_pl L G) t.heap ∧ va_K (dC, dI) vwCl [(cs 0, .int), (cs 1, .byte), (cs 2, .long), (cs 3, .object RX5), (cs 4, .object RX4), (cs 5, .array .int), (cs 6, .char), (cs 7, .boolean)] t) (fun q => q ∈ L)) 0 0 (fun q => q ∈ L) := by
  refine Met.ofW (cc := cX0_course) (maxL := 7) (ret := (some .int)) (by decide) rfl ?_
  intro p e s m args below meth c s₁ B hml hv
  obtain ⟨rfl, hsz, hP, hK, hD, hN⟩ := hv
  have hx := B.exec
  have hb := B.bytes
  have hr := B.returns
  have hts : ∀ w ∈ T0, w.before _ s = true := fun w h => atoms_spec (ws := Cond.code yX0_course cX0_course 7 (some .int) :: T0) B.pre w (List.mem_cons_of_mem _ h)
  have hown : s.vm.findClass RX0 = some m.cls := findClass_of_methodNamed B.named
  have hlocks := B.notSynchronized
  have hS : va_S (fun q => q ∈ L) s.heap s.heap [] := va_S.rf
  have hfr : ∀ b, K b ∉ [1, 2, 5, 6, 24, 27, 28, 29, 30, 31, 32, 34, 35, 36] → F b = F b := fun _ _ => rfl
  have hl := lv_entry ([.ref a0, .ref a1, .int x2, .int x3]) (n := 7) (Nat.le_of_ble_eq_true rfl)
  rw [lg_entry_eq]
  generalize (lg_sl ([.ref a0, .ref a1, .int x2, .int x3]) ++ List.replicate (7 - (lg_sl ([.ref a0, .ref a1, .int x2, .int x3])).length) Slot.unset).toArray = ls at hl ⊢
  have hl : lv_has ls 7 [(0, .ref a0), (1, .ref a1), (2, .int x2), (3, .int x3)] := hl
  have hI0 := hI
  refine s_gen hP hS (fun H locs hP hS => ?_)
  refine th_join (fun g H locs => ∃ (G : Nat → va_E) (ls : Array Slot) (Dn : Nat) (w1 : Int32), g = F0 m 131 ls [] ∧ lv_has ls 7 [(0, .ref a0), (3, .int x3), (4, .int w1)] ∧ Dn + 0 ≤ Dm ∧ s_I K cs Dn G ∧ va_P (dC, dI) vwCl (va_pl L G) H ∧ va_S (fun q => q ∈ L) s.heap H locs ∧ (∀ b, K b ∉ [1, 2, 5, 6, 24, 27, 28, 29, 30, 31, 32, 34, 35, 36] → G b = F b) ∧ (0 ≤ w1.toInt ∧ w1.toInt ≤ 48) ∧ (0 ≤ x3.toInt ∧ x3.toInt ≤ 2)) (fun K131 => ?_) ?_
  refine th_join (fun g H locs => ∃ (G : Nat → va_E) (ls : Array Slot) (Dn : Nat) (w2 : Int32) (w3 : Int32) (w4 : Int32) (w5 : Nat), g = F0 m 118 ls [.int w3, .int w4, .ref w5] ∧ lv_has ls 7 [(0, .ref a0), (2, .int x2), (3, .int x3), (4, .int w2)] ∧ Dn + 0 ≤ Dm ∧ s_I K cs Dn G ∧ va_P (dC, dI) vwCl (va_pl L G) H ∧ va_S (fun q => q ∈ L) s.heap H locs ∧ (∀ b, K b ∉ [1, 2, 5, 6, 24, 27, 28, 29, 30, 31, 32, 34, 35, 36] → G b = F b) ∧ (0 ≤ w2.toInt ∧ w2.toInt ≤ 48) ∧ (-1 ≤ w3.toInt ∧ w3.toInt ≤ 400) ∧ (2 ≤ w4.toInt ∧ w4.toInt ≤ 50) ∧ K w5 = 36 ∧ (0 ≤ x2.toInt ∧ x2.toInt ≤ 16) ∧ (0 ≤ x3.toInt ∧ x3.toInt ≤ 2)) (fun K118 => ?_) ?_
  refine th_join (fun g H locs => ∃ (G : Nat → va_E) (ls : Array Slot) (Dn : Nat) (w6 : Int32) (w7 : Int32) (w8 : Int32), g = F0 m 87 ls [] ∧ lv_has ls 7 [(0, .ref a0), (2, .int x2), (3, .int x3), (4, .int w6), (5, .int w7), (6, .int w8)] ∧ Dn + 0 ≤ Dm ∧ s_I K cs Dn G ∧ va_P (dC, dI) vwCl (va_pl L G) H ∧ va_S (fun q => q ∈ L) s.heap H locs ∧ (∀ b, K b ∉ [1, 2, 5, 6, 24, 27, 28, 29, 30, 31, 32, 34, 35, 36] → G b = F b) ∧ (0 ≤ w6.toInt ∧ w6.toInt ≤ 48) ∧ (-1 ≤ w7.toInt ∧ w7.toInt ≤ 400) ∧ (-1 ≤ w8.toInt ∧ w8.toInt ≤ 400) ∧ (0 ≤ x2.toInt ∧ x2.toInt ≤ 16) ∧ (0 ≤ x3.toInt ∧ x3.toInt ≤ 2)) (fun K87 => ?_) ?_
  refine th_join (fun g H locs => ∃ (G : Nat → va_E) (ls : Array Slot) (Dn : Nat) (w9 : Int32) (w10 : Int32) (w11 : Int32) (w12 : Int32) (w13 : Int32) (w14 : Nat), g = F0 m 86 ls [.int w12, .int w13, .ref w14] ∧ lv_has ls 7 [(0, .ref a0), (2, .int x2), (3, .int x3), (4, .int w9), (5, .int w10), (6, .int w11)] ∧ Dn + 0 ≤ Dm ∧ s_I K cs Dn G ∧ va_P (dC, dI) vwCl (va_pl L G) H ∧ va_S (fun q => q ∈ L) s.heap H locs ∧ (∀ b, K b ∉ [1, 2, 5, 6, 24, 27, 28, 29, 30, 31, 32, 34, 35, 36] → G b = F b) ∧ (0 ≤ w9.toInt ∧ w9.toInt ≤ 48) ∧ (-1 ≤ w10.toInt ∧ w10.toInt ≤ 400) ∧ (-1 ≤ w11.toInt ∧ w11.toInt ≤ 400) ∧ (2 ≤ w12.toInt ∧ w12.toInt ≤ 3) ∧ (0 ≤ w13.toInt ∧ w13.toInt ≤ 48) ∧ K w14 = 36 ∧ (0 ≤ x2.toInt ∧ x2.toInt ≤ 16) ∧ (0 ≤ x3.toInt ∧ x3.toInt ≤ 2)) (fun K86 => ?_) ?_
  refine th_join (fun g H locs => ∃ (G : Nat → va_E) (ls : Array Slot) (Dn : Nat) (w15 : Int32) (w16 : Int32) (w17 : Int32) (w18 : Int32) (w19 : Int32) (w20 : Nat), g = F0 m 47 ls [.int w18, .int w19, .ref w20] ∧ lv_has ls 7 [(0, .ref a0), (1, .ref a1), (2, .int x2), (3, .int x3), (4, .int w15), (5, .int w16), (6, .int w17)] ∧ Dn + 1606 ≤ Dm ∧ s_I K cs Dn G ∧ va_P (dC, dI) vwCl (va_pl L G) H ∧ va_S (fun q => q ∈ L) s.heap H locs ∧ (∀ b, K b ∉ [1, 2, 5, 6, 24, 27, 28, 29, 30, 31, 32, 34, 35, 36] → G b = F b) ∧ (0 ≤ w15.toInt ∧ w15.toInt ≤ 48) ∧ (-1 ≤ w16.toInt ∧ w16.toInt ≤ 400) ∧ (-1 ≤ w17.toInt ∧ w17.toInt ≤ -1) ∧ (0 ≤ w18.toInt ∧ w18.toInt ≤ 1) ∧ (0 ≤ w19.toInt ∧ w19.toInt ≤ 48) ∧ K w20 = 36 ∧ (0 ≤ x2.toInt ∧ x2.toInt ≤ 16) ∧ (0 ≤ x3.toInt ∧ x3.toInt ≤ 2)) (fun K47 => ?_) ?_
  · refine lv_iload_n hx hb dX0_course_0 rfl (lv_at hl 2 rfl) ?_
    refine lv_iconst (v := 3) hx hb dX0_course_1 (by decide) ?_
    refine lv_imul hx hb dX0_course_2 ?_
    refine lv_topi (fun v21 ev21 => ?_)
    have qv21 : v21.toInt = x2.toInt * 3 := by rw [ev21]; exact th_mul rfl (by decide) ⟨by omega, by omega⟩
    refine lv_istore (lv' := [(4, .int v21), (0, .ref a0), (1, .ref a1), (2, .int x2), (3, .int x3)]) hx hb dX0_course_3 hl (by decide) rfl (fun ls hl => ?_)
    refine lv_aload_n hx hb dX0_course_5 rfl (lv_at hl 1 rfl) ?_
    obtain ⟨z22, z24, z26, z28, z30, z32, z33, z35, z36, z38, z39, z41, z43, z45, o48, h23, h25, h27, h29, h31, h34, h37, h40, h42, h44, h46, h47, -⟩ := s_op1 hI ha0
    refine th_get (D := (dC, dI)) (ci := 0) (v := .int z32) (C := RX0) (T := TX0) (N := 14) hx hb hts inX0 hown hK hP (hLK _ ha0 (by decide)) o48 rfl 5 (by decide) (hts _ T_155) (fun _ h9 => h9) rfl dX0_course_6 ?_
    refine lv_iload_n hx hb dX0_course_9 rfl (lv_at hl 3 rfl) ?_
    refine lv_ishr hx hb dX0_course_10 ?_
    refine lv_topi (fun v49 ev49 => ?_)
    refine lv_iconst (v := 1) hx hb dX0_course_11 (by decide) ?_
    refine lv_iand hx hb dX0_course_12 ?_
    refine lv_topi (fun v50 ev50 => ?_)
    have qv50 : 0 ≤ v50.toInt ∧ v50.toInt ≤ 1 := by rw [ev50]; exact th_and 1 (by decide) (by decide)
    refine lv_if_ne (tgt := 131) hx hb dX0_course_13 (by decide) (fun c51 => ?_) (fun c51 => ?_)
    · have c51 := mt (ax_eq (n := 0) (by decide)).mpr c51
      exact K131 _ _ _ ⟨F, _, D, v21, rfl, lv_sub hl [1, 4, 0] rfl, by omega, hI, hP, hS, hfr, ⟨by omega, by omega⟩, ⟨by omega, by omega⟩⟩
    · have c51 := (ax_eq (n := 0) (by decide)).mp c51
      refine lv_aload_n hx hb dX0_course_16 rfl (lv_at hl 1 rfl) ?_
      refine lv_aload_n hx hb dX0_course_17 rfl (lv_at hl 2 rfl) ?_
      refine va_calli (va_runV (As := [.ref a1]) (rest := []) ⟨hx, hb, hml, hown, hts⟩ (s_X0_cyclesToRest l dC dI H.size hLK D (D + 401) (Nat.le_refl _) (by omega) F a0 a1 ha0 ha1 hI (s_PGt hI0 hfr (by decide) hPG)) (cwV 1 hts (ax_gV T_566 T_568 T_569 T_180 T_567) rfl rfl rfl (by decide +kernel) ⟨Nat.le_of_ble_eq_true rfl, Nat.le_of_ble_eq_true rfl⟩) ⟨fun a U g mk q => ⟨q.1, s_pc (U := U) rfl rfl q.2⟩, s_recv hK hP (hLK _ ha0 (by decide)) (ci := 0) rfl o48, fun U hU hW => ⟨rfl, s_pw hU hW hP hK hD hN⟩⟩ rfl rfl hl.1 rfl (lv_room (Nat.le_of_ble_eq_true rfl)) dX0_course_18 ⟨Nat.zero_le _, Nat.zero_le _⟩) hS (fun q _ h => h) (fun q h => h) (fun r52 F53 t H1 locs ht hvm hw hB hz1 hk1 hS => ?_)
      obtain ⟨hP, hK1⟩ := hB
      rw [ht] at hP
      generalize H1 = H at hP hS ⊢
      clear hz1 hk1
      obtain ⟨h54, h55, hI, hfr1⟩ := hw
      have o56 : F53 a0 = .inr (0, [.ref z22, .ref z24, .ref z26, .ref z28, .ref z30, .int z32, .ref z33, .long z35, .ref z36, .int z38, .ref z39, .int z41, .int z43, .int z45]) := (hfr1 _ (by rw [ha0]; decide)).trans o48
      have hfr : ∀ b, K b ∉ [1, 2, 5, 6, 24, 27, 28, 29, 30, 31, 32, 34, 35, 36] → F53 b = F b := fun b hb9 => (hfr1 b (fun q => hb9 (s_sub (by decide) q))).trans (hfr b hb9)
      refine lv_istore (lv' := [(5, .int r52), (4, .int v21), (0, .ref a0), (1, .ref a1), (2, .int x2), (3, .int x3)]) hx hb dX0_course_21 hl (by decide) rfl (fun ls hl => ?_)
      refine lv_iconst (v := (-1)) hx hb dX0_course_23 (by decide) ?_
      refine lv_istore (lv' := [(6, .int (-1)), (5, .int r52), (4, .int v21), (0, .ref a0), (1, .ref a1), (2, .int x2), (3, .int x3)]) hx hb dX0_course_24 hl (by decide) rfl (fun ls hl => ?_)
      refine lv_aload_n hx hb dX0_course_26 rfl (lv_at hl 3 rfl) ?_
      refine th_get (D := (dC, dI)) (ci := 0) (v := .ref z30) (C := RX0) (T := TX0) (N := 14) hx hb hts inX0 hown hK hP (hLK _ ha0 (by decide)) o56 rfl 4 (by decide) (hts _ T_148) (fun _ h9 => h9) rfl dX0_course_27 ?_
      refine lv_iload hx hb dX0_course_30 (lv_at hl 2 rfl) ?_
      refine lv_aload_n hx hb dX0_course_32 rfl (lv_at hl 3 rfl) ?_
      refine th_get (D := (dC, dI)) (ci := 0) (v := .ref z26) (C := RX0) (T := TX0) (N := 14) hx hb hts inX0 hown hK hP (hLK _ ha0 (by decide)) o56 rfl 2 (by decide) (hts _ T_146) (fun _ h9 => h9) rfl dX0_course_33 ?_
      obtain ⟨z57, z59, z61, z63, z65, z67, z69, z71, z73, z75, z77, z79, z80, z82, z83, o85, h58, h60, h62, h64, h66, h68, h70, h72, h74, h76, h78, h81, h84, -⟩ := s_op5 hI h27
      refine va_calli (va_runV (As := []) (rest := [.int v21, .ref z30]) ⟨hx, hb, hml, hown, hts⟩ (s_X4_hasEnded l dC dI H.size hLK (D + 401) F53 z26 h27 hI) (cwV 0 hts (ax_gV T_570 T_572 T_573 T_142 T_571) rfl rfl rfl (by decide +kernel) ⟨Nat.le_of_ble_eq_true rfl, Nat.le_of_ble_eq_true rfl⟩) ⟨fun a U g mk q => ⟨q.1, s_pc (U := U) rfl rfl q.2⟩, s_recv hK hP (hLK _ h27 (by decide)) (ci := 4) rfl o85, fun U hU hW => ⟨rfl, s_pw hU hW hP hK hD hN⟩⟩ rfl rfl hl.1 rfl (lv_room (Nat.le_of_ble_eq_true rfl)) dX0_course_36 ⟨Nat.zero_le _, Nat.zero_le _⟩) hS (fun q _ h => h) (fun q h => h) (fun r86 F87 t H1 locs ht hvm hw hB hz1 hk1 hS => ?_)
      obtain ⟨hP, hK1⟩ := hB
      rw [ht] at hP
      generalize H1 = H at hP hS ⊢
      clear hz1 hk1
      obtain ⟨h88, h89, hI, hfr1⟩ := hw
      have o90 : F87 a0 = .inr (0, [.ref z22, .ref z24, .ref z26, .ref z28, .ref z30, .int z32, .ref z33, .long z35, .ref z36, .int z38, .ref z39, .int z41, .int z43, .int z45]) := (hfr1 _ (by rw [ha0]; decide)).trans o56
      have o91 : F87 z26 = .inr (4, [.ref z57, .ref z59, .ref z61, .ref z63, .ref z65, .ref z67, .ref z69, .int z71, .int z73, .int z75, .int z77, .int z79, .int z80, .int z82, .int z83]) := (hfr1 _ (by rw [h27]; decide)).trans o85
      have hfr : ∀ b, K b ∉ [1, 2, 5, 6, 24, 27, 28, 29, 30, 31, 32, 34, 35, 36] → F87 b = F b := fun b hb9 => (hfr1 b (fun q => hb9 (s_sub (by decide) q))).trans (hfr b hb9)
      refine lv_if_eq (tgt := 46) hx hb dX0_course_39 (by decide) (fun c92 => ?_) (fun c92 => ?_)
      · have c92 := (ax_eq (n := 0) (by decide)).mp c92
        refine lv_iconst (v := 1) hx hb dX0_course_46 (by decide) ?_
        exact K47 _ _ _ ⟨F87, _, (D + 401), v21, r52, (-1), 1, v21, z30, rfl, lv_sub hl [3, 4, 5, 6, 2, 1, 0] rfl, by omega, hI, hP, hS, hfr, ⟨by omega, by omega⟩, ⟨by omega, by omega⟩, (by decide), (by decide), ⟨by omega, by omega⟩, h31, ⟨by omega, by omega⟩, ⟨by omega, by omega⟩⟩
      · have c92 := mt (ax_eq (n := 0) (by decide)).mpr c92
        refine lv_iconst (v := 0) hx hb dX0_course_42 (by decide) ?_
        refine lv_goto (tgt := 47) hx hb dX0_course_43 (by decide) ?_
        exact K47 _ _ _ ⟨F87, _, (D + 401), v21, r52, (-1), 0, v21, z30, rfl, lv_sub hl [3, 4, 5, 6, 2, 1, 0] rfl, by omega, hI, hP, hS, hfr, ⟨by omega, by omega⟩, ⟨by omega, by omega⟩, (by decide), (by decide), ⟨by omega, by omega⟩, h31, ⟨by omega, by omega⟩, ⟨by omega, by omega⟩⟩
  · intro g H locs hq
    obtain ⟨F9, ls, D101, w15, w16, w17, w18, w19, w20, rfl, hl, h102, hI, hP, hS, hfr, h93, h94, h95, h96, h97, h98, h99, h100⟩ := hq
    obtain ⟨f103, o104, h105⟩ := s_op36 hI h98
    refine th_iast hx hb hK hP hD hS (hLK _ h98 (by decide)) 0 o104 rfl (th_in ⟨by omega, by omega⟩) dX0_course_47 (fun H locs hP hS => ?_)
    have hP : va_P (dC, dI) vwCl (va_pl L (va_up F9 w20 (.inl (cs 0, 51, .inl (upd f103 (w19 : Int32).toNatClampNeg w18))))) H := hP
    obtain ⟨F106, hF107⟩ : ∃ G : Nat → va_E, G = va_up F9 w20 (.inl (cs 0, 51, .inl (upd f103 (w19 : Int32).toNatClampNeg w18))) := ⟨_, rfl⟩
    rw [← hF107] at hP
    have hI : s_I K cs D101 F106 := by rw [hF107]; exact s_cl36 hI h98 ⟨_, rfl, trivial⟩
    have hfr : ∀ b, K b ∉ [1, 2, 5, 6, 24, 27, 28, 29, 30, 31, 32, 34, 35, 36] → F106 b = F b := by rw [hF107]; exact s_fr hfr h98 (by decide)
    refine lv_iload hx hb dX0_course_48 (lv_at hl 5 rfl) ?_
    refine lv_iconst (v := (-1)) hx hb dX0_course_50 (by decide) ?_
    refine lv_icmp_ne (tgt := 87) hx hb dX0_course_51 (by decide) (fun c108 => ?_) (fun c108 => ?_)
    · have c108 := mt (ax_eq (n := (-1)) (by decide)).mpr c108
      exact K87 _ _ _ ⟨F106, _, D101, w15, w16, w17, rfl, lv_sub hl [0, 2, 3, 4, 5, 6] rfl, by omega, hI, hP, hS, hfr, ⟨by omega, by omega⟩, ⟨by omega, by omega⟩, ⟨by omega, by omega⟩, ⟨by omega, by omega⟩, ⟨by omega, by omega⟩⟩
    · have c108 := (ax_eq (n := (-1)) (by decide)).mp c108
      refine lv_aload_n hx hb dX0_course_54 rfl (lv_at hl 0 rfl) ?_
      obtain ⟨z109, z111, z113, z115, z117, z119, z120, z122, z123, z125, z126, z128, z130, z132, o135, h110, h112, h114, h116, h118, h121, h124, h127, h129, h131, h133, h134, -⟩ := s_op1 hI ha0
      refine va_calli (va_runV (As := []) (rest := []) ⟨hx, hb, hml, hown, hts⟩ (s_X0_roundFromHere l dC dI H.size hLK D101 (D101 + 401) (Nat.le_refl _) (by omega) F106 a0 ha0 hI (s_PGt hI0 hfr (by decide) hPG)) (cwV 0 hts (ax_gV T_574 T_576 T_577 T_180 T_575) rfl rfl rfl (by decide +kernel) ⟨Nat.le_of_ble_eq_true rfl, Nat.le_of_ble_eq_true rfl⟩) ⟨fun a U g mk q => ⟨q.1, s_pc (U := U) rfl rfl q.2⟩, s_recv hK hP (hLK _ ha0 (by decide)) (ci := 0) rfl o135, fun U hU hW => ⟨rfl, s_pw hU hW hP hK hD hN⟩⟩ rfl rfl hl.1 rfl (lv_room (Nat.le_of_ble_eq_true rfl)) dX0_course_55 ⟨Nat.zero_le _, Nat.zero_le _⟩) hS (fun q _ h => h) (fun q h => h) (fun r136 F137 t H1 locs ht hvm hw hB hz1 hk1 hS => ?_)
      obtain ⟨hP, hK1⟩ := hB
      rw [ht] at hP
      generalize H1 = H at hP hS ⊢
      clear hz1 hk1
      obtain ⟨h138, h139, hI, hfr1⟩ := hw
      have o140 : F137 a0 = .inr (0, [.ref z109, .ref z111, .ref z113, .ref z115, .ref z117, .int z119, .ref z120, .long z122, .ref z123, .int z125, .ref z126, .int z128, .int z130, .int z132]) := (hfr1 _ (by rw [ha0]; decide)).trans o135
      have hfr : ∀ b, K b ∉ [1, 2, 5, 6, 24, 27, 28, 29, 30, 31, 32, 34, 35, 36] → F137 b = F b := fun b hb9 => (hfr1 b (fun q => hb9 (s_sub (by decide) q))).trans (hfr b hb9)
      refine lv_istore (lv' := [(6, .int r136), (0, .ref a0), (1, .ref a1), (2, .int x2), (3, .int x3), (4, .int w15), (5, .int w16)]) hx hb dX0_course_58 hl (by decide) rfl (fun ls hl => ?_)
      refine lv_aload_n hx hb dX0_course_60 rfl (lv_at hl 1 rfl) ?_
      refine lv_aload_n hx hb dX0_course_61 rfl (lv_at hl 2 rfl) ?_
      refine lv_iload hx hb dX0_course_62 (lv_at hl 0 rfl) ?_
      refine va_calli (va_runV (As := [.ref a1, .int r136]) (rest := []) ⟨hx, hb, hml, hown, hts⟩ (s_X0_firstAgain l dC dI H.size hLK (D101 + 401) ((D101 + 401) + 1205) (Nat.le_refl _) (by omega) F137 a0 a1 r136 ha0 ha1 (⟨by omega, by omega⟩) hI (s_PGt hI0 hfr (by decide) hPG)) (cwV 2 hts (ax_gV T_578 T_580 T_581 T_180 T_579) rfl rfl rfl (by decide +kernel) ⟨Nat.le_of_ble_eq_true rfl, Nat.le_of_ble_eq_true rfl⟩) ⟨fun a U g mk q => ⟨q.1, s_pc (U := U) rfl rfl q.2⟩, s_recv hK hP (hLK _ ha0 (by decide)) (ci := 0) rfl o140, fun U hU hW => ⟨rfl, s_pw hU hW hP hK hD hN⟩⟩ rfl rfl hl.1 rfl (lv_room (Nat.le_of_ble_eq_true rfl)) dX0_course_64 ⟨Nat.zero_le _, Nat.zero_le _⟩) hS (fun q _ h => h) (fun q h => h) (fun r141 F142 t H1 locs ht hvm hw hB hz1 hk1 hS => ?_)
      obtain ⟨hP, hK1⟩ := hB
      rw [ht] at hP
      generalize H1 = H at hP hS ⊢
      clear hz1 hk1
      obtain ⟨h143, h144, hI, hfr1⟩ := hw
      have o145 : F142 a0 = .inr (0, [.ref z109, .ref z111, .ref z113, .ref z115, .ref z117, .int z119, .ref z120, .long z122, .ref z123, .int z125, .ref z126, .int z128, .int z130, .int z132]) := (hfr1 _ (by rw [ha0]; decide)).trans o140
      have hfr : ∀ b, K b ∉ [1, 2, 5, 6, 24, 27, 28, 29, 30, 31, 32, 34, 35, 36] → F142 b = F b := fun b hb9 => (hfr1 b (fun q => hb9 (s_sub (by decide) q))).trans (hfr b hb9)
      refine lv_istore (lv' := [(5, .int r141), (6, .int r136), (0, .ref a0), (1, .ref a1), (2, .int x2), (3, .int x3), (4, .int w15)]) hx hb dX0_course_67 hl (by decide) rfl (fun ls hl => ?_)
      refine lv_aload_n hx hb dX0_course_69 rfl (lv_at hl 2 rfl) ?_
      refine th_get (D := (dC, dI)) (ci := 0) (v := .ref z117) (C := RX0) (T := TX0) (N := 14) hx hb hts inX0 hown hK hP (hLK _ ha0 (by decide)) o145 rfl 4 (by decide) (hts _ T_148) (fun _ h9 => h9) rfl dX0_course_70 ?_
      refine lv_iload hx hb dX0_course_73 (lv_at hl 6 rfl) ?_
      refine lv_iload hx hb dX0_course_75 (lv_at hl 0 rfl) ?_
      refine lv_iconst (v := (-1)) hx hb dX0_course_77 (by decide) ?_
      refine lv_icmp_ne (tgt := 85) hx hb dX0_course_78 (by decide) (fun c146 => ?_) (fun c146 => ?_)
      · have c146 := mt (ax_eq (n := (-1)) (by decide)).mpr c146
        refine lv_iconst (v := 2) hx hb dX0_course_85 (by decide) ?_
        exact K86 _ _ _ ⟨F142, _, ((D101 + 401) + 1205), w15, r141, r136, 2, w15, z117, rfl, lv_sub hl [2, 4, 5, 6, 0, 1] rfl, by omega, hI, hP, hS, hfr, ⟨by omega, by omega⟩, ⟨by omega, by omega⟩, ⟨by omega, by omega⟩, (by decide), ⟨by omega, by omega⟩, h118, ⟨by omega, by omega⟩, ⟨by omega, by omega⟩⟩
      · have c146 := (ax_eq (n := (-1)) (by decide)).mp c146
        refine lv_iconst (v := 3) hx hb dX0_course_81 (by decide) ?_
        refine lv_goto (tgt := 86) hx hb dX0_course_82 (by decide) ?_
        exact K86 _ _ _ ⟨F142, _, ((D101 + 401) + 1205), w15, r141, r136, 3, w15, z117, rfl, lv_sub hl [2, 4, 5, 6, 0, 1] rfl, by omega, hI, hP, hS, hfr, ⟨by omega, by omega⟩, ⟨by omega, by omega⟩, ⟨by omega, by omega⟩, (by decide), ⟨by omega, by omega⟩, h118, ⟨by omega, by omega⟩, ⟨by omega, by omega⟩⟩
  · intro g H locs hq
    obtain ⟨F9, ls, D155, w9, w10, w11, w12, w13, w14, rfl, hl, h156, hI, hP, hS, hfr, h147, h148, h149, h150, h151, h152, h153, h154⟩ := hq
    obtain ⟨f157, o158, h159⟩ := s_op36 hI h152
    refine th_iast hx hb hK hP hD hS (hLK _ h152 (by decide)) 0 o158 rfl (th_in ⟨by omega, by omega⟩) dX0_course_86 (fun H locs hP hS => ?_)
    have hP : va_P (dC, dI) vwCl (va_pl L (va_up F9 w14 (.inl (cs 0, 51, .inl (upd f157 (w13 : Int32).toNatClampNeg w12))))) H := hP
    obtain ⟨F160, hF161⟩ : ∃ G : Nat → va_E, G = va_up F9 w14 (.inl (cs 0, 51, .inl (upd f157 (w13 : Int32).toNatClampNeg w12))) := ⟨_, rfl⟩
    rw [← hF161] at hP
    have hI : s_I K cs D155 F160 := by rw [hF161]; exact s_cl36 hI h152 ⟨_, rfl, trivial⟩
    have hfr : ∀ b, K b ∉ [1, 2, 5, 6, 24, 27, 28, 29, 30, 31, 32, 34, 35, 36] → F160 b = F b := by rw [hF161]; exact s_fr hfr h152 (by decide)
    exact K87 _ _ _ ⟨F160, _, D155, w9, w10, w11, rfl, lv_sub hl [0, 1, 2, 3, 4, 5] rfl, by omega, hI, hP, hS, hfr, ⟨by omega, by omega⟩, ⟨by omega, by omega⟩, ⟨by omega, by omega⟩, ⟨by omega, by omega⟩, ⟨by omega, by omega⟩⟩
  · intro g H locs hq
    obtain ⟨F9, ls, D167, w6, w7, w8, rfl, hl, h168, hI, hP, hS, hfr, h162, h163, h164, h165, h166⟩ := hq
    refine lv_aload_n hx hb dX0_course_87 rfl (lv_at hl 0 rfl) ?_
    obtain ⟨z169, z171, z173, z175, z177, z179, z180, z182, z183, z185, z186, z188, z190, z192, o195, h170, h172, h174, h176, h178, h181, h184, h187, h189, h191, h193, h194, -⟩ := s_op1 hI ha0
    refine th_get (D := (dC, dI)) (ci := 0) (v := .ref z177) (C := RX0) (T := TX0) (N := 14) hx hb hts inX0 hown hK hP (hLK _ ha0 (by decide)) o195 rfl 4 (by decide) (hts _ T_148) (fun _ h9 => h9) rfl dX0_course_88 ?_
    refine lv_iload hx hb dX0_course_91 (lv_at hl 3 rfl) ?_
    refine lv_iconst (v := 1) hx hb dX0_course_93 (by decide) ?_
    refine lv_iadd hx hb dX0_course_94 ?_
    refine lv_topi (fun v196 ev196 => ?_)
    have qv196 : v196.toInt = w6.toInt + 1 := by rw [ev196]; exact th_add rfl (by decide) ⟨by omega, by omega⟩
    refine lv_iload hx hb dX0_course_95 (lv_at hl 4 rfl) ?_
    obtain ⟨f197, o198, h199⟩ := s_op36 hI h178
    refine th_iast hx hb hK hP hD hS (hLK _ h178 (by decide)) 0 o198 rfl (th_in ⟨by omega, by omega⟩) dX0_course_97 (fun H locs hP hS => ?_)
    have hP : va_P (dC, dI) vwCl (va_pl L (va_up F9 z177 (.inl (cs 0, 51, .inl (upd f197 (v196 : Int32).toNatClampNeg w7))))) H := hP
    obtain ⟨F200, hF201⟩ : ∃ G : Nat → va_E, G = va_up F9 z177 (.inl (cs 0, 51, .inl (upd f197 (v196 : Int32).toNatClampNeg w7))) := ⟨_, rfl⟩
    rw [← hF201] at hP
    have hI : s_I K cs D167 F200 := by rw [hF201]; exact s_cl36 hI h178 ⟨_, rfl, trivial⟩
    have hfr : ∀ b, K b ∉ [1, 2, 5, 6, 24, 27, 28, 29, 30, 31, 32, 34, 35, 36] → F200 b = F b := by rw [hF201]; exact s_fr hfr h178 (by decide)
    have o202 : F200 a0 = .inr (0, [.ref z169, .ref z171, .ref z173, .ref z175, .ref z177, .int z179, .ref z180, .long z182, .ref z183, .int z185, .ref z186, .int z188, .int z190, .int z192]) := by rw [hF201]; exact th_ne (th_kd ha0 h178 (by decide)) o195
    refine lv_aload_n hx hb dX0_course_98 rfl (lv_at hl 0 rfl) ?_
    refine th_get (D := (dC, dI)) (ci := 0) (v := .ref z177) (C := RX0) (T := TX0) (N := 14) hx hb hts inX0 hown hK hP (hLK _ ha0 (by decide)) o202 rfl 4 (by decide) (hts _ T_148) (fun _ h9 => h9) rfl dX0_course_99 ?_
    refine lv_iload hx hb dX0_course_102 (lv_at hl 3 rfl) ?_
    refine lv_iconst (v := 2) hx hb dX0_course_104 (by decide) ?_
    refine lv_iadd hx hb dX0_course_105 ?_
    refine lv_topi (fun v203 ev203 => ?_)
    have qv203 : v203.toInt = w6.toInt + 2 := by rw [ev203]; exact th_add rfl (by decide) ⟨by omega, by omega⟩
    refine lv_iload hx hb dX0_course_106 (lv_at hl 4 rfl) ?_
    refine lv_iconst (v := (-1)) hx hb dX0_course_108 (by decide) ?_
    refine lv_icmp_ne (tgt := 116) hx hb dX0_course_109 (by decide) (fun c204 => ?_) (fun c204 => ?_)
    · have c204 := mt (ax_eq (n := (-1)) (by decide)).mpr c204
      refine lv_iload hx hb dX0_course_116 (lv_at hl 5 rfl) ?_
      exact K118 _ _ _ ⟨F200, _, D167, w6, w8, v203, z177, rfl, lv_sub hl [0, 1, 2, 3] rfl, by omega, hI, hP, hS, hfr, ⟨by omega, by omega⟩, ⟨by omega, by omega⟩, ⟨by omega, by omega⟩, h178, ⟨by omega, by omega⟩, ⟨by omega, by omega⟩⟩
    · have c204 := (ax_eq (n := (-1)) (by decide)).mp c204
      refine lv_iconst (v := (-1)) hx hb dX0_course_112 (by decide) ?_
      refine lv_goto (tgt := 118) hx hb dX0_course_113 (by decide) ?_
      exact K118 _ _ _ ⟨F200, _, D167, w6, (-1), v203, z177, rfl, lv_sub hl [0, 1, 2, 3] rfl, by omega, hI, hP, hS, hfr, ⟨by omega, by omega⟩, (by decide), ⟨by omega, by omega⟩, h178, ⟨by omega, by omega⟩, ⟨by omega, by omega⟩⟩
  · intro g H locs hq
    obtain ⟨F9, ls, D211, w2, w3, w4, w5, rfl, hl, h212, hI, hP, hS, hfr, h205, h206, h207, h208, h209, h210⟩ := hq
    obtain ⟨f213, o214, h215⟩ := s_op36 hI h208
    refine th_iast hx hb hK hP hD hS (hLK _ h208 (by decide)) 0 o214 rfl (th_in ⟨by omega, by omega⟩) dX0_course_118 (fun H locs hP hS => ?_)
    have hP : va_P (dC, dI) vwCl (va_pl L (va_up F9 w5 (.inl (cs 0, 51, .inl (upd f213 (w4 : Int32).toNatClampNeg w3))))) H := hP
    obtain ⟨F216, hF217⟩ : ∃ G : Nat → va_E, G = va_up F9 w5 (.inl (cs 0, 51, .inl (upd f213 (w4 : Int32).toNatClampNeg w3))) := ⟨_, rfl⟩
    rw [← hF217] at hP
    have hI : s_I K cs D211 F216 := by rw [hF217]; exact s_cl36 hI h208 ⟨_, rfl, trivial⟩
    have hfr : ∀ b, K b ∉ [1, 2, 5, 6, 24, 27, 28, 29, 30, 31, 32, 34, 35, 36] → F216 b = F b := by rw [hF217]; exact s_fr hfr h208 (by decide)
    refine lv_aload_n hx hb dX0_course_119 rfl (lv_at hl 0 rfl) ?_
    refine lv_dup hx hb dX0_course_120 rfl ?_
    obtain ⟨z218, z220, z222, z224, z226, z228, z229, z231, z232, z234, z235, z237, z239, z241, o244, h219, h221, h223, h225, h227, h230, h233, h236, h238, h240, h242, h243, -⟩ := s_op1 hI ha0
    refine th_get (D := (dC, dI)) (ci := 0) (v := .int z228) (C := RX0) (T := TX0) (N := 14) hx hb hts inX0 hown hK hP (hLK _ ha0 (by decide)) o244 rfl 5 (by decide) (hts _ T_155) (fun _ h9 => h9) rfl dX0_course_121 ?_
    refine lv_iconst (v := 1) hx hb dX0_course_124 (by decide) ?_
    refine lv_iload_n hx hb dX0_course_125 rfl (lv_at hl 1 rfl) ?_
    refine lv_ishl hx hb dX0_course_126 ?_
    refine lv_topi (fun v245 ev245 => ?_)
    refine lv_ior hx hb dX0_course_127 ?_
    refine lv_topi (fun v246 ev246 => ?_)
    refine th_put (D := (dC, dI)) (ci := 0) (v := .int v246) (ty := .int) (C := RX0) (T := TX0) (N := 14) hx hb hts inX0 tyX0 tyX0_ok nmX0 hown hK hP hD hS (hLK _ ha0 (by decide)) o244 rfl 5 (by decide) (hts _ T_155) (fun _ h9 => h9) rfl (by decide +kernel) rfl rfl (Nat.le_of_ble_eq_true rfl) dX0_course_128 (fun H locs hP hS => ?_)
    have hP : va_P (dC, dI) vwCl (va_pl L (va_up F216 a0 (.inr (0, [.ref z218, .ref z220, .ref z222, .ref z224, .ref z226, .int v246, .ref z229, .long z231, .ref z232, .int z234, .ref z235, .int z237, .int z239, .int z241])))) H := hP
    obtain ⟨F247, hF248⟩ : ∃ G : Nat → va_E, G = va_up F216 a0 (.inr (0, [.ref z218, .ref z220, .ref z222, .ref z224, .ref z226, .int v246, .ref z229, .long z231, .ref z232, .int z234, .ref z235, .int z237, .int z239, .int z241])) := ⟨_, rfl⟩
    rw [← hF248] at hP
    have hI : s_I K cs D211 F247 := by rw [hF248]; exact s_cl1 hI ha0 ⟨z218, z220, z222, z224, z226, v246, z229, z231, z232, z234, z235, z237, z239, z241, rfl, h219, h221, h223, h225, h227, h230, h233, h236, ⟨by omega, by omega⟩, ⟨by omega, by omega⟩, ⟨by omega, by omega⟩, h243, trivial⟩
    have hfr : ∀ b, K b ∉ [1, 2, 5, 6, 24, 27, 28, 29, 30, 31, 32, 34, 35, 36] → F247 b = F b := by rw [hF248]; exact s_fr hfr ha0 (by decide)
    have o249 : F247 a0 = .inr (0, [.ref z218, .ref z220, .ref z222, .ref z224, .ref z226, .int v246, .ref z229, .long z231, .ref z232, .int z234, .ref z235, .int z237, .int z239, .int z241]) := by rw [hF248]; exact th_up
    exact K131 _ _ _ ⟨F247, _, D211, w2, rfl, lv_sub hl [0, 2, 3] rfl, by omega, hI, hP, hS, hfr, ⟨by omega, by omega⟩, ⟨by omega, by omega⟩⟩
  · intro g H locs hq
    obtain ⟨F9, ls, D252, w1, rfl, hl, h253, hI, hP, hS, hfr, h250, h251⟩ := hq
    refine lv_aload_n hx hb dX0_course_131 rfl (lv_at hl 0 rfl) ?_
    obtain ⟨z254, z256, z258, z260, z262, z264, z265, z267, z268, z270, z271, z273, z275, z277, o280, h255, h257, h259, h261, h263, h266, h269, h272, h274, h276, h278, h279, -⟩ := s_op1 hI ha0
    refine th_get (D := (dC, dI)) (ci := 0) (v := .ref z262) (C := RX0) (T := TX0) (N := 14) hx hb hts inX0 hown hK hP (hLK _ ha0 (by decide)) o280 rfl 4 (by decide) (hts _ T_148) (fun _ h9 => h9) rfl dX0_course_132 ?_
    refine lv_iload hx hb dX0_course_135 (lv_at hl 2 rfl) ?_
    refine lv_iload_n hx hb dX0_course_137 rfl (lv_at hl 1 rfl) ?_
    refine lv_iadd hx hb dX0_course_138 ?_
    refine lv_topi (fun v281 ev281 => ?_)
    have qv281 : v281.toInt = w1.toInt + x3.toInt := by rw [ev281]; exact th_add rfl rfl ⟨by omega, by omega⟩
    obtain ⟨f282, o283, h284⟩ := s_op36 hI h263
    refine th_iald hx hb hK hP (hLK _ h263 (by decide)) 0 o283 rfl (th_in ⟨by omega, by omega⟩) dX0_course_139 ?_
    refine lv_topi (fun v285 ev285 => ?_)
    exact W.iret (v := v285) hx hb hr (fun t ht hW => ⟨⟨v285, F9, rfl, ⟨trivial, trivial, (s_mono (by omega) hI), hfr⟩, by rw [ht]; exact hP, va_K.moved hW.alike hK⟩, hS.F ht⟩) hS.2.2 dX0_course_140

set_option maxHeartbeats 4000000 in
set_option maxRecDepth 100000 in
theorem s_X0_tryWord (l : Launch) (dC : Nat → ClassId) (dI : Nat → Nat → Nat) (sz : Nat) {L : List Nat} {K : Nat → Nat} {cs : Nat → ClassId} (hLK : ∀ a {k : Nat}, K a = k → k ≠ 0 → a ∈ L) (D : Nat) (Dm : Nat) (hDm : D + 6817 ≤ Dm) (hDM : Dm < 2147483647) (F : Nat → va_E) (a0 : Nat) (x1 : Int32) (ha0 : K a0 = 1) (hx1 : 0 ≤ x1.toInt ∧ x1.toInt ≤ 63) (hI : s_I K cs D F) (hPG : s_PG K cs F) : Met l yX0_tryWord (Cond.code yX0_tryWord cX0_tryWord 6 none :: T0) ({ frames := 6, cells := 0, slots := 0, locals := 136 }) (va_Pc [.ref a0, .int x1] (s_W dC dI sz L F [(cs 0, .int), (cs 1, .byte), (cs 2, .long), (cs 3, .object RX5), (cs 4, .object RX4), (cs 5, .array .int), (cs 6, .char), (cs 7, .boolean)])) (va_Qv (fun (G : Nat → va_E) => True ∧ True ∧ s_I K cs Dm G ∧ ∀ b, K b ∉ [1, 2, 5, 6, 24, 27, 28, 29, 30, 31, 32, 34, 35, 37] → G b = F b) (fun (G : Nat → va_E) (t : State) => va_P (dC, dI) vwCl (va_pl L G) t.heap ∧ va_K (dC, dI) vwCl [(cs 0, .int), (cs 1, .byte), (cs 2, .long), (cs 3, .object RX5), (cs 4, .object RX4), (cs 5, .array .int), (cs 6, .char), (cs 7, .boolean)] t) (fun q => q ∈ L)) 0 0 (fun q => q ∈ L) := by
  refine Met.ofW (cc := cX0_tryWord) (maxL := 6) (ret := none) (by decide) rfl ?_
  intro p e s m args below meth c s₁ B hml hv
  obtain ⟨rfl, hsz, hP, hK, hD, hN⟩ := hv
  have hx := B.exec
  have hb := B.bytes
  have hr := B.returns
  have hts : ∀ w ∈ T0, w.before _ s = true := fun w h => atoms_spec (ws := Cond.code yX0_tryWord cX0_tryWord 6 none :: T0) B.pre w (List.mem_cons_of_mem _ h)
  have hown : s.vm.findClass RX0 = some m.cls := findClass_of_methodNamed B.named
  have hlocks := B.notSynchronized
  have hS : va_S (fun q => q ∈ L) s.heap s.heap [] := va_S.rf
  have hfr : ∀ b, K b ∉ [1, 2, 5, 6, 24, 27, 28, 29, 30, 31, 32, 34, 35, 37] → F b = F b := fun _ _ => rfl
  have hl := lv_entry ([.ref a0, .int x1]) (n := 6) (Nat.le_of_ble_eq_true rfl)
  rw [lg_entry_eq]
  generalize (lg_sl ([.ref a0, .int x1]) ++ List.replicate (6 - (lg_sl ([.ref a0, .int x1])).length) Slot.unset).toArray = ls at hl ⊢
  have hl : lv_has ls 6 [(0, .ref a0), (1, .int x1)] := hl
  have hI0 := hI
  refine s_gen hP hS (fun H locs hP hS => ?_)
  refine lv_aload_n hx hb dX0_tryWord_0 rfl (lv_at hl 0 rfl) ?_
  obtain ⟨z1, z3, z5, z7, z9, z11, z12, z14, z15, z17, z18, z20, z22, z24, o27, h2, h4, h6, h8, h10, h13, h16, h19, h21, h23, h25, h26, -⟩ := s_op1 hI ha0
  refine th_get (D := (dC, dI)) (ci := 0) (v := .long z14) (C := RX0) (T := TX0) (N := 14) hx hb hts inX0 hown hK hP (hLK _ ha0 (by decide)) o27 rfl 7 (by decide) (hts _ T_156) (fun _ h9 => h9) rfl dX0_tryWord_1 ?_
  refine lv_iload_n hx hb dX0_tryWord_4 rfl (lv_at hl 1 rfl) ?_
  refine lv_lshr hx hb dX0_tryWord_5 rfl ?_
  refine lv_topl (fun v28 _ => ?_)
  refine lv_lconst (v := 1) hx hb dX0_tryWord_6 (by decide) ?_
  refine lv_land hx hb dX0_tryWord_7 ?_
  refine lv_topl (fun v29 ev29 => ?_)
  refine lv_lconst (v := 0) hx hb dX0_tryWord_8 (by decide) ?_
  refine W.lcmp hx hb dX0_tryWord_9 ?_
  refine lv_topi (fun v30 _ => ?_)
  refine lv_if_eq (tgt := 14) hx hb dX0_tryWord_10 (by decide) (fun c31 => ?_) (fun c31 => ?_)
  · have c31 := (ax_eq (n := 0) (by decide)).mp c31
    refine lv_iconst (v := 1) hx hb dX0_tryWord_14 (by decide) ?_
    refine lv_istore_n (lv' := [(2, .int 1), (0, .ref a0), (1, .int x1)]) hx hb dX0_tryWord_15 rfl hl (by decide) rfl (fun ls hl => ?_)
    refine lv_iconst (v := 0) hx hb dX0_tryWord_16 (by decide) ?_
    refine lv_istore_n (lv' := [(3, .int 0), (2, .int 1), (0, .ref a0), (1, .int x1)]) hx hb dX0_tryWord_17 rfl hl (by decide) rfl (fun ls hl => ?_)
    refine th_loop (fun n g H locs => ∃ (G : Nat → va_E) (ls : Array Slot) (Dn : Nat) (w32 : Int32) (w33 : Int32), g = F0 m 18 ls [] ∧ lv_has ls 6 [(0, .ref a0), (1, .int x1), (2, .int w32), (3, .int w33)] ∧ Dn + 401 * n + 0 ≤ Dm ∧ s_I K cs Dn G ∧ va_P (dC, dI) vwCl (va_pl L G) H ∧ va_S (fun q => q ∈ L) s.heap H locs ∧ (∀ b, K b ∉ [1, 2, 5, 6, 24, 27, 28, 29, 30, 31, 32, 34, 35, 37] → G b = F b) ∧ (0 ≤ w32.toInt ∧ w32.toInt ≤ 1) ∧ (0 ≤ w33.toInt ∧ w33.toInt ≤ 16) ∧ (0 ≤ x1.toInt ∧ x1.toInt ≤ 63) ∧ (w32.toInt = 1 ∨ 1 ≤ w33.toInt) ∧ n = (17 - w33.toInt).toNat) _ ⟨F, _, D, 1, 0, rfl, lv_sub hl [2, 3, 1, 0] rfl, by have q7a : (0 : Int32).toInt = 0 := (by decide); have q7b : (1 : Int32).toInt = 1 := (by decide); omega, hI, hP, hS, hfr, (by decide), (by decide), ⟨by omega, by omega⟩, (by first | exact Or.inl (by decide) | exact Or.inr (by omega)), rfl⟩ (fun n ih18 g H locs hq => ?_)
    obtain ⟨F9, ls, D38, w32, w33, rfl, hl, h39, hI, hP, hS, hfr, h34, h35, h36, h37, hn⟩ := hq
    have hn_18 := hn
    obtain ⟨n_18, hn9_18⟩ : ∃ q, q = n := ⟨_, rfl⟩
    refine th_join (fun g H locs => ∃ (G : Nat → va_E) (ls : Array Slot) (Dn : Nat) (w40 : Int32), g = F0 m 140 ls [] ∧ lv_has ls 6 [(0, .ref a0), (1, .int x1), (2, .int w40), (3, .int w33)] ∧ Dn + 0 + 401 * (n_18 - 1) + 0 ≤ Dm ∧ s_I K cs Dn G ∧ va_P (dC, dI) vwCl (va_pl L G) H ∧ va_S (fun q => q ∈ L) s.heap H locs ∧ (∀ b, K b ∉ [1, 2, 5, 6, 24, 27, 28, 29, 30, 31, 32, 34, 35, 37] → G b = F b) ∧ (0 ≤ w40.toInt ∧ w40.toInt ≤ 1) ∧ (0 ≤ x1.toInt ∧ x1.toInt ≤ 63) ∧ (0 ≤ w33.toInt ∧ w33.toInt ≤ 15)) (fun K140 => ?_) ?_
    refine th_join (fun g H locs => ∃ (G : Nat → va_E) (ls : Array Slot) (Dn : Nat) (w41 : Int32), g = F0 m 120 ls [.int w41] ∧ lv_has ls 6 [(0, .ref a0), (1, .int x1), (3, .int w33)] ∧ Dn + 0 + 401 * (n_18 - 1) + 0 ≤ Dm ∧ s_I K cs Dn G ∧ va_P (dC, dI) vwCl (va_pl L G) H ∧ va_S (fun q => q ∈ L) s.heap H locs ∧ (∀ b, K b ∉ [1, 2, 5, 6, 24, 27, 28, 29, 30, 31, 32, 34, 35, 37] → G b = F b) ∧ (0 ≤ w41.toInt ∧ w41.toInt ≤ 1) ∧ (0 ≤ x1.toInt ∧ x1.toInt ≤ 63) ∧ (0 ≤ w33.toInt ∧ w33.toInt ≤ 15)) (fun K120 => ?_) ?_
    refine th_join (fun g H locs => ∃ (G : Nat → va_E) (ls : Array Slot) (Dn : Nat) (w42 : Int32) (w43 : Int32) (w44 : Nat), g = F0 m 98 ls [.int w42, .int w43, .ref w44] ∧ lv_has ls 6 [(0, .ref a0), (1, .int x1), (3, .int w33)] ∧ Dn + 0 + 401 * (n_18 - 1) + 0 ≤ Dm ∧ s_I K cs Dn G ∧ va_P (dC, dI) vwCl (va_pl L G) H ∧ va_S (fun q => q ∈ L) s.heap H locs ∧ (∀ b, K b ∉ [1, 2, 5, 6, 24, 27, 28, 29, 30, 31, 32, 34, 35, 37] → G b = F b) ∧ (-1 ≤ w42.toInt ∧ w42.toInt ≤ 400) ∧ (0 ≤ w43.toInt ∧ w43.toInt ≤ 1023) ∧ K w44 = 37 ∧ (0 ≤ x1.toInt ∧ x1.toInt ≤ 63) ∧ (0 ≤ w33.toInt ∧ w33.toInt ≤ 15)) (fun K98 => ?_) ?_
    · refine lv_iload_n hx hb dX0_tryWord_18 rfl (lv_at hl 3 rfl) ?_
      refine lv_bipush (v := 16) hx hb dX0_tryWord_19 (by decide) ?_
      refine lv_icmp_ge (tgt := 146) hx hb dX0_tryWord_21 (by decide) (fun c45 => ?_) (fun c45 => ?_)
      · have c45 := (ax_ge (n := 16) (by decide)).mp c45
        refine lv_aload_n hx hb dX0_tryWord_146 rfl (lv_at hl 0 rfl) ?_
        refine lv_dup hx hb dX0_tryWord_147 rfl ?_
        obtain ⟨z46, z48, z50, z52, z54, z56, z57, z59, z60, z62, z63, z65, z67, z69, o72, h47, h49, h51, h53, h55, h58, h61, h64, h66, h68, h70, h71, -⟩ := s_op1 hI ha0
        refine th_get (D := (dC, dI)) (ci := 0) (v := .long z59) (C := RX0) (T := TX0) (N := 14) hx hb hts inX0 hown hK hP (hLK _ ha0 (by decide)) o72 rfl 7 (by decide) (hts _ T_156) (fun _ h9 => h9) rfl dX0_tryWord_148 ?_
        refine lv_lconst (v := 1) hx hb dX0_tryWord_151 (by decide) ?_
        refine lv_iload_n hx hb dX0_tryWord_152 rfl (lv_at hl 1 rfl) ?_
        refine lv_lshl hx hb dX0_tryWord_153 rfl ?_
        refine lv_topl (fun v73 _ => ?_)
        refine lv_lor hx hb dX0_tryWord_154 ?_
        refine lv_topl (fun v74 ev74 => ?_)
        refine th_put (D := (dC, dI)) (ci := 0) (v := .long v74) (ty := .long) (C := RX0) (T := TX0) (N := 14) hx hb hts inX0 tyX0 tyX0_ok nmX0 hown hK hP hD hS (hLK _ ha0 (by decide)) o72 rfl 7 (by decide) (hts _ T_156) (fun _ h9 => h9) rfl (by decide +kernel) rfl rfl (Nat.le_of_ble_eq_true rfl) dX0_tryWord_155 (fun H locs hP hS => ?_)
        have hP : va_P (dC, dI) vwCl (va_pl L (va_up F9 a0 (.inr (0, [.ref z46, .ref z48, .ref z50, .ref z52, .ref z54, .int z56, .ref z57, .long v74, .ref z60, .int z62, .ref z63, .int z65, .int z67, .int z69])))) H := hP
        obtain ⟨F75, hF76⟩ : ∃ G : Nat → va_E, G = va_up F9 a0 (.inr (0, [.ref z46, .ref z48, .ref z50, .ref z52, .ref z54, .int z56, .ref z57, .long v74, .ref z60, .int z62, .ref z63, .int z65, .int z67, .int z69])) := ⟨_, rfl⟩
        rw [← hF76] at hP
        have hI : s_I K cs D38 F75 := by rw [hF76]; exact s_cl1 hI ha0 ⟨z46, z48, z50, z52, z54, z56, z57, v74, z60, z62, z63, z65, z67, z69, rfl, h47, h49, h51, h53, h55, h58, h61, h64, ⟨by omega, by omega⟩, ⟨by omega, by omega⟩, ⟨by omega, by omega⟩, h71, trivial⟩
        have hfr : ∀ b, K b ∉ [1, 2, 5, 6, 24, 27, 28, 29, 30, 31, 32, 34, 35, 37] → F75 b = F b := by rw [hF76]; exact s_fr hfr ha0 (by decide)
        have o77 : F75 a0 = .inr (0, [.ref z46, .ref z48, .ref z50, .ref z52, .ref z54, .int z56, .ref z57, .long v74, .ref z60, .int z62, .ref z63, .int z65, .int z67, .int z69]) := by rw [hF76]; exact th_up
        exact W.vret hx hb hr (fun t ht hW => ⟨⟨F75, rfl, ⟨trivial, trivial, (s_mono (by omega) hI), hfr⟩, by rw [ht]; exact hP, va_K.moved hW.alike hK⟩, hS.F ht⟩) hS.2.2 dX0_tryWord_158
      · have c45 := mt (ax_ge (n := 16) (by decide)).mpr c45
        refine lv_iload_n hx hb dX0_tryWord_24 rfl (lv_at hl 1 rfl) ?_
        refine lv_bipush (v := 16) hx hb dX0_tryWord_25 (by decide) ?_
        refine lv_imul hx hb dX0_tryWord_27 ?_
        refine lv_topi (fun v78 ev78 => ?_)
        have qv78 : v78.toInt = x1.toInt * 16 := by rw [ev78]; exact th_mul rfl (by decide) ⟨by omega, by omega⟩
        refine lv_iload_n hx hb dX0_tryWord_28 rfl (lv_at hl 3 rfl) ?_
        refine lv_iadd hx hb dX0_tryWord_29 ?_
        refine lv_topi (fun v79 ev79 => ?_)
        have qv79 : v79.toInt = v78.toInt + w33.toInt := by rw [ev79]; exact th_add rfl rfl ⟨by omega, by omega⟩
        refine lv_istore (lv' := [(4, .int v79), (0, .ref a0), (1, .int x1), (2, .int w32), (3, .int w33)]) hx hb dX0_tryWord_30 hl (by decide) rfl (fun ls hl => ?_)
        refine lv_iload_n hx hb dX0_tryWord_32 rfl (lv_at hl 3 rfl) ?_
        refine lv_if_eq (tgt := 124) hx hb dX0_tryWord_33 (by decide) (fun c80 => ?_) (fun c80 => ?_)
        · have c80 := (ax_eq (n := 0) (by decide)).mp c80
          refine lv_aload_n hx hb dX0_tryWord_124 rfl (lv_at hl 1 rfl) ?_
          obtain ⟨z81, z83, z85, z87, z89, z91, z92, z94, z95, z97, z98, z100, z102, z104, o107, h82, h84, h86, h88, h90, h93, h96, h99, h101, h103, h105, h106, -⟩ := s_op1 hI ha0
          refine th_get (D := (dC, dI)) (ci := 0) (v := .ref z92) (C := RX0) (T := TX0) (N := 14) hx hb hts inX0 hown hK hP (hLK _ ha0 (by decide)) o107 rfl 6 (by decide) (hts _ T_149) (fun _ h9 => h9) rfl dX0_tryWord_125 ?_
          refine lv_iload hx hb dX0_tryWord_128 (lv_at hl 0 rfl) ?_
          refine lv_aload_n hx hb dX0_tryWord_130 rfl (lv_at hl 1 rfl) ?_
          refine th_get (D := (dC, dI)) (ci := 0) (v := .ref z92) (C := RX0) (T := TX0) (N := 14) hx hb hts inX0 hown hK hP (hLK _ ha0 (by decide)) o107 rfl 6 (by decide) (hts _ T_149) (fun _ h9 => h9) rfl dX0_tryWord_131 ?_
          refine lv_iload hx hb dX0_tryWord_134 (lv_at hl 0 rfl) ?_
          refine lv_iconst (v := 1) hx hb dX0_tryWord_136 (by decide) ?_
          refine lv_isub hx hb dX0_tryWord_137 ?_
          refine lv_topi (fun v108 ev108 => ?_)
          have qv108 : v108.toInt = v79.toInt - 1 := by rw [ev108]; exact th_sub rfl (by decide) ⟨by omega, by omega⟩
          obtain ⟨f109, o110, h111⟩ := s_op37 hI h93
          refine th_iald hx hb hK hP (hLK _ h93 (by decide)) 0 o110 rfl (th_in ⟨by omega, by omega⟩) dX0_tryWord_138 ?_
          refine lv_topi (fun v112 ev112 => ?_)
          obtain ⟨f113, o114, h115⟩ := s_op37 hI h93
          refine th_iast hx hb hK hP hD hS (hLK _ h93 (by decide)) 0 o114 rfl (th_in ⟨by omega, by omega⟩) dX0_tryWord_139 (fun H locs hP hS => ?_)
          have hP : va_P (dC, dI) vwCl (va_pl L (va_up F9 z92 (.inl (cs 0, 1024, .inl (upd f113 (v79 : Int32).toNatClampNeg v112))))) H := hP
          obtain ⟨F116, hF117⟩ : ∃ G : Nat → va_E, G = va_up F9 z92 (.inl (cs 0, 1024, .inl (upd f113 (v79 : Int32).toNatClampNeg v112))) := ⟨_, rfl⟩
          rw [← hF117] at hP
          have hI : s_I K cs D38 F116 := by rw [hF117]; exact s_cl37 hI h93 ⟨_, rfl, trivial⟩
          have hfr : ∀ b, K b ∉ [1, 2, 5, 6, 24, 27, 28, 29, 30, 31, 32, 34, 35, 37] → F116 b = F b := by rw [hF117]; exact s_fr hfr h93 (by decide)
          have o118 : F116 a0 = .inr (0, [.ref z81, .ref z83, .ref z85, .ref z87, .ref z89, .int z91, .ref z92, .long z94, .ref z95, .int z97, .ref z98, .int z100, .int z102, .int z104]) := by rw [hF117]; exact th_ne (th_kd ha0 h93 (by decide)) o107
          exact K140 _ _ _ ⟨F116, _, D38, w32, rfl, lv_sub hl [1, 2, 3, 4] rfl, by omega, hI, hP, hS, hfr, ⟨by omega, by omega⟩, ⟨by omega, by omega⟩, ⟨by omega, by omega⟩⟩
        · have c80 := mt (ax_eq (n := 0) (by decide)).mpr c80
          refine lv_aload_n hx hb dX0_tryWord_36 rfl (lv_at hl 1 rfl) ?_
          refine lv_aload_n hx hb dX0_tryWord_37 rfl (lv_at hl 1 rfl) ?_
          obtain ⟨z119, z121, z123, z125, z127, z129, z130, z132, z133, z135, z136, z138, z140, z142, o145, h120, h122, h124, h126, h128, h131, h134, h137, h139, h141, h143, h144, -⟩ := s_op1 hI ha0
          refine th_get (D := (dC, dI)) (ci := 0) (v := .int z138) (C := RX0) (T := TX0) (N := 14) hx hb hts inX0 hown hK hP (hLK _ ha0 (by decide)) o145 rfl 11 (by decide) (hts _ T_591) (fun _ h9 => h9) rfl dX0_tryWord_38 ?_
          refine lv_aload_n hx hb dX0_tryWord_41 rfl (lv_at hl 1 rfl) ?_
          refine th_get (D := (dC, dI)) (ci := 0) (v := .int z140) (C := RX0) (T := TX0) (N := 14) hx hb hts inX0 hown hK hP (hLK _ ha0 (by decide)) o145 rfl 12 (by decide) (hts _ T_592) (fun _ h9 => h9) rfl dX0_tryWord_42 ?_
          refine lv_aload_n hx hb dX0_tryWord_45 rfl (lv_at hl 1 rfl) ?_
          refine th_get (D := (dC, dI)) (ci := 0) (v := .int z142) (C := RX0) (T := TX0) (N := 14) hx hb hts inX0 hown hK hP (hLK _ ha0 (by decide)) o145 rfl 13 (by decide) (hts _ T_593) (fun _ h9 => h9) rfl dX0_tryWord_46 ?_
          refine va_callr (va_runV (As := [.int z138, .int z140, .int z142]) (rest := []) ⟨hx, hb, hml, hown, hts⟩ (s_X0_begun l dC dI H.size hLK D38 F9 a0 z138 z140 z142 ha0 (⟨by omega, by omega⟩) (⟨by omega, by omega⟩) (⟨by omega, by omega⟩) hI) (cwV 3 hts (ax_gV T_594 T_596 T_597 T_180 T_595) rfl rfl rfl (by decide +kernel) ⟨Nat.le_of_ble_eq_true rfl, Nat.le_of_ble_eq_true rfl⟩) ⟨fun a U g mk q => ⟨q.1, s_pc (U := U) rfl rfl q.2⟩, s_recv hK hP (hLK _ ha0 (by decide)) (ci := 0) rfl o145, fun U hU hW => ⟨rfl, s_pw hU hW hP hK hD hN⟩⟩ rfl rfl hl.1 rfl (lv_room (Nat.le_of_ble_eq_true rfl)) dX0_tryWord_49 ⟨Nat.zero_le _, Nat.zero_le _⟩) hS (fun q _ h => h) (fun q h => h) (fun F147 r146 t H1 locs ht hvm hw hB hz1 hk1 hS => ?_)
          obtain ⟨hk_r146, hP, hK1⟩ := hB
          rw [ht] at hP
          generalize H1 = H at hP hS ⊢
          clear hz1 hk1
          obtain ⟨h148, h149, hI, hfr1⟩ := hw
          have o150 : F147 a0 = .inr (0, [.ref z119, .ref z121, .ref z123, .ref z125, .ref z127, .int z129, .ref z130, .long z132, .ref z133, .int z135, .ref z136, .int z138, .int z140, .int z142]) := (hfr1 _ (by rw [ha0]; decide)).trans o145
          have hfr : ∀ b, K b ∉ [1, 2, 5, 6, 24, 27, 28, 29, 30, 31, 32, 34, 35, 37] → F147 b = F b := fun b hb9 => (hfr1 b (fun q => hb9 (s_sub (by decide) q))).trans (hfr b hb9)
          obtain ⟨z151, z153, z155, z157, z159, z161, z163, z165, z167, z169, z171, z173, z174, z176, z177, o179, h152, h154, h156, h158, h160, h162, h164, h166, h168, h170, h172, h175, h178, -⟩ := s_op5 hI hk_r146
          refine th_getN (D := (dC, dI)) (ci := 4) (v := .ref z153) (C := RX4) (T := TX4) (N := 15) hx hb hts inX4 hown hK hP (hLK _ hk_r146 (by decide)) o179 rfl 1 (by decide) (va_Nw.use rfl (ax_n16 hN)) (fun _ h9 => h9) rfl dX0_tryWord_52 ?_
          refine lv_iload_n hx hb dX0_tryWord_55 rfl (lv_at hl 2 rfl) ?_
          refine lv_iload_n hx hb dX0_tryWord_56 rfl (lv_at hl 4 rfl) ?_
          obtain ⟨f180, o181, h182⟩ := s_op24 hI h154
          refine th_iast hx hb hK hP hD hS (hLK _ h154 (by decide)) 0 o181 rfl (th_in ⟨by omega, by omega⟩) dX0_tryWord_57 (fun H locs hP hS => ?_)
          have hP : va_P (dC, dI) vwCl (va_pl L (va_up F147 z153 (.inl (cs 0, 64, .inl (upd f180 (x1 : Int32).toNatClampNeg w33))))) H := hP
          obtain ⟨F183, hF184⟩ : ∃ G : Nat → va_E, G = va_up F147 z153 (.inl (cs 0, 64, .inl (upd f180 (x1 : Int32).toNatClampNeg w33))) := ⟨_, rfl⟩
          rw [← hF184] at hP
          have hI : s_I K cs D38 F183 := by rw [hF184]; exact s_cl24 hI h154 ⟨_, rfl, trivial⟩
          have hfr : ∀ b, K b ∉ [1, 2, 5, 6, 24, 27, 28, 29, 30, 31, 32, 34, 35, 37] → F183 b = F b := by rw [hF184]; exact s_fr hfr h154 (by decide)
          have o185 : F183 a0 = .inr (0, [.ref z119, .ref z121, .ref z123, .ref z125, .ref z127, .int z129, .ref z130, .long z132, .ref z133, .int z135, .ref z136, .int z138, .int z140, .int z142]) := by rw [hF184]; exact th_ne (th_kd ha0 h154 (by decide)) o150
          have o186 : F183 r146 = .inr (4, [.ref z151, .ref z153, .ref z155, .ref z157, .ref z159, .ref z161, .ref z163, .int z165, .int z167, .int z169, .int z171, .int z173, .int z174, .int z176, .int z177]) := by rw [hF184]; exact th_ne (th_kd hk_r146 h154 (by decide)) o179
          refine lv_aload_n hx hb dX0_tryWord_58 rfl (lv_at hl 1 rfl) ?_
          refine th_get (D := (dC, dI)) (ci := 0) (v := .ref z119) (C := RX0) (T := TX0) (N := 14) hx hb hts inX0 hown hK hP (hLK _ ha0 (by decide)) o185 rfl 0 (by decide) (hts _ T_139) (fun _ h9 => h9) rfl dX0_tryWord_59 ?_
          refine lv_lconst (v := 0) hx hb dX0_tryWord_62 (by decide) ?_
          obtain ⟨z187, z189, z191, z193, z195, z197, z198, z200, z201, z202, z204, z205, o206, h188, h190, h192, h194, h196, h199, h203, -⟩ := s_op2 hI h120
          refine th_putN (D := (dC, dI)) (ci := 1) (v := .long 0) (ty := .long) (C := RX1) (T := TX1) (N := 12) hx hb hts inX1 tyX1 tyX1_ok nmX1 hown hK hP hD hS (hLK _ h120 (by decide)) o206 rfl 11 (by decide) (va_Nw.use rfl (ax_n17 hN)) (fun _ h9 => h9) rfl (by decide +kernel) rfl rfl (Nat.le_of_ble_eq_true rfl) dX0_tryWord_63 (fun H locs hP hS => ?_)
          have hP : va_P (dC, dI) vwCl (va_pl L (va_up F183 z119 (.inr (1, [.ref z187, .ref z189, .ref z191, va_rf z193, va_rf z195, va_rf z197, .int z198, .int z200, .int z201, .int z202, .int z204, .long 0])))) H := hP
          obtain ⟨F207, hF208⟩ : ∃ G : Nat → va_E, G = va_up F183 z119 (.inr (1, [.ref z187, .ref z189, .ref z191, va_rf z193, va_rf z195, va_rf z197, .int z198, .int z200, .int z201, .int z202, .int z204, .long 0])) := ⟨_, rfl⟩
          rw [← hF208] at hP
          have hI : s_I K cs D38 F207 := by rw [hF208]; exact s_cl2 hI h120 ⟨z187, z189, z191, z193, z195, z197, z198, z200, z201, z202, z204, 0, rfl, h188, h190, h192, h194, h196, ⟨by omega, by omega⟩, ⟨by omega, by omega⟩, trivial⟩
          have hfr : ∀ b, K b ∉ [1, 2, 5, 6, 24, 27, 28, 29, 30, 31, 32, 34, 35, 37] → F207 b = F b := by rw [hF208]; exact s_fr hfr h120 (by decide)
          have o209 : F207 a0 = .inr (0, [.ref z119, .ref z121, .ref z123, .ref z125, .ref z127, .int z129, .ref z130, .long z132, .ref z133, .int z135, .ref z136, .int z138, .int z140, .int z142]) := by rw [hF208]; exact th_ne (th_kd ha0 h120 (by decide)) o185
          have o210 : F207 r146 = .inr (4, [.ref z151, .ref z153, .ref z155, .ref z157, .ref z159, .ref z161, .ref z163, .int z165, .int z167, .int z169, .int z171, .int z173, .int z174, .int z176, .int z177]) := by rw [hF208]; exact th_ne (th_kd hk_r146 h120 (by decide)) o186
          have o211 : F207 z119 = .inr (1, [.ref z187, .ref z189, .ref z191, va_rf z193, va_rf z195, va_rf z197, .int z198, .int z200, .int z201, .int z202, .int z204, .long 0]) := by rw [hF208]; exact th_up
          refine lv_aload_n hx hb dX0_tryWord_66 rfl (lv_at hl 1 rfl) ?_
          refine lv_aload_n hx hb dX0_tryWord_67 rfl (lv_at hl 1 rfl) ?_
          refine th_get (D := (dC, dI)) (ci := 0) (v := .ref z121) (C := RX0) (T := TX0) (N := 14) hx hb hts inX0 hown hK hP (hLK _ ha0 (by decide)) o209 rfl 1 (by decide) (hts _ T_145) (fun _ h9 => h9) rfl dX0_tryWord_68 ?_
          refine va_calli (va_runV (As := [.ref z121]) (rest := []) ⟨hx, hb, hml, hown, hts⟩ (s_X0_cyclesToRest l dC dI H.size hLK D38 (D38 + 401) (Nat.le_refl _) (by omega) F207 a0 z121 ha0 h122 hI (s_PGt hI0 hfr (by decide) hPG)) (cwV 1 hts (ax_gV T_566 T_568 T_569 T_180 T_567) rfl rfl rfl (by decide +kernel) ⟨Nat.le_of_ble_eq_true rfl, Nat.le_of_ble_eq_true rfl⟩) ⟨fun a U g mk q => ⟨q.1, s_pc (U := U) rfl rfl q.2⟩, s_recv hK hP (hLK _ ha0 (by decide)) (ci := 0) rfl o209, fun U hU hW => ⟨rfl, s_pw hU hW hP hK hD hN⟩⟩ rfl rfl hl.1 rfl (lv_room (Nat.le_of_ble_eq_true rfl)) dX0_tryWord_71 ⟨Nat.zero_le _, Nat.zero_le _⟩) hS (fun q _ h => h) (fun q h => h) (fun r212 F213 t H1 locs ht hvm hw hB hz1 hk1 hS => ?_)
          obtain ⟨hP, hK1⟩ := hB
          rw [ht] at hP
          generalize H1 = H at hP hS ⊢
          clear hz1 hk1
          obtain ⟨h214, h215, hI, hfr1⟩ := hw
          have o216 : F213 a0 = .inr (0, [.ref z119, .ref z121, .ref z123, .ref z125, .ref z127, .int z129, .ref z130, .long z132, .ref z133, .int z135, .ref z136, .int z138, .int z140, .int z142]) := (hfr1 _ (by rw [ha0]; decide)).trans o209
          have hfr : ∀ b, K b ∉ [1, 2, 5, 6, 24, 27, 28, 29, 30, 31, 32, 34, 35, 37] → F213 b = F b := fun b hb9 => (hfr1 b (fun q => hb9 (s_sub (by decide) q))).trans (hfr b hb9)
          refine lv_istore (lv' := [(5, .int r212), (4, .int v79), (0, .ref a0), (1, .int x1), (2, .int w32), (3, .int w33)]) hx hb dX0_tryWord_74 hl (by decide) rfl (fun ls hl => ?_)
          refine lv_aload_n hx hb dX0_tryWord_76 rfl (lv_at hl 2 rfl) ?_
          refine th_get (D := (dC, dI)) (ci := 0) (v := .ref z130) (C := RX0) (T := TX0) (N := 14) hx hb hts inX0 hown hK hP (hLK _ ha0 (by decide)) o216 rfl 6 (by decide) (hts _ T_149) (fun _ h9 => h9) rfl dX0_tryWord_77 ?_
          refine lv_iload hx hb dX0_tryWord_80 (lv_at hl 1 rfl) ?_
          refine lv_aload_n hx hb dX0_tryWord_82 rfl (lv_at hl 2 rfl) ?_
          refine th_get (D := (dC, dI)) (ci := 0) (v := .ref z123) (C := RX0) (T := TX0) (N := 14) hx hb hts inX0 hown hK hP (hLK _ ha0 (by decide)) o216 rfl 2 (by decide) (hts _ T_146) (fun _ h9 => h9) rfl dX0_tryWord_83 ?_
          obtain ⟨z217, z219, z221, z223, z225, z227, z229, z231, z233, z235, z237, z239, z240, z242, z243, o245, h218, h220, h222, h224, h226, h228, h230, h232, h234, h236, h238, h241, h244, -⟩ := s_op5 hI h124
          refine va_calli (va_runV (As := []) (rest := [.int v79, .ref z130]) ⟨hx, hb, hml, hown, hts⟩ (s_X4_hasEnded l dC dI H.size hLK (D38 + 401) F213 z123 h124 hI) (cwV 0 hts (ax_gV T_570 T_572 T_573 T_142 T_571) rfl rfl rfl (by decide +kernel) ⟨Nat.le_of_ble_eq_true rfl, Nat.le_of_ble_eq_true rfl⟩) ⟨fun a U g mk q => ⟨q.1, s_pc (U := U) rfl rfl q.2⟩, s_recv hK hP (hLK _ h124 (by decide)) (ci := 4) rfl o245, fun U hU hW => ⟨rfl, s_pw hU hW hP hK hD hN⟩⟩ rfl rfl hl.1 rfl (lv_room (Nat.le_of_ble_eq_true rfl)) dX0_tryWord_86 ⟨Nat.zero_le _, Nat.zero_le _⟩) hS (fun q _ h => h) (fun q h => h) (fun r246 F247 t H1 locs ht hvm hw hB hz1 hk1 hS => ?_)
          obtain ⟨hP, hK1⟩ := hB
          rw [ht] at hP
          generalize H1 = H at hP hS ⊢
          clear hz1 hk1
          obtain ⟨h248, h249, hI, hfr1⟩ := hw
          have o250 : F247 a0 = .inr (0, [.ref z119, .ref z121, .ref z123, .ref z125, .ref z127, .int z129, .ref z130, .long z132, .ref z133, .int z135, .ref z136, .int z138, .int z140, .int z142]) := (hfr1 _ (by rw [ha0]; decide)).trans o216
          have o251 : F247 z123 = .inr (4, [.ref z217, .ref z219, .ref z221, .ref z223, .ref z225, .ref z227, .ref z229, .int z231, .int z233, .int z235, .int z237, .int z239, .int z240, .int z242, .int z243]) := (hfr1 _ (by rw [h124]; decide)).trans o245
          have hfr : ∀ b, K b ∉ [1, 2, 5, 6, 24, 27, 28, 29, 30, 31, 32, 34, 35, 37] → F247 b = F b := fun b hb9 => (hfr1 b (fun q => hb9 (s_sub (by decide) q))).trans (hfr b hb9)
          refine lv_if_eq (tgt := 97) hx hb dX0_tryWord_89 (by decide) (fun c252 => ?_) (fun c252 => ?_)
          · have c252 := (ax_eq (n := 0) (by decide)).mp c252
            refine lv_iconst (v := (-1)) hx hb dX0_tryWord_97 (by decide) ?_
            exact K98 _ _ _ ⟨F247, _, (D38 + 401), (-1), v79, z130, rfl, lv_sub hl [2, 3, 5] rfl, by omega, hI, hP, hS, hfr, (by decide), ⟨by omega, by omega⟩, h131, ⟨by omega, by omega⟩, ⟨by omega, by omega⟩⟩
          · have c252 := mt (ax_eq (n := 0) (by decide)).mpr c252
            refine lv_iload hx hb dX0_tryWord_92 (lv_at hl 0 rfl) ?_
            refine lv_goto (tgt := 98) hx hb dX0_tryWord_94 (by decide) ?_
            exact K98 _ _ _ ⟨F247, _, (D38 + 401), r212, v79, z130, rfl, lv_sub hl [2, 3, 5] rfl, by omega, hI, hP, hS, hfr, ⟨by omega, by omega⟩, ⟨by omega, by omega⟩, h131, ⟨by omega, by omega⟩, ⟨by omega, by omega⟩⟩
    · intro g H locs hq
      obtain ⟨F9, ls, D258, w42, w43, w44, rfl, hl, h259, hI, hP, hS, hfr, h253, h254, h255, h256, h257⟩ := hq
      obtain ⟨f260, o261, h262⟩ := s_op37 hI h255
      refine th_iast hx hb hK hP hD hS (hLK _ h255 (by decide)) 0 o261 rfl (th_in ⟨by omega, by omega⟩) dX0_tryWord_98 (fun H locs hP hS => ?_)
      have hP : va_P (dC, dI) vwCl (va_pl L (va_up F9 w44 (.inl (cs 0, 1024, .inl (upd f260 (w43 : Int32).toNatClampNeg w42))))) H := hP
      obtain ⟨F263, hF264⟩ : ∃ G : Nat → va_E, G = va_up F9 w44 (.inl (cs 0, 1024, .inl (upd f260 (w43 : Int32).toNatClampNeg w42))) := ⟨_, rfl⟩
      rw [← hF264] at hP
      have hI : s_I K cs D258 F263 := by rw [hF264]; exact s_cl37 hI h255 ⟨_, rfl, trivial⟩
      have hfr : ∀ b, K b ∉ [1, 2, 5, 6, 24, 27, 28, 29, 30, 31, 32, 34, 35, 37] → F263 b = F b := by rw [hF264]; exact s_fr hfr h255 (by decide)
      refine lv_aload_n hx hb dX0_tryWord_99 rfl (lv_at hl 0 rfl) ?_
      obtain ⟨z265, z267, z269, z271, z273, z275, z276, z278, z279, z281, z282, z284, z286, z288, o291, h266, h268, h270, h272, h274, h277, h280, h283, h285, h287, h289, h290, -⟩ := s_op1 hI ha0
      refine th_get (D := (dC, dI)) (ci := 0) (v := .ref z265) (C := RX0) (T := TX0) (N := 14) hx hb hts inX0 hown hK hP (hLK _ ha0 (by decide)) o291 rfl 0 (by decide) (hts _ T_139) (fun _ h9 => h9) rfl dX0_tryWord_100 ?_
      obtain ⟨z292, z294, z296, z298, z300, z302, z303, z305, z306, z307, z309, z310, o311, h293, h295, h297, h299, h301, h304, h308, -⟩ := s_op2 hI h266
      refine th_getN (D := (dC, dI)) (ci := 1) (v := .long z310) (C := RX1) (T := TX1) (N := 12) hx hb hts inX1 hown hK hP (hLK _ h266 (by decide)) o311 rfl 11 (by decide) (va_Nw.use rfl (ax_n17 hN)) (fun _ h9 => h9) rfl dX0_tryWord_103 ?_
      refine lv_iload_n hx hb dX0_tryWord_106 rfl (lv_at hl 1 rfl) ?_
      refine lv_lshr hx hb dX0_tryWord_107 rfl ?_
      refine lv_topl (fun v312 _ => ?_)
      refine lv_lconst (v := 1) hx hb dX0_tryWord_108 (by decide) ?_
      refine lv_land hx hb dX0_tryWord_109 ?_
      refine lv_topl (fun v313 ev313 => ?_)
      refine lv_lconst (v := 0) hx hb dX0_tryWord_110 (by decide) ?_
      refine W.lcmp hx hb dX0_tryWord_111 ?_
      refine lv_topi (fun v314 _ => ?_)
      refine lv_if_eq (tgt := 119) hx hb dX0_tryWord_112 (by decide) (fun c315 => ?_) (fun c315 => ?_)
      · have c315 := (ax_eq (n := 0) (by decide)).mp c315
        refine lv_iconst (v := 0) hx hb dX0_tryWord_119 (by decide) ?_
        exact K120 _ _ _ ⟨F263, _, D258, 0, rfl, lv_sub hl [0, 1, 2] rfl, by omega, hI, hP, hS, hfr, (by decide), ⟨by omega, by omega⟩, ⟨by omega, by omega⟩⟩
      · have c315 := mt (ax_eq (n := 0) (by decide)).mpr c315
        refine lv_iconst (v := 1) hx hb dX0_tryWord_115 (by decide) ?_
        refine lv_goto (tgt := 120) hx hb dX0_tryWord_116 (by decide) ?_
        exact K120 _ _ _ ⟨F263, _, D258, 1, rfl, lv_sub hl [0, 1, 2] rfl, by omega, hI, hP, hS, hfr, (by decide), ⟨by omega, by omega⟩, ⟨by omega, by omega⟩⟩
    · intro g H locs hq
      obtain ⟨F9, ls, D319, w41, rfl, hl, h320, hI, hP, hS, hfr, h316, h317, h318⟩ := hq
      refine lv_istore_n (lv' := [(2, .int w41), (0, .ref a0), (1, .int x1), (3, .int w33)]) hx hb dX0_tryWord_120 rfl hl (by decide) rfl (fun ls hl => ?_)
      refine lv_goto (tgt := 140) hx hb dX0_tryWord_121 (by decide) ?_
      exact K140 _ _ _ ⟨F9, _, D319, w41, rfl, lv_sub hl [1, 2, 0, 3] rfl, by omega, hI, hP, hS, hfr, ⟨by omega, by omega⟩, ⟨by omega, by omega⟩, ⟨by omega, by omega⟩⟩
    · intro g H locs hq
      obtain ⟨F9, ls, D324, w40, rfl, hl, h325, hI, hP, hS, hfr, h321, h322, h323⟩ := hq
      obtain ⟨v326, ev326⟩ : ∃ y : Int32, w33 + 1 = y := ⟨_, rfl⟩
      have qv326 : v326.toInt = w33.toInt + 1 := by rw [← ev326]; exact th_add rfl (by decide) ⟨by omega, by omega⟩
      refine lv_iinc (v := v326) (lv' := [(3, .int v326), (0, .ref a0), (1, .int x1), (2, .int w40)]) hx hb dX0_tryWord_140 hl (k := 3) rfl ev326 (by decide) rfl (fun ls hl => ?_)
      refine lv_goto (tgt := 18) hx hb dX0_tryWord_143 (by decide) ?_
      exact ih18 _ _ _ _ (by omega) ⟨F9, _, D324, w40, v326, rfl, lv_sub hl [1, 2, 3, 0] rfl, by omega, hI, hP, hS, hfr, ⟨by omega, by omega⟩, ⟨by omega, by omega⟩, ⟨by omega, by omega⟩, (by first | exact Or.inl (by decide) | exact Or.inr (by omega)), rfl⟩
  · have c31 := mt (ax_eq (n := 0) (by decide)).mpr c31
    exact W.vret hx hb hr (fun t ht hW => ⟨⟨F, rfl, ⟨trivial, trivial, (s_mono (by omega) hI), hfr⟩, by rw [ht]; exact hP, va_K.moved hW.alike hK⟩, hS.F ht⟩) hS.2.2 dX0_tryWord_13

set_option maxHeartbeats 4000000 in
set_option maxRecDepth 100000 in
theorem s_X0_tryLane (l : Launch) (dC : Nat → ClassId) (dI : Nat → Nat → Nat) (sz : Nat) {L : List Nat} {K : Nat → Nat} {cs : Nat → ClassId} (hLK : ∀ a {k : Nat}, K a = k → k ≠ 0 → a ∈ L) (D : Nat) (Dm : Nat) (hDm : D + 401 ≤ Dm) (hDM : Dm < 2147483647) (F : Nat → va_E) (a0 : Nat) (x1 : Int32) (x2 : Int32) (ha0 : K a0 = 1) (hx1 : 0 ≤ x1.toInt ∧ x1.toInt ≤ 3) (hx2 : 0 ≤ x2.toInt ∧ x2.toInt ≤ 7) (hI : s_I K cs D F) (hPG : s_PG K cs F) : Met l yX0_tryLane (Cond.code yX0_tryLane cX0_tryLane 8 none :: T0) ({ frames := 6, cells := 0, slots := 0, locals := 136 }) (va_Pc [.ref a0, .int x1, .int x2] (s_W dC dI sz L F [(cs 0, .int), (cs 1, .byte), (cs 2, .long), (cs 3, .object RX5), (cs 4, .object RX4), (cs 5, .array .int), (cs 6, .char), (cs 7, .boolean)])) (va_Qv (fun (G : Nat → va_E) => True ∧ True ∧ s_I K cs Dm G ∧ ∀ b, K b ∉ [1, 2, 5, 6, 24, 27, 28, 29, 30, 31, 32, 34, 35, 38] → G b = F b) (fun (G : Nat → va_E) (t : State) => va_P (dC, dI) vwCl (va_pl L G) t.heap ∧ va_K (dC, dI) vwCl [(cs 0, .int), (cs 1, .byte), (cs 2, .long), (cs 3, .object RX5), (cs 4, .object RX4), (cs 5, .array .int), (cs 6, .char), (cs 7, .boolean)] t) (fun q => q ∈ L)) 0 0 (fun q => q ∈ L) := by
  refine Met.ofW (cc := cX0_tryLane) (maxL := 8) (ret := none) (by decide) rfl ?_
  intro p e s m args below meth c s₁ B hml hv
  obtain ⟨rfl, hsz, hP, hK, hD, hN⟩ := hv
  have hx := B.exec
  have hb := B.bytes
  have hr := B.returns
  have hts : ∀ w ∈ T0, w.before _ s = true := fun w h => atoms_spec (ws := Cond.code yX0_tryLane cX0_tryLane 8 none :: T0) B.pre w (List.mem_cons_of_mem _ h)
  have hown : s.vm.findClass RX0 = some m.cls := findClass_of_methodNamed B.named
  have hlocks := B.notSynchronized
  have hS : va_S (fun q => q ∈ L) s.heap s.heap [] := va_S.rf
  have hfr : ∀ b, K b ∉ [1, 2, 5, 6, 24, 27, 28, 29, 30, 31, 32, 34, 35, 38] → F b = F b := fun _ _ => rfl
  have hl := lv_entry ([.ref a0, .int x1, .int x2]) (n := 8) (Nat.le_of_ble_eq_true rfl)
  rw [lg_entry_eq]
  generalize (lg_sl ([.ref a0, .int x1, .int x2]) ++ List.replicate (8 - (lg_sl ([.ref a0, .int x1, .int x2])).length) Slot.unset).toArray = ls at hl ⊢
  have hl : lv_has ls 8 [(0, .ref a0), (1, .int x1), (2, .int x2)] := hl
  have hI0 := hI
  refine s_gen hP hS (fun H locs hP hS => ?_)
  refine th_join (fun g H locs => ∃ (G : Nat → va_E) (ls : Array Slot) (Dn : Nat) (w1 : Int32) (w2 : Int32) (w3 : Int32) (w4 : Nat), g = F0 m 145 ls [.int w2, .int w3, .ref w4] ∧ lv_has ls 8 [(0, .ref a0), (3, .int w1)] ∧ Dn + 0 ≤ Dm ∧ s_I K cs Dn G ∧ va_P (dC, dI) vwCl (va_pl L G) H ∧ va_S (fun q => q ∈ L) s.heap H locs ∧ (∀ b, K b ∉ [1, 2, 5, 6, 24, 27, 28, 29, 30, 31, 32, 34, 35, 38] → G b = F b) ∧ (0 ≤ w1.toInt ∧ w1.toInt ≤ 31) ∧ (-1000000 ≤ w2.toInt ∧ w2.toInt ≤ 400) ∧ (4 ≤ w3.toInt ∧ w3.toInt ≤ 159) ∧ K w4 = 38) (fun K145 => ?_) ?_
  · refine lv_iload_n hx hb dX0_tryLane_0 rfl (lv_at hl 1 rfl) ?_
    refine lv_bipush (v := 8) hx hb dX0_tryLane_1 (by decide) ?_
    refine lv_imul hx hb dX0_tryLane_3 ?_
    refine lv_topi (fun v5 ev5 => ?_)
    have qv5 : v5.toInt = x1.toInt * 8 := by rw [ev5]; exact th_mul rfl (by decide) ⟨by omega, by omega⟩
    refine lv_iload_n hx hb dX0_tryLane_4 rfl (lv_at hl 2 rfl) ?_
    refine lv_iadd hx hb dX0_tryLane_5 ?_
    refine lv_topi (fun v6 ev6 => ?_)
    have qv6 : v6.toInt = v5.toInt + x2.toInt := by rw [ev6]; exact th_add rfl rfl ⟨by omega, by omega⟩
    refine lv_istore_n (lv' := [(3, .int v6), (0, .ref a0), (1, .int x1), (2, .int x2)]) hx hb dX0_tryLane_6 rfl hl (by decide) rfl (fun ls hl => ?_)
    refine lv_aload_n hx hb dX0_tryLane_7 rfl (lv_at hl 1 rfl) ?_
    obtain ⟨z7, z9, z11, z13, z15, z17, z18, z20, z21, z23, z24, z26, z28, z30, o33, h8, h10, h12, h14, h16, h19, h22, h25, h27, h29, h31, h32, -⟩ := s_op1 hI ha0
    refine th_get (D := (dC, dI)) (ci := 0) (v := .int z23) (C := RX0) (T := TX0) (N := 14) hx hb hts inX0 hown hK hP (hLK _ ha0 (by decide)) o33 rfl 9 (by decide) (hts _ T_157) (fun _ h9 => h9) rfl dX0_tryLane_8 ?_
    refine lv_iload_n hx hb dX0_tryLane_11 rfl (lv_at hl 0 rfl) ?_
    refine lv_ishr hx hb dX0_tryLane_12 ?_
    refine lv_topi (fun v34 ev34 => ?_)
    refine lv_iconst (v := 1) hx hb dX0_tryLane_13 (by decide) ?_
    refine lv_iand hx hb dX0_tryLane_14 ?_
    refine lv_topi (fun v35 ev35 => ?_)
    have qv35 : 0 ≤ v35.toInt ∧ v35.toInt ≤ 1 := by rw [ev35]; exact th_and 1 (by decide) (by decide)
    refine lv_if_eq (tgt := 19) hx hb dX0_tryLane_15 (by decide) (fun c36 => ?_) (fun c36 => ?_)
    · have c36 := (ax_eq (n := 0) (by decide)).mp c36
      refine lv_aload_n hx hb dX0_tryLane_19 rfl (lv_at hl 1 rfl) ?_
      refine lv_aload_n hx hb dX0_tryLane_20 rfl (lv_at hl 1 rfl) ?_
      refine th_get (D := (dC, dI)) (ci := 0) (v := .int z26) (C := RX0) (T := TX0) (N := 14) hx hb hts inX0 hown hK hP (hLK _ ha0 (by decide)) o33 rfl 11 (by decide) (hts _ T_591) (fun _ h9 => h9) rfl dX0_tryLane_21 ?_
      refine lv_aload_n hx hb dX0_tryLane_24 rfl (lv_at hl 1 rfl) ?_
      refine th_get (D := (dC, dI)) (ci := 0) (v := .int z28) (C := RX0) (T := TX0) (N := 14) hx hb hts inX0 hown hK hP (hLK _ ha0 (by decide)) o33 rfl 12 (by decide) (hts _ T_592) (fun _ h9 => h9) rfl dX0_tryLane_25 ?_
      refine lv_aload_n hx hb dX0_tryLane_28 rfl (lv_at hl 1 rfl) ?_
      refine th_get (D := (dC, dI)) (ci := 0) (v := .int z30) (C := RX0) (T := TX0) (N := 14) hx hb hts inX0 hown hK hP (hLK _ ha0 (by decide)) o33 rfl 13 (by decide) (hts _ T_593) (fun _ h9 => h9) rfl dX0_tryLane_29 ?_
      refine va_callr (va_runV (As := [.int z26, .int z28, .int z30]) (rest := []) ⟨hx, hb, hml, hown, hts⟩ (s_X0_begun l dC dI H.size hLK D F a0 z26 z28 z30 ha0 (⟨by omega, by omega⟩) (⟨by omega, by omega⟩) (⟨by omega, by omega⟩) hI) (cwV 3 hts (ax_gV T_594 T_596 T_597 T_180 T_595) rfl rfl rfl (by decide +kernel) ⟨Nat.le_of_ble_eq_true rfl, Nat.le_of_ble_eq_true rfl⟩) ⟨fun a U g mk q => ⟨q.1, s_pc (U := U) rfl rfl q.2⟩, s_recv hK hP (hLK _ ha0 (by decide)) (ci := 0) rfl o33, fun U hU hW => ⟨rfl, s_pw hU hW hP hK hD hN⟩⟩ rfl rfl hl.1 rfl (lv_room (Nat.le_of_ble_eq_true rfl)) dX0_tryLane_32 ⟨Nat.zero_le _, Nat.zero_le _⟩) hS (fun q _ h => h) (fun q h => h) (fun F38 r37 t H1 locs ht hvm hw hB hz1 hk1 hS => ?_)
      obtain ⟨hk_r37, hP, hK1⟩ := hB
      rw [ht] at hP
      generalize H1 = H at hP hS ⊢
      clear hz1 hk1
      obtain ⟨h39, h40, hI, hfr1⟩ := hw
      have o41 : F38 a0 = .inr (0, [.ref z7, .ref z9, .ref z11, .ref z13, .ref z15, .int z17, .ref z18, .long z20, .ref z21, .int z23, .ref z24, .int z26, .int z28, .int z30]) := (hfr1 _ (by rw [ha0]; decide)).trans o33
      have hfr : ∀ b, K b ∉ [1, 2, 5, 6, 24, 27, 28, 29, 30, 31, 32, 34, 35, 38] → F38 b = F b := fun b hb9 => (hfr1 b (fun q => hb9 (s_sub (by decide) q))).trans (hfr b hb9)
      refine lv_iload_n hx hb dX0_tryLane_35 rfl (lv_at hl 2 rfl) ?_
      refine lv_iload_n hx hb dX0_tryLane_36 rfl (lv_at hl 3 rfl) ?_
      refine lv_aload_n hx hb dX0_tryLane_37 rfl (lv_at hl 1 rfl) ?_
      refine th_get (D := (dC, dI)) (ci := 0) (v := .ref z24) (C := RX0) (T := TX0) (N := 14) hx hb hts inX0 hown hK hP (hLK _ ha0 (by decide)) o41 rfl 10 (by decide) (hts _ T_151) (fun _ h9 => h9) rfl dX0_tryLane_38 ?_
      obtain ⟨z42, z44, z46, z48, z50, z52, z53, o54, h43, h45, h47, h49, h51, -⟩ := s_op3 hI h25
      refine th_getN (D := (dC, dI)) (ci := 2) (v := .int z48) (C := RX2) (T := TX2) (N := 7) hx hb hts inX2 hown hK hP (hLK _ h25 (by decide)) o54 rfl 3 (by decide) (va_Nw.use rfl (ax_n13 hN)) (fun _ h9 => h9) rfl dX0_tryLane_41 ?_
      obtain ⟨z55, z57, z59, z61, z63, z65, z67, z69, z71, z73, z75, z77, z78, z80, z81, o83, h56, h58, h60, h62, h64, h66, h68, h70, h72, h74, h76, h79, h82, -⟩ := s_op5 hI hk_r37
      refine va_callv (va_runV (As := [.int x1, .int x2, .int z48]) (rest := []) ⟨hx, hb, hml, hown, hts⟩ (s_X4_leaveAlone l dC dI H.size hLK D F38 r37 x1 x2 z48 hk_r37 hI) (cwV 3 hts (ax_gV T_598 T_600 T_601 T_142 T_599) rfl rfl rfl (by decide +kernel) ⟨Nat.le_of_ble_eq_true rfl, Nat.le_of_ble_eq_true rfl⟩) ⟨fun a U g mk q => ⟨q.1, s_pc (U := U) rfl rfl q.2⟩, s_recv hK hP (hLK _ hk_r37 (by decide)) (ci := 4) rfl o83, fun U hU hW => ⟨rfl, s_pw hU hW hP hK hD hN⟩⟩ rfl rfl hl.1 rfl (lv_room (Nat.le_of_ble_eq_true rfl)) dX0_tryLane_44 ⟨Nat.zero_le _, Nat.zero_le _⟩) hS (fun q _ h => h) (fun q h => h) (fun F84 t H1 locs ht hvm hw hB hz1 hk1 hS => ?_)
      obtain ⟨hP, hK1⟩ := hB
      rw [ht] at hP
      generalize H1 = H at hP hS ⊢
      clear hz1 hk1
      obtain ⟨h85, h86, hI, hfr1⟩ := hw
      have o87 : F84 a0 = .inr (0, [.ref z7, .ref z9, .ref z11, .ref z13, .ref z15, .int z17, .ref z18, .long z20, .ref z21, .int z23, .ref z24, .int z26, .int z28, .int z30]) := (hfr1 _ (by rw [ha0]; decide)).trans o41
      have o88 : F84 z24 = .inr (2, [.ref z42, .ref z44, .ref z46, .int z48, .int z50, .int z52, .int z53]) := (hfr1 _ (by rw [h25]; decide)).trans o54
      have o89 : F84 r37 = .inr (4, [.ref z55, .ref z57, .ref z59, .ref z61, .ref z63, .ref z65, .ref z67, .int z69, .int z71, .int z73, .int z75, .int z77, .int z78, .int z80, .int z81]) := (hfr1 _ (by rw [hk_r37]; decide)).trans o83
      have hfr : ∀ b, K b ∉ [1, 2, 5, 6, 24, 27, 28, 29, 30, 31, 32, 34, 35, 38] → F84 b = F b := fun b hb9 => (hfr1 b (fun q => hb9 (s_sub (by decide) q))).trans (hfr b hb9)
      refine lv_aload_n hx hb dX0_tryLane_47 rfl (lv_at hl 1 rfl) ?_
      refine lv_aload_n hx hb dX0_tryLane_48 rfl (lv_at hl 1 rfl) ?_
      refine th_get (D := (dC, dI)) (ci := 0) (v := .ref z9) (C := RX0) (T := TX0) (N := 14) hx hb hts inX0 hown hK hP (hLK _ ha0 (by decide)) o87 rfl 1 (by decide) (hts _ T_145) (fun _ h9 => h9) rfl dX0_tryLane_49 ?_
      refine va_calli (va_runV (As := [.ref z9]) (rest := []) ⟨hx, hb, hml, hown, hts⟩ (s_X0_cyclesToRest l dC dI H.size hLK D (D + 401) (Nat.le_refl _) (by omega) F84 a0 z9 ha0 h10 hI (s_PGt hI0 hfr (by decide) hPG)) (cwV 1 hts (ax_gV T_566 T_568 T_569 T_180 T_567) rfl rfl rfl (by decide +kernel) ⟨Nat.le_of_ble_eq_true rfl, Nat.le_of_ble_eq_true rfl⟩) ⟨fun a U g mk q => ⟨q.1, s_pc (U := U) rfl rfl q.2⟩, s_recv hK hP (hLK _ ha0 (by decide)) (ci := 0) rfl o87, fun U hU hW => ⟨rfl, s_pw hU hW hP hK hD hN⟩⟩ rfl rfl hl.1 rfl (lv_room (Nat.le_of_ble_eq_true rfl)) dX0_tryLane_52 ⟨Nat.zero_le _, Nat.zero_le _⟩) hS (fun q _ h => h) (fun q h => h) (fun r90 F91 t H1 locs ht hvm hw hB hz1 hk1 hS => ?_)
      obtain ⟨hP, hK1⟩ := hB
      rw [ht] at hP
      generalize H1 = H at hP hS ⊢
      clear hz1 hk1
      obtain ⟨h92, h93, hI, hfr1⟩ := hw
      have o94 : F91 a0 = .inr (0, [.ref z7, .ref z9, .ref z11, .ref z13, .ref z15, .int z17, .ref z18, .long z20, .ref z21, .int z23, .ref z24, .int z26, .int z28, .int z30]) := (hfr1 _ (by rw [ha0]; decide)).trans o87
      have o95 : F91 z24 = .inr (2, [.ref z42, .ref z44, .ref z46, .int z48, .int z50, .int z52, .int z53]) := (hfr1 _ (by rw [h25]; decide)).trans o88
      have hfr : ∀ b, K b ∉ [1, 2, 5, 6, 24, 27, 28, 29, 30, 31, 32, 34, 35, 38] → F91 b = F b := fun b hb9 => (hfr1 b (fun q => hb9 (s_sub (by decide) q))).trans (hfr b hb9)
      refine lv_istore (lv' := [(4, .int r90), (3, .int v6), (0, .ref a0), (1, .int x1), (2, .int x2)]) hx hb dX0_tryLane_55 hl (by decide) rfl (fun ls hl => ?_)
      refine lv_aload_n hx hb dX0_tryLane_57 rfl (lv_at hl 2 rfl) ?_
      refine th_get (D := (dC, dI)) (ci := 0) (v := .ref z11) (C := RX0) (T := TX0) (N := 14) hx hb hts inX0 hown hK hP (hLK _ ha0 (by decide)) o94 rfl 2 (by decide) (hts _ T_146) (fun _ h9 => h9) rfl dX0_tryLane_58 ?_
      obtain ⟨z96, z98, z100, z102, z104, z106, z108, z110, z112, z114, z116, z118, z119, z121, z122, o124, h97, h99, h101, h103, h105, h107, h109, h111, h113, h115, h117, h120, h123, -⟩ := s_op5 hI h12
      refine va_calli (va_runV (As := []) (rest := []) ⟨hx, hb, hml, hown, hts⟩ (s_X4_hasEnded l dC dI H.size hLK (D + 401) F91 z11 h12 hI) (cwV 0 hts (ax_gV T_570 T_572 T_573 T_142 T_571) rfl rfl rfl (by decide +kernel) ⟨Nat.le_of_ble_eq_true rfl, Nat.le_of_ble_eq_true rfl⟩) ⟨fun a U g mk q => ⟨q.1, s_pc (U := U) rfl rfl q.2⟩, s_recv hK hP (hLK _ h12 (by decide)) (ci := 4) rfl o124, fun U hU hW => ⟨rfl, s_pw hU hW hP hK hD hN⟩⟩ rfl rfl hl.1 rfl (lv_room (Nat.le_of_ble_eq_true rfl)) dX0_tryLane_61 ⟨Nat.zero_le _, Nat.zero_le _⟩) hS (fun q _ h => h) (fun q h => h) (fun r125 F126 t H1 locs ht hvm hw hB hz1 hk1 hS => ?_)
      obtain ⟨hP, hK1⟩ := hB
      rw [ht] at hP
      generalize H1 = H at hP hS ⊢
      clear hz1 hk1
      obtain ⟨h127, h128, hI, hfr1⟩ := hw
      have o129 : F126 a0 = .inr (0, [.ref z7, .ref z9, .ref z11, .ref z13, .ref z15, .int z17, .ref z18, .long z20, .ref z21, .int z23, .ref z24, .int z26, .int z28, .int z30]) := (hfr1 _ (by rw [ha0]; decide)).trans o94
      have o130 : F126 z24 = .inr (2, [.ref z42, .ref z44, .ref z46, .int z48, .int z50, .int z52, .int z53]) := (hfr1 _ (by rw [h25]; decide)).trans o95
      have o131 : F126 z11 = .inr (4, [.ref z96, .ref z98, .ref z100, .ref z102, .ref z104, .ref z106, .ref z108, .int z110, .int z112, .int z114, .int z116, .int z118, .int z119, .int z121, .int z122]) := (hfr1 _ (by rw [h12]; decide)).trans o124
      have hfr : ∀ b, K b ∉ [1, 2, 5, 6, 24, 27, 28, 29, 30, 31, 32, 34, 35, 38] → F126 b = F b := fun b hb9 => (hfr1 b (fun q => hb9 (s_sub (by decide) q))).trans (hfr b hb9)
      refine lv_istore (lv' := [(5, .int r125), (4, .int r90), (3, .int v6), (0, .ref a0), (1, .int x1), (2, .int x2)]) hx hb dX0_tryLane_64 hl (by decide) rfl (fun ls hl => ?_)
      refine lv_iload_n hx hb dX0_tryLane_66 rfl (lv_at hl 2 rfl) ?_
      refine lv_iconst (v := 5) hx hb dX0_tryLane_67 (by decide) ?_
      refine lv_imul hx hb dX0_tryLane_68 ?_
      refine lv_topi (fun v132 ev132 => ?_)
      have qv132 : v132.toInt = v6.toInt * 5 := by rw [ev132]; exact th_mul rfl (by decide) ⟨by omega, by omega⟩
      refine lv_istore (lv' := [(6, .int v132), (5, .int r125), (4, .int r90), (3, .int v6), (0, .ref a0), (1, .int x1), (2, .int x2)]) hx hb dX0_tryLane_69 hl (by decide) rfl (fun ls hl => ?_)
      refine lv_iconst (v := 0) hx hb dX0_tryLane_71 (by decide) ?_
      refine lv_istore (lv' := [(7, .int 0), (6, .int v132), (5, .int r125), (4, .int r90), (3, .int v6), (0, .ref a0), (1, .int x1), (2, .int x2)]) hx hb dX0_tryLane_72 hl (by decide) rfl (fun ls hl => ?_)
      refine th_loop (fun n g H locs => ∃ (G : Nat → va_E) (ls : Array Slot) (Dn : Nat) (w133 : Int32), g = F0 m 74 ls [] ∧ lv_has ls 8 [(0, .ref a0), (1, .int x1), (2, .int x2), (3, .int v6), (4, .int r90), (5, .int r125), (6, .int v132), (7, .int w133)] ∧ Dn + 0 * n + 0 ≤ Dm ∧ s_I K cs Dn G ∧ va_P (dC, dI) vwCl (va_pl L G) H ∧ va_S (fun q => q ∈ L) s.heap H locs ∧ (∀ b, K b ∉ [1, 2, 5, 6, 24, 27, 28, 29, 30, 31, 32, 34, 35, 38] → G b = F b) ∧ (0 ≤ w133.toInt ∧ w133.toInt ≤ 4) ∧ (0 ≤ x1.toInt ∧ x1.toInt ≤ 3) ∧ (0 ≤ x2.toInt ∧ x2.toInt ≤ 7) ∧ (0 ≤ v6.toInt ∧ v6.toInt ≤ 31) ∧ (-1 ≤ r90.toInt ∧ r90.toInt ≤ 400) ∧ (0 ≤ r125.toInt ∧ r125.toInt ≤ 1) ∧ (0 ≤ v132.toInt ∧ v132.toInt ≤ 155) ∧ n = (5 - w133.toInt).toNat) _ ⟨F126, _, (D + 401), 0, rfl, lv_sub hl [5, 6, 7, 4, 3, 2, 1, 0] rfl, by have q7a : (0 : Int32).toInt = 0 := (by decide); omega, hI, hP, hS, hfr, (by decide), ⟨by omega, by omega⟩, ⟨by omega, by omega⟩, ⟨by omega, by omega⟩, ⟨by omega, by omega⟩, ⟨by omega, by omega⟩, ⟨by omega, by omega⟩, rfl⟩ (fun n ih74 g H locs hq => ?_)
      obtain ⟨F9, ls, D141, w133, rfl, hl, h142, hI, hP, hS, hfr, h134, h135, h136, h137, h138, h139, h140, hn⟩ := hq
      have hn_74 := hn
      obtain ⟨n_74, hn9_74⟩ : ∃ q, q = n := ⟨_, rfl⟩
      refine th_join (fun g H locs => ∃ (G : Nat → va_E) (ls : Array Slot) (Dn : Nat) (w143 : Int32) (w144 : Int32) (w145 : Nat), g = F0 m 118 ls [.int w143, .int w144, .ref w145] ∧ lv_has ls 8 [(0, .ref a0), (1, .int x1), (2, .int x2), (3, .int v6), (4, .int r90), (5, .int r125), (6, .int v132), (7, .int w133)] ∧ Dn + 0 + 0 * (n_74 - 1) + 0 ≤ Dm ∧ s_I K cs Dn G ∧ va_P (dC, dI) vwCl (va_pl L G) H ∧ va_S (fun q => q ∈ L) s.heap H locs ∧ (∀ b, K b ∉ [1, 2, 5, 6, 24, 27, 28, 29, 30, 31, 32, 34, 35, 38] → G b = F b) ∧ True ∧ (0 ≤ w144.toInt ∧ w144.toInt ≤ 158) ∧ K w145 = 38 ∧ (0 ≤ x1.toInt ∧ x1.toInt ≤ 3) ∧ (0 ≤ x2.toInt ∧ x2.toInt ≤ 7) ∧ (0 ≤ v6.toInt ∧ v6.toInt ≤ 31) ∧ (-1 ≤ r90.toInt ∧ r90.toInt ≤ 400) ∧ (0 ≤ r125.toInt ∧ r125.toInt ≤ 1) ∧ (0 ≤ v132.toInt ∧ v132.toInt ≤ 155) ∧ (0 ≤ w133.toInt ∧ w133.toInt ≤ 3)) (fun K118 => ?_) ?_
      · refine lv_iload hx hb dX0_tryLane_74 (lv_at hl 7 rfl) ?_
        refine lv_iconst (v := 4) hx hb dX0_tryLane_76 (by decide) ?_
        refine lv_icmp_ge (tgt := 125) hx hb dX0_tryLane_77 (by decide) (fun c146 => ?_) (fun c146 => ?_)
        · have c146 := (ax_ge (n := 4) (by decide)).mp c146
          refine lv_aload_n hx hb dX0_tryLane_125 rfl (lv_at hl 0 rfl) ?_
          obtain ⟨z147, z149, z151, z153, z155, z157, z158, z160, z161, z163, z164, z166, z168, z170, o173, h148, h150, h152, h154, h156, h159, h162, h165, h167, h169, h171, h172, -⟩ := s_op1 hI ha0
          refine th_get (D := (dC, dI)) (ci := 0) (v := .ref z161) (C := RX0) (T := TX0) (N := 14) hx hb hts inX0 hown hK hP (hLK _ ha0 (by decide)) o173 rfl 8 (by decide) (hts _ T_150) (fun _ h9 => h9) rfl dX0_tryLane_126 ?_
          refine lv_iload hx hb dX0_tryLane_129 (lv_at hl 6 rfl) ?_
          refine lv_iconst (v := 4) hx hb dX0_tryLane_131 (by decide) ?_
          refine lv_iadd hx hb dX0_tryLane_132 ?_
          refine lv_topi (fun v174 ev174 => ?_)
          have qv174 : v174.toInt = v132.toInt + 4 := by rw [ev174]; exact th_add rfl (by decide) ⟨by omega, by omega⟩
          refine lv_iload hx hb dX0_tryLane_133 (lv_at hl 5 rfl) ?_
          refine lv_if_eq (tgt := 143) hx hb dX0_tryLane_135 (by decide) (fun c175 => ?_) (fun c175 => ?_)
          · have c175 := (ax_eq (n := 0) (by decide)).mp c175
            refine lv_ldc (v := (-1000000)) hx hb hown (hts _ T_602) dX0_tryLane_143 ?_
            exact K145 _ _ _ ⟨F9, _, D141, v6, (-1000000), v174, z161, rfl, lv_sub hl [0, 3] rfl, by omega, hI, hP, hS, hfr, ⟨by omega, by omega⟩, (by decide), ⟨by omega, by omega⟩, h162⟩
          · have c175 := mt (ax_eq (n := 0) (by decide)).mpr c175
            refine lv_iload hx hb dX0_tryLane_138 (lv_at hl 4 rfl) ?_
            refine lv_goto (tgt := 145) hx hb dX0_tryLane_140 (by decide) ?_
            exact K145 _ _ _ ⟨F9, _, D141, v6, r90, v174, z161, rfl, lv_sub hl [0, 3] rfl, by omega, hI, hP, hS, hfr, ⟨by omega, by omega⟩, ⟨by omega, by omega⟩, ⟨by omega, by omega⟩, h162⟩
        · have c146 := mt (ax_ge (n := 4) (by decide)).mpr c146
          refine lv_aload_n hx hb dX0_tryLane_80 rfl (lv_at hl 0 rfl) ?_
          obtain ⟨z176, z178, z180, z182, z184, z186, z187, z189, z190, z192, z193, z195, z197, z199, o202, h177, h179, h181, h183, h185, h188, h191, h194, h196, h198, h200, h201, -⟩ := s_op1 hI ha0
          refine th_get (D := (dC, dI)) (ci := 0) (v := .ref z190) (C := RX0) (T := TX0) (N := 14) hx hb hts inX0 hown hK hP (hLK _ ha0 (by decide)) o202 rfl 8 (by decide) (hts _ T_150) (fun _ h9 => h9) rfl dX0_tryLane_81 ?_
          refine lv_iload hx hb dX0_tryLane_84 (lv_at hl 6 rfl) ?_
          refine lv_iload hx hb dX0_tryLane_86 (lv_at hl 7 rfl) ?_
          refine lv_iadd hx hb dX0_tryLane_88 ?_
          refine lv_topi (fun v203 ev203 => ?_)
          have qv203 : v203.toInt = v132.toInt + w133.toInt := by rw [ev203]; exact th_add rfl rfl ⟨by omega, by omega⟩
          refine lv_iload hx hb dX0_tryLane_89 (lv_at hl 5 rfl) ?_
          refine lv_if_eq (tgt := 116) hx hb dX0_tryLane_91 (by decide) (fun c204 => ?_) (fun c204 => ?_)
          · have c204 := (ax_eq (n := 0) (by decide)).mp c204
            refine lv_ldc (v := (-1000000)) hx hb hown (hts _ T_602) dX0_tryLane_116 ?_
            exact K118 _ _ _ ⟨F9, _, D141, (-1000000), v203, z190, rfl, lv_sub hl [0, 1, 2, 3, 4, 5, 6, 7] rfl, by omega, hI, hP, hS, hfr, trivial, ⟨by omega, by omega⟩, h191, ⟨by omega, by omega⟩, ⟨by omega, by omega⟩, ⟨by omega, by omega⟩, ⟨by omega, by omega⟩, ⟨by omega, by omega⟩, ⟨by omega, by omega⟩, ⟨by omega, by omega⟩⟩
          · have c204 := mt (ax_eq (n := 0) (by decide)).mpr c204
            refine lv_aload_n hx hb dX0_tryLane_94 rfl (lv_at hl 0 rfl) ?_
            refine th_get (D := (dC, dI)) (ci := 0) (v := .ref z180) (C := RX0) (T := TX0) (N := 14) hx hb hts inX0 hown hK hP (hLK _ ha0 (by decide)) o202 rfl 2 (by decide) (hts _ T_146) (fun _ h9 => h9) rfl dX0_tryLane_95 ?_
            obtain ⟨z205, z207, z209, z211, z213, z215, z217, z219, z221, z223, z225, z227, z228, z230, z231, o233, h206, h208, h210, h212, h214, h216, h218, h220, h222, h224, h226, h229, h232, -⟩ := s_op5 hI h181
            refine th_getN (D := (dC, dI)) (ci := 4) (v := .ref z205) (C := RX4) (T := TX4) (N := 15) hx hb hts inX4 hown hK hP (hLK _ h181 (by decide)) o233 rfl 0 (by decide) (va_Nw.use rfl (ax_n14 hN)) (fun _ h9 => h9) rfl dX0_tryLane_98 ?_
            refine lv_iload_n hx hb dX0_tryLane_101 rfl (lv_at hl 1 rfl) ?_
            obtain ⟨f234, o235, h236⟩ := s_op26 hI h206
            obtain ⟨z237, o239, h238⟩ := h236 (x1 : Int32).toNatClampNeg (th_cl ⟨by omega, by omega⟩)
            refine th_aald hx hb hK hP (hLK _ h206 (by decide)) 3 o235 rfl (th_in ⟨by omega, by omega⟩) o239 dX0_tryLane_102 ?_
            obtain ⟨z240, z242, z244, z246, z248, z250, z252, z253, z254, z255, z256, o258, h241, h243, h245, h247, h249, h251, h257, -⟩ := s_op6 hI h238
            refine th_getN (D := (dC, dI)) (ci := 5) (v := .ref z240) (C := RX5) (T := TX5) (N := 11) hx hb hts inX5 hown hK hP (hLK _ h238 (by decide)) o258 rfl 0 (by decide) (va_Nw.use rfl (ax_n15 hN)) (fun _ h9 => h9) rfl dX0_tryLane_103 ?_
            refine lv_iload_n hx hb dX0_tryLane_106 rfl (lv_at hl 2 rfl) ?_
            refine lv_iconst (v := 4) hx hb dX0_tryLane_107 (by decide) ?_
            refine lv_imul hx hb dX0_tryLane_108 ?_
            refine lv_topi (fun v259 ev259 => ?_)
            have qv259 : v259.toInt = x2.toInt * 4 := by rw [ev259]; exact th_mul rfl (by decide) ⟨by omega, by omega⟩
            refine lv_iload hx hb dX0_tryLane_109 (lv_at hl 7 rfl) ?_
            refine lv_iadd hx hb dX0_tryLane_111 ?_
            refine lv_topi (fun v260 ev260 => ?_)
            have qv260 : v260.toInt = v259.toInt + w133.toInt := by rw [ev260]; exact th_add rfl rfl ⟨by omega, by omega⟩
            obtain ⟨f261, o262, h263⟩ := s_op30 hI h241
            refine th_iald hx hb hK hP (hLK _ h241 (by decide)) 0 o262 rfl (th_in ⟨by omega, by omega⟩) dX0_tryLane_112 ?_
            refine lv_topi (fun v264 ev264 => ?_)
            refine lv_goto (tgt := 118) hx hb dX0_tryLane_113 (by decide) ?_
            exact K118 _ _ _ ⟨F9, _, D141, v264, v203, z190, rfl, lv_sub hl [0, 1, 2, 3, 4, 5, 6, 7] rfl, by omega, hI, hP, hS, hfr, trivial, ⟨by omega, by omega⟩, h191, ⟨by omega, by omega⟩, ⟨by omega, by omega⟩, ⟨by omega, by omega⟩, ⟨by omega, by omega⟩, ⟨by omega, by omega⟩, ⟨by omega, by omega⟩, ⟨by omega, by omega⟩⟩
      · intro g H locs hq
        obtain ⟨F9, ls, D275, w143, w144, w145, rfl, hl, h276, hI, hP, hS, hfr, h265, h266, h267, h268, h269, h270, h271, h272, h273, h274⟩ := hq
        obtain ⟨f277, o278, h279⟩ := s_op38 hI h267
        refine th_iast hx hb hK hP hD hS (hLK _ h267 (by decide)) 0 o278 rfl (th_in ⟨by omega, by omega⟩) dX0_tryLane_118 (fun H locs hP hS => ?_)
        have hP : va_P (dC, dI) vwCl (va_pl L (va_up F9 w145 (.inl (cs 0, 160, .inl (upd f277 (w144 : Int32).toNatClampNeg w143))))) H := hP
        obtain ⟨F280, hF281⟩ : ∃ G : Nat → va_E, G = va_up F9 w145 (.inl (cs 0, 160, .inl (upd f277 (w144 : Int32).toNatClampNeg w143))) := ⟨_, rfl⟩
        rw [← hF281] at hP
        have hI : s_I K cs D275 F280 := by rw [hF281]; exact s_cl38 hI h267 ⟨_, rfl, trivial⟩
        have hfr : ∀ b, K b ∉ [1, 2, 5, 6, 24, 27, 28, 29, 30, 31, 32, 34, 35, 38] → F280 b = F b := by rw [hF281]; exact s_fr hfr h267 (by decide)
        obtain ⟨v282, ev282⟩ : ∃ y : Int32, w133 + 1 = y := ⟨_, rfl⟩
        have qv282 : v282.toInt = w133.toInt + 1 := by rw [← ev282]; exact th_add rfl (by decide) ⟨by omega, by omega⟩
        refine lv_iinc (v := v282) (lv' := [(7, .int v282), (0, .ref a0), (1, .int x1), (2, .int x2), (3, .int v6), (4, .int r90), (5, .int r125), (6, .int v132)]) hx hb dX0_tryLane_119 hl (k := 7) rfl ev282 (by decide) rfl (fun ls hl => ?_)
        refine lv_goto (tgt := 74) hx hb dX0_tryLane_122 (by decide) ?_
        exact ih74 _ _ _ _ (by omega) ⟨F280, _, D275, v282, rfl, lv_sub hl [1, 2, 3, 4, 5, 6, 7, 0] rfl, by omega, hI, hP, hS, hfr, ⟨by omega, by omega⟩, ⟨by omega, by omega⟩, ⟨by omega, by omega⟩, ⟨by omega, by omega⟩, ⟨by omega, by omega⟩, ⟨by omega, by omega⟩, ⟨by omega, by omega⟩, rfl⟩
    · have c36 := mt (ax_eq (n := 0) (by decide)).mpr c36
      exact W.vret hx hb hr (fun t ht hW => ⟨⟨F, rfl, ⟨trivial, trivial, (s_mono (by omega) hI), hfr⟩, by rw [ht]; exact hP, va_K.moved hW.alike hK⟩, hS.F ht⟩) hS.2.2 dX0_tryLane_18
  · intro g H locs hq
    obtain ⟨F9, ls, D287, w1, w2, w3, w4, rfl, hl, h288, hI, hP, hS, hfr, h283, h284, h285, h286⟩ := hq
    obtain ⟨f289, o290, h291⟩ := s_op38 hI h286
    refine th_iast hx hb hK hP hD hS (hLK _ h286 (by decide)) 0 o290 rfl (th_in ⟨by omega, by omega⟩) dX0_tryLane_145 (fun H locs hP hS => ?_)
    have hP : va_P (dC, dI) vwCl (va_pl L (va_up F9 w4 (.inl (cs 0, 160, .inl (upd f289 (w3 : Int32).toNatClampNeg w2))))) H := hP
    obtain ⟨F292, hF293⟩ : ∃ G : Nat → va_E, G = va_up F9 w4 (.inl (cs 0, 160, .inl (upd f289 (w3 : Int32).toNatClampNeg w2))) := ⟨_, rfl⟩
    rw [← hF293] at hP
    have hI : s_I K cs D287 F292 := by rw [hF293]; exact s_cl38 hI h286 ⟨_, rfl, trivial⟩
    have hfr : ∀ b, K b ∉ [1, 2, 5, 6, 24, 27, 28, 29, 30, 31, 32, 34, 35, 38] → F292 b = F b := by rw [hF293]; exact s_fr hfr h286 (by decide)
    refine lv_aload_n hx hb dX0_tryLane_146 rfl (lv_at hl 0 rfl) ?_
    refine lv_dup hx hb dX0_tryLane_147 rfl ?_
    obtain ⟨z294, z296, z298, z300, z302, z304, z305, z307, z308, z310, z311, z313, z315, z317, o320, h295, h297, h299, h301, h303, h306, h309, h312, h314, h316, h318, h319, -⟩ := s_op1 hI ha0
    refine th_get (D := (dC, dI)) (ci := 0) (v := .int z310) (C := RX0) (T := TX0) (N := 14) hx hb hts inX0 hown hK hP (hLK _ ha0 (by decide)) o320 rfl 9 (by decide) (hts _ T_157) (fun _ h9 => h9) rfl dX0_tryLane_148 ?_
    refine lv_iconst (v := 1) hx hb dX0_tryLane_151 (by decide) ?_
    refine lv_iload_n hx hb dX0_tryLane_152 rfl (lv_at hl 1 rfl) ?_
    refine lv_ishl hx hb dX0_tryLane_153 ?_
    refine lv_topi (fun v321 ev321 => ?_)
    refine lv_ior hx hb dX0_tryLane_154 ?_
    refine lv_topi (fun v322 ev322 => ?_)
    refine th_put (D := (dC, dI)) (ci := 0) (v := .int v322) (ty := .int) (C := RX0) (T := TX0) (N := 14) hx hb hts inX0 tyX0 tyX0_ok nmX0 hown hK hP hD hS (hLK _ ha0 (by decide)) o320 rfl 9 (by decide) (hts _ T_157) (fun _ h9 => h9) rfl (by decide +kernel) rfl rfl (Nat.le_of_ble_eq_true rfl) dX0_tryLane_155 (fun H locs hP hS => ?_)
    have hP : va_P (dC, dI) vwCl (va_pl L (va_up F292 a0 (.inr (0, [.ref z294, .ref z296, .ref z298, .ref z300, .ref z302, .int z304, .ref z305, .long z307, .ref z308, .int v322, .ref z311, .int z313, .int z315, .int z317])))) H := hP
    obtain ⟨F323, hF324⟩ : ∃ G : Nat → va_E, G = va_up F292 a0 (.inr (0, [.ref z294, .ref z296, .ref z298, .ref z300, .ref z302, .int z304, .ref z305, .long z307, .ref z308, .int v322, .ref z311, .int z313, .int z315, .int z317])) := ⟨_, rfl⟩
    rw [← hF324] at hP
    have hI : s_I K cs D287 F323 := by rw [hF324]; exact s_cl1 hI ha0 ⟨z294, z296, z298, z300, z302, z304, z305, z307, z308, v322, z311, z313, z315, z317, rfl, h295, h297, h299, h301, h303, h306, h309, h312, ⟨by omega, by omega⟩, ⟨by omega, by omega⟩, ⟨by omega, by omega⟩, h319, trivial⟩
    have hfr : ∀ b, K b ∉ [1, 2, 5, 6, 24, 27, 28, 29, 30, 31, 32, 34, 35, 38] → F323 b = F b := by rw [hF324]; exact s_fr hfr ha0 (by decide)
    have o325 : F323 a0 = .inr (0, [.ref z294, .ref z296, .ref z298, .ref z300, .ref z302, .int z304, .ref z305, .long z307, .ref z308, .int v322, .ref z311, .int z313, .int z315, .int z317]) := by rw [hF324]; exact th_up
    exact W.vret hx hb hr (fun t ht hW => ⟨⟨F323, rfl, ⟨trivial, trivial, (s_mono (by omega) hI), hfr⟩, by rw [ht]; exact hP, va_K.moved hW.alike hK⟩, hS.F ht⟩) hS.2.2 dX0_tryLane_158

