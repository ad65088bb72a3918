set_option maxHeartbeats 4000000 in
set_option maxRecDepth 100000 in
theorem s_X2_clear (l : Launch) (dC : Nat → ClassId) (dI : Nat → Nat → Nat) (sz : Nat) {L : List Nat} {K : Nat → Nat} {cs : Nat → ClassId} (hLK : ∀ a {k : Nat}, K a = k → k ≠ 0 → a ∈ L) (D : Nat) (F : Nat → va_E) (a0 : Nat) (ha0 : K a0 = 8) (hI : s_I K cs D F) : Met l yX2_clear (Cond.code yX2_clear cX2_clear 1 none :: T0) ({ frames := 1, cells := 0, slots := 0, locals := 23 }) (va_Pc [.ref a0] (s_W dC dI sz L F [(cs 0, .int), (cs 1, .byte), (cs 2, .long), (cs 3, .object RX5), (cs 4, .object RX4), (cs 5, .array .int), (cs 6, .char), (cs 7, .boolean)])) (va_Qv (fun (G : Nat → va_E) => True ∧ (True ∧ (∀ vs z, G a0 = .inr (2, vs) → (vs[3]? = some (.int z) ∨ vs[5]? = some (.int z) ∨ vs[6]? = some (.int z)) → z = 0)) ∧ s_I K cs D G ∧ ∀ b, K b ∉ [8, 24] → G b = F b) (fun (G : Nat → va_E) (t : State) => va_P (dC, dI) vwCl (va_pl L G) t.heap ∧ va_K (dC, dI) vwCl [(cs 0, .int), (cs 1, .byte), (cs 2, .long), (cs 3, .object RX5), (cs 4, .object RX4), (cs 5, .array .int), (cs 6, .char), (cs 7, .boolean)] t) (fun q => q ∈ L)) 0 0 (fun q => q ∈ L) := by
  refine Met.ofW (cc := cX2_clear) (maxL := 1) (ret := none) (by decide) rfl ?_
  intro p e s m args below meth c s₁ B hml hv
  obtain ⟨rfl, hsz, hP, hK, hD, hN⟩ := hv
  have hx := B.exec
  have hb := B.bytes
  have hr := B.returns
  have hts : ∀ w ∈ T0, w.before _ s = true := fun w h => atoms_spec (ws := Cond.code yX2_clear cX2_clear 1 none :: T0) B.pre w (List.mem_cons_of_mem _ h)
  have hown : s.vm.findClass RX2 = some m.cls := findClass_of_methodNamed B.named
  have hlocks := B.notSynchronized
  have hS : va_S (fun q => q ∈ L) s.heap s.heap [] := va_S.rf
  have hfr : ∀ b, K b ∉ [8, 24] → F b = F b := fun _ _ => rfl
  have hl := lv_entry ([.ref a0]) (n := 1) (Nat.le_of_ble_eq_true rfl)
  rw [lg_entry_eq]
  generalize (lg_sl ([.ref a0]) ++ List.replicate (1 - (lg_sl ([.ref a0])).length) Slot.unset).toArray = ls at hl ⊢
  have hl : lv_has ls 1 [(0, .ref a0)] := hl
  refine s_gen hP hS (fun H locs hP hS => ?_)
  refine lv_aload_n hx hb dX2_clear_0 rfl (lv_at hl 0 rfl) ?_
  obtain ⟨z1, z3, z5, z7, z9, z11, z12, o13, h2, h4, h6, h8, h10, -⟩ := s_op8 hI ha0
  refine th_get (D := (dC, dI)) (ci := 2) (v := .ref z3) (C := RX2) (T := TX2) (N := 7) hx hb hts inX2 hown hK hP (hLK _ ha0 (by decide)) o13 rfl 1 (by decide) (hts _ T_125) (fun _ h9 => h9) rfl dX2_clear_1 ?_
  refine lv_iconst (v := 0) hx hb dX2_clear_4 (by decide) ?_
  refine va_callv (va_runS (As := [.ref z3, .int 0]) (rest := []) ⟨hx, hb, hml, hown, hts⟩ (s_J7_fill_53178_far l dC dI H.size hLK D F z3 0 h4 hI) ⟨callB_of 2 hts (ax_gT T_11) rfl rfl rfl (hts _ T_197) (hts _ T_198) (by decide +kernel) ⟨Nat.le_of_ble_eq_true rfl, Nat.le_of_ble_eq_true rfl⟩, hts _ T_199⟩ ⟨fun a U g mk q => ⟨q.1, s_pc (U := U) rfl rfl q.2⟩, fun U hU hW => ⟨rfl, s_pw hU hW hP hK hD hN⟩⟩ rfl rfl hl.1 rfl (lv_room (Nat.le_of_ble_eq_true rfl)) dX2_clear_5 ⟨Nat.zero_le _, Nat.zero_le _⟩) hS (fun q _ h => h) (fun q h => h) (fun F14 t H1 locs ht hvm hw hB hz1 hk1 hS => ?_)
  obtain ⟨hP, hK1⟩ := hB
  rw [ht] at hP
  generalize H1 = H at hP hS ⊢
  clear hz1 hk1
  obtain ⟨h15, h16, hI, hfr1⟩ := hw
  have o17 : F14 a0 = .inr (2, [.ref z1, .ref z3, .ref z5, .int z7, .int z9, .int z11, .int z12]) := (hfr1 _ (by rw [ha0]; decide)).trans o13
  have hfr : ∀ b, K b ∉ [8, 24] → F14 b = F b := fun b hb9 => (hfr1 b (fun q => hb9 (s_sub (by decide) q))).trans (hfr b hb9)
  refine lv_aload_n hx hb dX2_clear_8 rfl (lv_at hl 0 rfl) ?_
  refine lv_iconst (v := 0) hx hb dX2_clear_9 (by decide) ?_
  refine th_put (D := (dC, dI)) (ci := 2) (v := .int 0) (ty := .int) (C := RX2) (T := TX2) (N := 7) hx hb hts inX2 tyX2 tyX2_ok nmX2 hown hK hP hD hS (hLK _ ha0 (by decide)) o17 rfl 3 (by decide) (hts _ T_200) (fun _ h9 => h9) rfl (by decide +kernel) rfl rfl (Nat.le_of_ble_eq_true rfl) dX2_clear_10 (fun H locs hP hS => ?_)
  have hP : va_P (dC, dI) vwCl (va_pl L (va_up F14 a0 (.inr (2, [.ref z1, .ref z3, .ref z5, .int 0, .int z9, .int z11, .int z12])))) H := hP
  obtain ⟨F18, hF19⟩ : ∃ G : Nat → va_E, G = va_up F14 a0 (.inr (2, [.ref z1, .ref z3, .ref z5, .int 0, .int z9, .int z11, .int z12])) := ⟨_, rfl⟩
  rw [← hF19] at hP
  have hI : s_I K cs D F18 := by rw [hF19]; exact s_cl8 hI ha0 ⟨z1, z3, z5, 0, z9, z11, z12, rfl, h2, h4, h6, (by decide), ⟨by omega, by omega⟩, trivial⟩
  have hfr : ∀ b, K b ∉ [8, 24] → F18 b = F b := by rw [hF19]; exact s_fr hfr ha0 (by decide)
  have o20 : F18 a0 = .inr (2, [.ref z1, .ref z3, .ref z5, .int 0, .int z9, .int z11, .int z12]) := by rw [hF19]; exact th_up
  refine lv_aload_n hx hb dX2_clear_13 rfl (lv_at hl 0 rfl) ?_
  refine lv_iconst (v := 0) hx hb dX2_clear_14 (by decide) ?_
  refine th_put (D := (dC, dI)) (ci := 2) (v := .int 0) (ty := .int) (C := RX2) (T := TX2) (N := 7) hx hb hts inX2 tyX2 tyX2_ok nmX2 hown hK hP hD hS (hLK _ ha0 (by decide)) o20 rfl 4 (by decide) (hts _ T_201) (fun _ h9 => h9) rfl (by decide +kernel) rfl rfl (Nat.le_of_ble_eq_true rfl) dX2_clear_15 (fun H locs hP hS => ?_)
  have hP : va_P (dC, dI) vwCl (va_pl L (va_up F18 a0 (.inr (2, [.ref z1, .ref z3, .ref z5, .int 0, .int 0, .int z11, .int z12])))) H := hP
  obtain ⟨F21, hF22⟩ : ∃ G : Nat → va_E, G = va_up F18 a0 (.inr (2, [.ref z1, .ref z3, .ref z5, .int 0, .int 0, .int z11, .int z12])) := ⟨_, rfl⟩
  rw [← hF22] at hP
  have hI : s_I K cs D F21 := by rw [hF22]; exact s_cl8 hI ha0 ⟨z1, z3, z5, 0, 0, z11, z12, rfl, h2, h4, h6, (by decide), (by decide), trivial⟩
  have hfr : ∀ b, K b ∉ [8, 24] → F21 b = F b := by rw [hF22]; exact s_fr hfr ha0 (by decide)
  have o23 : F21 a0 = .inr (2, [.ref z1, .ref z3, .ref z5, .int 0, .int 0, .int z11, .int z12]) := by rw [hF22]; exact th_up
  refine lv_aload_n hx hb dX2_clear_18 rfl (lv_at hl 0 rfl) ?_
  refine lv_iconst (v := 0) hx hb dX2_clear_19 (by decide) ?_
  refine th_put (D := (dC, dI)) (ci := 2) (v := .int 0) (ty := .int) (C := RX2) (T := TX2) (N := 7) hx hb hts inX2 tyX2 tyX2_ok nmX2 hown hK hP hD hS (hLK _ ha0 (by decide)) o23 rfl 5 (by decide) (hts _ T_202) (fun _ h9 => h9) rfl (by decide +kernel) rfl rfl (Nat.le_of_ble_eq_true rfl) dX2_clear_20 (fun H locs hP hS => ?_)
  have hP : va_P (dC, dI) vwCl (va_pl L (va_up F21 a0 (.inr (2, [.ref z1, .ref z3, .ref z5, .int 0, .int 0, .int 0, .int z12])))) H := hP
  obtain ⟨F24, hF25⟩ : ∃ G : Nat → va_E, G = va_up F21 a0 (.inr (2, [.ref z1, .ref z3, .ref z5, .int 0, .int 0, .int 0, .int z12])) := ⟨_, rfl⟩
  rw [← hF25] at hP
  have hI : s_I K cs D F24 := by rw [hF25]; exact s_cl8 hI ha0 ⟨z1, z3, z5, 0, 0, 0, z12, rfl, h2, h4, h6, (by decide), (by decide), trivial⟩
  have hfr : ∀ b, K b ∉ [8, 24] → F24 b = F b := by rw [hF25]; exact s_fr hfr ha0 (by decide)
  have o26 : F24 a0 = .inr (2, [.ref z1, .ref z3, .ref z5, .int 0, .int 0, .int 0, .int z12]) := by rw [hF25]; exact th_up
  refine lv_aload_n hx hb dX2_clear_23 rfl (lv_at hl 0 rfl) ?_
  refine lv_iconst (v := 0) hx hb dX2_clear_24 (by decide) ?_
  refine th_put (D := (dC, dI)) (ci := 2) (v := .int 0) (ty := .int) (C := RX2) (T := TX2) (N := 7) hx hb hts inX2 tyX2 tyX2_ok nmX2 hown hK hP hD hS (hLK _ ha0 (by decide)) o26 rfl 6 (by decide) (hts _ T_203) (fun _ h9 => h9) rfl (by decide +kernel) rfl rfl (Nat.le_of_ble_eq_true rfl) dX2_clear_25 (fun H locs hP hS => ?_)
  have hP : va_P (dC, dI) vwCl (va_pl L (va_up F24 a0 (.inr (2, [.ref z1, .ref z3, .ref z5, .int 0, .int 0, .int 0, .int 0])))) H := hP
  obtain ⟨F27, hF28⟩ : ∃ G : Nat → va_E, G = va_up F24 a0 (.inr (2, [.ref z1, .ref z3, .ref z5, .int 0, .int 0, .int 0, .int 0])) := ⟨_, rfl⟩
  rw [← hF28] at hP
  have hI : s_I K cs D F27 := by rw [hF28]; exact s_cl8 hI ha0 ⟨z1, z3, z5, 0, 0, 0, 0, rfl, h2, h4, h6, (by decide), (by decide), trivial⟩
  have hfr : ∀ b, K b ∉ [8, 24] → F27 b = F b := by rw [hF28]; exact s_fr hfr ha0 (by decide)
  have o29 : F27 a0 = .inr (2, [.ref z1, .ref z3, .ref z5, .int 0, .int 0, .int 0, .int 0]) := by rw [hF28]; exact th_up
  exact W.vret hx hb hr (fun t ht hW => ⟨⟨F27, rfl, ⟨trivial, ⟨trivial, (fun vs z q q2 => by rw [o29] at q; cases q; rcases q2 with q2 | q2 | q2 <;> (cases q2; rfl))⟩, hI, hfr⟩, by rw [ht]; exact hP, va_K.moved hW.alike hK⟩, hS.F ht⟩) hS.2.2 dX2_clear_28

set_option maxHeartbeats 4000000 in
set_option maxRecDepth 100000 in
theorem s_X2_latest (l : Launch) (dC : Nat → ClassId) (dI : Nat → Nat → Nat) (sz : Nat) {L : List Nat} {K : Nat → Nat} {cs : Nat → ClassId} (hLK : ∀ a {k : Nat}, K a = k → k ≠ 0 → a ∈ L) (D : Nat) (F : Nat → va_E) (a0 : Nat) (ha0 : K a0 = 8) (hI : s_I K cs D F) : Met l yX2_latest (Cond.code yX2_latest cX2_latest 1 (some (.array .int)) :: T0) ({ frames := 1, cells := 0, slots := 0, locals := 14 }) (va_Pc [.ref a0] (s_W dC dI sz L F [(cs 0, .int), (cs 1, .byte), (cs 2, .long), (cs 3, .object RX5), (cs 4, .object RX4), (cs 5, .array .int), (cs 6, .char), (cs 7, .boolean)])) (va_Qr (fun (G : Nat → va_E) => True ∧ True ∧ s_I K cs D G ∧ ∀ b, K b ∉ ([] : List Nat) → G b = F b) (fun (G : Nat → va_E) (r : Nat) (t : State) => K r = 43 ∧ (s_LT cs F a0 r) ∧ va_P (dC, dI) vwCl (va_pl L G) t.heap ∧ va_K (dC, dI) vwCl [(cs 0, .int), (cs 1, .byte), (cs 2, .long), (cs 3, .object RX5), (cs 4, .object RX4), (cs 5, .array .int), (cs 6, .char), (cs 7, .boolean)] t) (fun q => q ∈ L)) 0 0 (fun q => q ∈ L) := by
  refine Met.ofW (cc := cX2_latest) (maxL := 1) (ret := (some (.array .int))) (by decide) rfl ?_
  intro p e s m args below meth c s₁ B hml hv
  obtain ⟨rfl, hsz, hP, hK, hD, hN⟩ := hv
  have hx := B.exec
  have hb := B.bytes
  have hr := B.returns
  have hts : ∀ w ∈ T0, w.before _ s = true := fun w h => atoms_spec (ws := Cond.code yX2_latest cX2_latest 1 (some (.array .int)) :: T0) B.pre w (List.mem_cons_of_mem _ h)
  have hown : s.vm.findClass RX2 = some m.cls := findClass_of_methodNamed B.named
  have hlocks := B.notSynchronized
  have hS : va_S (fun q => q ∈ L) s.heap s.heap [] := va_S.rf
  have hfr : ∀ b, K b ∉ ([] : List Nat) → F b = F b := fun _ _ => rfl
  have hl := lv_entry ([.ref a0]) (n := 1) (Nat.le_of_ble_eq_true rfl)
  rw [lg_entry_eq]
  generalize (lg_sl ([.ref a0]) ++ List.replicate (1 - (lg_sl ([.ref a0])).length) Slot.unset).toArray = ls at hl ⊢
  have hl : lv_has ls 1 [(0, .ref a0)] := hl
  refine s_gen hP hS (fun H locs hP hS => ?_)
  refine lv_aload_n hx hb dX2_latest_0 rfl (lv_at hl 0 rfl) ?_
  obtain ⟨z1, z3, z5, z7, z9, z11, z12, o13, h2, h4, h6, h8, h10, -⟩ := s_op8 hI ha0
  refine th_get (D := (dC, dI)) (ci := 2) (v := .ref z1) (C := RX2) (T := TX2) (N := 7) hx hb hts inX2 hown hK hP (hLK _ ha0 (by decide)) o13 rfl 0 (by decide) (hts _ T_124) (fun _ h9 => h9) rfl dX2_latest_1 ?_
  refine lv_aload_n hx hb dX2_latest_4 rfl (lv_at hl 0 rfl) ?_
  refine th_get (D := (dC, dI)) (ci := 2) (v := .int z7) (C := RX2) (T := TX2) (N := 7) hx hb hts inX2 hown hK hP (hLK _ ha0 (by decide)) o13 rfl 3 (by decide) (hts _ T_200) (fun _ h9 => h9) rfl dX2_latest_5 ?_
  refine lv_iconst (v := 1) hx hb dX2_latest_8 (by decide) ?_
  refine lv_isub hx hb dX2_latest_9 ?_
  refine lv_topi (fun v14 ev14 => ?_)
  have qv14 : v14.toInt = z7.toInt - 1 := by rw [ev14]; exact th_sub rfl (by decide) ⟨by omega, by omega⟩
  refine lv_iconst (v := 0) hx hb dX2_latest_10 (by decide) ?_
  refine va_mmax hx hb (by rw [hml]; exact hl.1.symm) hown (hts _ T_752) (hts _ T_609) (hts _ T_237) (hts _ T_610) (Nat.le_of_ble_eq_true rfl) (Nat.le_of_ble_eq_true rfl) (Nat.zero_le _) (Nat.zero_le _) dX2_latest_11 ?_
  refine lv_topi (fun v15 ev15 => ?_)
  have qv15 := th_mmax (a := v14.toInt) (b := 0) ev15 rfl (by decide)
  obtain ⟨f16, o17, h18⟩ := s_op42 hI h2
  obtain ⟨z19, o21, h20⟩ := h18 (v15 : Int32).toNatClampNeg (th_cl ⟨by omega, by omega⟩)
  refine th_aaldA hx hb hK hP (hLK _ h2 (by decide)) 5 o17 rfl (th_in ⟨by omega, by omega⟩) o21 dX2_latest_14 ?_
  exact W.aret (v := .ref z19) hx hb hr (Or.inr ⟨_, rfl⟩) (Or.inr ⟨_, rfl⟩) (fun t ht hW => ⟨⟨F, z19, rfl, ⟨trivial, trivial, hI, hfr⟩, h20, (fun w0 vs ln fr q1 q2 q3 h1 => by rw [o13] at q1; cases q1; cases q2; rw [o17] at q3; cases q3; rw [show (z7.toInt - 1).toNat = v15.toNatClampNeg from (by show (z7.toInt - 1).toNat = v15.toInt.toNat; omega)]; exact o21), by rw [ht]; exact hP, va_K.moved hW.alike hK⟩, hS.F ht⟩) hS.2.2 dX2_latest_15

set_option maxHeartbeats 4000000 in
set_option maxRecDepth 100000 in
theorem s_X2_addLine (l : Launch) (dC : Nat → ClassId) (dI : Nat → Nat → Nat) (sz : Nat) {L : List Nat} {K : Nat → Nat} {cs : Nat → ClassId} (hLK : ∀ a {k : Nat}, K a = k → k ≠ 0 → a ∈ L) (D : Nat) (F : Nat → va_E) (a0 : Nat) (x1 : Int32) (ha0 : K a0 = 8) (hI : s_I K cs D F) (hRI : s_RI K cs F) (hln : ∀ vs z, F a0 = .inr (2, vs) → vs[3]? = some (.int z) → z.toInt ≤ 39) : Met l yX2_addLine (Cond.code yX2_addLine cX2_addLine 2 none :: T0) ({ frames := 1, cells := 0, slots := 0, locals := 23 }) (va_Pc [.ref a0, .int x1] (s_W dC dI sz L F [(cs 0, .int), (cs 1, .byte), (cs 2, .long), (cs 3, .object RX5), (cs 4, .object RX4), (cs 5, .array .int), (cs 6, .char), (cs 7, .boolean)])) (va_Qv (fun (G : Nat → va_E) => True ∧ (True ∧ ((s_QG cs F a0 0 → s_QG cs G a0 1 ∧ (7 ≤ x1.toInt → s_QG cs G a0 0)) ∧ s_L1 G a0)) ∧ s_I K cs D G ∧ ∀ b, K b ∉ [8, 43] → G b = F b) (fun (G : Nat → va_E) (t : State) => va_P (dC, dI) vwCl (va_pl L G) t.heap ∧ va_K (dC, dI) vwCl [(cs 0, .int), (cs 1, .byte), (cs 2, .long), (cs 3, .object RX5), (cs 4, .object RX4), (cs 5, .array .int), (cs 6, .char), (cs 7, .boolean)] t) (fun q => q ∈ L)) 0 0 (fun q => q ∈ L) := by
  refine Met.ofW (cc := cX2_addLine) (maxL := 2) (ret := none) (by decide) rfl ?_
  intro p e s m args below meth c s₁ B hml hv
  obtain ⟨rfl, hsz, hP, hK, hD, hN⟩ := hv
  have hx := B.exec
  have hb := B.bytes
  have hr := B.returns
  have hts : ∀ w ∈ T0, w.before _ s = true := fun w h => atoms_spec (ws := Cond.code yX2_addLine cX2_addLine 2 none :: T0) B.pre w (List.mem_cons_of_mem _ h)
  have hown : s.vm.findClass RX2 = some m.cls := findClass_of_methodNamed B.named
  have hlocks := B.notSynchronized
  have hS : va_S (fun q => q ∈ L) s.heap s.heap [] := va_S.rf
  have hfr : ∀ b, K b ∉ [8, 43] → F b = F b := fun _ _ => rfl
  have hl := lv_entry ([.ref a0, .int x1]) (n := 2) (Nat.le_of_ble_eq_true rfl)
  rw [lg_entry_eq]
  generalize (lg_sl ([.ref a0, .int x1]) ++ List.replicate (2 - (lg_sl ([.ref a0, .int x1])).length) Slot.unset).toArray = ls at hl ⊢
  have hl : lv_has ls 2 [(0, .ref a0), (1, .int x1)] := hl
  refine s_gen hP hS (fun H locs hP hS => ?_)
  have hI0 := hI
  obtain ⟨z1, z3, z5, z7, z9, z11, z12, o13, h2, h4, h6, h8, h10, -⟩ := s_op8 hI ha0
  have hln := hln _ _ o13 rfl
  obtain ⟨f14, o15, h16⟩ := s_op42 hI h2
  refine lv_aload_n hx hb dX2_addLine_0 rfl (lv_at hl 0 rfl) ?_
  refine th_get (D := (dC, dI)) (ci := 2) (v := .ref z1) (C := RX2) (T := TX2) (N := 7) hx hb hts inX2 hown hK hP (hLK _ ha0 (by decide)) o13 rfl 0 (by decide) (hts _ T_124) (fun _ h9 => h9) rfl dX2_addLine_1 ?_
  refine lv_aload_n hx hb dX2_addLine_4 rfl (lv_at hl 0 rfl) ?_
  refine th_get (D := (dC, dI)) (ci := 2) (v := .int z7) (C := RX2) (T := TX2) (N := 7) hx hb hts inX2 hown hK hP (hLK _ ha0 (by decide)) o13 rfl 3 (by decide) (hts _ T_200) (fun _ h9 => h9) rfl dX2_addLine_5 ?_
  obtain ⟨z17, o19, h18⟩ := h16 (z7 : Int32).toNatClampNeg (th_cl ⟨by omega, by omega⟩)
  refine th_aaldA hx hb hK hP (hLK _ h2 (by decide)) 5 o15 rfl (th_in ⟨by omega, by omega⟩) o19 dX2_addLine_8 ?_
  refine lv_ldc (v := (-1000000)) hx hb hown (hts _ T_736) dX2_addLine_9 ?_
  refine va_callv (va_runS (As := [.ref z17, .int (-1000000)]) (rest := []) ⟨hx, hb, hml, hown, hts⟩ (s_J7_fill_53178_row2 l dC dI H.size hLK D F z17 (-1000000) h18 (by decide) hI) ⟨callB_of 2 hts (ax_gT T_11) rfl rfl rfl (hts _ T_197) (hts _ T_198) (by decide +kernel) ⟨Nat.le_of_ble_eq_true rfl, Nat.le_of_ble_eq_true rfl⟩, hts _ T_199⟩ ⟨fun a U g mk q => ⟨q.1, s_pc (U := U) rfl rfl q.2⟩, fun U hU hW => ⟨rfl, s_pw hU hW hP hK hD hN⟩⟩ rfl rfl hl.1 rfl (lv_room (Nat.le_of_ble_eq_true rfl)) dX2_addLine_11 ⟨Nat.zero_le _, Nat.zero_le _⟩) hS (fun q _ h => h) (fun q h => h) (fun F20 t H1 locs ht hvm hw hB hz1 hk1 hS => ?_)
  obtain ⟨hP, hK1⟩ := hB
  rw [ht] at hP
  generalize H1 = H at hP hS ⊢
  clear hz1 hk1
  obtain ⟨h21, h22, hI, hfr1⟩ := hw
  have o23 : F20 a0 = .inr (2, [.ref z1, .ref z3, .ref z5, .int z7, .int z9, .int z11, .int z12]) := (hfr1 _ (by rw [ha0]; decide)).trans o13
  have o24 : F20 z1 = .inl (cs 5, 40, .inr (.inr (.inr (.inr f14)))) := (hfr1 _ (by rw [h2]; decide)).trans o15
  have hfr : ∀ b, K b ∉ [8, 43] → F20 b = F b := fun b hb9 => (hfr1 b (fun q => hb9 (s_sub (by decide) q))).trans (hfr b hb9)
  obtain ⟨h22, h25⟩ := h22
  have h25 : (∀ b, b ≠ z17 → F20 b = F b) := h25
  refine lv_aload_n hx hb dX2_addLine_14 rfl (lv_at hl 0 rfl) ?_
  refine th_get (D := (dC, dI)) (ci := 2) (v := .ref z1) (C := RX2) (T := TX2) (N := 7) hx hb hts inX2 hown hK hP (hLK _ ha0 (by decide)) o23 rfl 0 (by decide) (hts _ T_124) (fun _ h9 => h9) rfl dX2_addLine_15 ?_
  refine lv_aload_n hx hb dX2_addLine_18 rfl (lv_at hl 0 rfl) ?_
  refine th_get (D := (dC, dI)) (ci := 2) (v := .int z7) (C := RX2) (T := TX2) (N := 7) hx hb hts inX2 hown hK hP (hLK _ ha0 (by decide)) o23 rfl 3 (by decide) (hts _ T_200) (fun _ h9 => h9) rfl dX2_addLine_19 ?_
  refine th_aaldA hx hb hK hP (hLK _ h2 (by decide)) 5 o24 rfl (th_in ⟨by omega, by omega⟩) o19 dX2_addLine_22 ?_
  refine lv_iconst (v := 0) hx hb dX2_addLine_23 (by decide) ?_
  refine lv_iload_n hx hb dX2_addLine_24 rfl (lv_at hl 1 rfl) ?_
  obtain ⟨f26, o27, h28⟩ := s_op43 hI h18
  refine th_iast hx hb hK hP hD hS (hLK _ h18 (by decide)) 0 o27 rfl (ax_in (by decide)) dX2_addLine_25 (fun H locs hP hS => ?_)
  have hP : va_P (dC, dI) vwCl (va_pl L (va_up F20 z17 (.inl (cs 0, 7, .inl (upd f26 (0 : Int32).toNatClampNeg x1))))) H := hP
  obtain ⟨F29, hF30⟩ : ∃ G : Nat → va_E, G = va_up F20 z17 (.inl (cs 0, 7, .inl (upd f26 (0 : Int32).toNatClampNeg x1))) := ⟨_, rfl⟩
  rw [← hF30] at hP
  have hI : s_I K cs D F29 := by rw [hF30]; exact s_cl43 hI h18 ⟨_, rfl, th_updJ (P := fun y => y.toInt ≤ 3) h28 (fun q => absurd q (by decide))⟩
  have hfr : ∀ b, K b ∉ [8, 43] → F29 b = F b := by rw [hF30]; exact s_fr hfr h18 (by decide)
  have o31 : F29 a0 = .inr (2, [.ref z1, .ref z3, .ref z5, .int z7, .int z9, .int z11, .int z12]) := by rw [hF30]; exact th_ne (th_kd ha0 h18 (by decide)) o23
  have o32 : F29 z1 = .inl (cs 5, 40, .inr (.inr (.inr (.inr f14)))) := by rw [hF30]; exact th_ne (th_kd h2 h18 (by decide)) o24
  have oA : F29 z17 = (.inl (cs 0, 7, .inl (upd f26 (0 : Int32).toNatClampNeg x1))) := by rw [hF30]; exact th_up
  refine lv_aload_n hx hb dX2_addLine_26 rfl (lv_at hl 0 rfl) ?_
  refine lv_dup hx hb dX2_addLine_27 rfl ?_
  refine th_get (D := (dC, dI)) (ci := 2) (v := .int z7) (C := RX2) (T := TX2) (N := 7) hx hb hts inX2 hown hK hP (hLK _ ha0 (by decide)) o31 rfl 3 (by decide) (hts _ T_200) (fun _ h9 => h9) rfl dX2_addLine_28 ?_
  refine lv_iconst (v := 1) hx hb dX2_addLine_31 (by decide) ?_
  refine lv_iadd hx hb dX2_addLine_32 ?_
  refine lv_topi (fun v33 ev33 => ?_)
  have qv33 : v33.toInt = z7.toInt + 1 := by rw [ev33]; exact th_add rfl (by decide) ⟨by omega, by omega⟩
  refine th_put (D := (dC, dI)) (ci := 2) (v := .int v33) (ty := .int) (C := RX2) (T := TX2) (N := 7) hx hb hts inX2 tyX2 tyX2_ok nmX2 hown hK hP hD hS (hLK _ ha0 (by decide)) o31 rfl 3 (by decide) (hts _ T_200) (fun _ h9 => h9) rfl (by decide +kernel) rfl rfl (Nat.le_of_ble_eq_true rfl) dX2_addLine_33 (fun H locs hP hS => ?_)
  have hP : va_P (dC, dI) vwCl (va_pl L (va_up F29 a0 (.inr (2, [.ref z1, .ref z3, .ref z5, .int v33, .int z9, .int z11, .int z12])))) H := hP
  obtain ⟨F34, hF35⟩ : ∃ G : Nat → va_E, G = va_up F29 a0 (.inr (2, [.ref z1, .ref z3, .ref z5, .int v33, .int z9, .int z11, .int z12])) := ⟨_, rfl⟩
  rw [← hF35] at hP
  have hI : s_I K cs D F34 := by rw [hF35]; exact s_cl8 hI ha0 ⟨z1, z3, z5, v33, z9, z11, z12, rfl, h2, h4, h6, ⟨by omega, by omega⟩, ⟨by omega, by omega⟩, trivial⟩
  have hfr : ∀ b, K b ∉ [8, 43] → F34 b = F b := by rw [hF35]; exact s_fr hfr ha0 (by decide)
  have o36 : F34 z1 = .inl (cs 5, 40, .inr (.inr (.inr (.inr f14)))) := by rw [hF35]; exact th_ne (th_kd h2 ha0 (by decide)) o32
  have o37 : F34 a0 = .inr (2, [.ref z1, .ref z3, .ref z5, .int v33, .int z9, .int z11, .int z12]) := by rw [hF35]; exact th_up
  exact W.vret hx hb hr (fun t ht hW => ⟨⟨F34, rfl, ⟨trivial, ⟨trivial, ⟨fun h9 => s_QGadd hI0 ha0 hRI o13 rfl o15 (by omega) o19 (fun b h1 h2 => by rw [hF35]; exact th_ne h2 (by rw [hF30]; exact th_ne h1 (h25 b h1))) o37 rfl (by omega) ((congrFun hF35 _).trans (th_ne (th_kd h18 ha0 (by decide)) oA)) (if_pos (by decide)) rfl rfl h9, fun vs z q q2 => by rw [o37] at q; cases q; cases q2; omega⟩⟩, hI, hfr⟩, by rw [ht]; exact hP, va_K.moved hW.alike hK⟩, hS.F ht⟩) hS.2.2 dX2_addLine_36

