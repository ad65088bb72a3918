set_option maxHeartbeats 4000000 in
set_option maxRecDepth 100000 in
theorem s_X1_take (l : Launch) (dC : Nat → ClassId) (dI : Nat → Nat → Nat) (sz : Nat) {L : List Nat} {K : Nat → Nat} {cs : Nat → ClassId} (hLK : ∀ a {k : Nat}, K a = k → k ≠ 0 → a ∈ L) (D : Nat) (F : Nat → va_E) (a0 : Nat) (a1 : Nat) (ha0 : K a0 = 2) (ha1 : K a1 = 3) (hI : s_I K cs D F) : Met l yX1_take (Cond.code yX1_take cX1_take 2 none :: T0) ({ frames := 0, cells := 0, slots := 0, locals := 0 }) (va_Pc [.ref a0, .ref a1] (s_W dC dI sz L F [(cs 0, .int), (cs 1, .byte), (cs 2, .long), (cs 3, .object RX5), (cs 4, .object RX4), (cs 5, .array .int), (cs 6, .char), (cs 7, .boolean)])) (va_Qv (fun (G : Nat → va_E) => True ∧ True ∧ s_I K cs D G ∧ ∀ b, K b ∉ [2] → G b = F b) (fun (G : Nat → va_E) (t : State) => va_P (dC, dI) vwCl (va_pl L G) t.heap ∧ va_K (dC, dI) vwCl [(cs 0, .int), (cs 1, .byte), (cs 2, .long), (cs 3, .object RX5), (cs 4, .object RX4), (cs 5, .array .int), (cs 6, .char), (cs 7, .boolean)] t) (fun q => q ∈ L)) 0 0 (fun q => q ∈ L) := by
  refine Met.ofW (cc := cX1_take) (maxL := 2) (ret := none) (by decide) rfl ?_
  intro p e s m args below meth c s₁ B hml hv
  obtain ⟨rfl, hsz, hP, hK, hD, hN⟩ := hv
  have hx := B.exec
  have hb := B.bytes
  have hr := B.returns
  have hts : ∀ w ∈ T0, w.before _ s = true := fun w h => atoms_spec (ws := Cond.code yX1_take cX1_take 2 none :: T0) B.pre w (List.mem_cons_of_mem _ h)
  have hown : s.vm.findClass RX1 = some m.cls := findClass_of_methodNamed B.named
  have hlocks := B.notSynchronized
  have hS : va_S (fun q => q ∈ L) s.heap s.heap [] := va_S.rf
  have hfr : ∀ b, K b ∉ [2] → F b = F b := fun _ _ => rfl
  have hl := lv_entry ([.ref a0, .ref a1]) (n := 2) (Nat.le_of_ble_eq_true rfl)
  rw [lg_entry_eq]
  generalize (lg_sl ([.ref a0, .ref a1]) ++ List.replicate (2 - (lg_sl ([.ref a0, .ref a1])).length) Slot.unset).toArray = ls at hl ⊢
  have hl : lv_has ls 2 [(0, .ref a0), (1, .ref a1)] := hl
  refine s_gen hP hS (fun H locs hP hS => ?_)
  refine lv_aload_n hx hb dX1_take_0 rfl (lv_at hl 0 rfl) ?_
  refine lv_aload_n hx hb dX1_take_1 rfl (lv_at hl 1 rfl) ?_
  obtain ⟨z1, z3, z5, z7, z9, z11, z13, z15, z16, z17, z19, z20, o21, h2, h4, h6, h8, h10, h12, h14, h18, -⟩ := s_op2 hI ha0
  refine th_put (D := (dC, dI)) (ci := 1) (v := .ref a1) (ty := .object "LaneWarps$Program") (C := RX1) (T := TX1) (N := 12) hx hb hts inX1 tyX1 tyX1_ok nmX1 hown hK hP hD hS (hLK _ ha0 (by decide)) o21 rfl 2 (by decide) (hts _ T_96) (fun _ h9 => h9) rfl (by decide +kernel) rfl rfl (Nat.le_of_ble_eq_true rfl) dX1_take_2 (fun H locs hP hS => ?_)
  have hP : va_P (dC, dI) vwCl (va_pl L (va_up F a0 (.inr (1, [.ref z1, .ref z3, .ref a1, va_rf z7, va_rf z9, va_rf z11, .int z13, .int z15, .int z16, .int z17, .int z19, .long z20])))) H := hP
  obtain ⟨F22, hF23⟩ : ∃ G : Nat → va_E, G = va_up F a0 (.inr (1, [.ref z1, .ref z3, .ref a1, va_rf z7, va_rf z9, va_rf z11, .int z13, .int z15, .int z16, .int z17, .int z19, .long z20])) := ⟨_, rfl⟩
  rw [← hF23] at hP
  have hI : s_I K cs D F22 := by rw [hF23]; exact s_cl2 hI ha0 ⟨z1, z3, a1, z7, z9, z11, z13, z15, z16, z17, z19, z20, rfl, h2, h4, ha1, h8, h10, h12, ⟨by omega, by omega⟩, ⟨by omega, by omega⟩, trivial⟩
  have hfr : ∀ b, K b ∉ [2] → F22 b = F b := by rw [hF23]; exact s_fr hfr ha0 (by decide)
  have o24 : F22 a0 = .inr (1, [.ref z1, .ref z3, .ref a1, va_rf z7, va_rf z9, va_rf z11, .int z13, .int z15, .int z16, .int z17, .int z19, .long z20]) := by rw [hF23]; exact th_up
  exact W.vret hx hb hr (fun t ht hW => ⟨⟨F22, rfl, ⟨trivial, trivial, hI, hfr⟩, by rw [ht]; exact hP, va_K.moved hW.alike hK⟩, hS.F ht⟩) hS.2.2 dX1_take_5

set_option maxHeartbeats 4000000 in
set_option maxRecDepth 100000 in
theorem s_X1_goesNow (l : Launch) (dC : Nat → ClassId) (dI : Nat → Nat → Nat) (sz : Nat) {L : List Nat} {K : Nat → Nat} {cs : Nat → ClassId} (hLK : ∀ a {k : Nat}, K a = k → k ≠ 0 → a ∈ L) (D : Nat) (F : Nat → va_E) (a0 : Nat) (x1 : Int32) (ha0 : K a0 = 2) (hI : s_I K cs D F) : Met l yX1_goesNow (Cond.code yX1_goesNow cX1_goesNow 2 (some .boolean) :: T0) ({ frames := 0, cells := 0, slots := 0, locals := 0 }) (va_Pc [.ref a0, .int x1] (s_W dC dI sz L F [(cs 0, .int), (cs 1, .byte), (cs 2, .long), (cs 3, .object RX5), (cs 4, .object RX4), (cs 5, .array .int), (cs 6, .char), (cs 7, .boolean)])) (va_Qi (fun (r : Int32) (G : Nat → va_E) => (0 ≤ r.toInt ∧ r.toInt ≤ 1) ∧ (True ∧ (∀ vs z, F a0 = .inr (1, vs) → vs[8]? = some (.int z) → (r = 0 ↔ (z >>> (x1 &&& 31) &&& 1) = 0))) ∧ s_I K cs D G ∧ ∀ b, K b ∉ ([] : List Nat) → G b = F b) (fun (G : Nat → va_E) (t : State) => va_P (dC, dI) vwCl (va_pl L G) t.heap ∧ va_K (dC, dI) vwCl [(cs 0, .int), (cs 1, .byte), (cs 2, .long), (cs 3, .object RX5), (cs 4, .object RX4), (cs 5, .array .int), (cs 6, .char), (cs 7, .boolean)] t) (fun q => q ∈ L)) 0 0 (fun q => q ∈ L) := by
  refine Met.ofW (cc := cX1_goesNow) (maxL := 2) (ret := (some .boolean)) (by decide) rfl ?_
  intro p e s m args below meth c s₁ B hml hv
  obtain ⟨rfl, hsz, hP, hK, hD, hN⟩ := hv
  have hx := B.exec
  have hb := B.bytes
  have hr := B.returns
  have hts : ∀ w ∈ T0, w.before _ s = true := fun w h => atoms_spec (ws := Cond.code yX1_goesNow cX1_goesNow 2 (some .boolean) :: T0) B.pre w (List.mem_cons_of_mem _ h)
  have hown : s.vm.findClass RX1 = some m.cls := findClass_of_methodNamed B.named
  have hlocks := B.notSynchronized
  have hS : va_S (fun q => q ∈ L) s.heap s.heap [] := va_S.rf
  have hfr : ∀ b, K b ∉ ([] : List Nat) → F b = F b := fun _ _ => rfl
  have hl := lv_entry ([.ref a0, .int x1]) (n := 2) (Nat.le_of_ble_eq_true rfl)
  rw [lg_entry_eq]
  generalize (lg_sl ([.ref a0, .int x1]) ++ List.replicate (2 - (lg_sl ([.ref a0, .int x1])).length) Slot.unset).toArray = ls at hl ⊢
  have hl : lv_has ls 2 [(0, .ref a0), (1, .int x1)] := hl
  refine s_gen hP hS (fun H locs hP hS => ?_)
  refine lv_aload_n hx hb dX1_goesNow_0 rfl (lv_at hl 0 rfl) ?_
  obtain ⟨z1, z3, z5, z7, z9, z11, z13, z15, z16, z17, z19, z20, o21, h2, h4, h6, h8, h10, h12, h14, h18, -⟩ := s_op2 hI ha0
  refine th_get (D := (dC, dI)) (ci := 1) (v := .int z16) (C := RX1) (T := TX1) (N := 12) hx hb hts inX1 hown hK hP (hLK _ ha0 (by decide)) o21 rfl 8 (by decide) (hts _ T_97) (fun _ h9 => h9) rfl dX1_goesNow_1 ?_
  refine lv_iload_n hx hb dX1_goesNow_4 rfl (lv_at hl 1 rfl) ?_
  refine lv_ishr hx hb dX1_goesNow_5 ?_
  refine lv_topi (fun v22 ev22 => ?_)
  refine lv_iconst (v := 1) hx hb dX1_goesNow_6 (by decide) ?_
  refine lv_iand hx hb dX1_goesNow_7 ?_
  refine lv_topi (fun v23 ev23 => ?_)
  have qv23 : 0 ≤ v23.toInt ∧ v23.toInt ≤ 1 := by rw [ev23]; exact th_and 1 (by decide) (by decide)
  refine lv_if_eq (tgt := 15) hx hb dX1_goesNow_8 (by decide) (fun c24 => ?_) (fun c24 => ?_)
  · have c24 := (ax_eq (n := 0) (by decide)).mp c24
    have g_bit : (z16 >>> (x1 &&& 31) &&& 1) = 0 := by rw [← ev22, ← ev23]; exact Int32.toInt_inj.mp (by rw [c24]; decide)
    refine lv_iconst (v := 0) hx hb dX1_goesNow_15 (by decide) ?_
    exact W.zret (v := 0) (ty := .boolean) hx hb hr (by decide) (fun t ht hW => ⟨⟨0, F, rfl, ⟨(by decide), ⟨trivial, (fun vs z q q2 => by rw [o21] at q; cases q; cases q2; exact ⟨fun _ => g_bit, fun _ => rfl⟩)⟩, hI, hfr⟩, by rw [ht]; exact hP, va_K.moved hW.alike hK⟩, hS.F ht⟩) hS.2.2 dX1_goesNow_16
  · have c24 := mt (ax_eq (n := 0) (by decide)).mpr c24
    have g_bit : ¬ (z16 >>> (x1 &&& 31) &&& 1) = 0 := by intro q9; apply c24; rw [ev23, ev22, q9]; decide
    refine lv_iconst (v := 1) hx hb dX1_goesNow_11 (by decide) ?_
    refine lv_goto (tgt := 16) hx hb dX1_goesNow_12 (by decide) ?_
    exact W.zret (v := 1) (ty := .boolean) hx hb hr (by decide) (fun t ht hW => ⟨⟨1, F, rfl, ⟨(by decide), ⟨trivial, (fun vs z q q2 => by rw [o21] at q; cases q; cases q2; exact ⟨fun q9 => absurd q9 (by decide), fun q9 => absurd q9 g_bit⟩)⟩, hI, hfr⟩, by rw [ht]; exact hP, va_K.moved hW.alike hK⟩, hS.F ht⟩) hS.2.2 dX1_goesNow_16

set_option maxHeartbeats 4000000 in
set_option maxRecDepth 100000 in
theorem s_X1_segments (l : Launch) (dC : Nat → ClassId) (dI : Nat → Nat → Nat) (sz : Nat) {L : List Nat} {K : Nat → Nat} {cs : Nat → ClassId} (hLK : ∀ a {k : Nat}, K a = k → k ≠ 0 → a ∈ L) (D : Nat) (F : Nat → va_E) (a0 : Nat) (ha0 : K a0 = 2) (hI : s_I K cs D F) : Met l yX1_segments (Cond.code yX1_segments cX1_segments 3 (some .int) :: T0) ({ frames := 1, cells := 0, slots := 0, locals := 21 }) (va_Pc [.ref a0] (s_W dC dI sz L F [(cs 0, .int), (cs 1, .byte), (cs 2, .long), (cs 3, .object RX5), (cs 4, .object RX4), (cs 5, .array .int), (cs 6, .char), (cs 7, .boolean)])) (va_Qi (fun (r : Int32) (G : Nat → va_E) => (0 ≤ r.toInt ∧ r.toInt ≤ 63) ∧ True ∧ s_I K cs D G ∧ ∀ b, K b ∉ ([] : List Nat) → G b = F b) (fun (G : Nat → va_E) (t : State) => va_P (dC, dI) vwCl (va_pl L G) t.heap ∧ va_K (dC, dI) vwCl [(cs 0, .int), (cs 1, .byte), (cs 2, .long), (cs 3, .object RX5), (cs 4, .object RX4), (cs 5, .array .int), (cs 6, .char), (cs 7, .boolean)] t) (fun q => q ∈ L)) 0 0 (fun q => q ∈ L) := by
  refine Met.ofW (cc := cX1_segments) (maxL := 3) (ret := (some .int)) (by decide) rfl ?_
  intro p e s m args below meth c s₁ B hml hv
  obtain ⟨rfl, hsz, hP, hK, hD, hN⟩ := hv
  have hx := B.exec
  have hb := B.bytes
  have hr := B.returns
  have hts : ∀ w ∈ T0, w.before _ s = true := fun w h => atoms_spec (ws := Cond.code yX1_segments cX1_segments 3 (some .int) :: T0) B.pre w (List.mem_cons_of_mem _ h)
  have hown : s.vm.findClass RX1 = some m.cls := findClass_of_methodNamed B.named
  have hlocks := B.notSynchronized
  have hS : va_S (fun q => q ∈ L) s.heap s.heap [] := va_S.rf
  have hfr : ∀ b, K b ∉ ([] : List Nat) → F b = F b := fun _ _ => rfl
  have hl := lv_entry ([.ref a0]) (n := 3) (Nat.le_of_ble_eq_true rfl)
  rw [lg_entry_eq]
  generalize (lg_sl ([.ref a0]) ++ List.replicate (3 - (lg_sl ([.ref a0])).length) Slot.unset).toArray = ls at hl ⊢
  have hl : lv_has ls 3 [(0, .ref a0)] := hl
  refine s_gen hP hS (fun H locs hP hS => ?_)
  refine lv_iconst (v := 0) hx hb dX1_segments_0 (by decide) ?_
  refine lv_istore_n (lv' := [(1, .int 0), (0, .ref a0)]) hx hb dX1_segments_1 rfl hl (by decide) rfl (fun ls hl => ?_)
  refine lv_iconst (v := 0) hx hb dX1_segments_2 (by decide) ?_
  refine lv_istore_n (lv' := [(2, .int 0), (1, .int 0), (0, .ref a0)]) hx hb dX1_segments_3 rfl hl (by decide) rfl (fun ls hl => ?_)
  refine th_loop (fun n g H locs => ∃ (G : Nat → va_E) (ls : Array Slot) (w1 : Int32) (w2 : Int32), g = F0 m 4 ls [] ∧ lv_has ls 3 [(0, .ref a0), (1, .int w1), (2, .int w2)] ∧ s_I K cs D G ∧ va_P (dC, dI) vwCl (va_pl L G) H ∧ va_S (fun q => q ∈ L) s.heap H locs ∧ (∀ b, K b ∉ ([] : List Nat) → G b = F b) ∧ True ∧ (0 ≤ w2.toInt ∧ w2.toInt ≤ 8) ∧ n = (9 - w2.toInt).toNat) _ ⟨F, _, 0, 0, rfl, lv_sub hl [2, 1, 0] rfl, hI, hP, hS, hfr, trivial, (by decide), rfl⟩ (fun n ih4 g H locs hq => ?_)
  obtain ⟨F9, ls, w1, w2, rfl, hl, hI, hP, hS, hfr, h3, h4, hn⟩ := hq
  have hn_4 := hn
  obtain ⟨n_4, hn9_4⟩ : ∃ q, q = n := ⟨_, rfl⟩
  refine th_join (fun g H locs => ∃ (G : Nat → va_E) (ls : Array Slot) (w5 : Int32), g = F0 m 32 ls [] ∧ lv_has ls 3 [(0, .ref a0), (1, .int w5), (2, .int w2)] ∧ s_I K cs D G ∧ va_P (dC, dI) vwCl (va_pl L G) H ∧ va_S (fun q => q ∈ L) s.heap H locs ∧ (∀ b, K b ∉ ([] : List Nat) → G b = F b) ∧ True ∧ (0 ≤ w2.toInt ∧ w2.toInt ≤ 7)) (fun K32 => ?_) ?_
  · refine lv_iload_n hx hb dX1_segments_4 rfl (lv_at hl 2 rfl) ?_
    refine lv_bipush (v := 8) hx hb dX1_segments_5 (by decide) ?_
    refine lv_icmp_ge (tgt := 38) hx hb dX1_segments_7 (by decide) (fun c6 => ?_) (fun c6 => ?_)
    · have c6 := (ax_ge (n := 8) (by decide)).mp c6
      refine lv_iload_n hx hb dX1_segments_38 rfl (lv_at hl 1 rfl) ?_
      refine va_calli (va_runS (As := [.int w1]) (rest := []) ⟨hx, hb, hml, hown, hts⟩ (s_J6_bitCount_0f7a4 l dC dI H.size hLK D F9 w1 hI) ⟨callB_of 1 hts (ax_gT T_88) rfl rfl rfl (hts _ T_89) (hts _ T_98) (by decide +kernel) ⟨Nat.le_of_ble_eq_true rfl, Nat.le_of_ble_eq_true rfl⟩, hts _ T_91⟩ ⟨fun a U g mk q => ⟨q.1, s_pc rfl rfl q.2⟩, fun U hU hW => ⟨rfl, s_pw hU hW hP hK hD hN⟩⟩ rfl rfl hl.1 rfl (lv_room (Nat.le_of_ble_eq_true rfl)) dX1_segments_39 ⟨Nat.zero_le _, Nat.zero_le _⟩) hS (fun q _ h => h) (fun q h => h) (fun r7 F8 t H1 locs ht hvm hw hB hz1 hk1 hS => ?_)
      obtain ⟨hP, hK1⟩ := hB
      rw [ht] at hP
      generalize H1 = H at hP hS ⊢
      obtain ⟨h9, h10, hI, hfr1⟩ := hw
      have hfr : ∀ b, K b ∉ ([] : List Nat) → F8 b = F b := fun b hb9 => (hfr1 b (fun q => hb9 (s_sub (by decide) q))).trans (hfr b hb9)
      exact W.iret (v := r7) hx hb hr (fun t ht hW => ⟨⟨r7, F8, rfl, ⟨⟨by omega, by omega⟩, trivial, hI, hfr⟩, by rw [ht]; exact hP, va_K.moved hW.alike hK⟩, hS.F ht⟩) hS.2.2 dX1_segments_42
    · have c6 := mt (ax_ge (n := 8) (by decide)).mpr c6
      refine lv_aload_n hx hb dX1_segments_10 rfl (lv_at hl 0 rfl) ?_
      refine lv_iload_n hx hb dX1_segments_11 rfl (lv_at hl 2 rfl) ?_
      obtain ⟨z11, z13, z15, z17, z19, z21, z23, z25, z26, z27, z29, z30, o31, h12, h14, h16, h18, h20, h22, h24, h28, -⟩ := s_op2 hI ha0
      refine va_calli (va_runV (As := [.int w2]) (rest := []) ⟨hx, hb, hml, hown, hts⟩ (s_X1_goesNow l dC dI H.size hLK D F9 a0 w2 ha0 hI) (cwV 1 hts (ax_gV T_101 T_102 T_103 T_100 T_99) rfl rfl rfl (by decide +kernel) ⟨Nat.le_of_ble_eq_true rfl, Nat.le_of_ble_eq_true rfl⟩) ⟨fun a U g mk q => ⟨q.1, s_pc rfl rfl q.2⟩, s_recv hK hP (hLK _ ha0 (by decide)) (ci := 1) rfl o31, fun U hU hW => ⟨rfl, s_pw hU hW hP hK hD hN⟩⟩ rfl rfl hl.1 rfl (lv_room (Nat.le_of_ble_eq_true rfl)) dX1_segments_12 ⟨Nat.zero_le _, Nat.zero_le _⟩) hS (fun q _ h => h) (fun q h => h) (fun r32 F33 t H1 locs ht hvm hw hB hz1 hk1 hS => ?_)
      obtain ⟨hP, hK1⟩ := hB
      rw [ht] at hP
      generalize H1 = H at hP hS ⊢
      obtain ⟨h34, h35, hI, hfr1⟩ := hw
      have o36 : F33 a0 = .inr (1, [.ref z11, .ref z13, .ref z15, va_rf z17, va_rf z19, va_rf z21, .int z23, .int z25, .int z26, .int z27, .int z29, .long z30]) := (hfr1 _ (by rw [ha0]; decide)).trans o31
      have hfr : ∀ b, K b ∉ ([] : List Nat) → F33 b = F b := fun b hb9 => (hfr1 b (fun q => hb9 (s_sub (by decide) q))).trans (hfr b hb9)
      obtain ⟨h35, h37⟩ := h35
      have h37 : (∀ vs z, F9 a0 = .inr (1, vs) → vs[8]? = some (.int z) → (r32 = 0 ↔ (z >>> (w2 &&& 31) &&& 1) = 0)) := h37
      refine lv_if_eq (tgt := 32) hx hb dX1_segments_15 (by decide) (fun c38 => ?_) (fun c38 => ?_)
      · have c38 := (ax_eq (n := 0) (by decide)).mp c38
        exact K32 _ _ _ ⟨F33, _, w1, rfl, lv_sub hl [0, 1, 2] rfl, hI, hP, hS, hfr, trivial, ⟨by omega, by omega⟩⟩
      · have c38 := mt (ax_eq (n := 0) (by decide)).mpr c38
        refine lv_iload_n hx hb dX1_segments_18 rfl (lv_at hl 1 rfl) ?_
        refine lv_iconst (v := 1) hx hb dX1_segments_19 (by decide) ?_
        refine lv_aload_n hx hb dX1_segments_20 rfl (lv_at hl 0 rfl) ?_
        refine th_get (D := (dC, dI)) (ci := 1) (v := .ref z11) (C := RX1) (T := TX1) (N := 12) hx hb hts inX1 hown hK hP (hLK _ ha0 (by decide)) o36 rfl 0 (by decide) (hts _ T_104) (fun _ h9 => h9) rfl dX1_segments_21 ?_
        refine lv_iload_n hx hb dX1_segments_24 rfl (lv_at hl 2 rfl) ?_
        obtain ⟨f39, o40, h41⟩ := s_op34 hI h12
        refine th_iald hx hb hK hP (hLK _ h12 (by decide)) 0 o40 rfl (th_in ⟨by omega, by omega⟩) dX1_segments_25 ?_
        refine lv_topi (fun v42 ev42 => ?_)
        have qv42 : 0 ≤ v42.toInt ∧ v42.toInt ≤ 63 := by rw [ev42]; exact h41 _ (th_cl ⟨by omega, by omega⟩)
        refine lv_bipush (v := 8) hx hb dX1_segments_26 (by decide) ?_
        refine lv_idiv hx hb dX1_segments_28 (by decide) ?_
        refine lv_topi (fun v43 ev43 => ?_)
        have qv43 : v43.toInt = v42.toInt / 8 := by rw [ev43]; exact th_div rfl (by decide) (by omega) (by decide)
        refine lv_ishl hx hb dX1_segments_29 ?_
        refine lv_topi (fun v44 ev44 => ?_)
        refine lv_ior hx hb dX1_segments_30 ?_
        refine lv_topi (fun v45 ev45 => ?_)
        refine lv_istore_n (lv' := [(1, .int v45), (0, .ref a0), (2, .int w2)]) hx hb dX1_segments_31 rfl hl (by decide) rfl (fun ls hl => ?_)
        exact K32 _ _ _ ⟨F33, _, v45, rfl, lv_sub hl [1, 0, 2] rfl, hI, hP, hS, hfr, trivial, ⟨by omega, by omega⟩⟩
  · intro g H locs hq
    obtain ⟨F9, ls, w5, rfl, hl, hI, hP, hS, hfr, h46, h47⟩ := hq
    obtain ⟨v48, ev48⟩ : ∃ y : Int32, w2 + 1 = y := ⟨_, rfl⟩
    have qv48 : v48.toInt = w2.toInt + 1 := by rw [← ev48]; exact th_add rfl (by decide) ⟨by omega, by omega⟩
    refine lv_iinc (v := v48) (lv' := [(2, .int v48), (0, .ref a0), (1, .int w5)]) hx hb dX1_segments_32 hl (k := 2) rfl ev48 (by decide) rfl (fun ls hl => ?_)
    refine lv_goto (tgt := 4) hx hb dX1_segments_35 (by decide) ?_
    exact ih4 _ _ _ _ (by omega) ⟨F9, _, w5, v48, rfl, lv_sub hl [1, 2, 0] rfl, hI, hP, hS, hfr, trivial, ⟨by omega, by omega⟩, rfl⟩

set_option maxHeartbeats 4000000 in
set_option maxRecDepth 100000 in
theorem s_X1_pickWarp (l : Launch) (dC : Nat → ClassId) (dI : Nat → Nat → Nat) (sz : Nat) {L : List Nat} {K : Nat → Nat} {cs : Nat → ClassId} (hLK : ∀ a {k : Nat}, K a = k → k ≠ 0 → a ∈ L) (D : Nat) (F : Nat → va_E) (a0 : Nat) (ha0 : K a0 = 2) (hI : s_I K cs D F) (hR : s_rd1 K F a0) : Met l yX1_pickWarp (Cond.code yX1_pickWarp cX1_pickWarp 4 (some .boolean) :: T0) ({ frames := 2, cells := 0, slots := 0, locals := 43 }) (va_Pc [.ref a0] (s_W dC dI sz L F [(cs 0, .int), (cs 1, .byte), (cs 2, .long), (cs 3, .object RX5), (cs 4, .object RX4), (cs 5, .array .int), (cs 6, .char), (cs 7, .boolean)])) (va_Qi (fun (r : Int32) (G : Nat → va_E) => (0 ≤ r.toInt ∧ r.toInt ≤ 1) ∧ True ∧ s_I K cs D G ∧ (∀ b, K b ∉ [2] → G b = F b) ∧ (¬ r = 0 → s_rd2 K G a0)) (fun (G : Nat → va_E) (t : State) => va_P (dC, dI) vwCl (va_pl L G) t.heap ∧ va_K (dC, dI) vwCl [(cs 0, .int), (cs 1, .byte), (cs 2, .long), (cs 3, .object RX5), (cs 4, .object RX4), (cs 5, .array .int), (cs 6, .char), (cs 7, .boolean)] t) (fun q => q ∈ L)) 0 0 (fun q => q ∈ L) := by
  refine Met.ofW (cc := cX1_pickWarp) (maxL := 4) (ret := (some .boolean)) (by decide) rfl ?_
  intro p e s m args below meth c s₁ B hml hv
  obtain ⟨rfl, hsz, hP, hK, hD, hN⟩ := hv
  have hx := B.exec
  have hb := B.bytes
  have hr := B.returns
  have hts : ∀ w ∈ T0, w.before _ s = true := fun w h => atoms_spec (ws := Cond.code yX1_pickWarp cX1_pickWarp 4 (some .boolean) :: T0) B.pre w (List.mem_cons_of_mem _ h)
  have hown : s.vm.findClass RX1 = some m.cls := findClass_of_methodNamed B.named
  have hlocks := B.notSynchronized
  have hS : va_S (fun q => q ∈ L) s.heap s.heap [] := va_S.rf
  have hfr : ∀ b, K b ∉ [2] → F b = F b := fun _ _ => rfl
  have hl := lv_entry ([.ref a0]) (n := 4) (Nat.le_of_ble_eq_true rfl)
  rw [lg_entry_eq]
  generalize (lg_sl ([.ref a0]) ++ List.replicate (4 - (lg_sl ([.ref a0])).length) Slot.unset).toArray = ls at hl ⊢
  have hl : lv_has ls 4 [(0, .ref a0)] := hl
  refine s_gen hP hS (fun H locs hP hS => ?_)
  obtain ⟨z1, z3, z5, z7, z9, z11, z13, z15, z16, z17, z19, z20, o21, h2, h4, h6, h8, h10, h12, h14, h18, -⟩ := hR
  refine th_join (fun g H locs => ∃ (G : Nat → va_E) (ls : Array Slot) (w22 : Int32), g = F0 m 24 ls [.int w22] ∧ lv_has ls 4 [(0, .ref a0)] ∧ s_I K cs D G ∧ va_P (dC, dI) vwCl (va_pl L G) H ∧ va_S (fun q => q ∈ L) s.heap H locs ∧ (∀ b, K b ∉ [2] → G b = F b) ∧ (0 ≤ w22.toInt ∧ w22.toInt ≤ 4) ∧ s_rd1 K G a0) (fun K24 => ?_) ?_
  · refine lv_aload_n hx hb dX1_pickWarp_0 rfl (lv_at hl 0 rfl) ?_
    refine th_get (D := (dC, dI)) (ci := 1) (v := .ref z7) (C := RX1) (T := TX1) (N := 12) hx hb hts inX1 hown hK hP (hLK _ ha0 (by decide)) o21 rfl 3 (by decide) (hts _ T_105) (fun _ h9 => h9) rfl dX1_pickWarp_1 ?_
    obtain ⟨z23, z25, z27, z29, z31, z33, z35, z37, z39, z40, z41, z43, z44, z46, z47, o49, h24, h26, h28, h30, h32, h34, h36, h38, h42, h45, h48, -⟩ := s_op5 hI h8
    refine th_getN (D := (dC, dI)) (ci := 4) (v := .int z40) (C := RX4) (T := TX4) (N := 15) hx hb hts inX4 hown hK hP (hLK _ h8 (by decide)) o49 rfl 9 (by decide) (va_Nw.use rfl hN.2.2.2.2.2.2.2.2.1) (fun _ h9 => h9) rfl dX1_pickWarp_4 ?_
    refine lv_iconst (v := 1) hx hb dX1_pickWarp_7 (by decide) ?_
    refine lv_icmp_ne (tgt := 23) hx hb dX1_pickWarp_8 (by decide) (fun c50 => ?_) (fun c50 => ?_)
    · have c50 := mt (ax_eq (n := 1) (by decide)).mpr c50
      refine lv_iconst (v := 0) hx hb dX1_pickWarp_23 (by decide) ?_
      exact K24 _ _ _ ⟨F, _, 0, rfl, lv_sub hl [0] rfl, hI, hP, hS, hfr, (by decide), ⟨z1, z3, z5, z7, z9, z11, z13, z15, z16, z17, z19, z20, o21, h2, h4, h6, h8, h10, h12, ⟨by omega, by omega⟩, ⟨by omega, by omega⟩, trivial⟩⟩
    · have c50 := (ax_eq (n := 1) (by decide)).mp c50
      refine lv_aload_n hx hb dX1_pickWarp_11 rfl (lv_at hl 0 rfl) ?_
      refine th_get (D := (dC, dI)) (ci := 1) (v := .ref z7) (C := RX1) (T := TX1) (N := 12) hx hb hts inX1 hown hK hP (hLK _ ha0 (by decide)) o21 rfl 3 (by decide) (hts _ T_105) (fun _ h9 => h9) rfl dX1_pickWarp_12 ?_
      refine th_getN (D := (dC, dI)) (ci := 4) (v := .int z47) (C := RX4) (T := TX4) (N := 15) hx hb hts inX4 hown hK hP (hLK _ h8 (by decide)) o49 rfl 14 (by decide) (va_Nw.use rfl hN.2.2.2.2.2.2.2.2.2.1) (fun _ h9 => h9) rfl dX1_pickWarp_15 ?_
      refine lv_iconst (v := 1) hx hb dX1_pickWarp_18 (by decide) ?_
      refine lv_iadd hx hb dX1_pickWarp_19 ?_
      refine lv_topi (fun v51 ev51 => ?_)
      have qv51 : v51.toInt = z47.toInt + 1 := by rw [ev51]; exact th_add rfl (by decide) ⟨by omega, by omega⟩
      refine lv_goto (tgt := 24) hx hb dX1_pickWarp_20 (by decide) ?_
      exact K24 _ _ _ ⟨F, _, v51, rfl, lv_sub hl [0] rfl, hI, hP, hS, hfr, ⟨by omega, by omega⟩, ⟨z1, z3, z5, z7, z9, z11, z13, z15, z16, z17, z19, z20, o21, h2, h4, h6, h8, h10, h12, ⟨by omega, by omega⟩, ⟨by omega, by omega⟩, trivial⟩⟩
  · intro g H locs hq
    obtain ⟨F9, ls, w22, rfl, hl, hI, hP, hS, hfr, h52, h53⟩ := hq
    obtain ⟨z54, z56, z58, z60, z62, z64, z66, z68, z69, z70, z72, z73, o74, h55, h57, h59, h61, h63, h65, h67, h71, -⟩ := h53
    refine lv_istore_n (lv' := [(1, .int w22), (0, .ref a0)]) hx hb dX1_pickWarp_24 rfl hl (by decide) rfl (fun ls hl => ?_)
    refine lv_iconst (v := 0) hx hb dX1_pickWarp_25 (by decide) ?_
    refine lv_istore_n (lv' := [(2, .int 0), (1, .int w22), (0, .ref a0)]) hx hb dX1_pickWarp_26 rfl hl (by decide) rfl (fun ls hl => ?_)
    refine th_loop (fun n g H locs => ∃ (G : Nat → va_E) (ls : Array Slot) (w75 : Int32), g = F0 m 27 ls [] ∧ lv_has ls 4 [(0, .ref a0), (1, .int w22), (2, .int w75)] ∧ s_I K cs D G ∧ va_P (dC, dI) vwCl (va_pl L G) H ∧ va_S (fun q => q ∈ L) s.heap H locs ∧ (∀ b, K b ∉ [2] → G b = F b) ∧ (0 ≤ w75.toInt ∧ w75.toInt ≤ 4) ∧ (0 ≤ w22.toInt ∧ w22.toInt ≤ 4) ∧ s_rd1 K G a0 ∧ n = (5 - w75.toInt).toNat) _ ⟨F9, _, 0, rfl, lv_sub hl [2, 1, 0] rfl, hI, hP, hS, hfr, (by decide), ⟨by omega, by omega⟩, ⟨z54, z56, z58, z60, z62, z64, z66, z68, z69, z70, z72, z73, o74, h55, h57, h59, h61, h63, h65, ⟨by omega, by omega⟩, ⟨by omega, by omega⟩, trivial⟩, rfl⟩ (fun n ih27 g H locs hq => ?_)
    obtain ⟨F9, ls, w75, rfl, hl, hI, hP, hS, hfr, h76, h77, h78, hn⟩ := hq
    obtain ⟨z79, z81, z83, z85, z87, z89, z91, z93, z94, z95, z97, z98, o99, h80, h82, h84, h86, h88, h90, h92, h96, -⟩ := h78
    have hn_27 := hn
    obtain ⟨n_27, hn9_27⟩ : ∃ q, q = n := ⟨_, rfl⟩
    refine lv_iload_n hx hb dX1_pickWarp_27 rfl (lv_at hl 2 rfl) ?_
    refine lv_aload_n hx hb dX1_pickWarp_28 rfl (lv_at hl 0 rfl) ?_
    refine th_get (D := (dC, dI)) (ci := 1) (v := .ref z85) (C := RX1) (T := TX1) (N := 12) hx hb hts inX1 hown hK hP (hLK _ ha0 (by decide)) o99 rfl 3 (by decide) (hts _ T_105) (fun _ h9 => h9) rfl dX1_pickWarp_29 ?_
    obtain ⟨z100, z102, z104, z106, z108, z110, z112, z114, z116, z117, z118, z120, z121, z123, z124, o126, h101, h103, h105, h107, h109, h111, h113, h115, h119, h122, h125, -⟩ := s_op5 hI h86
    refine th_getN (D := (dC, dI)) (ci := 4) (v := .int z114) (C := RX4) (T := TX4) (N := 15) hx hb hts inX4 hown hK hP (hLK _ h86 (by decide)) o126 rfl 7 (by decide) (va_Nw.use rfl hN.2.2.2.2.2.2.2.2.2.2.1) (fun _ h9 => h9) rfl dX1_pickWarp_32 ?_
    refine lv_icmp_ge (tgt := 87) hx hb dX1_pickWarp_35 (by decide) (fun c127 => ?_) (fun c127 => ?_)
    · have c127 := Int32.le_iff_toInt_le.mp c127
      refine lv_iconst (v := 0) hx hb dX1_pickWarp_87 (by decide) ?_
      exact W.zret (v := 0) (ty := .boolean) hx hb hr (by decide) (fun t ht hW => ⟨⟨0, F9, rfl, ⟨(by decide), trivial, hI, hfr, (fun q => absurd (by decide) q)⟩, by rw [ht]; exact hP, va_K.moved hW.alike hK⟩, hS.F ht⟩) hS.2.2 dX1_pickWarp_88
    · have c127 := mt Int32.le_iff_toInt_le.mpr c127
      refine lv_iload_n hx hb dX1_pickWarp_38 rfl (lv_at hl 1 rfl) ?_
      refine lv_iload_n hx hb dX1_pickWarp_39 rfl (lv_at hl 2 rfl) ?_
      refine lv_iadd hx hb dX1_pickWarp_40 ?_
      refine lv_topi (fun v128 ev128 => ?_)
      have qv128 : v128.toInt = w22.toInt + w75.toInt := by rw [ev128]; exact th_add rfl rfl ⟨by omega, by omega⟩
      refine lv_aload_n hx hb dX1_pickWarp_41 rfl (lv_at hl 0 rfl) ?_
      refine th_get (D := (dC, dI)) (ci := 1) (v := .ref z85) (C := RX1) (T := TX1) (N := 12) hx hb hts inX1 hown hK hP (hLK _ ha0 (by decide)) o99 rfl 3 (by decide) (hts _ T_105) (fun _ h9 => h9) rfl dX1_pickWarp_42 ?_
      refine th_getN (D := (dC, dI)) (ci := 4) (v := .int z114) (C := RX4) (T := TX4) (N := 15) hx hb hts inX4 hown hK hP (hLK _ h86 (by decide)) o126 rfl 7 (by decide) (va_Nw.use rfl hN.2.2.2.2.2.2.2.2.2.2.1) (fun _ h9 => h9) rfl dX1_pickWarp_45 ?_
      refine lv_irem hx hb dX1_pickWarp_48 (fun q => by have q2 := Int32.toInt_inj.mpr q; have q3 : (0 : Int32).toInt = 0 := (by decide); omega) ?_
      refine lv_topi (fun v129 ev129 => ?_)
      have qv129 : 0 ≤ v129.toInt ∧ v129.toInt < z114.toInt := by rw [ev129]; exact th_remV (by omega) (by omega)
      refine lv_istore_n (lv' := [(3, .int v129), (0, .ref a0), (1, .int w22), (2, .int w75)]) hx hb dX1_pickWarp_49 rfl hl (by decide) rfl (fun ls hl => ?_)
      refine lv_aload_n hx hb dX1_pickWarp_50 rfl (lv_at hl 1 rfl) ?_
      refine th_get (D := (dC, dI)) (ci := 1) (v := .ref z85) (C := RX1) (T := TX1) (N := 12) hx hb hts inX1 hown hK hP (hLK _ ha0 (by decide)) o99 rfl 3 (by decide) (hts _ T_105) (fun _ h9 => h9) rfl dX1_pickWarp_51 ?_
      refine lv_iload_n hx hb dX1_pickWarp_54 rfl (lv_at hl 0 rfl) ?_
      refine va_calli (va_runV (As := [.int v129]) (rest := []) ⟨hx, hb, hml, hown, hts⟩ (s_X4_canGo l dC dI H.size hLK D F9 z85 v129 h86 (⟨by omega, by omega⟩) hI) (cwV 1 hts (ax_gV T_107 T_108 T_109 T_63 T_106) rfl rfl rfl (by decide +kernel) ⟨Nat.le_of_ble_eq_true rfl, Nat.le_of_ble_eq_true rfl⟩) ⟨fun a U g mk q => ⟨q.1, s_pc rfl rfl q.2⟩, s_recv hK hP (hLK _ h86 (by decide)) (ci := 4) rfl o126, fun U hU hW => ⟨rfl, s_pw hU hW hP hK hD hN⟩⟩ rfl rfl hl.1 rfl (lv_room (Nat.le_of_ble_eq_true rfl)) dX1_pickWarp_55 ⟨Nat.zero_le _, Nat.zero_le _⟩) hS (fun q _ h => h) (fun q h => h) (fun r130 F131 t H1 locs ht hvm hw hB hz1 hk1 hS => ?_)
      obtain ⟨hP, hK1⟩ := hB
      rw [ht] at hP
      generalize H1 = H at hP hS ⊢
      obtain ⟨h132, h133, hI, hfr1⟩ := hw
      have o134 : F131 a0 = .inr (1, [.ref z79, .ref z81, .ref z83, .ref z85, va_rf z87, va_rf z89, .int z91, .int z93, .int z94, .int z95, .int z97, .long z98]) := (hfr1 _ (by rw [ha0]; decide)).trans o99
      have o135 : F131 z85 = .inr (4, [.ref z100, .ref z102, .ref z104, .ref z106, .ref z108, .ref z110, .ref z112, .int z114, .int z116, .int z117, .int z118, .int z120, .int z121, .int z123, .int z124]) := (hfr1 _ (by rw [h86]; decide)).trans o126
      have hfr : ∀ b, K b ∉ [2] → F131 b = F b := fun b hb9 => (hfr1 b (fun q => hb9 (s_sub (by decide) q))).trans (hfr b hb9)
      refine lv_if_eq (tgt := 81) hx hb dX1_pickWarp_58 (by decide) (fun c136 => ?_) (fun c136 => ?_)
      · have c136 := (ax_eq (n := 0) (by decide)).mp c136
        obtain ⟨v137, ev137⟩ : ∃ y : Int32, w75 + 1 = y := ⟨_, rfl⟩
        have qv137 : v137.toInt = w75.toInt + 1 := by rw [← ev137]; exact th_add rfl (by decide) ⟨by omega, by omega⟩
        refine lv_iinc (v := v137) (lv' := [(2, .int v137), (3, .int v129), (0, .ref a0), (1, .int w22)]) hx hb dX1_pickWarp_81 hl (k := 3) rfl ev137 (by decide) rfl (fun ls hl => ?_)
        refine lv_goto (tgt := 27) hx hb dX1_pickWarp_84 (by decide) ?_
        exact ih27 _ _ _ _ (by omega) ⟨F131, _, v137, rfl, lv_sub hl [2, 3, 0] rfl, hI, hP, hS, hfr, ⟨by omega, by omega⟩, ⟨by omega, by omega⟩, ⟨z79, z81, z83, z85, z87, z89, z91, z93, z94, z95, z97, z98, o134, h80, h82, h84, h86, h88, h90, ⟨by omega, by omega⟩, ⟨by omega, by omega⟩, trivial⟩, rfl⟩
      · have c136 := mt (ax_eq (n := 0) (by decide)).mpr c136
        refine lv_aload_n hx hb dX1_pickWarp_61 rfl (lv_at hl 1 rfl) ?_
        refine lv_iload_n hx hb dX1_pickWarp_62 rfl (lv_at hl 0 rfl) ?_
        refine th_put (D := (dC, dI)) (ci := 1) (v := .int v129) (ty := .int) (C := RX1) (T := TX1) (N := 12) hx hb hts inX1 tyX1 tyX1_ok nmX1 hown hK hP hD hS (hLK _ ha0 (by decide)) o134 rfl 6 (by decide) (hts _ T_110) (fun _ h9 => h9) rfl (by decide +kernel) rfl rfl (Nat.le_of_ble_eq_true rfl) dX1_pickWarp_63 (fun H locs hP hS => ?_)
        have hP : va_P (dC, dI) vwCl (va_pl L (va_up F131 a0 (.inr (1, [.ref z79, .ref z81, .ref z83, .ref z85, va_rf z87, va_rf z89, .int v129, .int z93, .int z94, .int z95, .int z97, .long z98])))) H := hP
        obtain ⟨F138, hF139⟩ : ∃ G : Nat → va_E, G = va_up F131 a0 (.inr (1, [.ref z79, .ref z81, .ref z83, .ref z85, va_rf z87, va_rf z89, .int v129, .int z93, .int z94, .int z95, .int z97, .long z98])) := ⟨_, rfl⟩
        rw [← hF139] at hP
        have hI : s_I K cs D F138 := by rw [hF139]; exact s_cl2 hI ha0 ⟨z79, z81, z83, some z85, z87, z89, v129, z93, z94, z95, z97, z98, rfl, h80, h82, h84, (fun q e => by cases e; exact h86), h88, h90, ⟨by omega, by omega⟩, ⟨by omega, by omega⟩, trivial⟩
        have hfr : ∀ b, K b ∉ [2] → F138 b = F b := by rw [hF139]; exact s_fr hfr ha0 (by decide)
        have o140 : F138 z85 = .inr (4, [.ref z100, .ref z102, .ref z104, .ref z106, .ref z108, .ref z110, .ref z112, .int z114, .int z116, .int z117, .int z118, .int z120, .int z121, .int z123, .int z124]) := by rw [hF139]; exact th_ne (th_kd h86 ha0 (by decide)) o135
        have o141 : F138 a0 = .inr (1, [.ref z79, .ref z81, .ref z83, .ref z85, va_rf z87, va_rf z89, .int v129, .int z93, .int z94, .int z95, .int z97, .long z98]) := by rw [hF139]; exact th_up
        refine lv_aload_n hx hb dX1_pickWarp_66 rfl (lv_at hl 1 rfl) ?_
        refine lv_aload_n hx hb dX1_pickWarp_67 rfl (lv_at hl 1 rfl) ?_
        refine th_get (D := (dC, dI)) (ci := 1) (v := .ref z85) (C := RX1) (T := TX1) (N := 12) hx hb hts inX1 hown hK hP (hLK _ ha0 (by decide)) o141 rfl 3 (by decide) (hts _ T_105) (fun _ h9 => h9) rfl dX1_pickWarp_68 ?_
        refine th_getN (D := (dC, dI)) (ci := 4) (v := .ref z100) (C := RX4) (T := TX4) (N := 15) hx hb hts inX4 hown hK hP (hLK _ h86 (by decide)) o140 rfl 0 (by decide) (va_Nw.use rfl hN.2.2.2.2.2.2.2.2.2.2.2.1) (fun _ h9 => h9) rfl dX1_pickWarp_71 ?_
        refine lv_iload_n hx hb dX1_pickWarp_74 rfl (lv_at hl 0 rfl) ?_
        obtain ⟨f142, o143, h144⟩ := s_op26 hI h101
        obtain ⟨z145, o147, h146⟩ := h144 (v129 : Int32).toNatClampNeg (th_cl ⟨by omega, by omega⟩)
        refine th_aald hx hb hK hP (hLK _ h101 (by decide)) 3 o143 rfl (th_in ⟨by omega, by omega⟩) o147 dX1_pickWarp_75 ?_
        refine th_put (D := (dC, dI)) (ci := 1) (v := .ref z145) (ty := .object "LaneWarps$Warp") (C := RX1) (T := TX1) (N := 12) hx hb hts inX1 tyX1 tyX1_ok nmX1 hown hK hP hD hS (hLK _ ha0 (by decide)) o141 rfl 4 (by decide) (hts _ T_111) (fun _ h9 => h9) rfl (by decide +kernel) rfl rfl (Nat.le_of_ble_eq_true rfl) dX1_pickWarp_76 (fun H locs hP hS => ?_)
        have hP : va_P (dC, dI) vwCl (va_pl L (va_up F138 a0 (.inr (1, [.ref z79, .ref z81, .ref z83, .ref z85, .ref z145, va_rf z89, .int v129, .int z93, .int z94, .int z95, .int z97, .long z98])))) H := hP
        obtain ⟨F148, hF149⟩ : ∃ G : Nat → va_E, G = va_up F138 a0 (.inr (1, [.ref z79, .ref z81, .ref z83, .ref z85, .ref z145, va_rf z89, .int v129, .int z93, .int z94, .int z95, .int z97, .long z98])) := ⟨_, rfl⟩
        rw [← hF149] at hP
        have hI : s_I K cs D F148 := by rw [hF149]; exact s_cl2 hI ha0 ⟨z79, z81, z83, some z85, some z145, z89, v129, z93, z94, z95, z97, z98, rfl, h80, h82, h84, (fun q e => by cases e; exact h86), (fun q e => by cases e; exact h146), h90, ⟨by omega, by omega⟩, ⟨by omega, by omega⟩, trivial⟩
        have hfr : ∀ b, K b ∉ [2] → F148 b = F b := by rw [hF149]; exact s_fr hfr ha0 (by decide)
        have o150 : F148 z85 = .inr (4, [.ref z100, .ref z102, .ref z104, .ref z106, .ref z108, .ref z110, .ref z112, .int z114, .int z116, .int z117, .int z118, .int z120, .int z121, .int z123, .int z124]) := by rw [hF149]; exact th_ne (th_kd h86 ha0 (by decide)) o140
        have o151 : F148 a0 = .inr (1, [.ref z79, .ref z81, .ref z83, .ref z85, .ref z145, va_rf z89, .int v129, .int z93, .int z94, .int z95, .int z97, .long z98]) := by rw [hF149]; exact th_up
        refine lv_iconst (v := 1) hx hb dX1_pickWarp_79 (by decide) ?_
        exact W.zret (v := 1) (ty := .boolean) hx hb hr (by decide) (fun t ht hW => ⟨⟨1, F148, rfl, ⟨(by decide), trivial, hI, hfr, (fun _ => ⟨z79, z81, z83, z85, z145, z89, v129, z93, z94, z95, z97, z98, o151, h80, h82, h84, h86, h146, h90, ⟨by omega, by omega⟩, ⟨by omega, by omega⟩, trivial⟩)⟩, by rw [ht]; exact hP, va_K.moved hW.alike hK⟩, hS.F ht⟩) hS.2.2 dX1_pickWarp_80

set_option maxHeartbeats 4000000 in
set_option maxRecDepth 100000 in
theorem s_X1_pickLanes (l : Launch) (dC : Nat → ClassId) (dI : Nat → Nat → Nat) (sz : Nat) {L : List Nat} {K : Nat → Nat} {cs : Nat → ClassId} (hLK : ∀ a {k : Nat}, K a = k → k ≠ 0 → a ∈ L) (D : Nat) (F : Nat → va_E) (a0 : Nat) (ha0 : K a0 = 2) (hI : s_I K cs D F) (hR : s_rd2 K F a0) : Met l yX1_pickLanes (Cond.code yX1_pickLanes cX1_pickLanes 3 none :: T0) ({ frames := 1, cells := 0, slots := 0, locals := 22 }) (va_Pc [.ref a0] (s_W dC dI sz L F [(cs 0, .int), (cs 1, .byte), (cs 2, .long), (cs 3, .object RX5), (cs 4, .object RX4), (cs 5, .array .int), (cs 6, .char), (cs 7, .boolean)])) (va_Qv (fun (G : Nat → va_E) => True ∧ True ∧ s_I K cs D G ∧ (∀ b, K b ∉ [2] → G b = F b) ∧ s_rd2 K G a0) (fun (G : Nat → va_E) (t : State) => va_P (dC, dI) vwCl (va_pl L G) t.heap ∧ va_K (dC, dI) vwCl [(cs 0, .int), (cs 1, .byte), (cs 2, .long), (cs 3, .object RX5), (cs 4, .object RX4), (cs 5, .array .int), (cs 6, .char), (cs 7, .boolean)] t) (fun q => q ∈ L)) 0 0 (fun q => q ∈ L) := by
  refine Met.ofW (cc := cX1_pickLanes) (maxL := 3) (ret := none) (by decide) rfl ?_
  intro p e s m args below meth c s₁ B hml hv
  obtain ⟨rfl, hsz, hP, hK, hD, hN⟩ := hv
  have hx := B.exec
  have hb := B.bytes
  have hr := B.returns
  have hts : ∀ w ∈ T0, w.before _ s = true := fun w h => atoms_spec (ws := Cond.code yX1_pickLanes cX1_pickLanes 3 none :: T0) B.pre w (List.mem_cons_of_mem _ h)
  have hown : s.vm.findClass RX1 = some m.cls := findClass_of_methodNamed B.named
  have hlocks := B.notSynchronized
  have hS : va_S (fun q => q ∈ L) s.heap s.heap [] := va_S.rf
  have hfr : ∀ b, K b ∉ [2] → F b = F b := fun _ _ => rfl
  have hl := lv_entry ([.ref a0]) (n := 3) (Nat.le_of_ble_eq_true rfl)
  rw [lg_entry_eq]
  generalize (lg_sl ([.ref a0]) ++ List.replicate (3 - (lg_sl ([.ref a0])).length) Slot.unset).toArray = ls at hl ⊢
  have hl : lv_has ls 3 [(0, .ref a0)] := hl
  refine s_gen hP hS (fun H locs hP hS => ?_)
  obtain ⟨z1, z3, z5, z7, z9, z11, z13, z15, z16, z17, z19, z20, o21, h2, h4, h6, h8, h10, h12, h14, h18, -⟩ := hR
  refine th_join (fun g H locs => ∃ (G : Nat → va_E) (ls : Array Slot) (w22 : Int32), g = F0 m 105 ls [] ∧ lv_has ls 3 [(0, .ref a0), (1, .int w22)] ∧ s_I K cs D G ∧ va_P (dC, dI) vwCl (va_pl L G) H ∧ va_S (fun q => q ∈ L) s.heap H locs ∧ (∀ b, K b ∉ [2] → G b = F b) ∧ True ∧ s_rd2 K G a0) (fun K105 => ?_) ?_
  · refine lv_aload_n hx hb dX1_pickLanes_0 rfl (lv_at hl 0 rfl) ?_
    refine th_get (D := (dC, dI)) (ci := 1) (v := .ref z9) (C := RX1) (T := TX1) (N := 12) hx hb hts inX1 hown hK hP (hLK _ ha0 (by decide)) o21 rfl 4 (by decide) (hts _ T_111) (fun _ h9 => h9) rfl dX1_pickLanes_1 ?_
    refine lv_aload_n hx hb dX1_pickLanes_4 rfl (lv_at hl 0 rfl) ?_
    refine th_get (D := (dC, dI)) (ci := 1) (v := .ref z7) (C := RX1) (T := TX1) (N := 12) hx hb hts inX1 hown hK hP (hLK _ ha0 (by decide)) o21 rfl 3 (by decide) (hts _ T_105) (fun _ h9 => h9) rfl dX1_pickLanes_5 ?_
    obtain ⟨z23, z25, z27, z29, z31, z33, z35, z37, z39, z40, z41, z43, z44, z46, z47, o49, h24, h26, h28, h30, h32, h34, h36, h38, h42, h45, h48, -⟩ := s_op5 hI h8
    refine th_getN (D := (dC, dI)) (ci := 4) (v := .int z39) (C := RX4) (T := TX4) (N := 15) hx hb hts inX4 hown hK hP (hLK _ h8 (by decide)) o49 rfl 8 (by decide) (va_Nw.use rfl hN.2.2.2.2.2.2.2.2.2.2.2.2.1) (fun _ h9 => h9) rfl dX1_pickLanes_8 ?_
    obtain ⟨z50, z52, z54, z56, z58, z60, z62, z63, z64, z65, z66, o68, h51, h53, h55, h57, h59, h61, h67, -⟩ := s_op6 hI h10
    refine va_calli (va_runV (As := [.int z39]) (rest := []) ⟨hx, hb, hml, hown, hts⟩ (s_X5_movable l dC dI H.size hLK D F z9 z39 h10 hI) (cwV 1 hts (ax_gV T_112 T_86 T_87 T_11 T_84) rfl rfl rfl (by decide +kernel) ⟨Nat.le_of_ble_eq_true rfl, Nat.le_of_ble_eq_true rfl⟩) ⟨fun a U g mk q => ⟨q.1, s_pc rfl rfl q.2⟩, s_recv hK hP (hLK _ h10 (by decide)) (ci := 5) rfl o68, fun U hU hW => ⟨rfl, s_pw hU hW hP hK hD hN⟩⟩ rfl rfl hl.1 rfl (lv_room (Nat.le_of_ble_eq_true rfl)) dX1_pickLanes_11 ⟨Nat.zero_le _, Nat.zero_le _⟩) hS (fun q _ h => h) (fun q h => h) (fun r69 F70 t H1 locs ht hvm hw hB hz1 hk1 hS => ?_)
    obtain ⟨hP, hK1⟩ := hB
    rw [ht] at hP
    generalize H1 = H at hP hS ⊢
    obtain ⟨h71, h72, hI, hfr1⟩ := hw
    have o73 : F70 a0 = .inr (1, [.ref z1, .ref z3, .ref z5, .ref z7, .ref z9, va_rf z11, .int z13, .int z15, .int z16, .int z17, .int z19, .long z20]) := (hfr1 _ (by rw [ha0]; decide)).trans o21
    have o74 : F70 z7 = .inr (4, [.ref z23, .ref z25, .ref z27, .ref z29, .ref z31, .ref z33, .ref z35, .int z37, .int z39, .int z40, .int z41, .int z43, .int z44, .int z46, .int z47]) := (hfr1 _ (by rw [h8]; decide)).trans o49
    have o75 : F70 z9 = .inr (5, [.ref z50, .ref z52, .ref z54, .ref z56, .ref z58, .int z60, .int z62, .int z63, .int z64, .int z65, .int z66]) := (hfr1 _ (by rw [h10]; decide)).trans o68
    have hfr : ∀ b, K b ∉ [2] → F70 b = F b := fun b hb9 => (hfr1 b (fun q => hb9 (s_sub (by decide) q))).trans (hfr b hb9)
    refine lv_istore_n (lv' := [(1, .int r69), (0, .ref a0)]) hx hb dX1_pickLanes_14 rfl hl (by decide) rfl (fun ls hl => ?_)
    refine lv_aload_n hx hb dX1_pickLanes_15 rfl (lv_at hl 1 rfl) ?_
    refine th_get (D := (dC, dI)) (ci := 1) (v := .ref z7) (C := RX1) (T := TX1) (N := 12) hx hb hts inX1 hown hK hP (hLK _ ha0 (by decide)) o73 rfl 3 (by decide) (hts _ T_105) (fun _ h9 => h9) rfl dX1_pickLanes_16 ?_
    refine th_getN (D := (dC, dI)) (ci := 4) (v := .int z39) (C := RX4) (T := TX4) (N := 15) hx hb hts inX4 hown hK hP (hLK _ h8 (by decide)) o74 rfl 8 (by decide) (va_Nw.use rfl hN.2.2.2.2.2.2.2.2.2.2.2.2.1) (fun _ h9 => h9) rfl dX1_pickLanes_19 ?_
    refine lv_if_ne (tgt := 56) hx hb dX1_pickLanes_22 (by decide) (fun c76 => ?_) (fun c76 => ?_)
    · have c76 := mt (ax_eq (n := 0) (by decide)).mpr c76
      refine lv_aload_n hx hb dX1_pickLanes_56 rfl (lv_at hl 1 rfl) ?_
      refine lv_aload_n hx hb dX1_pickLanes_57 rfl (lv_at hl 1 rfl) ?_
      refine th_get (D := (dC, dI)) (ci := 1) (v := .ref z9) (C := RX1) (T := TX1) (N := 12) hx hb hts inX1 hown hK hP (hLK _ ha0 (by decide)) o73 rfl 4 (by decide) (hts _ T_111) (fun _ h9 => h9) rfl dX1_pickLanes_58 ?_
      refine th_getN (D := (dC, dI)) (ci := 5) (v := .int z66) (C := RX5) (T := TX5) (N := 11) hx hb hts inX5 hown hK hP (hLK _ h10 (by decide)) o75 rfl 10 (by decide) (va_Nw.use rfl hN.2.2.2.2.2.2.2.2.2.2.2.2.2.1) (fun _ h9 => h9) rfl dX1_pickLanes_61 ?_
      refine th_put (D := (dC, dI)) (ci := 1) (v := .int z66) (ty := .int) (C := RX1) (T := TX1) (N := 12) hx hb hts inX1 tyX1 tyX1_ok nmX1 hown hK hP hD hS (hLK _ ha0 (by decide)) o73 rfl 9 (by decide) (hts _ T_113) (fun _ h9 => h9) rfl (by decide +kernel) rfl rfl (Nat.le_of_ble_eq_true rfl) dX1_pickLanes_64 (fun H locs hP hS => ?_)
      have hP : va_P (dC, dI) vwCl (va_pl L (va_up F70 a0 (.inr (1, [.ref z1, .ref z3, .ref z5, .ref z7, .ref z9, va_rf z11, .int z13, .int z15, .int z16, .int z66, .int z19, .long z20])))) H := hP
      obtain ⟨F77, hF78⟩ : ∃ G : Nat → va_E, G = va_up F70 a0 (.inr (1, [.ref z1, .ref z3, .ref z5, .ref z7, .ref z9, va_rf z11, .int z13, .int z15, .int z16, .int z66, .int z19, .long z20])) := ⟨_, rfl⟩
      rw [← hF78] at hP
      have hI : s_I K cs D F77 := by rw [hF78]; exact s_cl2 hI ha0 ⟨z1, z3, z5, some z7, some z9, z11, z13, z15, z16, z66, z19, z20, rfl, h2, h4, h6, (fun q e => by cases e; exact h8), (fun q e => by cases e; exact h10), h12, ⟨by omega, by omega⟩, ⟨by omega, by omega⟩, trivial⟩
      have hfr : ∀ b, K b ∉ [2] → F77 b = F b := by rw [hF78]; exact s_fr hfr ha0 (by decide)
      have o79 : F77 z7 = .inr (4, [.ref z23, .ref z25, .ref z27, .ref z29, .ref z31, .ref z33, .ref z35, .int z37, .int z39, .int z40, .int z41, .int z43, .int z44, .int z46, .int z47]) := by rw [hF78]; exact th_ne (th_kd h8 ha0 (by decide)) o74
      have o80 : F77 z9 = .inr (5, [.ref z50, .ref z52, .ref z54, .ref z56, .ref z58, .int z60, .int z62, .int z63, .int z64, .int z65, .int z66]) := by rw [hF78]; exact th_ne (th_kd h10 ha0 (by decide)) o75
      have o81 : F77 a0 = .inr (1, [.ref z1, .ref z3, .ref z5, .ref z7, .ref z9, va_rf z11, .int z13, .int z15, .int z16, .int z66, .int z19, .long z20]) := by rw [hF78]; exact th_up
      refine lv_iconst (v := 0) hx hb dX1_pickLanes_67 (by decide) ?_
      refine lv_istore_n (lv' := [(2, .int 0), (1, .int r69), (0, .ref a0)]) hx hb dX1_pickLanes_68 rfl hl (by decide) rfl (fun ls hl => ?_)
      refine th_loop (fun n g H locs => ∃ (G : Nat → va_E) (ls : Array Slot) (w82 : Int32), g = F0 m 69 ls [] ∧ lv_has ls 3 [(0, .ref a0), (1, .int r69), (2, .int w82)] ∧ s_I K cs D G ∧ va_P (dC, dI) vwCl (va_pl L G) H ∧ va_S (fun q => q ∈ L) s.heap H locs ∧ (∀ b, K b ∉ [2] → G b = F b) ∧ (0 ≤ w82.toInt ∧ w82.toInt ≤ 8) ∧ s_rd2 K G a0 ∧ n = (9 - w82.toInt).toNat) _ ⟨F77, _, 0, rfl, lv_sub hl [2, 1, 0] rfl, hI, hP, hS, hfr, (by decide), ⟨z1, z3, z5, z7, z9, z11, z13, z15, z16, z66, z19, z20, o81, h2, h4, h6, h8, h10, h12, ⟨by omega, by omega⟩, ⟨by omega, by omega⟩, trivial⟩, rfl⟩ (fun n ih69 g H locs hq => ?_)
      obtain ⟨F9, ls, w82, rfl, hl, hI, hP, hS, hfr, h83, h84, hn⟩ := hq
      obtain ⟨z85, z87, z89, z91, z93, z95, z97, z99, z100, z101, z103, z104, o105, h86, h88, h90, h92, h94, h96, h98, h102, -⟩ := h84
      have hn_69 := hn
      obtain ⟨n_69, hn9_69⟩ : ∃ q, q = n := ⟨_, rfl⟩
      refine lv_iload_n hx hb dX1_pickLanes_69 rfl (lv_at hl 2 rfl) ?_
      refine lv_bipush (v := 8) hx hb dX1_pickLanes_70 (by decide) ?_
      refine lv_icmp_ge (tgt := 105) hx hb dX1_pickLanes_72 (by decide) (fun c106 => ?_) (fun c106 => ?_)
      · have c106 := (ax_ge (n := 8) (by decide)).mp c106
        exact K105 _ _ _ ⟨F9, _, r69, rfl, lv_sub hl [0, 1] rfl, hI, hP, hS, hfr, trivial, ⟨z85, z87, z89, z91, z93, z95, z97, z99, z100, z101, z103, z104, o105, h86, h88, h90, h92, h94, h96, ⟨by omega, by omega⟩, ⟨by omega, by omega⟩, trivial⟩⟩
      · have c106 := mt (ax_ge (n := 8) (by decide)).mpr c106
        refine lv_iload_n hx hb dX1_pickLanes_75 rfl (lv_at hl 1 rfl) ?_
        refine lv_aload_n hx hb dX1_pickLanes_76 rfl (lv_at hl 0 rfl) ?_
        refine th_get (D := (dC, dI)) (ci := 1) (v := .int z101) (C := RX1) (T := TX1) (N := 12) hx hb hts inX1 hown hK hP (hLK _ ha0 (by decide)) o105 rfl 9 (by decide) (hts _ T_113) (fun _ h9 => h9) rfl dX1_pickLanes_77 ?_
        refine lv_ishr hx hb dX1_pickLanes_80 ?_
        refine lv_topi (fun v107 ev107 => ?_)
        refine lv_iconst (v := 1) hx hb dX1_pickLanes_81 (by decide) ?_
        refine lv_iand hx hb dX1_pickLanes_82 ?_
        refine lv_topi (fun v108 ev108 => ?_)
        have qv108 : 0 ≤ v108.toInt ∧ v108.toInt ≤ 1 := by rw [ev108]; exact th_and 1 (by decide) (by decide)
        refine lv_if_ne (tgt := 105) hx hb dX1_pickLanes_83 (by decide) (fun c109 => ?_) (fun c109 => ?_)
        · have c109 := mt (ax_eq (n := 0) (by decide)).mpr c109
          exact K105 _ _ _ ⟨F9, _, r69, rfl, lv_sub hl [0, 1] rfl, hI, hP, hS, hfr, trivial, ⟨z85, z87, z89, z91, z93, z95, z97, z99, z100, z101, z103, z104, o105, h86, h88, h90, h92, h94, h96, ⟨by omega, by omega⟩, ⟨by omega, by omega⟩, trivial⟩⟩
        · have c109 := (ax_eq (n := 0) (by decide)).mp c109
          refine lv_aload_n hx hb dX1_pickLanes_86 rfl (lv_at hl 0 rfl) ?_
          refine lv_aload_n hx hb dX1_pickLanes_87 rfl (lv_at hl 0 rfl) ?_
          refine th_get (D := (dC, dI)) (ci := 1) (v := .int z101) (C := RX1) (T := TX1) (N := 12) hx hb hts inX1 hown hK hP (hLK _ ha0 (by decide)) o105 rfl 9 (by decide) (hts _ T_113) (fun _ h9 => h9) rfl dX1_pickLanes_88 ?_
          refine lv_iconst (v := 1) hx hb dX1_pickLanes_91 (by decide) ?_
          refine lv_iadd hx hb dX1_pickLanes_92 ?_
          refine lv_topi (fun v110 ev110 => ?_)
          have qv110 : v110.toInt = z101.toInt + 1 := by rw [ev110]; exact th_add rfl (by decide) ⟨by omega, by omega⟩
          refine lv_bipush (v := 8) hx hb dX1_pickLanes_93 (by decide) ?_
          refine lv_irem hx hb dX1_pickLanes_95 (by decide) ?_
          refine lv_topi (fun v111 ev111 => ?_)
          have qv111 : v111.toInt = v110.toInt % 8 := by rw [ev111]; exact th_rem rfl (by decide) (by omega) (by decide)
          refine th_put (D := (dC, dI)) (ci := 1) (v := .int v111) (ty := .int) (C := RX1) (T := TX1) (N := 12) hx hb hts inX1 tyX1 tyX1_ok nmX1 hown hK hP hD hS (hLK _ ha0 (by decide)) o105 rfl 9 (by decide) (hts _ T_113) (fun _ h9 => h9) rfl (by decide +kernel) rfl rfl (Nat.le_of_ble_eq_true rfl) dX1_pickLanes_96 (fun H locs hP hS => ?_)
          have hP : va_P (dC, dI) vwCl (va_pl L (va_up F9 a0 (.inr (1, [.ref z85, .ref z87, .ref z89, .ref z91, .ref z93, va_rf z95, .int z97, .int z99, .int z100, .int v111, .int z103, .long z104])))) H := hP
          obtain ⟨F112, hF113⟩ : ∃ G : Nat → va_E, G = va_up F9 a0 (.inr (1, [.ref z85, .ref z87, .ref z89, .ref z91, .ref z93, va_rf z95, .int z97, .int z99, .int z100, .int v111, .int z103, .long z104])) := ⟨_, rfl⟩
          rw [← hF113] at hP
          have hI : s_I K cs D F112 := by rw [hF113]; exact s_cl2 hI ha0 ⟨z85, z87, z89, some z91, some z93, z95, z97, z99, z100, v111, z103, z104, rfl, h86, h88, h90, (fun q e => by cases e; exact h92), (fun q e => by cases e; exact h94), h96, ⟨by omega, by omega⟩, ⟨by omega, by omega⟩, trivial⟩
          have hfr : ∀ b, K b ∉ [2] → F112 b = F b := by rw [hF113]; exact s_fr hfr ha0 (by decide)
          have o114 : F112 a0 = .inr (1, [.ref z85, .ref z87, .ref z89, .ref z91, .ref z93, va_rf z95, .int z97, .int z99, .int z100, .int v111, .int z103, .long z104]) := by rw [hF113]; exact th_up
          obtain ⟨v115, ev115⟩ : ∃ y : Int32, w82 + 1 = y := ⟨_, rfl⟩
          have qv115 : v115.toInt = w82.toInt + 1 := by rw [← ev115]; exact th_add rfl (by decide) ⟨by omega, by omega⟩
          refine lv_iinc (v := v115) (lv' := [(2, .int v115), (0, .ref a0), (1, .int r69)]) hx hb dX1_pickLanes_99 hl (k := 2) rfl ev115 (by decide) rfl (fun ls hl => ?_)
          refine lv_goto (tgt := 69) hx hb dX1_pickLanes_102 (by decide) ?_
          exact ih69 _ _ _ _ (by omega) ⟨F112, _, v115, rfl, lv_sub hl [1, 2, 0] rfl, hI, hP, hS, hfr, ⟨by omega, by omega⟩, ⟨z85, z87, z89, z91, z93, z95, z97, z99, z100, v111, z103, z104, o114, h86, h88, h90, h92, h94, h96, ⟨by omega, by omega⟩, ⟨by omega, by omega⟩, trivial⟩, rfl⟩
    · have c76 := (ax_eq (n := 0) (by decide)).mp c76
      refine lv_aload_n hx hb dX1_pickLanes_25 rfl (lv_at hl 1 rfl) ?_
      refine lv_iload_n hx hb dX1_pickLanes_26 rfl (lv_at hl 0 rfl) ?_
      refine th_put (D := (dC, dI)) (ci := 1) (v := .int r69) (ty := .int) (C := RX1) (T := TX1) (N := 12) hx hb hts inX1 tyX1 tyX1_ok nmX1 hown hK hP hD hS (hLK _ ha0 (by decide)) o73 rfl 8 (by decide) (hts _ T_97) (fun _ h9 => h9) rfl (by decide +kernel) rfl rfl (Nat.le_of_ble_eq_true rfl) dX1_pickLanes_27 (fun H locs hP hS => ?_)
      have hP : va_P (dC, dI) vwCl (va_pl L (va_up F70 a0 (.inr (1, [.ref z1, .ref z3, .ref z5, .ref z7, .ref z9, va_rf z11, .int z13, .int z15, .int r69, .int z17, .int z19, .long z20])))) H := hP
      obtain ⟨F116, hF117⟩ : ∃ G : Nat → va_E, G = va_up F70 a0 (.inr (1, [.ref z1, .ref z3, .ref z5, .ref z7, .ref z9, va_rf z11, .int z13, .int z15, .int r69, .int z17, .int z19, .long z20])) := ⟨_, rfl⟩
      rw [← hF117] at hP
      have hI : s_I K cs D F116 := by rw [hF117]; exact s_cl2 hI ha0 ⟨z1, z3, z5, some z7, some z9, z11, z13, z15, r69, z17, z19, z20, rfl, h2, h4, h6, (fun q e => by cases e; exact h8), (fun q e => by cases e; exact h10), h12, ⟨by omega, by omega⟩, ⟨by omega, by omega⟩, trivial⟩
      have hfr : ∀ b, K b ∉ [2] → F116 b = F b := by rw [hF117]; exact s_fr hfr ha0 (by decide)
      have o118 : F116 z7 = .inr (4, [.ref z23, .ref z25, .ref z27, .ref z29, .ref z31, .ref z33, .ref z35, .int z37, .int z39, .int z40, .int z41, .int z43, .int z44, .int z46, .int z47]) := by rw [hF117]; exact th_ne (th_kd h8 ha0 (by decide)) o74
      have o119 : F116 z9 = .inr (5, [.ref z50, .ref z52, .ref z54, .ref z56, .ref z58, .int z60, .int z62, .int z63, .int z64, .int z65, .int z66]) := by rw [hF117]; exact th_ne (th_kd h10 ha0 (by decide)) o75
      have o120 : F116 a0 = .inr (1, [.ref z1, .ref z3, .ref z5, .ref z7, .ref z9, va_rf z11, .int z13, .int z15, .int r69, .int z17, .int z19, .long z20]) := by rw [hF117]; exact th_up
      refine lv_aload_n hx hb dX1_pickLanes_30 rfl (lv_at hl 1 rfl) ?_
      refine lv_aload_n hx hb dX1_pickLanes_31 rfl (lv_at hl 1 rfl) ?_
      refine th_get (D := (dC, dI)) (ci := 1) (v := .ref z9) (C := RX1) (T := TX1) (N := 12) hx hb hts inX1 hown hK hP (hLK _ ha0 (by decide)) o120 rfl 4 (by decide) (hts _ T_111) (fun _ h9 => h9) rfl dX1_pickLanes_32 ?_
      refine th_getN (D := (dC, dI)) (ci := 5) (v := .ref z54) (C := RX5) (T := TX5) (N := 11) hx hb hts inX5 hown hK hP (hLK _ h10 (by decide)) o119 rfl 2 (by decide) (va_Nw.use rfl hN.2.2.2.2.2.2.2.2.2.2.2.2.2.2.1) (fun _ h9 => h9) rfl dX1_pickLanes_35 ?_
      refine lv_aload_n hx hb dX1_pickLanes_38 rfl (lv_at hl 1 rfl) ?_
      refine th_get (D := (dC, dI)) (ci := 1) (v := .ref z9) (C := RX1) (T := TX1) (N := 12) hx hb hts inX1 hown hK hP (hLK _ ha0 (by decide)) o120 rfl 4 (by decide) (hts _ T_111) (fun _ h9 => h9) rfl dX1_pickLanes_39 ?_
      refine th_getN (D := (dC, dI)) (ci := 5) (v := .int z60) (C := RX5) (T := TX5) (N := 11) hx hb hts inX5 hown hK hP (hLK _ h10 (by decide)) o119 rfl 5 (by decide) (va_Nw.use rfl hN.2.2.2.2.2.2.2.2.2.2.2.2.2.2.2.1) (fun _ h9 => h9) rfl dX1_pickLanes_42 ?_
      refine lv_iconst (v := 1) hx hb dX1_pickLanes_45 (by decide) ?_
      refine lv_isub hx hb dX1_pickLanes_46 ?_
      refine lv_topi (fun v121 ev121 => ?_)
      have qv121 : v121.toInt = z60.toInt - 1 := by rw [ev121]; exact th_sub rfl (by decide) ⟨by omega, by omega⟩
      refine lv_iconst (v := 0) hx hb dX1_pickLanes_47 (by decide) ?_
      refine va_mmax hx hb (by rw [hml]; exact hl.1.symm) hown (hts _ T_114) (hts _ T_73) (hts _ T_74) (hts _ T_75) (Nat.le_of_ble_eq_true rfl) (Nat.le_of_ble_eq_true rfl) (Nat.zero_le _) (Nat.zero_le _) dX1_pickLanes_48 ?_
      refine lv_topi (fun v122 ev122 => ?_)
      have qv122 := th_mmax (a := v121.toInt) (b := 0) ev122 rfl (by decide)
      obtain ⟨f123, o124, h125⟩ := s_op32 hI h55
      refine th_iald hx hb hK hP (hLK _ h55 (by decide)) 0 o124 rfl (th_in ⟨by omega, by omega⟩) dX1_pickLanes_51 ?_
      refine lv_topi (fun v126 ev126 => ?_)
      refine th_put (D := (dC, dI)) (ci := 1) (v := .int v126) (ty := .int) (C := RX1) (T := TX1) (N := 12) hx hb hts inX1 tyX1 tyX1_ok nmX1 hown hK hP hD hS (hLK _ ha0 (by decide)) o120 rfl 7 (by decide) (hts _ T_115) (fun _ h9 => h9) rfl (by decide +kernel) rfl rfl (Nat.le_of_ble_eq_true rfl) dX1_pickLanes_52 (fun H locs hP hS => ?_)
      have hP : va_P (dC, dI) vwCl (va_pl L (va_up F116 a0 (.inr (1, [.ref z1, .ref z3, .ref z5, .ref z7, .ref z9, va_rf z11, .int z13, .int v126, .int r69, .int z17, .int z19, .long z20])))) H := hP
      obtain ⟨F127, hF128⟩ : ∃ G : Nat → va_E, G = va_up F116 a0 (.inr (1, [.ref z1, .ref z3, .ref z5, .ref z7, .ref z9, va_rf z11, .int z13, .int v126, .int r69, .int z17, .int z19, .long z20])) := ⟨_, rfl⟩
      rw [← hF128] at hP
      have hI : s_I K cs D F127 := by rw [hF128]; exact s_cl2 hI ha0 ⟨z1, z3, z5, some z7, some z9, z11, z13, v126, r69, z17, z19, z20, rfl, h2, h4, h6, (fun q e => by cases e; exact h8), (fun q e => by cases e; exact h10), h12, ⟨by omega, by omega⟩, ⟨by omega, by omega⟩, trivial⟩
      have hfr : ∀ b, K b ∉ [2] → F127 b = F b := by rw [hF128]; exact s_fr hfr ha0 (by decide)
      have o129 : F127 z7 = .inr (4, [.ref z23, .ref z25, .ref z27, .ref z29, .ref z31, .ref z33, .ref z35, .int z37, .int z39, .int z40, .int z41, .int z43, .int z44, .int z46, .int z47]) := by rw [hF128]; exact th_ne (th_kd h8 ha0 (by decide)) o118
      have o130 : F127 z9 = .inr (5, [.ref z50, .ref z52, .ref z54, .ref z56, .ref z58, .int z60, .int z62, .int z63, .int z64, .int z65, .int z66]) := by rw [hF128]; exact th_ne (th_kd h10 ha0 (by decide)) o119
      have o131 : F127 a0 = .inr (1, [.ref z1, .ref z3, .ref z5, .ref z7, .ref z9, va_rf z11, .int z13, .int v126, .int r69, .int z17, .int z19, .long z20]) := by rw [hF128]; exact th_up
      exact W.vret hx hb hr (fun t ht hW => ⟨⟨F127, rfl, ⟨trivial, trivial, hI, hfr, ⟨z1, z3, z5, z7, z9, z11, z13, v126, r69, z17, z19, z20, o131, h2, h4, h6, h8, h10, h12, ⟨by omega, by omega⟩, ⟨by omega, by omega⟩, trivial⟩⟩, by rw [ht]; exact hP, va_K.moved hW.alike hK⟩, hS.F ht⟩) hS.2.2 dX1_pickLanes_55
  · intro g H locs hq
    obtain ⟨F9, ls, w22, rfl, hl, hI, hP, hS, hfr, h132, h133⟩ := hq
    obtain ⟨z134, z136, z138, z140, z142, z144, z146, z148, z149, z150, z152, z153, o154, h135, h137, h139, h141, h143, h145, h147, h151, -⟩ := h133
    refine lv_aload_n hx hb dX1_pickLanes_105 rfl (lv_at hl 0 rfl) ?_
    refine lv_aload_n hx hb dX1_pickLanes_106 rfl (lv_at hl 0 rfl) ?_
    refine th_get (D := (dC, dI)) (ci := 1) (v := .ref z142) (C := RX1) (T := TX1) (N := 12) hx hb hts inX1 hown hK hP (hLK _ ha0 (by decide)) o154 rfl 4 (by decide) (hts _ T_111) (fun _ h9 => h9) rfl dX1_pickLanes_107 ?_
    obtain ⟨z155, z157, z159, z161, z163, z165, z167, z168, z169, z170, z171, o173, h156, h158, h160, h162, h164, h166, h172, -⟩ := s_op6 hI h143
    refine th_getN (D := (dC, dI)) (ci := 5) (v := .ref z157) (C := RX5) (T := TX5) (N := 11) hx hb hts inX5 hown hK hP (hLK _ h143 (by decide)) o173 rfl 1 (by decide) (va_Nw.use rfl hN.2.2.2.2.2.2.2.2.2.2.2.2.2.2.2.2.1) (fun _ h9 => h9) rfl dX1_pickLanes_110 ?_
    refine lv_aload_n hx hb dX1_pickLanes_113 rfl (lv_at hl 0 rfl) ?_
    refine th_get (D := (dC, dI)) (ci := 1) (v := .int z150) (C := RX1) (T := TX1) (N := 12) hx hb hts inX1 hown hK hP (hLK _ ha0 (by decide)) o154 rfl 9 (by decide) (hts _ T_113) (fun _ h9 => h9) rfl dX1_pickLanes_114 ?_
    obtain ⟨f174, o175, h176⟩ := s_op31 hI h158
    refine th_iald hx hb hK hP (hLK _ h158 (by decide)) 0 o175 rfl (th_in ⟨by omega, by omega⟩) dX1_pickLanes_117 ?_
    refine lv_topi (fun v177 ev177 => ?_)
    refine th_put (D := (dC, dI)) (ci := 1) (v := .int v177) (ty := .int) (C := RX1) (T := TX1) (N := 12) hx hb hts inX1 tyX1 tyX1_ok nmX1 hown hK hP hD hS (hLK _ ha0 (by decide)) o154 rfl 7 (by decide) (hts _ T_115) (fun _ h9 => h9) rfl (by decide +kernel) rfl rfl (Nat.le_of_ble_eq_true rfl) dX1_pickLanes_118 (fun H locs hP hS => ?_)
    have hP : va_P (dC, dI) vwCl (va_pl L (va_up F9 a0 (.inr (1, [.ref z134, .ref z136, .ref z138, .ref z140, .ref z142, va_rf z144, .int z146, .int v177, .int z149, .int z150, .int z152, .long z153])))) H := hP
    obtain ⟨F178, hF179⟩ : ∃ G : Nat → va_E, G = va_up F9 a0 (.inr (1, [.ref z134, .ref z136, .ref z138, .ref z140, .ref z142, va_rf z144, .int z146, .int v177, .int z149, .int z150, .int z152, .long z153])) := ⟨_, rfl⟩
    rw [← hF179] at hP
    have hI : s_I K cs D F178 := by rw [hF179]; exact s_cl2 hI ha0 ⟨z134, z136, z138, some z140, some z142, z144, z146, v177, z149, z150, z152, z153, rfl, h135, h137, h139, (fun q e => by cases e; exact h141), (fun q e => by cases e; exact h143), h145, ⟨by omega, by omega⟩, ⟨by omega, by omega⟩, trivial⟩
    have hfr : ∀ b, K b ∉ [2] → F178 b = F b := by rw [hF179]; exact s_fr hfr ha0 (by decide)
    have o180 : F178 z142 = .inr (5, [.ref z155, .ref z157, .ref z159, .ref z161, .ref z163, .int z165, .int z167, .int z168, .int z169, .int z170, .int z171]) := by rw [hF179]; exact th_ne (th_kd h143 ha0 (by decide)) o173
    have o181 : F178 a0 = .inr (1, [.ref z134, .ref z136, .ref z138, .ref z140, .ref z142, va_rf z144, .int z146, .int v177, .int z149, .int z150, .int z152, .long z153]) := by rw [hF179]; exact th_up
    refine lv_aload_n hx hb dX1_pickLanes_121 rfl (lv_at hl 0 rfl) ?_
    refine lv_iconst (v := 0) hx hb dX1_pickLanes_122 (by decide) ?_
    refine th_put (D := (dC, dI)) (ci := 1) (v := .int 0) (ty := .int) (C := RX1) (T := TX1) (N := 12) hx hb hts inX1 tyX1 tyX1_ok nmX1 hown hK hP hD hS (hLK _ ha0 (by decide)) o181 rfl 8 (by decide) (hts _ T_97) (fun _ h9 => h9) rfl (by decide +kernel) rfl rfl (Nat.le_of_ble_eq_true rfl) dX1_pickLanes_123 (fun H locs hP hS => ?_)
    have hP : va_P (dC, dI) vwCl (va_pl L (va_up F178 a0 (.inr (1, [.ref z134, .ref z136, .ref z138, .ref z140, .ref z142, va_rf z144, .int z146, .int v177, .int 0, .int z150, .int z152, .long z153])))) H := hP
    obtain ⟨F182, hF183⟩ : ∃ G : Nat → va_E, G = va_up F178 a0 (.inr (1, [.ref z134, .ref z136, .ref z138, .ref z140, .ref z142, va_rf z144, .int z146, .int v177, .int 0, .int z150, .int z152, .long z153])) := ⟨_, rfl⟩
    rw [← hF183] at hP
    have hI : s_I K cs D F182 := by rw [hF183]; exact s_cl2 hI ha0 ⟨z134, z136, z138, some z140, some z142, z144, z146, v177, 0, z150, z152, z153, rfl, h135, h137, h139, (fun q e => by cases e; exact h141), (fun q e => by cases e; exact h143), h145, ⟨by omega, by omega⟩, ⟨by omega, by omega⟩, trivial⟩
    have hfr : ∀ b, K b ∉ [2] → F182 b = F b := by rw [hF183]; exact s_fr hfr ha0 (by decide)
    have o184 : F182 z142 = .inr (5, [.ref z155, .ref z157, .ref z159, .ref z161, .ref z163, .int z165, .int z167, .int z168, .int z169, .int z170, .int z171]) := by rw [hF183]; exact th_ne (th_kd h143 ha0 (by decide)) o180
    have o185 : F182 a0 = .inr (1, [.ref z134, .ref z136, .ref z138, .ref z140, .ref z142, va_rf z144, .int z146, .int v177, .int 0, .int z150, .int z152, .long z153]) := by rw [hF183]; exact th_up
    refine lv_iconst (v := 0) hx hb dX1_pickLanes_126 (by decide) ?_
    refine lv_istore_n (lv' := [(2, .int 0), (0, .ref a0), (1, .int w22)]) hx hb dX1_pickLanes_127 rfl hl (by decide) rfl (fun ls hl => ?_)
    refine th_loop (fun n g H locs => ∃ (G : Nat → va_E) (ls : Array Slot) (w186 : Int32), g = F0 m 128 ls [] ∧ lv_has ls 3 [(0, .ref a0), (1, .int w22), (2, .int w186)] ∧ s_I K cs D G ∧ va_P (dC, dI) vwCl (va_pl L G) H ∧ va_S (fun q => q ∈ L) s.heap H locs ∧ (∀ b, K b ∉ [2] → G b = F b) ∧ (0 ≤ w186.toInt ∧ w186.toInt ≤ 8) ∧ s_rd2 K G a0 ∧ n = (9 - w186.toInt).toNat) _ ⟨F182, _, 0, rfl, lv_sub hl [1, 2, 0] rfl, hI, hP, hS, hfr, (by decide), ⟨z134, z136, z138, z140, z142, z144, z146, v177, 0, z150, z152, z153, o185, h135, h137, h139, h141, h143, h145, ⟨by omega, by omega⟩, ⟨by omega, by omega⟩, trivial⟩, rfl⟩ (fun n ih128 g H locs hq => ?_)
    obtain ⟨F9, ls, w186, rfl, hl, hI, hP, hS, hfr, h187, h188, hn⟩ := hq
    obtain ⟨z189, z191, z193, z195, z197, z199, z201, z203, z204, z205, z207, z208, o209, h190, h192, h194, h196, h198, h200, h202, h206, -⟩ := h188
    have hn_128 := hn
    obtain ⟨n_128, hn9_128⟩ : ∃ q, q = n := ⟨_, rfl⟩
    refine th_join (fun g H locs => ∃ (G : Nat → va_E) (ls : Array Slot), g = F0 m 170 ls [] ∧ lv_has ls 3 [(0, .ref a0), (1, .int w22), (2, .int w186)] ∧ s_I K cs D G ∧ va_P (dC, dI) vwCl (va_pl L G) H ∧ va_S (fun q => q ∈ L) s.heap H locs ∧ (∀ b, K b ∉ [2] → G b = F b) ∧ (0 ≤ w186.toInt ∧ w186.toInt ≤ 7) ∧ s_rd2 K G a0) (fun K170 => ?_) ?_
    · refine lv_iload_n hx hb dX1_pickLanes_128 rfl (lv_at hl 2 rfl) ?_
      refine lv_bipush (v := 8) hx hb dX1_pickLanes_129 (by decide) ?_
      refine lv_icmp_ge (tgt := 176) hx hb dX1_pickLanes_131 (by decide) (fun c210 => ?_) (fun c210 => ?_)
      · have c210 := (ax_ge (n := 8) (by decide)).mp c210
        exact W.vret hx hb hr (fun t ht hW => ⟨⟨F9, rfl, ⟨trivial, trivial, hI, hfr, ⟨z189, z191, z193, z195, z197, z199, z201, z203, z204, z205, z207, z208, o209, h190, h192, h194, h196, h198, h200, ⟨by omega, by omega⟩, ⟨by omega, by omega⟩, trivial⟩⟩, by rw [ht]; exact hP, va_K.moved hW.alike hK⟩, hS.F ht⟩) hS.2.2 dX1_pickLanes_176
      · have c210 := mt (ax_ge (n := 8) (by decide)).mpr c210
        refine lv_iload_n hx hb dX1_pickLanes_134 rfl (lv_at hl 1 rfl) ?_
        refine lv_iload_n hx hb dX1_pickLanes_135 rfl (lv_at hl 2 rfl) ?_
        refine lv_ishr hx hb dX1_pickLanes_136 ?_
        refine lv_topi (fun v211 ev211 => ?_)
        refine lv_iconst (v := 1) hx hb dX1_pickLanes_137 (by decide) ?_
        refine lv_iand hx hb dX1_pickLanes_138 ?_
        refine lv_topi (fun v212 ev212 => ?_)
        have qv212 : 0 ≤ v212.toInt ∧ v212.toInt ≤ 1 := by rw [ev212]; exact th_and 1 (by decide) (by decide)
        refine lv_if_eq (tgt := 170) hx hb dX1_pickLanes_139 (by decide) (fun c213 => ?_) (fun c213 => ?_)
        · have c213 := (ax_eq (n := 0) (by decide)).mp c213
          exact K170 _ _ _ ⟨F9, _, rfl, lv_sub hl [0, 1, 2] rfl, hI, hP, hS, hfr, ⟨by omega, by omega⟩, ⟨z189, z191, z193, z195, z197, z199, z201, z203, z204, z205, z207, z208, o209, h190, h192, h194, h196, h198, h200, ⟨by omega, by omega⟩, ⟨by omega, by omega⟩, trivial⟩⟩
        · have c213 := mt (ax_eq (n := 0) (by decide)).mpr c213
          refine lv_aload_n hx hb dX1_pickLanes_142 rfl (lv_at hl 0 rfl) ?_
          refine th_get (D := (dC, dI)) (ci := 1) (v := .ref z197) (C := RX1) (T := TX1) (N := 12) hx hb hts inX1 hown hK hP (hLK _ ha0 (by decide)) o209 rfl 4 (by decide) (hts _ T_111) (fun _ h9 => h9) rfl dX1_pickLanes_143 ?_
          obtain ⟨z214, z216, z218, z220, z222, z224, z226, z227, z228, z229, z230, o232, h215, h217, h219, h221, h223, h225, h231, -⟩ := s_op6 hI h198
          refine th_getN (D := (dC, dI)) (ci := 5) (v := .ref z216) (C := RX5) (T := TX5) (N := 11) hx hb hts inX5 hown hK hP (hLK _ h198 (by decide)) o232 rfl 1 (by decide) (va_Nw.use rfl hN.2.2.2.2.2.2.2.2.2.2.2.2.2.2.2.2.1) (fun _ h9 => h9) rfl dX1_pickLanes_146 ?_
          refine lv_iload_n hx hb dX1_pickLanes_149 rfl (lv_at hl 2 rfl) ?_
          obtain ⟨f233, o234, h235⟩ := s_op31 hI h217
          refine th_iald hx hb hK hP (hLK _ h217 (by decide)) 0 o234 rfl (th_in ⟨by omega, by omega⟩) dX1_pickLanes_150 ?_
          refine lv_topi (fun v236 ev236 => ?_)
          refine lv_aload_n hx hb dX1_pickLanes_151 rfl (lv_at hl 0 rfl) ?_
          refine th_get (D := (dC, dI)) (ci := 1) (v := .int z203) (C := RX1) (T := TX1) (N := 12) hx hb hts inX1 hown hK hP (hLK _ ha0 (by decide)) o209 rfl 7 (by decide) (hts _ T_115) (fun _ h9 => h9) rfl dX1_pickLanes_152 ?_
          refine lv_icmp_ne (tgt := 170) hx hb dX1_pickLanes_155 (by decide) (fun c237 => ?_) (fun c237 => ?_)
          · have c237 := mt Int32.toInt_inj.symm.mpr c237
            exact K170 _ _ _ ⟨F9, _, rfl, lv_sub hl [0, 1, 2] rfl, hI, hP, hS, hfr, ⟨by omega, by omega⟩, ⟨z189, z191, z193, z195, z197, z199, z201, z203, z204, z205, z207, z208, o209, h190, h192, h194, h196, h198, h200, ⟨by omega, by omega⟩, ⟨by omega, by omega⟩, trivial⟩⟩
          · have c237 := Int32.toInt_inj.symm.mp c237
            refine lv_aload_n hx hb dX1_pickLanes_158 rfl (lv_at hl 0 rfl) ?_
            refine lv_dup hx hb dX1_pickLanes_159 rfl ?_
            refine th_get (D := (dC, dI)) (ci := 1) (v := .int z204) (C := RX1) (T := TX1) (N := 12) hx hb hts inX1 hown hK hP (hLK _ ha0 (by decide)) o209 rfl 8 (by decide) (hts _ T_97) (fun _ h9 => h9) rfl dX1_pickLanes_160 ?_
            refine lv_iconst (v := 1) hx hb dX1_pickLanes_163 (by decide) ?_
            refine lv_iload_n hx hb dX1_pickLanes_164 rfl (lv_at hl 2 rfl) ?_
            refine lv_ishl hx hb dX1_pickLanes_165 ?_
            refine lv_topi (fun v238 ev238 => ?_)
            refine lv_ior hx hb dX1_pickLanes_166 ?_
            refine lv_topi (fun v239 ev239 => ?_)
            refine th_put (D := (dC, dI)) (ci := 1) (v := .int v239) (ty := .int) (C := RX1) (T := TX1) (N := 12) hx hb hts inX1 tyX1 tyX1_ok nmX1 hown hK hP hD hS (hLK _ ha0 (by decide)) o209 rfl 8 (by decide) (hts _ T_97) (fun _ h9 => h9) rfl (by decide +kernel) rfl rfl (Nat.le_of_ble_eq_true rfl) dX1_pickLanes_167 (fun H locs hP hS => ?_)
            have hP : va_P (dC, dI) vwCl (va_pl L (va_up F9 a0 (.inr (1, [.ref z189, .ref z191, .ref z193, .ref z195, .ref z197, va_rf z199, .int z201, .int z203, .int v239, .int z205, .int z207, .long z208])))) H := hP
            obtain ⟨F240, hF241⟩ : ∃ G : Nat → va_E, G = va_up F9 a0 (.inr (1, [.ref z189, .ref z191, .ref z193, .ref z195, .ref z197, va_rf z199, .int z201, .int z203, .int v239, .int z205, .int z207, .long z208])) := ⟨_, rfl⟩
            rw [← hF241] at hP
            have hI : s_I K cs D F240 := by rw [hF241]; exact s_cl2 hI ha0 ⟨z189, z191, z193, some z195, some z197, z199, z201, z203, v239, z205, z207, z208, rfl, h190, h192, h194, (fun q e => by cases e; exact h196), (fun q e => by cases e; exact h198), h200, ⟨by omega, by omega⟩, ⟨by omega, by omega⟩, trivial⟩
            have hfr : ∀ b, K b ∉ [2] → F240 b = F b := by rw [hF241]; exact s_fr hfr ha0 (by decide)
            have o242 : F240 z197 = .inr (5, [.ref z214, .ref z216, .ref z218, .ref z220, .ref z222, .int z224, .int z226, .int z227, .int z228, .int z229, .int z230]) := by rw [hF241]; exact th_ne (th_kd h198 ha0 (by decide)) o232
            have o243 : F240 a0 = .inr (1, [.ref z189, .ref z191, .ref z193, .ref z195, .ref z197, va_rf z199, .int z201, .int z203, .int v239, .int z205, .int z207, .long z208]) := by rw [hF241]; exact th_up
            exact K170 _ _ _ ⟨F240, _, rfl, lv_sub hl [0, 1, 2] rfl, hI, hP, hS, hfr, ⟨by omega, by omega⟩, ⟨z189, z191, z193, z195, z197, z199, z201, z203, v239, z205, z207, z208, o243, h190, h192, h194, h196, h198, h200, ⟨by omega, by omega⟩, ⟨by omega, by omega⟩, trivial⟩⟩
    · intro g H locs hq
      obtain ⟨F9, ls, rfl, hl, hI, hP, hS, hfr, h244, h245⟩ := hq
      obtain ⟨z246, z248, z250, z252, z254, z256, z258, z260, z261, z262, z264, z265, o266, h247, h249, h251, h253, h255, h257, h259, h263, -⟩ := h245
      obtain ⟨v267, ev267⟩ : ∃ y : Int32, w186 + 1 = y := ⟨_, rfl⟩
      have qv267 : v267.toInt = w186.toInt + 1 := by rw [← ev267]; exact th_add rfl (by decide) ⟨by omega, by omega⟩
      refine lv_iinc (v := v267) (lv' := [(2, .int v267), (0, .ref a0), (1, .int w22)]) hx hb dX1_pickLanes_170 hl (k := 2) rfl ev267 (by decide) rfl (fun ls hl => ?_)
      refine lv_goto (tgt := 128) hx hb dX1_pickLanes_173 (by decide) ?_
      exact ih128 _ _ _ _ (by omega) ⟨F9, _, v267, rfl, lv_sub hl [1, 2, 0] rfl, hI, hP, hS, hfr, ⟨by omega, by omega⟩, ⟨z246, z248, z250, z252, z254, z256, z258, z260, z261, z262, z264, z265, o266, h247, h249, h251, h253, h255, h257, ⟨by omega, by omega⟩, ⟨by omega, by omega⟩, trivial⟩, rfl⟩

set_option maxHeartbeats 4000000 in
set_option maxRecDepth 100000 in
theorem s_X1_valueOf (l : Launch) (dC : Nat → ClassId) (dI : Nat → Nat → Nat) (sz : Nat) {L : List Nat} {K : Nat → Nat} {cs : Nat → ClassId} (hLK : ∀ a {k : Nat}, K a = k → k ≠ 0 → a ∈ L) (D : Nat) (F : Nat → va_E) (a0 : Nat) (x1 : Int32) (x2 : Int32) (ha0 : K a0 = 2) (hx2 : 0 ≤ x2.toInt ∧ x2.toInt ≤ 7) (hI : s_I K cs D F) (hR : s_rd3 K F a0) : Met l yX1_valueOf (Cond.code yX1_valueOf cX1_valueOf 3 (some .int) :: T0) ({ frames := 0, cells := 0, slots := 0, locals := 0 }) (va_Pc [.ref a0, .int x1, .int x2] (s_W dC dI sz L F [(cs 0, .int), (cs 1, .byte), (cs 2, .long), (cs 3, .object RX5), (cs 4, .object RX4), (cs 5, .array .int), (cs 6, .char), (cs 7, .boolean)])) (va_Qi (fun (r : Int32) (G : Nat → va_E) => True ∧ True ∧ s_I K cs D G ∧ ∀ b, K b ∉ ([] : List Nat) → G b = F b) (fun (G : Nat → va_E) (t : State) => va_P (dC, dI) vwCl (va_pl L G) t.heap ∧ va_K (dC, dI) vwCl [(cs 0, .int), (cs 1, .byte), (cs 2, .long), (cs 3, .object RX5), (cs 4, .object RX4), (cs 5, .array .int), (cs 6, .char), (cs 7, .boolean)] t) (fun q => q ∈ L)) 0 0 (fun q => q ∈ L) := by
  refine Met.ofW (cc := cX1_valueOf) (maxL := 3) (ret := (some .int)) (by decide) rfl ?_
  intro p e s m args below meth c s₁ B hml hv
  obtain ⟨rfl, hsz, hP, hK, hD, hN⟩ := hv
  have hx := B.exec
  have hb := B.bytes
  have hr := B.returns
  have hts : ∀ w ∈ T0, w.before _ s = true := fun w h => atoms_spec (ws := Cond.code yX1_valueOf cX1_valueOf 3 (some .int) :: T0) B.pre w (List.mem_cons_of_mem _ h)
  have hown : s.vm.findClass RX1 = some m.cls := findClass_of_methodNamed B.named
  have hlocks := B.notSynchronized
  have hS : va_S (fun q => q ∈ L) s.heap s.heap [] := va_S.rf
  have hfr : ∀ b, K b ∉ ([] : List Nat) → F b = F b := fun _ _ => rfl
  have hl := lv_entry ([.ref a0, .int x1, .int x2]) (n := 3) (Nat.le_of_ble_eq_true rfl)
  rw [lg_entry_eq]
  generalize (lg_sl ([.ref a0, .int x1, .int x2]) ++ List.replicate (3 - (lg_sl ([.ref a0, .int x1, .int x2])).length) Slot.unset).toArray = ls at hl ⊢
  have hl : lv_has ls 3 [(0, .ref a0), (1, .int x1), (2, .int x2)] := hl
  refine s_gen hP hS (fun H locs hP hS => ?_)
  obtain ⟨z1, z3, z5, z7, z9, z11, z13, z15, z16, z17, z19, z20, o21, h2, h4, h6, h8, h10, h12, h14, h18, -⟩ := hR
  refine lv_iload_n hx hb dX1_valueOf_0 rfl (lv_at hl 1 rfl) ?_
  refine lv_if_lt (tgt := 8) hx hb dX1_valueOf_1 (by decide) (fun c22 => ?_) (fun c22 => ?_)
  · have c22 := (ax_lt (n := 0) (by decide)).mp c22
    refine lv_aload_n hx hb dX1_valueOf_8 rfl (lv_at hl 0 rfl) ?_
    refine th_get (D := (dC, dI)) (ci := 1) (v := .ref z9) (C := RX1) (T := TX1) (N := 12) hx hb hts inX1 hown hK hP (hLK _ ha0 (by decide)) o21 rfl 4 (by decide) (hts _ T_111) (fun _ h9 => h9) rfl dX1_valueOf_9 ?_
    obtain ⟨z23, z25, z27, z29, z31, z33, z35, z36, z37, z38, z39, o41, h24, h26, h28, h30, h32, h34, h40, -⟩ := s_op6 hI h10
    refine th_getN (D := (dC, dI)) (ci := 5) (v := .ref z23) (C := RX5) (T := TX5) (N := 11) hx hb hts inX5 hown hK hP (hLK _ h10 (by decide)) o41 rfl 0 (by decide) (va_Nw.use rfl hN.2.2.2.2.2.2.2.2.2.2.2.2.2.2.2.2.2.1) (fun _ h9 => h9) rfl dX1_valueOf_12 ?_
    refine lv_iload_n hx hb dX1_valueOf_15 rfl (lv_at hl 2 rfl) ?_
    refine lv_iconst (v := 4) hx hb dX1_valueOf_16 (by decide) ?_
    refine lv_imul hx hb dX1_valueOf_17 ?_
    refine lv_topi (fun v42 ev42 => ?_)
    have qv42 : v42.toInt = x2.toInt * 4 := by rw [ev42]; exact th_mul rfl (by decide) ⟨by omega, by omega⟩
    refine lv_iconst (v := (-1)) hx hb dX1_valueOf_18 (by decide) ?_
    refine lv_iload_n hx hb dX1_valueOf_19 rfl (lv_at hl 1 rfl) ?_
    refine lv_isub hx hb dX1_valueOf_20 ?_
    refine lv_topi (fun v43 ev43 => ?_)
    have qv43 : v43.toInt = -1 - x1.toInt := by rw [ev43]; exact th_sub (by decide) rfl (by have q8 := th_lo x1; have q9 := th_hi x1; exact ⟨by omega, by omega⟩)
    refine lv_iconst (v := 3) hx hb dX1_valueOf_21 (by decide) ?_
    refine lv_iand hx hb dX1_valueOf_22 ?_
    refine lv_topi (fun v44 ev44 => ?_)
    have qv44 : 0 ≤ v44.toInt ∧ v44.toInt ≤ 3 := by rw [ev44]; exact th_and 2 (by decide) (by decide)
    refine lv_iadd hx hb dX1_valueOf_23 ?_
    refine lv_topi (fun v45 ev45 => ?_)
    have qv45 : v45.toInt = v42.toInt + v44.toInt := by rw [ev45]; exact th_add rfl rfl ⟨by omega, by omega⟩
    obtain ⟨f46, o47, h48⟩ := s_op30 hI h24
    refine th_iald hx hb hK hP (hLK _ h24 (by decide)) 0 o47 rfl (th_in ⟨by omega, by omega⟩) dX1_valueOf_24 ?_
    refine lv_topi (fun v49 ev49 => ?_)
    exact W.iret (v := v49) hx hb hr (fun t ht hW => ⟨⟨v49, F, rfl, ⟨trivial, trivial, hI, hfr⟩, by rw [ht]; exact hP, va_K.moved hW.alike hK⟩, hS.F ht⟩) hS.2.2 dX1_valueOf_25
  · have c22 := mt (ax_lt (n := 0) (by decide)).mpr c22
    refine lv_iload_n hx hb dX1_valueOf_4 rfl (lv_at hl 1 rfl) ?_
    refine lv_goto (tgt := 25) hx hb dX1_valueOf_5 (by decide) ?_
    exact W.iret (v := x1) hx hb hr (fun t ht hW => ⟨⟨x1, F, rfl, ⟨trivial, trivial, hI, hfr⟩, by rw [ht]; exact hP, va_K.moved hW.alike hK⟩, hS.F ht⟩) hS.2.2 dX1_valueOf_25

set_option maxHeartbeats 4000000 in
set_option maxRecDepth 100000 in
theorem s_X1_mostInOneBank (l : Launch) (dC : Nat → ClassId) (dI : Nat → Nat → Nat) (sz : Nat) {L : List Nat} {K : Nat → Nat} {cs : Nat → ClassId} (hLK : ∀ a {k : Nat}, K a = k → k ≠ 0 → a ∈ L) (D : Nat) (F : Nat → va_E) (a0 : Nat) (ha0 : K a0 = 2) (hI : s_I K cs D F) (hR : s_rd3 K F a0) : Met l yX1_mostInOneBank (Cond.code yX1_mostInOneBank cX1_mostInOneBank 6 (some .int) :: T0) ({ frames := 1, cells := 0, slots := 0, locals := 23 }) (va_Pc [.ref a0] (s_W dC dI sz L F [(cs 0, .int), (cs 1, .byte), (cs 2, .long), (cs 3, .object RX5), (cs 4, .object RX4), (cs 5, .array .int), (cs 6, .char), (cs 7, .boolean)])) (va_Qi (fun (r : Int32) (G : Nat → va_E) => (0 ≤ r.toInt ∧ r.toInt ≤ 2147483647) ∧ True ∧ s_I K cs D G ∧ ∀ b, K b ∉ [35] → G b = F b) (fun (G : Nat → va_E) (t : State) => va_P (dC, dI) vwCl (va_pl L G) t.heap ∧ va_K (dC, dI) vwCl [(cs 0, .int), (cs 1, .byte), (cs 2, .long), (cs 3, .object RX5), (cs 4, .object RX4), (cs 5, .array .int), (cs 6, .char), (cs 7, .boolean)] t) (fun q => q ∈ L)) 0 0 (fun q => q ∈ L) := by
  refine Met.ofW (cc := cX1_mostInOneBank) (maxL := 6) (ret := (some .int)) (by decide) rfl ?_
  intro p e s m args below meth c s₁ B hml hv
  obtain ⟨rfl, hsz, hP, hK, hD, hN⟩ := hv
  have hx := B.exec
  have hb := B.bytes
  have hr := B.returns
  have hts : ∀ w ∈ T0, w.before _ s = true := fun w h => atoms_spec (ws := Cond.code yX1_mostInOneBank cX1_mostInOneBank 6 (some .int) :: T0) B.pre w (List.mem_cons_of_mem _ h)
  have hown : s.vm.findClass RX1 = some m.cls := findClass_of_methodNamed B.named
  have hlocks := B.notSynchronized
  have hS : va_S (fun q => q ∈ L) s.heap s.heap [] := va_S.rf
  have hfr : ∀ b, K b ∉ [35] → F b = F b := fun _ _ => rfl
  have hl := lv_entry ([.ref a0]) (n := 6) (Nat.le_of_ble_eq_true rfl)
  rw [lg_entry_eq]
  generalize (lg_sl ([.ref a0]) ++ List.replicate (6 - (lg_sl ([.ref a0])).length) Slot.unset).toArray = ls at hl ⊢
  have hl : lv_has ls 6 [(0, .ref a0)] := hl
  refine s_gen hP hS (fun H locs hP hS => ?_)
  obtain ⟨z1, z3, z5, z7, z9, z11, z13, z15, z16, z17, z19, z20, o21, h2, h4, h6, h8, h10, h12, h14, h18, -⟩ := hR
  refine lv_aload_n hx hb dX1_mostInOneBank_0 rfl (lv_at hl 0 rfl) ?_
  refine th_get (D := (dC, dI)) (ci := 1) (v := .ref z3) (C := RX1) (T := TX1) (N := 12) hx hb hts inX1 hown hK hP (hLK _ ha0 (by decide)) o21 rfl 1 (by decide) (hts _ T_116) (fun _ h9 => h9) rfl dX1_mostInOneBank_1 ?_
  refine lv_iconst (v := 0) hx hb dX1_mostInOneBank_4 (by decide) ?_
  refine va_callv (va_runS (As := [.ref z3, .int 0]) (rest := []) ⟨hx, hb, hml, hown, hts⟩ (s_J7_fill_53178_bank l dC dI H.size hLK D F z3 0 h4 hI) ⟨callB_of 2 hts (ax_gT T_28) rfl rfl rfl (hts _ T_29) (hts _ T_117) (by decide +kernel) ⟨Nat.le_of_ble_eq_true rfl, Nat.le_of_ble_eq_true rfl⟩, hts _ T_31⟩ ⟨fun a U g mk q => ⟨q.1, s_pc rfl rfl q.2⟩, fun U hU hW => ⟨rfl, s_pw hU hW hP hK hD hN⟩⟩ rfl rfl hl.1 rfl (lv_room (Nat.le_of_ble_eq_true rfl)) dX1_mostInOneBank_5 ⟨Nat.zero_le _, Nat.zero_le _⟩) hS (fun q _ h => h) (fun q h => h) (fun F22 t H1 locs ht hvm hw hB hz1 hk1 hS => ?_)
  obtain ⟨hP, hK1⟩ := hB
  rw [ht] at hP
  generalize H1 = H at hP hS ⊢
  obtain ⟨h23, h24, hI, hfr1⟩ := hw
  have o25 : F22 a0 = .inr (1, [.ref z1, .ref z3, .ref z5, .ref z7, .ref z9, .ref z11, .int z13, .int z15, .int z16, .int z17, .int z19, .long z20]) := (hfr1 _ (by rw [ha0]; decide)).trans o21
  have hfr : ∀ b, K b ∉ [35] → F22 b = F b := fun b hb9 => (hfr1 b (fun q => hb9 (s_sub (by decide) q))).trans (hfr b hb9)
  refine lv_iconst (v := 0) hx hb dX1_mostInOneBank_8 (by decide) ?_
  refine lv_istore_n (lv' := [(1, .int 0), (0, .ref a0)]) hx hb dX1_mostInOneBank_9 rfl hl (by decide) rfl (fun ls hl => ?_)
  refine lv_iconst (v := 0) hx hb dX1_mostInOneBank_10 (by decide) ?_
  refine lv_istore_n (lv' := [(2, .int 0), (1, .int 0), (0, .ref a0)]) hx hb dX1_mostInOneBank_11 rfl hl (by decide) rfl (fun ls hl => ?_)
  refine lv_iconst (v := 0) hx hb dX1_mostInOneBank_12 (by decide) ?_
  refine lv_istore_n (lv' := [(3, .int 0), (2, .int 0), (1, .int 0), (0, .ref a0)]) hx hb dX1_mostInOneBank_13 rfl hl (by decide) rfl (fun ls hl => ?_)
  refine th_loop (fun n g H locs => ∃ (G : Nat → va_E) (ls : Array Slot) (w26 : Int32) (w27 : Int32) (w28 : Int32), g = F0 m 14 ls [] ∧ lv_has ls 6 [(0, .ref a0), (1, .int w26), (2, .int w27), (3, .int w28)] ∧ s_I K cs D G ∧ va_P (dC, dI) vwCl (va_pl L G) H ∧ va_S (fun q => q ∈ L) s.heap H locs ∧ (∀ b, K b ∉ [35] → G b = F b) ∧ True ∧ (0 ≤ w27.toInt ∧ w27.toInt ≤ 2147483647) ∧ (0 ≤ w28.toInt ∧ w28.toInt ≤ 8) ∧ s_rd3 K G a0 ∧ n = (9 - w28.toInt).toNat) _ ⟨F22, _, 0, 0, 0, rfl, lv_sub hl [3, 2, 1, 0] rfl, hI, hP, hS, hfr, trivial, (by decide), (by decide), ⟨z1, z3, z5, z7, z9, z11, z13, z15, z16, z17, z19, z20, o25, h2, h4, h6, h8, h10, h12, ⟨by omega, by omega⟩, ⟨by omega, by omega⟩, trivial⟩, rfl⟩ (fun n ih14 g H locs hq => ?_)
  obtain ⟨F9, ls, w26, w27, w28, rfl, hl, hI, hP, hS, hfr, h29, h30, h31, h32, hn⟩ := hq
  obtain ⟨z33, z35, z37, z39, z41, z43, z45, z47, z48, z49, z51, z52, o53, h34, h36, h38, h40, h42, h44, h46, h50, -⟩ := h32
  have hn_14 := hn
  obtain ⟨n_14, hn9_14⟩ : ∃ q, q = n := ⟨_, rfl⟩
  refine th_join (fun g H locs => ∃ (G : Nat → va_E) (ls : Array Slot) (w54 : Int32) (w55 : Int32), g = F0 m 94 ls [] ∧ lv_has ls 6 [(0, .ref a0), (1, .int w54), (2, .int w55), (3, .int w28)] ∧ s_I K cs D G ∧ va_P (dC, dI) vwCl (va_pl L G) H ∧ va_S (fun q => q ∈ L) s.heap H locs ∧ (∀ b, K b ∉ [35] → G b = F b) ∧ True ∧ (0 ≤ w55.toInt ∧ w55.toInt ≤ 2147483647) ∧ (0 ≤ w28.toInt ∧ w28.toInt ≤ 7) ∧ s_rd3 K G a0) (fun K94 => ?_) ?_
  · refine lv_iload_n hx hb dX1_mostInOneBank_14 rfl (lv_at hl 3 rfl) ?_
    refine lv_bipush (v := 8) hx hb dX1_mostInOneBank_15 (by decide) ?_
    refine lv_icmp_ge (tgt := 100) hx hb dX1_mostInOneBank_17 (by decide) (fun c56 => ?_) (fun c56 => ?_)
    · have c56 := (ax_ge (n := 8) (by decide)).mp c56
      refine lv_iload_n hx hb dX1_mostInOneBank_100 rfl (lv_at hl 2 rfl) ?_
      exact W.iret (v := w27) hx hb hr (fun t ht hW => ⟨⟨w27, F9, rfl, ⟨⟨by omega, by have q9 := th_hi w27; omega⟩, trivial, hI, hfr⟩, by rw [ht]; exact hP, va_K.moved hW.alike hK⟩, hS.F ht⟩) hS.2.2 dX1_mostInOneBank_101
    · have c56 := mt (ax_ge (n := 8) (by decide)).mpr c56
      refine lv_aload_n hx hb dX1_mostInOneBank_20 rfl (lv_at hl 0 rfl) ?_
      refine th_get (D := (dC, dI)) (ci := 1) (v := .ref z33) (C := RX1) (T := TX1) (N := 12) hx hb hts inX1 hown hK hP (hLK _ ha0 (by decide)) o53 rfl 0 (by decide) (hts _ T_104) (fun _ h9 => h9) rfl dX1_mostInOneBank_21 ?_
      refine lv_iload_n hx hb dX1_mostInOneBank_24 rfl (lv_at hl 3 rfl) ?_
      obtain ⟨f57, o58, h59⟩ := s_op34 hI h34
      refine th_iald hx hb hK hP (hLK _ h34 (by decide)) 0 o58 rfl (th_in ⟨by omega, by omega⟩) dX1_mostInOneBank_25 ?_
      refine lv_topi (fun v60 ev60 => ?_)
      have qv60 : 0 ≤ v60.toInt ∧ v60.toInt ≤ 63 := by rw [ev60]; exact h59 _ (th_cl ⟨by omega, by omega⟩)
      refine lv_istore (lv' := [(4, .int v60), (0, .ref a0), (1, .int w26), (2, .int w27), (3, .int w28)]) hx hb dX1_mostInOneBank_26 hl (by decide) rfl (fun ls hl => ?_)
      refine lv_aload_n hx hb dX1_mostInOneBank_28 rfl (lv_at hl 1 rfl) ?_
      refine lv_iload_n hx hb dX1_mostInOneBank_29 rfl (lv_at hl 4 rfl) ?_
      refine va_calli (va_runV (As := [.int w28]) (rest := []) ⟨hx, hb, hml, hown, hts⟩ (s_X1_goesNow l dC dI H.size hLK D F9 a0 w28 ha0 hI) (cwV 1 hts (ax_gV T_101 T_102 T_103 T_100 T_99) rfl rfl rfl (by decide +kernel) ⟨Nat.le_of_ble_eq_true rfl, Nat.le_of_ble_eq_true rfl⟩) ⟨fun a U g mk q => ⟨q.1, s_pc rfl rfl q.2⟩, s_recv hK hP (hLK _ ha0 (by decide)) (ci := 1) rfl o53, fun U hU hW => ⟨rfl, s_pw hU hW hP hK hD hN⟩⟩ rfl rfl hl.1 rfl (lv_room (Nat.le_of_ble_eq_true rfl)) dX1_mostInOneBank_30 ⟨Nat.zero_le _, Nat.zero_le _⟩) hS (fun q _ h => h) (fun q h => h) (fun r61 F62 t H1 locs ht hvm hw hB hz1 hk1 hS => ?_)
      obtain ⟨hP, hK1⟩ := hB
      rw [ht] at hP
      generalize H1 = H at hP hS ⊢
      obtain ⟨h63, h64, hI, hfr1⟩ := hw
      have o65 : F62 a0 = .inr (1, [.ref z33, .ref z35, .ref z37, .ref z39, .ref z41, .ref z43, .int z45, .int z47, .int z48, .int z49, .int z51, .long z52]) := (hfr1 _ (by rw [ha0]; decide)).trans o53
      have hfr : ∀ b, K b ∉ [35] → F62 b = F b := fun b hb9 => (hfr1 b (fun q => hb9 (s_sub (by decide) q))).trans (hfr b hb9)
      obtain ⟨h64, h66⟩ := h64
      have h66 : (∀ vs z, F9 a0 = .inr (1, vs) → vs[8]? = some (.int z) → (r61 = 0 ↔ (z >>> (w28 &&& 31) &&& 1) = 0)) := h66
      refine lv_if_eq (tgt := 94) hx hb dX1_mostInOneBank_33 (by decide) (fun c67 => ?_) (fun c67 => ?_)
      · have c67 := (ax_eq (n := 0) (by decide)).mp c67
        exact K94 _ _ _ ⟨F62, _, w26, w27, rfl, lv_sub hl [1, 2, 3, 4] rfl, hI, hP, hS, hfr, trivial, ⟨by omega, by have q9 := th_hi w27; omega⟩, ⟨by omega, by omega⟩, ⟨z33, z35, z37, z39, z41, z43, z45, z47, z48, z49, z51, z52, o65, h34, h36, h38, h40, h42, h44, ⟨by omega, by omega⟩, ⟨by omega, by omega⟩, trivial⟩⟩
      · have c67 := mt (ax_eq (n := 0) (by decide)).mpr c67
        refine lv_iload_n hx hb dX1_mostInOneBank_36 rfl (lv_at hl 2 rfl) ?_
        refine lv_iload hx hb dX1_mostInOneBank_37 (lv_at hl 0 rfl) ?_
        refine lv_ishr hx hb dX1_mostInOneBank_39 ?_
        refine lv_topi (fun v68 ev68 => ?_)
        refine lv_iconst (v := 1) hx hb dX1_mostInOneBank_40 (by decide) ?_
        refine lv_iand hx hb dX1_mostInOneBank_41 ?_
        refine lv_topi (fun v69 ev69 => ?_)
        have qv69 : 0 ≤ v69.toInt ∧ v69.toInt ≤ 1 := by rw [ev69]; exact th_and 1 (by decide) (by decide)
        refine lv_if_ne (tgt := 94) hx hb dX1_mostInOneBank_42 (by decide) (fun c70 => ?_) (fun c70 => ?_)
        · have c70 := mt (ax_eq (n := 0) (by decide)).mpr c70
          exact K94 _ _ _ ⟨F62, _, w26, w27, rfl, lv_sub hl [1, 2, 3, 4] rfl, hI, hP, hS, hfr, trivial, ⟨by omega, by have q9 := th_hi w27; omega⟩, ⟨by omega, by omega⟩, ⟨z33, z35, z37, z39, z41, z43, z45, z47, z48, z49, z51, z52, o65, h34, h36, h38, h40, h42, h44, ⟨by omega, by omega⟩, ⟨by omega, by omega⟩, trivial⟩⟩
        · have c70 := (ax_eq (n := 0) (by decide)).mp c70
          refine lv_iload_n hx hb dX1_mostInOneBank_45 rfl (lv_at hl 2 rfl) ?_
          refine lv_iconst (v := 1) hx hb dX1_mostInOneBank_46 (by decide) ?_
          refine lv_iload hx hb dX1_mostInOneBank_47 (lv_at hl 0 rfl) ?_
          refine lv_ishl hx hb dX1_mostInOneBank_49 ?_
          refine lv_topi (fun v71 ev71 => ?_)
          refine lv_ior hx hb dX1_mostInOneBank_50 ?_
          refine lv_topi (fun v72 ev72 => ?_)
          refine lv_istore_n (lv' := [(1, .int v72), (4, .int v60), (0, .ref a0), (2, .int w27), (3, .int w28)]) hx hb dX1_mostInOneBank_51 rfl hl (by decide) rfl (fun ls hl => ?_)
          refine lv_iload hx hb dX1_mostInOneBank_52 (lv_at hl 1 rfl) ?_
          refine lv_aload_n hx hb dX1_mostInOneBank_54 rfl (lv_at hl 2 rfl) ?_
          refine th_get (D := (dC, dI)) (ci := 1) (v := .ref z39) (C := RX1) (T := TX1) (N := 12) hx hb hts inX1 hown hK hP (hLK _ ha0 (by decide)) o65 rfl 3 (by decide) (hts _ T_105) (fun _ h9 => h9) rfl dX1_mostInOneBank_55 ?_
          obtain ⟨z73, z75, z77, z79, z81, z83, z85, z87, z89, z90, z91, z93, z94, z96, z97, o99, h74, h76, h78, h80, h82, h84, h86, h88, h92, h95, h98, -⟩ := s_op5 hI h40
          refine th_getN (D := (dC, dI)) (ci := 4) (v := .int z91) (C := RX4) (T := TX4) (N := 15) hx hb hts inX4 hown hK hP (hLK _ h40 (by decide)) o99 rfl 10 (by decide) (va_Nw.use rfl hN.2.2.2.2.2.2.2.2.2.2.2.2.2.2.2.2.2.2.1) (fun _ h9 => h9) rfl dX1_mostInOneBank_58 ?_
          refine lv_iload hx hb dX1_mostInOneBank_61 (lv_at hl 1 rfl) ?_
          refine lv_iconst (v := 4) hx hb dX1_mostInOneBank_63 (by decide) ?_
          refine lv_idiv hx hb dX1_mostInOneBank_64 (by decide) ?_
          refine lv_topi (fun v100 ev100 => ?_)
          have qv100 : v100.toInt = v60.toInt / 4 := by rw [ev100]; exact th_div rfl (by decide) (by omega) (by decide)
          refine lv_imul hx hb dX1_mostInOneBank_65 ?_
          refine lv_topi (fun v101 ev101 => ?_)
          have qv101 : 0 ≤ v101.toInt ∧ v101.toInt ≤ 45 := by rw [ev101]; exact th_mulB (a := 3) (b := 15) ⟨by omega, by omega⟩ ⟨by omega, by omega⟩ (by decide)
          refine lv_iadd hx hb dX1_mostInOneBank_66 ?_
          refine lv_topi (fun v102 ev102 => ?_)
          have qv102 : v102.toInt = v60.toInt + v101.toInt := by rw [ev102]; exact th_add rfl rfl ⟨by omega, by omega⟩
          refine lv_iconst (v := 4) hx hb dX1_mostInOneBank_67 (by decide) ?_
          refine lv_irem hx hb dX1_mostInOneBank_68 (by decide) ?_
          refine lv_topi (fun v103 ev103 => ?_)
          have qv103 : v103.toInt = v102.toInt % 4 := by rw [ev103]; exact th_rem rfl (by decide) (by omega) (by decide)
          refine lv_istore (lv' := [(5, .int v103), (1, .int v72), (4, .int v60), (0, .ref a0), (2, .int w27), (3, .int w28)]) hx hb dX1_mostInOneBank_69 hl (by decide) rfl (fun ls hl => ?_)
          refine lv_aload_n hx hb dX1_mostInOneBank_71 rfl (lv_at hl 3 rfl) ?_
          refine th_get (D := (dC, dI)) (ci := 1) (v := .ref z35) (C := RX1) (T := TX1) (N := 12) hx hb hts inX1 hown hK hP (hLK _ ha0 (by decide)) o65 rfl 1 (by decide) (hts _ T_116) (fun _ h9 => h9) rfl dX1_mostInOneBank_72 ?_
          refine lv_iload hx hb dX1_mostInOneBank_75 (lv_at hl 0 rfl) ?_
          refine lv_dup2_11 hx hb dX1_mostInOneBank_77 rfl rfl ?_
          obtain ⟨f104, o105, h106⟩ := s_op35 hI h36
          refine th_iald hx hb hK hP (hLK _ h36 (by decide)) 0 o105 rfl (th_in ⟨by omega, by omega⟩) dX1_mostInOneBank_78 ?_
          refine lv_topi (fun v107 ev107 => ?_)
          refine lv_iconst (v := 1) hx hb dX1_mostInOneBank_79 (by decide) ?_
          refine lv_iadd hx hb dX1_mostInOneBank_80 ?_
          refine lv_topi (fun v108 ev108 => ?_)
          obtain ⟨f109, o110, h111⟩ := s_op35 hI h36
          refine th_iast hx hb hK hP hD hS (hLK _ h36 (by decide)) 0 o110 rfl (th_in ⟨by omega, by omega⟩) dX1_mostInOneBank_81 (fun H locs hP hS => ?_)
          have hP : va_P (dC, dI) vwCl (va_pl L (va_up F62 z35 (.inl (cs 0, 4, .inl (upd f109 (v103 : Int32).toNatClampNeg v108))))) H := hP
          obtain ⟨F112, hF113⟩ : ∃ G : Nat → va_E, G = va_up F62 z35 (.inl (cs 0, 4, .inl (upd f109 (v103 : Int32).toNatClampNeg v108))) := ⟨_, rfl⟩
          rw [← hF113] at hP
          have hI : s_I K cs D F112 := by rw [hF113]; exact s_cl35 hI h36 ⟨_, rfl, trivial⟩
          have hfr : ∀ b, K b ∉ [35] → F112 b = F b := by rw [hF113]; exact s_fr hfr h36 (by decide)
          have o114 : F112 a0 = .inr (1, [.ref z33, .ref z35, .ref z37, .ref z39, .ref z41, .ref z43, .int z45, .int z47, .int z48, .int z49, .int z51, .long z52]) := by rw [hF113]; exact th_ne (th_kd ha0 h36 (by decide)) o65
          have o115 : F112 z39 = .inr (4, [.ref z73, .ref z75, .ref z77, .ref z79, .ref z81, .ref z83, .ref z85, .int z87, .int z89, .int z90, .int z91, .int z93, .int z94, .int z96, .int z97]) := by rw [hF113]; exact th_ne (th_kd h40 h36 (by decide)) o99
          refine lv_iload_n hx hb dX1_mostInOneBank_82 rfl (lv_at hl 4 rfl) ?_
          refine lv_aload_n hx hb dX1_mostInOneBank_83 rfl (lv_at hl 3 rfl) ?_
          refine th_get (D := (dC, dI)) (ci := 1) (v := .ref z35) (C := RX1) (T := TX1) (N := 12) hx hb hts inX1 hown hK hP (hLK _ ha0 (by decide)) o114 rfl 1 (by decide) (hts _ T_116) (fun _ h9 => h9) rfl dX1_mostInOneBank_84 ?_
          refine lv_iload hx hb dX1_mostInOneBank_87 (lv_at hl 0 rfl) ?_
          obtain ⟨f116, o117, h118⟩ := s_op35 hI h36
          refine th_iald hx hb hK hP (hLK _ h36 (by decide)) 0 o117 rfl (th_in ⟨by omega, by omega⟩) dX1_mostInOneBank_89 ?_
          refine lv_topi (fun v119 ev119 => ?_)
          refine va_mmax hx hb (by rw [hml]; exact hl.1.symm) hown (hts _ T_114) (hts _ T_73) (hts _ T_74) (hts _ T_75) (Nat.le_of_ble_eq_true rfl) (Nat.le_of_ble_eq_true rfl) (Nat.zero_le _) (Nat.zero_le _) dX1_mostInOneBank_90 ?_
          refine lv_topi (fun v120 ev120 => ?_)
          have qv120 := th_mmax (a := w27.toInt) (b := v119.toInt) ev120 rfl rfl
          refine lv_istore_n (lv' := [(2, .int v120), (5, .int v103), (1, .int v72), (4, .int v60), (0, .ref a0), (3, .int w28)]) hx hb dX1_mostInOneBank_93 rfl hl (by decide) rfl (fun ls hl => ?_)
          exact K94 _ _ _ ⟨F112, _, v72, v120, rfl, lv_sub hl [4, 2, 0, 5] rfl, hI, hP, hS, hfr, trivial, ⟨by omega, by have q9 := th_hi v120; omega⟩, ⟨by omega, by omega⟩, ⟨z33, z35, z37, z39, z41, z43, z45, z47, z48, z49, z51, z52, o114, h34, h36, h38, h40, h42, h44, ⟨by omega, by omega⟩, ⟨by omega, by omega⟩, trivial⟩⟩
  · intro g H locs hq
    obtain ⟨F9, ls, w54, w55, rfl, hl, hI, hP, hS, hfr, h121, h122, h123, h124⟩ := hq
    obtain ⟨z125, z127, z129, z131, z133, z135, z137, z139, z140, z141, z143, z144, o145, h126, h128, h130, h132, h134, h136, h138, h142, -⟩ := h124
    obtain ⟨v146, ev146⟩ : ∃ y : Int32, w28 + 1 = y := ⟨_, rfl⟩
    have qv146 : v146.toInt = w28.toInt + 1 := by rw [← ev146]; exact th_add rfl (by decide) ⟨by omega, by omega⟩
    refine lv_iinc (v := v146) (lv' := [(3, .int v146), (0, .ref a0), (1, .int w54), (2, .int w55)]) hx hb dX1_mostInOneBank_94 hl (k := 3) rfl ev146 (by decide) rfl (fun ls hl => ?_)
    refine lv_goto (tgt := 14) hx hb dX1_mostInOneBank_97 (by decide) ?_
    exact ih14 _ _ _ _ (by omega) ⟨F9, _, w54, w55, v146, rfl, lv_sub hl [1, 2, 3, 0] rfl, hI, hP, hS, hfr, trivial, ⟨by omega, by have q9 := th_hi w55; omega⟩, ⟨by omega, by omega⟩, ⟨z125, z127, z129, z131, z133, z135, z137, z139, z140, z141, z143, z144, o145, h126, h128, h130, h132, h134, h136, ⟨by omega, by omega⟩, ⟨by omega, by omega⟩, trivial⟩, rfl⟩

set_option maxHeartbeats 4000000 in
set_option maxRecDepth 100000 in
theorem s_X1_measure (l : Launch) (dC : Nat → ClassId) (dI : Nat → Nat → Nat) (sz : Nat) {L : List Nat} {K : Nat → Nat} {cs : Nat → ClassId} (hLK : ∀ a {k : Nat}, K a = k → k ≠ 0 → a ∈ L) (D : Nat) (F : Nat → va_E) (a0 : Nat) (ha0 : K a0 = 2) (hI : s_I K cs D F) (hR : s_rd3 K F a0) : Met l yX1_measure (Cond.code yX1_measure cX1_measure 4 none :: T0) ({ frames := 2, cells := 0, slots := 0, locals := 48 }) (va_Pc [.ref a0] (s_W dC dI sz L F [(cs 0, .int), (cs 1, .byte), (cs 2, .long), (cs 3, .object RX5), (cs 4, .object RX4), (cs 5, .array .int), (cs 6, .char), (cs 7, .boolean)])) (va_Qv (fun (G : Nat → va_E) => True ∧ (True ∧ ((∀ vs, F a0 = .inr (1, vs) → ∃ w, G a0 = .inr (1, vs.set 10 (.int w))) ∧ ∀ z0 z1 z2 z3 z4 z5 z6 z7 z8 z9 z10 z11 f g, G a0 = .inr (1, [.ref z0, .ref z1, .ref z2, .ref z3, .ref z4, .ref z5, .int z6, .int z7, .int z8, .int z9, .int z10, .long z11]) → G z0 = .inl (cs 0, 8, .inl f) → G z5 = .inl (cs 0, 7, .inl g) → ∀ i : Int32, 0 ≤ i.toInt → i.toInt < 8 → ¬ (z8 >>> (i &&& 31) &&& 1) = 0 → 9 ≤ (g 0).toInt → (g 0).toInt ≤ 11 → (f i.toNatClampNeg).toInt ≤ 31)) ∧ s_I K cs D G ∧ ∀ b, K b ∉ [2, 34, 35] → G b = F b) (fun (G : Nat → va_E) (t : State) => va_P (dC, dI) vwCl (va_pl L G) t.heap ∧ va_K (dC, dI) vwCl [(cs 0, .int), (cs 1, .byte), (cs 2, .long), (cs 3, .object RX5), (cs 4, .object RX4), (cs 5, .array .int), (cs 6, .char), (cs 7, .boolean)] t) (fun q => q ∈ L)) 0 0 (fun q => q ∈ L) := by
  refine Met.ofW (cc := cX1_measure) (maxL := 4) (ret := none) (by decide) rfl ?_
  intro p e s m args below meth c s₁ B hml hv
  obtain ⟨rfl, hsz, hP, hK, hD, hN⟩ := hv
  have hx := B.exec
  have hb := B.bytes
  have hr := B.returns
  have hts : ∀ w ∈ T0, w.before _ s = true := fun w h => atoms_spec (ws := Cond.code yX1_measure cX1_measure 4 none :: T0) B.pre w (List.mem_cons_of_mem _ h)
  have hown : s.vm.findClass RX1 = some m.cls := findClass_of_methodNamed B.named
  have hlocks := B.notSynchronized
  have hS : va_S (fun q => q ∈ L) s.heap s.heap [] := va_S.rf
  have hfr : ∀ b, K b ∉ [2, 34, 35] → F b = F b := fun _ _ => rfl
  have hl := lv_entry ([.ref a0]) (n := 4) (Nat.le_of_ble_eq_true rfl)
  rw [lg_entry_eq]
  generalize (lg_sl ([.ref a0]) ++ List.replicate (4 - (lg_sl ([.ref a0])).length) Slot.unset).toArray = ls at hl ⊢
  have hl : lv_has ls 4 [(0, .ref a0)] := hl
  refine s_gen hP hS (fun H locs hP hS => ?_)
  obtain ⟨z1, z3, z5, z7, z9, z11, z13, z15, z16, z17, z19, z20, o21, h2, h4, h6, h8, h10, h12, h14, h18, -⟩ := hR
  obtain ⟨f22, o23, h24⟩ := s_op23 hI h12
  refine th_join (fun g H locs => ∃ (G : Nat → va_E) (ls : Array Slot) (w25 : Int32) (w26 : Int32), g = F0 m 36 ls [.int w26] ∧ lv_has ls 4 [(0, .ref a0), (1, .int w25)] ∧ s_I K cs D G ∧ va_P (dC, dI) vwCl (va_pl L G) H ∧ va_S (fun q => q ∈ L) s.heap H locs ∧ (∀ b, K b ∉ [2, 34, 35] → G b = F b) ∧ (7 ≤ w25.toInt ∧ w25.toInt ≤ 11) ∧ (0 ≤ w26.toInt ∧ w26.toInt ≤ 1) ∧ w25 = f22 0 ∧ (9 ≤ w25.toInt → w26.toInt = 1) ∧ (∃ w, G a0 = .inr (1, [.ref z1, .ref z3, .ref z5, .ref z7, .ref z9, .ref z11, .int z13, .int z15, .int z16, .int z17, .int w, .long z20]))) (fun K36 => ?_) ?_
  · refine lv_aload_n hx hb dX1_measure_0 rfl (lv_at hl 0 rfl) ?_
    refine th_get (D := (dC, dI)) (ci := 1) (v := .ref z11) (C := RX1) (T := TX1) (N := 12) hx hb hts inX1 hown hK hP (hLK _ ha0 (by decide)) o21 rfl 5 (by decide) (hts _ T_118) (fun _ h9 => h9) rfl dX1_measure_1 ?_
    refine lv_iconst (v := 0) hx hb dX1_measure_4 (by decide) ?_
    refine th_iald hx hb hK hP (hLK _ h12 (by decide)) 0 o23 rfl (ax_in (by decide)) dX1_measure_5 ?_
    refine lv_topi (fun v27 ev27 => ?_)
    have eOP : v27 = f22 0 := ev27
    refine lv_istore_n (lv' := [(1, .int v27), (0, .ref a0)]) hx hb dX1_measure_6 rfl hl (by decide) rfl (fun ls hl => ?_)
    refine lv_aload_n hx hb dX1_measure_7 rfl (lv_at hl 1 rfl) ?_
    refine lv_iconst (v := 1) hx hb dX1_measure_8 (by decide) ?_
    refine th_put (D := (dC, dI)) (ci := 1) (v := .int 1) (ty := .int) (C := RX1) (T := TX1) (N := 12) hx hb hts inX1 tyX1 tyX1_ok nmX1 hown hK hP hD hS (hLK _ ha0 (by decide)) o21 rfl 10 (by decide) (hts _ T_119) (fun _ h9 => h9) rfl (by decide +kernel) rfl rfl (Nat.le_of_ble_eq_true rfl) dX1_measure_9 (fun H locs hP hS => ?_)
    have hP : va_P (dC, dI) vwCl (va_pl L (va_up F a0 (.inr (1, [.ref z1, .ref z3, .ref z5, .ref z7, .ref z9, .ref z11, .int z13, .int z15, .int z16, .int z17, .int 1, .long z20])))) H := hP
    obtain ⟨F28, hF29⟩ : ∃ G : Nat → va_E, G = va_up F a0 (.inr (1, [.ref z1, .ref z3, .ref z5, .ref z7, .ref z9, .ref z11, .int z13, .int z15, .int z16, .int z17, .int 1, .long z20])) := ⟨_, rfl⟩
    rw [← hF29] at hP
    have hI : s_I K cs D F28 := by rw [hF29]; exact s_cl2 hI ha0 ⟨z1, z3, z5, some z7, some z9, some z11, z13, z15, z16, z17, 1, z20, rfl, h2, h4, h6, (fun q e => by cases e; exact h8), (fun q e => by cases e; exact h10), (fun q e => by cases e; exact h12), ⟨by omega, by omega⟩, ⟨by omega, by omega⟩, trivial⟩
    have hfr : ∀ b, K b ∉ [2, 34, 35] → F28 b = F b := by rw [hF29]; exact s_fr hfr ha0 (by decide)
    have o30 : F28 z11 = .inl (cs 0, 7, .inl f22) := by rw [hF29]; exact th_ne (th_kd h12 ha0 (by decide)) o23
    have o31 : F28 a0 = .inr (1, [.ref z1, .ref z3, .ref z5, .ref z7, .ref z9, .ref z11, .int z13, .int z15, .int z16, .int z17, .int 1, .long z20]) := by rw [hF29]; exact th_up
    refine lv_iload_n hx hb dX1_measure_12 rfl (lv_at hl 0 rfl) ?_
    refine lv_bipush (v := 7) hx hb dX1_measure_13 (by decide) ?_
    refine lv_icmp_lt (tgt := 24) hx hb dX1_measure_15 (by decide) (fun c32 => ?_) (fun c32 => ?_)
    · have c32 := (ax_lt (n := 7) (by decide)).mp c32
      exact W.vret hx hb hr (fun t ht hW => ⟨⟨F28, rfl, ⟨trivial, ⟨trivial, ⟨(fun vs q => by rw [o21] at q; cases q; exact ⟨_, o31⟩), fun z0 z1 z2 z3 z4 z5 z6 z7 z8 z9 z10 z11 f g q1 q2 q3 => by rw [o31] at q1; cases q1; rw [o30] at q3; cases q3; intro i h0 h1 h2 h3 h4; have q9 := congrArg Int32.toInt eOP; omega⟩⟩, hI, hfr⟩, by rw [ht]; exact hP, va_K.moved hW.alike hK⟩, hS.F ht⟩) hS.2.2 dX1_measure_24
    · have c32 := mt (ax_lt (n := 7) (by decide)).mpr c32
      refine lv_iload_n hx hb dX1_measure_18 rfl (lv_at hl 0 rfl) ?_
      refine lv_bipush (v := 11) hx hb dX1_measure_19 (by decide) ?_
      refine lv_icmp_le (tgt := 25) hx hb dX1_measure_21 (by decide) (fun c33 => ?_) (fun c33 => ?_)
      · have c33 := (ax_le (n := 11) (by decide)).mp c33
        refine lv_iload_n hx hb dX1_measure_25 rfl (lv_at hl 0 rfl) ?_
        refine lv_bipush (v := 9) hx hb dX1_measure_26 (by decide) ?_
        refine lv_icmp_lt (tgt := 35) hx hb dX1_measure_28 (by decide) (fun c34 => ?_) (fun c34 => ?_)
        · have c34 := (ax_lt (n := 9) (by decide)).mp c34
          refine lv_iconst (v := 0) hx hb dX1_measure_35 (by decide) ?_
          exact K36 _ _ _ ⟨F28, _, v27, 0, rfl, lv_sub hl [1, 0] rfl, hI, hP, hS, hfr, ⟨by omega, by omega⟩, (by decide), eOP, (by first | omega | exact fun _ => by decide), ⟨_, o31⟩⟩
        · have c34 := mt (ax_lt (n := 9) (by decide)).mpr c34
          refine lv_iconst (v := 1) hx hb dX1_measure_31 (by decide) ?_
          refine lv_goto (tgt := 36) hx hb dX1_measure_32 (by decide) ?_
          exact K36 _ _ _ ⟨F28, _, v27, 1, rfl, lv_sub hl [1, 0] rfl, hI, hP, hS, hfr, ⟨by omega, by omega⟩, (by decide), eOP, (by first | omega | exact fun _ => by decide), ⟨_, o31⟩⟩
      · have c33 := mt (ax_le (n := 11) (by decide)).mpr c33
        exact W.vret hx hb hr (fun t ht hW => ⟨⟨F28, rfl, ⟨trivial, ⟨trivial, ⟨(fun vs q => by rw [o21] at q; cases q; exact ⟨_, o31⟩), fun z0 z1 z2 z3 z4 z5 z6 z7 z8 z9 z10 z11 f g q1 q2 q3 => by rw [o31] at q1; cases q1; rw [o30] at q3; cases q3; intro i h0 h1 h2 h3 h4; have q9 := congrArg Int32.toInt eOP; omega⟩⟩, hI, hfr⟩, by rw [ht]; exact hP, va_K.moved hW.alike hK⟩, hS.F ht⟩) hS.2.2 dX1_measure_24
  · intro g H locs hq
    obtain ⟨F9, ls, w25, w26, rfl, hl, hI, hP, hS, hfr, h35, h36, h37, h38, h39⟩ := hq
    have o40 : F9 z11 = .inl (cs 0, 7, .inl f22) := (hfr _ (by rw [h12]; decide)).trans o23
    obtain ⟨z41, o42⟩ := h39
    have eOP := h37
    refine lv_istore_n (lv' := [(2, .int w26), (0, .ref a0), (1, .int w25)]) hx hb dX1_measure_36 rfl hl (by decide) rfl (fun ls hl => ?_)
    refine lv_iconst (v := 0) hx hb dX1_measure_37 (by decide) ?_
    refine lv_istore_n (lv' := [(3, .int 0), (2, .int w26), (0, .ref a0), (1, .int w25)]) hx hb dX1_measure_38 rfl hl (by decide) rfl (fun ls hl => ?_)
    refine th_loop (fun n g H locs => ∃ (G : Nat → va_E) (ls : Array Slot) (w43 : Int32), g = F0 m 39 ls [] ∧ lv_has ls 4 [(0, .ref a0), (1, .int w25), (2, .int w26), (3, .int w43)] ∧ s_I K cs D G ∧ va_P (dC, dI) vwCl (va_pl L G) H ∧ va_S (fun q => q ∈ L) s.heap H locs ∧ (∀ b, K b ∉ [2, 34, 35] → G b = F b) ∧ (0 ≤ w43.toInt ∧ w43.toInt ≤ 8) ∧ (7 ≤ w25.toInt ∧ w25.toInt ≤ 11) ∧ (0 ≤ w26.toInt ∧ w26.toInt ≤ 1) ∧ (∀ f, G z1 = .inl (cs 0, 8, .inl f) → ∀ i : Int32, 0 ≤ i.toInt → i.toInt < w43.toInt → ¬ (z16 >>> (i &&& 31) &&& 1) = 0 → 9 ≤ w25.toInt → (f i.toNatClampNeg).toInt ≤ 31) ∧ (∃ w, G a0 = .inr (1, [.ref z1, .ref z3, .ref z5, .ref z7, .ref z9, .ref z11, .int z13, .int z15, .int z16, .int z17, .int w, .long z20])) ∧ n = (9 - w43.toInt).toNat) _ ⟨F9, _, 0, rfl, lv_sub hl [2, 3, 1, 0] rfl, hI, hP, hS, hfr, (by decide), ⟨by omega, by omega⟩, ⟨by omega, by omega⟩, (fun f q i h0 h1 => absurd h1 (by have q9 : (0 : Int32).toInt = 0 := (by decide); omega)), ⟨_, o42⟩, rfl⟩ (fun n ih39 g H locs hq => ?_)
    obtain ⟨F9, ls, w43, rfl, hl, hI, hP, hS, hfr, h44, h45, h46, h47, h48, hn⟩ := hq
    have o49 : F9 z11 = .inl (cs 0, 7, .inl f22) := (hfr _ (by rw [h12]; decide)).trans o23
    obtain ⟨z50, o51⟩ := h48
    obtain ⟨f52, o53, h54⟩ := s_op34 hI h2
    have h55 := h47 _ o53
    have hn_39 := hn
    obtain ⟨n_39, hn9_39⟩ : ∃ q, q = n := ⟨_, rfl⟩
    refine th_join (fun g H locs => ∃ (G : Nat → va_E) (ls : Array Slot), g = F0 m 84 ls [] ∧ lv_has ls 4 [(0, .ref a0), (1, .int w25), (2, .int w26), (3, .int w43)] ∧ s_I K cs D G ∧ va_P (dC, dI) vwCl (va_pl L G) H ∧ va_S (fun q => q ∈ L) s.heap H locs ∧ (∀ b, K b ∉ [2, 34, 35] → G b = F b) ∧ (7 ≤ w25.toInt ∧ w25.toInt ≤ 11) ∧ (0 ≤ w26.toInt ∧ w26.toInt ≤ 1) ∧ (0 ≤ w43.toInt ∧ w43.toInt ≤ 7) ∧ (∀ f, G z1 = .inl (cs 0, 8, .inl f) → ∀ i : Int32, 0 ≤ i.toInt → i.toInt < w43.toInt + 1 → ¬ (z16 >>> (i &&& 31) &&& 1) = 0 → 9 ≤ w25.toInt → (f i.toNatClampNeg).toInt ≤ 31) ∧ (∃ w, G a0 = .inr (1, [.ref z1, .ref z3, .ref z5, .ref z7, .ref z9, .ref z11, .int z13, .int z15, .int z16, .int z17, .int w, .long z20]))) (fun K84 => ?_) ?_
    · refine lv_iload_n hx hb dX1_measure_39 rfl (lv_at hl 3 rfl) ?_
      refine lv_bipush (v := 8) hx hb dX1_measure_40 (by decide) ?_
      refine lv_icmp_ge (tgt := 90) hx hb dX1_measure_42 (by decide) (fun c56 => ?_) (fun c56 => ?_)
      · have c56 := (ax_ge (n := 8) (by decide)).mp c56
        refine lv_iload_n hx hb dX1_measure_90 rfl (lv_at hl 1 rfl) ?_
        refine lv_bipush (v := 11) hx hb dX1_measure_91 (by decide) ?_
        refine lv_icmp_ne (tgt := 110) hx hb dX1_measure_93 (by decide) (fun c57 => ?_) (fun c57 => ?_)
        · have c57 := mt (ax_eq (n := 11) (by decide)).mpr c57
          refine lv_aload_n hx hb dX1_measure_110 rfl (lv_at hl 0 rfl) ?_
          refine lv_iload_n hx hb dX1_measure_111 rfl (lv_at hl 2 rfl) ?_
          refine lv_if_eq (tgt := 122) hx hb dX1_measure_112 (by decide) (fun c58 => ?_) (fun c58 => ?_)
          · have c58 := (ax_eq (n := 0) (by decide)).mp c58
            refine lv_iconst (v := 2) hx hb dX1_measure_122 (by decide) ?_
            refine lv_aload_n hx hb dX1_measure_123 rfl (lv_at hl 0 rfl) ?_
            refine va_calli (va_runV (As := []) (rest := [.int 2, .ref a0]) ⟨hx, hb, hml, hown, hts⟩ (s_X1_segments l dC dI H.size hLK D F9 a0 ha0 hI) (cwV 0 hts (ax_gV T_121 T_122 T_123 T_100 T_120) rfl rfl rfl (by decide +kernel) ⟨Nat.le_of_ble_eq_true rfl, Nat.le_of_ble_eq_true rfl⟩) ⟨fun a U g mk q => ⟨q.1, s_pc rfl rfl q.2⟩, s_recv hK hP (hLK _ ha0 (by decide)) (ci := 1) rfl o51, fun U hU hW => ⟨rfl, s_pw hU hW hP hK hD hN⟩⟩ rfl rfl hl.1 rfl (lv_room (Nat.le_of_ble_eq_true rfl)) dX1_measure_124 ⟨Nat.zero_le _, Nat.zero_le _⟩) hS (fun q _ h => h) (fun q h => h) (fun r59 F60 t H1 locs ht hvm hw hB hz1 hk1 hS => ?_)
            obtain ⟨hP, hK1⟩ := hB
            rw [ht] at hP
            generalize H1 = H at hP hS ⊢
            obtain ⟨h61, h62, hI, hfr1⟩ := hw
            have o63 : F60 a0 = .inr (1, [.ref z1, .ref z3, .ref z5, .ref z7, .ref z9, .ref z11, .int z13, .int z15, .int z16, .int z17, .int z50, .long z20]) := (hfr1 _ (by rw [ha0]; decide)).trans o51
            have o64 : F60 z11 = .inl (cs 0, 7, .inl f22) := (hfr1 _ (by rw [h12]; decide)).trans o49
            have o65 : F60 z1 = .inl (cs 0, 8, .inl f52) := (hfr1 _ (by rw [h2]; decide)).trans o53
            have hfr : ∀ b, K b ∉ [2, 34, 35] → F60 b = F b := fun b hb9 => (hfr1 b (fun q => hb9 (s_sub (by decide) q))).trans (hfr b hb9)
            refine lv_iadd hx hb dX1_measure_127 ?_
            refine lv_topi (fun v66 ev66 => ?_)
            have qv66 : v66.toInt = 2 + r59.toInt := by rw [ev66]; exact th_add (by decide) rfl ⟨by omega, by omega⟩
            refine th_put (D := (dC, dI)) (ci := 1) (v := .int v66) (ty := .int) (C := RX1) (T := TX1) (N := 12) hx hb hts inX1 tyX1 tyX1_ok nmX1 hown hK hP hD hS (hLK _ ha0 (by decide)) o63 rfl 10 (by decide) (hts _ T_119) (fun _ h9 => h9) rfl (by decide +kernel) rfl rfl (Nat.le_of_ble_eq_true rfl) dX1_measure_128 (fun H locs hP hS => ?_)
            have hP : va_P (dC, dI) vwCl (va_pl L (va_up F60 a0 (.inr (1, [.ref z1, .ref z3, .ref z5, .ref z7, .ref z9, .ref z11, .int z13, .int z15, .int z16, .int z17, .int v66, .long z20])))) H := hP
            obtain ⟨F67, hF68⟩ : ∃ G : Nat → va_E, G = va_up F60 a0 (.inr (1, [.ref z1, .ref z3, .ref z5, .ref z7, .ref z9, .ref z11, .int z13, .int z15, .int z16, .int z17, .int v66, .long z20])) := ⟨_, rfl⟩
            rw [← hF68] at hP
            have hI : s_I K cs D F67 := by rw [hF68]; exact s_cl2 hI ha0 ⟨z1, z3, z5, some z7, some z9, some z11, z13, z15, z16, z17, v66, z20, rfl, h2, h4, h6, (fun q e => by cases e; exact h8), (fun q e => by cases e; exact h10), (fun q e => by cases e; exact h12), ⟨by omega, by omega⟩, ⟨by omega, by omega⟩, trivial⟩
            have hfr : ∀ b, K b ∉ [2, 34, 35] → F67 b = F b := by rw [hF68]; exact s_fr hfr ha0 (by decide)
            have o69 : F67 z11 = .inl (cs 0, 7, .inl f22) := by rw [hF68]; exact th_ne (th_kd h12 ha0 (by decide)) o64
            have o70 : F67 z1 = .inl (cs 0, 8, .inl f52) := by rw [hF68]; exact th_ne (th_kd h2 ha0 (by decide)) o65
            have o71 : F67 a0 = .inr (1, [.ref z1, .ref z3, .ref z5, .ref z7, .ref z9, .ref z11, .int z13, .int z15, .int z16, .int z17, .int v66, .long z20]) := by rw [hF68]; exact th_up
            exact W.vret hx hb hr (fun t ht hW => ⟨⟨F67, rfl, ⟨trivial, ⟨trivial, ⟨(fun vs q => by rw [o21] at q; cases q; exact ⟨_, o71⟩), fun z0 z1 z2 z3 z4 z5 z6 z7 z8 z9 z10 z11 f g q1 q2 q3 => by rw [o71] at q1; cases q1; rw [o69] at q3; cases q3; intro i h0 h1 h2 h3 h4; have q9 := congrArg Int32.toInt eOP; rw [o70] at q2; cases q2; exact h55 i h0 (by omega) h2 (by omega)⟩⟩, hI, hfr⟩, by rw [ht]; exact hP, va_K.moved hW.alike hK⟩, hS.F ht⟩) hS.2.2 dX1_measure_131
          · have c58 := mt (ax_eq (n := 0) (by decide)).mpr c58
            refine lv_aload_n hx hb dX1_measure_115 rfl (lv_at hl 0 rfl) ?_
            refine va_calli (va_runV (As := []) (rest := [.ref a0]) ⟨hx, hb, hml, hown, hts⟩ (s_X1_mostInOneBank l dC dI H.size hLK D F9 a0 ha0 hI ⟨z1, z3, z5, z7, z9, z11, z13, z15, z16, z17, z50, z20, o51, h2, h4, h6, h8, h10, h12, ⟨by omega, by omega⟩, ⟨by omega, by omega⟩, trivial⟩) (cwV 0 hts (ax_gV T_125 T_126 T_127 T_100 T_124) rfl rfl rfl (by decide +kernel) ⟨Nat.le_of_ble_eq_true rfl, Nat.le_of_ble_eq_true rfl⟩) ⟨fun a U g mk q => ⟨q.1, s_pc rfl rfl q.2⟩, s_recv hK hP (hLK _ ha0 (by decide)) (ci := 1) rfl o51, fun U hU hW => ⟨rfl, s_pw hU hW hP hK hD hN⟩⟩ rfl rfl hl.1 rfl (lv_room (Nat.le_of_ble_eq_true rfl)) dX1_measure_116 ⟨Nat.zero_le _, Nat.zero_le _⟩) hS (fun q _ h => h) (fun q h => h) (fun r72 F73 t H1 locs ht hvm hw hB hz1 hk1 hS => ?_)
            obtain ⟨hP, hK1⟩ := hB
            rw [ht] at hP
            generalize H1 = H at hP hS ⊢
            obtain ⟨h74, h75, hI, hfr1⟩ := hw
            have o76 : F73 a0 = .inr (1, [.ref z1, .ref z3, .ref z5, .ref z7, .ref z9, .ref z11, .int z13, .int z15, .int z16, .int z17, .int z50, .long z20]) := (hfr1 _ (by rw [ha0]; decide)).trans o51
            have o77 : F73 z11 = .inl (cs 0, 7, .inl f22) := (hfr1 _ (by rw [h12]; decide)).trans o49
            have o78 : F73 z1 = .inl (cs 0, 8, .inl f52) := (hfr1 _ (by rw [h2]; decide)).trans o53
            have hfr : ∀ b, K b ∉ [2, 34, 35] → F73 b = F b := fun b hb9 => (hfr1 b (fun q => hb9 (s_sub (by decide) q))).trans (hfr b hb9)
            refine lv_goto (tgt := 128) hx hb dX1_measure_119 (by decide) ?_
            refine th_put (D := (dC, dI)) (ci := 1) (v := .int r72) (ty := .int) (C := RX1) (T := TX1) (N := 12) hx hb hts inX1 tyX1 tyX1_ok nmX1 hown hK hP hD hS (hLK _ ha0 (by decide)) o76 rfl 10 (by decide) (hts _ T_119) (fun _ h9 => h9) rfl (by decide +kernel) rfl rfl (Nat.le_of_ble_eq_true rfl) dX1_measure_128 (fun H locs hP hS => ?_)
            have hP : va_P (dC, dI) vwCl (va_pl L (va_up F73 a0 (.inr (1, [.ref z1, .ref z3, .ref z5, .ref z7, .ref z9, .ref z11, .int z13, .int z15, .int z16, .int z17, .int r72, .long z20])))) H := hP
            obtain ⟨F79, hF80⟩ : ∃ G : Nat → va_E, G = va_up F73 a0 (.inr (1, [.ref z1, .ref z3, .ref z5, .ref z7, .ref z9, .ref z11, .int z13, .int z15, .int z16, .int z17, .int r72, .long z20])) := ⟨_, rfl⟩
            rw [← hF80] at hP
            have hI : s_I K cs D F79 := by rw [hF80]; exact s_cl2 hI ha0 ⟨z1, z3, z5, some z7, some z9, some z11, z13, z15, z16, z17, r72, z20, rfl, h2, h4, h6, (fun q e => by cases e; exact h8), (fun q e => by cases e; exact h10), (fun q e => by cases e; exact h12), ⟨by omega, by omega⟩, ⟨by omega, by omega⟩, trivial⟩
            have hfr : ∀ b, K b ∉ [2, 34, 35] → F79 b = F b := by rw [hF80]; exact s_fr hfr ha0 (by decide)
            have o81 : F79 z11 = .inl (cs 0, 7, .inl f22) := by rw [hF80]; exact th_ne (th_kd h12 ha0 (by decide)) o77
            have o82 : F79 z1 = .inl (cs 0, 8, .inl f52) := by rw [hF80]; exact th_ne (th_kd h2 ha0 (by decide)) o78
            have o83 : F79 a0 = .inr (1, [.ref z1, .ref z3, .ref z5, .ref z7, .ref z9, .ref z11, .int z13, .int z15, .int z16, .int z17, .int r72, .long z20]) := by rw [hF80]; exact th_up
            exact W.vret hx hb hr (fun t ht hW => ⟨⟨F79, rfl, ⟨trivial, ⟨trivial, ⟨(fun vs q => by rw [o21] at q; cases q; exact ⟨_, o83⟩), fun z0 z1 z2 z3 z4 z5 z6 z7 z8 z9 z10 z11 f g q1 q2 q3 => by rw [o83] at q1; cases q1; rw [o81] at q3; cases q3; intro i h0 h1 h2 h3 h4; have q9 := congrArg Int32.toInt eOP; rw [o82] at q2; cases q2; exact h55 i h0 (by omega) h2 (by omega)⟩⟩, hI, hfr⟩, by rw [ht]; exact hP, va_K.moved hW.alike hK⟩, hS.F ht⟩) hS.2.2 dX1_measure_131
        · have c57 := (ax_eq (n := 11) (by decide)).mp c57
          refine lv_aload_n hx hb dX1_measure_96 rfl (lv_at hl 0 rfl) ?_
          refine lv_aload_n hx hb dX1_measure_97 rfl (lv_at hl 0 rfl) ?_
          refine th_get (D := (dC, dI)) (ci := 1) (v := .int z16) (C := RX1) (T := TX1) (N := 12) hx hb hts inX1 hown hK hP (hLK _ ha0 (by decide)) o51 rfl 8 (by decide) (hts _ T_97) (fun _ h9 => h9) rfl dX1_measure_98 ?_
          refine va_calli (va_runS (As := [.int z16]) (rest := [.ref a0]) ⟨hx, hb, hml, hown, hts⟩ (s_J6_bitCount_0f7a4 l dC dI H.size hLK D F9 z16 hI) ⟨callB_of 1 hts (ax_gT T_88) rfl rfl rfl (hts _ T_89) (hts _ T_98) (by decide +kernel) ⟨Nat.le_of_ble_eq_true rfl, Nat.le_of_ble_eq_true rfl⟩, hts _ T_91⟩ ⟨fun a U g mk q => ⟨q.1, s_pc rfl rfl q.2⟩, fun U hU hW => ⟨rfl, s_pw hU hW hP hK hD hN⟩⟩ rfl rfl hl.1 rfl (lv_room (Nat.le_of_ble_eq_true rfl)) dX1_measure_101 ⟨Nat.zero_le _, Nat.zero_le _⟩) hS (fun q _ h => h) (fun q h => h) (fun r84 F85 t H1 locs ht hvm hw hB hz1 hk1 hS => ?_)
          obtain ⟨hP, hK1⟩ := hB
          rw [ht] at hP
          generalize H1 = H at hP hS ⊢
          obtain ⟨h86, h87, hI, hfr1⟩ := hw
          have o88 : F85 a0 = .inr (1, [.ref z1, .ref z3, .ref z5, .ref z7, .ref z9, .ref z11, .int z13, .int z15, .int z16, .int z17, .int z50, .long z20]) := (hfr1 _ (by rw [ha0]; decide)).trans o51
          have o89 : F85 z11 = .inl (cs 0, 7, .inl f22) := (hfr1 _ (by rw [h12]; decide)).trans o49
          have o90 : F85 z1 = .inl (cs 0, 8, .inl f52) := (hfr1 _ (by rw [h2]; decide)).trans o53
          have hfr : ∀ b, K b ∉ [2, 34, 35] → F85 b = F b := fun b hb9 => (hfr1 b (fun q => hb9 (s_sub (by decide) q))).trans (hfr b hb9)
          refine th_put (D := (dC, dI)) (ci := 1) (v := .int r84) (ty := .int) (C := RX1) (T := TX1) (N := 12) hx hb hts inX1 tyX1 tyX1_ok nmX1 hown hK hP hD hS (hLK _ ha0 (by decide)) o88 rfl 10 (by decide) (hts _ T_119) (fun _ h9 => h9) rfl (by decide +kernel) rfl rfl (Nat.le_of_ble_eq_true rfl) dX1_measure_104 (fun H locs hP hS => ?_)
          have hP : va_P (dC, dI) vwCl (va_pl L (va_up F85 a0 (.inr (1, [.ref z1, .ref z3, .ref z5, .ref z7, .ref z9, .ref z11, .int z13, .int z15, .int z16, .int z17, .int r84, .long z20])))) H := hP
          obtain ⟨F91, hF92⟩ : ∃ G : Nat → va_E, G = va_up F85 a0 (.inr (1, [.ref z1, .ref z3, .ref z5, .ref z7, .ref z9, .ref z11, .int z13, .int z15, .int z16, .int z17, .int r84, .long z20])) := ⟨_, rfl⟩
          rw [← hF92] at hP
          have hI : s_I K cs D F91 := by rw [hF92]; exact s_cl2 hI ha0 ⟨z1, z3, z5, some z7, some z9, some z11, z13, z15, z16, z17, r84, z20, rfl, h2, h4, h6, (fun q e => by cases e; exact h8), (fun q e => by cases e; exact h10), (fun q e => by cases e; exact h12), ⟨by omega, by omega⟩, ⟨by omega, by omega⟩, trivial⟩
          have hfr : ∀ b, K b ∉ [2, 34, 35] → F91 b = F b := by rw [hF92]; exact s_fr hfr ha0 (by decide)
          have o93 : F91 z11 = .inl (cs 0, 7, .inl f22) := by rw [hF92]; exact th_ne (th_kd h12 ha0 (by decide)) o89
          have o94 : F91 z1 = .inl (cs 0, 8, .inl f52) := by rw [hF92]; exact th_ne (th_kd h2 ha0 (by decide)) o90
          have o95 : F91 a0 = .inr (1, [.ref z1, .ref z3, .ref z5, .ref z7, .ref z9, .ref z11, .int z13, .int z15, .int z16, .int z17, .int r84, .long z20]) := by rw [hF92]; exact th_up
          refine lv_goto (tgt := 131) hx hb dX1_measure_107 (by decide) ?_
          exact W.vret hx hb hr (fun t ht hW => ⟨⟨F91, rfl, ⟨trivial, ⟨trivial, ⟨(fun vs q => by rw [o21] at q; cases q; exact ⟨_, o95⟩), fun z0 z1 z2 z3 z4 z5 z6 z7 z8 z9 z10 z11 f g q1 q2 q3 => by rw [o95] at q1; cases q1; rw [o93] at q3; cases q3; intro i h0 h1 h2 h3 h4; have q9 := congrArg Int32.toInt eOP; rw [o94] at q2; cases q2; exact h55 i h0 (by omega) h2 (by omega)⟩⟩, hI, hfr⟩, by rw [ht]; exact hP, va_K.moved hW.alike hK⟩, hS.F ht⟩) hS.2.2 dX1_measure_131
      · have c56 := mt (ax_ge (n := 8) (by decide)).mpr c56
        refine lv_aload_n hx hb dX1_measure_45 rfl (lv_at hl 0 rfl) ?_
        refine lv_iload_n hx hb dX1_measure_46 rfl (lv_at hl 3 rfl) ?_
        refine va_calli (va_runV (As := [.int w43]) (rest := []) ⟨hx, hb, hml, hown, hts⟩ (s_X1_goesNow l dC dI H.size hLK D F9 a0 w43 ha0 hI) (cwV 1 hts (ax_gV T_101 T_102 T_103 T_100 T_99) rfl rfl rfl (by decide +kernel) ⟨Nat.le_of_ble_eq_true rfl, Nat.le_of_ble_eq_true rfl⟩) ⟨fun a U g mk q => ⟨q.1, s_pc rfl rfl q.2⟩, s_recv hK hP (hLK _ ha0 (by decide)) (ci := 1) rfl o51, fun U hU hW => ⟨rfl, s_pw hU hW hP hK hD hN⟩⟩ rfl rfl hl.1 rfl (lv_room (Nat.le_of_ble_eq_true rfl)) dX1_measure_47 ⟨Nat.zero_le _, Nat.zero_le _⟩) hS (fun q _ h => h) (fun q h => h) (fun r96 F97 t H1 locs ht hvm hw hB hz1 hk1 hS => ?_)
        obtain ⟨hP, hK1⟩ := hB
        rw [ht] at hP
        generalize H1 = H at hP hS ⊢
        obtain ⟨h98, h99, hI, hfr1⟩ := hw
        have o100 : F97 a0 = .inr (1, [.ref z1, .ref z3, .ref z5, .ref z7, .ref z9, .ref z11, .int z13, .int z15, .int z16, .int z17, .int z50, .long z20]) := (hfr1 _ (by rw [ha0]; decide)).trans o51
        have o101 : F97 z11 = .inl (cs 0, 7, .inl f22) := (hfr1 _ (by rw [h12]; decide)).trans o49
        have o102 : F97 z1 = .inl (cs 0, 8, .inl f52) := (hfr1 _ (by rw [h2]; decide)).trans o53
        have hfr : ∀ b, K b ∉ [2, 34, 35] → F97 b = F b := fun b hb9 => (hfr1 b (fun q => hb9 (s_sub (by decide) q))).trans (hfr b hb9)
        obtain ⟨h99, h103⟩ := h99
        have h103 : (∀ vs z, F9 a0 = .inr (1, vs) → vs[8]? = some (.int z) → (r96 = 0 ↔ (z >>> (w43 &&& 31) &&& 1) = 0)) := h103
        refine lv_if_eq (tgt := 84) hx hb dX1_measure_50 (by decide) (fun c104 => ?_) (fun c104 => ?_)
        · have c104 := (ax_eq (n := 0) (by decide)).mp c104
          have gb := h103 _ _ o51 rfl
          exact K84 _ _ _ ⟨F97, _, rfl, lv_sub hl [0, 1, 2, 3] rfl, hI, hP, hS, hfr, ⟨by omega, by omega⟩, ⟨by omega, by omega⟩, ⟨by omega, by omega⟩, (fun f q i h0 h1 h2 h3 => by rw [o102] at q; cases q; exact (show i.toInt < w43.toInt ∨ i.toInt = w43.toInt by omega).elim (fun p9 => h55 i h0 p9 h2 h3) (fun p9 => absurd (gb.mp (Int32.toInt_inj.mp (by rw [c104]; decide))) (by rw [← Int32.toInt_inj.mp p9]; exact h2))), ⟨_, o100⟩⟩
        · have c104 := mt (ax_eq (n := 0) (by decide)).mpr c104
          have gb := h103 _ _ o51 rfl
          refine lv_aload_n hx hb dX1_measure_53 rfl (lv_at hl 0 rfl) ?_
          refine th_get (D := (dC, dI)) (ci := 1) (v := .ref z1) (C := RX1) (T := TX1) (N := 12) hx hb hts inX1 hown hK hP (hLK _ ha0 (by decide)) o100 rfl 0 (by decide) (hts _ T_104) (fun _ h9 => h9) rfl dX1_measure_54 ?_
          refine lv_iload_n hx hb dX1_measure_57 rfl (lv_at hl 3 rfl) ?_
          refine lv_aload_n hx hb dX1_measure_58 rfl (lv_at hl 0 rfl) ?_
          refine lv_aload_n hx hb dX1_measure_59 rfl (lv_at hl 0 rfl) ?_
          refine th_get (D := (dC, dI)) (ci := 1) (v := .ref z11) (C := RX1) (T := TX1) (N := 12) hx hb hts inX1 hown hK hP (hLK _ ha0 (by decide)) o100 rfl 5 (by decide) (hts _ T_118) (fun _ h9 => h9) rfl dX1_measure_60 ?_
          refine lv_iconst (v := 2) hx hb dX1_measure_63 (by decide) ?_
          refine th_iald hx hb hK hP (hLK _ h12 (by decide)) 0 o101 rfl (ax_in (by decide)) dX1_measure_64 ?_
          refine lv_topi (fun v105 ev105 => ?_)
          refine lv_iload_n hx hb dX1_measure_65 rfl (lv_at hl 3 rfl) ?_
          refine va_calli (va_runV (As := [.int v105, .int w43]) (rest := [.int w43, .ref z1]) ⟨hx, hb, hml, hown, hts⟩ (s_X1_valueOf l dC dI H.size hLK D F97 a0 v105 w43 ha0 (⟨by omega, by omega⟩) hI ⟨z1, z3, z5, z7, z9, z11, z13, z15, z16, z17, z50, z20, o100, h2, h4, h6, h8, h10, h12, ⟨by omega, by omega⟩, ⟨by omega, by omega⟩, trivial⟩) (cwV 2 hts (ax_gV T_129 T_130 T_131 T_100 T_128) rfl rfl rfl (by decide +kernel) ⟨Nat.le_of_ble_eq_true rfl, Nat.le_of_ble_eq_true rfl⟩) ⟨fun a U g mk q => ⟨q.1, s_pc rfl rfl q.2⟩, s_recv hK hP (hLK _ ha0 (by decide)) (ci := 1) rfl o100, fun U hU hW => ⟨rfl, s_pw hU hW hP hK hD hN⟩⟩ rfl rfl hl.1 rfl (lv_room (Nat.le_of_ble_eq_true rfl)) dX1_measure_66 ⟨Nat.zero_le _, Nat.zero_le _⟩) hS (fun q _ h => h) (fun q h => h) (fun r106 F107 t H1 locs ht hvm hw hB hz1 hk1 hS => ?_)
          obtain ⟨hP, hK1⟩ := hB
          rw [ht] at hP
          generalize H1 = H at hP hS ⊢
          obtain ⟨h108, h109, hI, hfr1⟩ := hw
          have o110 : F107 a0 = .inr (1, [.ref z1, .ref z3, .ref z5, .ref z7, .ref z9, .ref z11, .int z13, .int z15, .int z16, .int z17, .int z50, .long z20]) := (hfr1 _ (by rw [ha0]; decide)).trans o100
          have o111 : F107 z11 = .inl (cs 0, 7, .inl f22) := (hfr1 _ (by rw [h12]; decide)).trans o101
          have o112 : F107 z1 = .inl (cs 0, 8, .inl f52) := (hfr1 _ (by rw [h2]; decide)).trans o102
          have hfr : ∀ b, K b ∉ [2, 34, 35] → F107 b = F b := fun b hb9 => (hfr1 b (fun q => hb9 (s_sub (by decide) q))).trans (hfr b hb9)
          refine lv_iload_n hx hb dX1_measure_69 rfl (lv_at hl 2 rfl) ?_
          refine lv_if_eq (tgt := 78) hx hb dX1_measure_70 (by decide) (fun c113 => ?_) (fun c113 => ?_)
          · have c113 := (ax_eq (n := 0) (by decide)).mp c113
            refine lv_bipush (v := 64) hx hb dX1_measure_78 (by decide) ?_
            refine va_calli (va_runS (As := [.int r106, .int 64]) (rest := [.int w43, .ref z1]) ⟨hx, hb, hml, hown, hts⟩ (s_J9_floorMod_7cf53 l dC dI H.size hLK D F107 r106 64 (by decide) hI) ⟨callB_of 2 hts (ax_gT T_132) rfl rfl rfl (hts _ T_133) (hts _ T_134) (by decide +kernel) ⟨Nat.le_of_ble_eq_true rfl, Nat.le_of_ble_eq_true rfl⟩, hts _ T_135⟩ ⟨fun a U g mk q => ⟨q.1, s_pc rfl rfl q.2⟩, fun U hU hW => ⟨rfl, s_pw hU hW hP hK hD hN⟩⟩ rfl rfl hl.1 rfl (lv_room (Nat.le_of_ble_eq_true rfl)) dX1_measure_80 ⟨Nat.zero_le _, Nat.zero_le _⟩) hS (fun q _ h => h) (fun q h => h) (fun r114 F115 t H1 locs ht hvm hw hB hz1 hk1 hS => ?_)
            obtain ⟨hP, hK1⟩ := hB
            rw [ht] at hP
            generalize H1 = H at hP hS ⊢
            obtain ⟨h116, h117, hI, hfr1⟩ := hw
            have o118 : F115 a0 = .inr (1, [.ref z1, .ref z3, .ref z5, .ref z7, .ref z9, .ref z11, .int z13, .int z15, .int z16, .int z17, .int z50, .long z20]) := (hfr1 _ (by rw [ha0]; decide)).trans o110
            have o119 : F115 z11 = .inl (cs 0, 7, .inl f22) := (hfr1 _ (by rw [h12]; decide)).trans o111
            have o120 : F115 z1 = .inl (cs 0, 8, .inl f52) := (hfr1 _ (by rw [h2]; decide)).trans o112
            have hfr : ∀ b, K b ∉ [2, 34, 35] → F115 b = F b := fun b hb9 => (hfr1 b (fun q => hb9 (s_sub (by decide) q))).trans (hfr b hb9)
            obtain ⟨h117, h121⟩ := h117
            have h121 : (0 ≤ r114.toInt ∧ r114.toInt < 64) := h121
            refine th_iast hx hb hK hP hD hS (hLK _ h2 (by decide)) 0 o120 rfl (th_in ⟨by omega, by omega⟩) dX1_measure_83 (fun H locs hP hS => ?_)
            have hP : va_P (dC, dI) vwCl (va_pl L (va_up F115 z1 (.inl (cs 0, 8, .inl (upd f52 (w43 : Int32).toNatClampNeg r114))))) H := hP
            obtain ⟨F122, hF123⟩ : ∃ G : Nat → va_E, G = va_up F115 z1 (.inl (cs 0, 8, .inl (upd f52 (w43 : Int32).toNatClampNeg r114))) := ⟨_, rfl⟩
            rw [← hF123] at hP
            have hI : s_I K cs D F122 := by rw [hF123]; exact s_cl34 hI h2 ⟨_, rfl, (th_updB h54 ⟨by omega, by omega⟩)⟩
            have hfr : ∀ b, K b ∉ [2, 34, 35] → F122 b = F b := by rw [hF123]; exact s_fr hfr h2 (by decide)
            have o124 : F122 a0 = .inr (1, [.ref z1, .ref z3, .ref z5, .ref z7, .ref z9, .ref z11, .int z13, .int z15, .int z16, .int z17, .int z50, .long z20]) := by rw [hF123]; exact th_ne (th_kd ha0 h2 (by decide)) o118
            have o125 : F122 z11 = .inl (cs 0, 7, .inl f22) := by rw [hF123]; exact th_ne (th_kd h12 h2 (by decide)) o119
            have oA : F122 z1 = (.inl (cs 0, 8, .inl (upd f52 (w43 : Int32).toNatClampNeg r114))) := by rw [hF123]; exact th_up
            exact K84 _ _ _ ⟨F122, _, rfl, lv_sub hl [0, 1, 2, 3] rfl, hI, hP, hS, hfr, ⟨by omega, by omega⟩, ⟨by omega, by omega⟩, ⟨by omega, by omega⟩, (fun f q i h0 h1 h2 h3 => by rw [oA] at q; cases q; exact (show i.toInt < w43.toInt ∨ i.toInt = w43.toInt by omega).elim (fun p9 => Int.le_trans (Int.le_of_eq (congrArg Int32.toInt (th_updN (by omega) (by omega) (by omega)))) (h55 i h0 p9 h2 h3)) (fun p9 => by rw [Int32.toInt_inj.mp p9, th_updE]; omega)), ⟨_, o124⟩⟩
          · have c113 := mt (ax_eq (n := 0) (by decide)).mpr c113
            refine lv_bipush (v := 32) hx hb dX1_measure_73 (by decide) ?_
            refine lv_goto (tgt := 80) hx hb dX1_measure_75 (by decide) ?_
            refine va_calli (va_runS (As := [.int r106, .int 32]) (rest := [.int w43, .ref z1]) ⟨hx, hb, hml, hown, hts⟩ (s_J9_floorMod_7cf53 l dC dI H.size hLK D F107 r106 32 (by decide) hI) ⟨callB_of 2 hts (ax_gT T_132) rfl rfl rfl (hts _ T_133) (hts _ T_134) (by decide +kernel) ⟨Nat.le_of_ble_eq_true rfl, Nat.le_of_ble_eq_true rfl⟩, hts _ T_135⟩ ⟨fun a U g mk q => ⟨q.1, s_pc rfl rfl q.2⟩, fun U hU hW => ⟨rfl, s_pw hU hW hP hK hD hN⟩⟩ rfl rfl hl.1 rfl (lv_room (Nat.le_of_ble_eq_true rfl)) dX1_measure_80 ⟨Nat.zero_le _, Nat.zero_le _⟩) hS (fun q _ h => h) (fun q h => h) (fun r126 F127 t H1 locs ht hvm hw hB hz1 hk1 hS => ?_)
            obtain ⟨hP, hK1⟩ := hB
            rw [ht] at hP
            generalize H1 = H at hP hS ⊢
            obtain ⟨h128, h129, hI, hfr1⟩ := hw
            have o130 : F127 a0 = .inr (1, [.ref z1, .ref z3, .ref z5, .ref z7, .ref z9, .ref z11, .int z13, .int z15, .int z16, .int z17, .int z50, .long z20]) := (hfr1 _ (by rw [ha0]; decide)).trans o110
            have o131 : F127 z11 = .inl (cs 0, 7, .inl f22) := (hfr1 _ (by rw [h12]; decide)).trans o111
            have o132 : F127 z1 = .inl (cs 0, 8, .inl f52) := (hfr1 _ (by rw [h2]; decide)).trans o112
            have hfr : ∀ b, K b ∉ [2, 34, 35] → F127 b = F b := fun b hb9 => (hfr1 b (fun q => hb9 (s_sub (by decide) q))).trans (hfr b hb9)
            obtain ⟨h129, h133⟩ := h129
            have h133 : (0 ≤ r126.toInt ∧ r126.toInt < 32) := h133
            refine th_iast hx hb hK hP hD hS (hLK _ h2 (by decide)) 0 o132 rfl (th_in ⟨by omega, by omega⟩) dX1_measure_83 (fun H locs hP hS => ?_)
            have hP : va_P (dC, dI) vwCl (va_pl L (va_up F127 z1 (.inl (cs 0, 8, .inl (upd f52 (w43 : Int32).toNatClampNeg r126))))) H := hP
            obtain ⟨F134, hF135⟩ : ∃ G : Nat → va_E, G = va_up F127 z1 (.inl (cs 0, 8, .inl (upd f52 (w43 : Int32).toNatClampNeg r126))) := ⟨_, rfl⟩
            rw [← hF135] at hP
            have hI : s_I K cs D F134 := by rw [hF135]; exact s_cl34 hI h2 ⟨_, rfl, (th_updB h54 ⟨by omega, by omega⟩)⟩
            have hfr : ∀ b, K b ∉ [2, 34, 35] → F134 b = F b := by rw [hF135]; exact s_fr hfr h2 (by decide)
            have o136 : F134 a0 = .inr (1, [.ref z1, .ref z3, .ref z5, .ref z7, .ref z9, .ref z11, .int z13, .int z15, .int z16, .int z17, .int z50, .long z20]) := by rw [hF135]; exact th_ne (th_kd ha0 h2 (by decide)) o130
            have o137 : F134 z11 = .inl (cs 0, 7, .inl f22) := by rw [hF135]; exact th_ne (th_kd h12 h2 (by decide)) o131
            have oA : F134 z1 = (.inl (cs 0, 8, .inl (upd f52 (w43 : Int32).toNatClampNeg r126))) := by rw [hF135]; exact th_up
            exact K84 _ _ _ ⟨F134, _, rfl, lv_sub hl [0, 1, 2, 3] rfl, hI, hP, hS, hfr, ⟨by omega, by omega⟩, ⟨by omega, by omega⟩, ⟨by omega, by omega⟩, (fun f q i h0 h1 h2 h3 => by rw [oA] at q; cases q; exact (show i.toInt < w43.toInt ∨ i.toInt = w43.toInt by omega).elim (fun p9 => Int.le_trans (Int.le_of_eq (congrArg Int32.toInt (th_updN (by omega) (by omega) (by omega)))) (h55 i h0 p9 h2 h3)) (fun p9 => by rw [Int32.toInt_inj.mp p9, th_updE]; omega)), ⟨_, o136⟩⟩
    · intro g H locs hq
      obtain ⟨F9, ls, rfl, hl, hI, hP, hS, hfr, h138, h139, h140, h141, h142⟩ := hq
      have o143 : F9 z11 = .inl (cs 0, 7, .inl f22) := (hfr _ (by rw [h12]; decide)).trans o23
      obtain ⟨z144, o145⟩ := h142
      obtain ⟨f146, o147, h148⟩ := s_op34 hI h2
      have h149 := h141 _ o147
      obtain ⟨v150, ev150⟩ : ∃ y : Int32, w43 + 1 = y := ⟨_, rfl⟩
      have qv150 : v150.toInt = w43.toInt + 1 := by rw [← ev150]; exact th_add rfl (by decide) ⟨by omega, by omega⟩
      refine lv_iinc (v := v150) (lv' := [(3, .int v150), (0, .ref a0), (1, .int w25), (2, .int w26)]) hx hb dX1_measure_84 hl (k := 3) rfl ev150 (by decide) rfl (fun ls hl => ?_)
      refine lv_goto (tgt := 39) hx hb dX1_measure_87 (by decide) ?_
      exact ih39 _ _ _ _ (by omega) ⟨F9, _, v150, rfl, lv_sub hl [1, 2, 3, 0] rfl, hI, hP, hS, hfr, ⟨by omega, by omega⟩, ⟨by omega, by omega⟩, ⟨by omega, by omega⟩, (fun f q i h0 h1 h2 h3 => by rw [o147] at q; cases q; exact h149 i h0 (by omega) h2 h3), ⟨_, o145⟩, rfl⟩

set_option maxHeartbeats 4000000 in
set_option maxRecDepth 100000 in
theorem s_X1_keepLine (l : Launch) (dC : Nat → ClassId) (dI : Nat → Nat → Nat) (sz : Nat) {L : List Nat} {K : Nat → Nat} {cs : Nat → ClassId} (hLK : ∀ a {k : Nat}, K a = k → k ≠ 0 → a ∈ L) (D : Nat) (Dm : Nat) (hDm : D + 1 ≤ Dm) (hDM : Dm < 2147483647) (F : Nat → va_E) (a0 : Nat) (ha0 : K a0 = 2) (hI : s_I K cs D F) (hR : s_rd3 K F a0) : Met l yX1_keepLine (Cond.code yX1_keepLine cX1_keepLine 2 none :: T0) ({ frames := 0, cells := 0, slots := 0, locals := 0 }) (va_Pc [.ref a0] (s_W dC dI sz L F [(cs 0, .int), (cs 1, .byte), (cs 2, .long), (cs 3, .object RX5), (cs 4, .object RX4), (cs 5, .array .int), (cs 6, .char), (cs 7, .boolean)])) (va_Qv (fun (G : Nat → va_E) => True ∧ True ∧ s_I K cs Dm G ∧ ∀ b, K b ∉ [5, 6, 29] → G b = F b) (fun (G : Nat → va_E) (t : State) => va_P (dC, dI) vwCl (va_pl L G) t.heap ∧ va_K (dC, dI) vwCl [(cs 0, .int), (cs 1, .byte), (cs 2, .long), (cs 3, .object RX5), (cs 4, .object RX4), (cs 5, .array .int), (cs 6, .char), (cs 7, .boolean)] t) (fun q => q ∈ L)) 0 0 (fun q => q ∈ L) := by
  refine Met.ofW (cc := cX1_keepLine) (maxL := 2) (ret := none) (by decide) rfl ?_
  intro p e s m args below meth c s₁ B hml hv
  obtain ⟨rfl, hsz, hP, hK, hD, hN⟩ := hv
  have hx := B.exec
  have hb := B.bytes
  have hr := B.returns
  have hts : ∀ w ∈ T0, w.before _ s = true := fun w h => atoms_spec (ws := Cond.code yX1_keepLine cX1_keepLine 2 none :: T0) B.pre w (List.mem_cons_of_mem _ h)
  have hown : s.vm.findClass RX1 = some m.cls := findClass_of_methodNamed B.named
  have hlocks := B.notSynchronized
  have hS : va_S (fun q => q ∈ L) s.heap s.heap [] := va_S.rf
  have hfr : ∀ b, K b ∉ [5, 6, 29] → F b = F b := fun _ _ => rfl
  have hl := lv_entry ([.ref a0]) (n := 2) (Nat.le_of_ble_eq_true rfl)
  rw [lg_entry_eq]
  generalize (lg_sl ([.ref a0]) ++ List.replicate (2 - (lg_sl ([.ref a0])).length) Slot.unset).toArray = ls at hl ⊢
  have hl : lv_has ls 2 [(0, .ref a0)] := hl
  refine s_gen hP hS (fun H locs hP hS => ?_)
  obtain ⟨z1, z3, z5, z7, z9, z11, z13, z15, z16, z17, z19, z20, o21, h2, h4, h6, h8, h10, h12, h14, h18, -⟩ := hR
  refine lv_aload_n hx hb dX1_keepLine_0 rfl (lv_at hl 0 rfl) ?_
  refine th_get (D := (dC, dI)) (ci := 1) (v := .ref z7) (C := RX1) (T := TX1) (N := 12) hx hb hts inX1 hown hK hP (hLK _ ha0 (by decide)) o21 rfl 3 (by decide) (hts _ T_105) (fun _ h9 => h9) rfl dX1_keepLine_1 ?_
  obtain ⟨z22, z24, z26, z28, z30, z32, z34, z36, z38, z39, z40, z42, z43, z45, z46, o48, h23, h25, h27, h29, h31, h33, h35, h37, h41, h44, h47, -⟩ := s_op5 hI h8
  refine th_getN (D := (dC, dI)) (ci := 4) (v := .int z43) (C := RX4) (T := TX4) (N := 15) hx hb hts inX4 hown hK hP (hLK _ h8 (by decide)) o48 rfl 12 (by decide) (va_Nw.use rfl hN.2.2.2.2.2.2.2.2.2.2.2.2.2.2.2.2.2.2.2.1) (fun _ h9 => h9) rfl dX1_keepLine_4 ?_
  refine lv_bipush (v := 30) hx hb dX1_keepLine_7 (by decide) ?_
  refine lv_irem hx hb dX1_keepLine_9 (by decide) ?_
  refine lv_topi (fun v49 ev49 => ?_)
  have qv49 : v49.toInt = z43.toInt % 30 := by rw [ev49]; exact th_rem rfl (by decide) (by omega) (by decide)
  refine lv_iconst (v := 5) hx hb dX1_keepLine_10 (by decide) ?_
  refine lv_imul hx hb dX1_keepLine_11 ?_
  refine lv_topi (fun v50 ev50 => ?_)
  have qv50 : v50.toInt = v49.toInt * 5 := by rw [ev50]; exact th_mul rfl (by decide) ⟨by omega, by omega⟩
  refine lv_istore_n (lv' := [(1, .int v50), (0, .ref a0)]) hx hb dX1_keepLine_12 rfl hl (by decide) rfl (fun ls hl => ?_)
  refine lv_aload_n hx hb dX1_keepLine_13 rfl (lv_at hl 1 rfl) ?_
  refine th_get (D := (dC, dI)) (ci := 1) (v := .ref z7) (C := RX1) (T := TX1) (N := 12) hx hb hts inX1 hown hK hP (hLK _ ha0 (by decide)) o21 rfl 3 (by decide) (hts _ T_105) (fun _ h9 => h9) rfl dX1_keepLine_14 ?_
  refine th_getN (D := (dC, dI)) (ci := 4) (v := .ref z34) (C := RX4) (T := TX4) (N := 15) hx hb hts inX4 hown hK hP (hLK _ h8 (by decide)) o48 rfl 6 (by decide) (va_Nw.use rfl hN.2.2.2.2.2.2.2.2.2.2.2.2.2.2.2.2.2.2.2.2.1) (fun _ h9 => h9) rfl dX1_keepLine_17 ?_
  refine lv_iload_n hx hb dX1_keepLine_20 rfl (lv_at hl 0 rfl) ?_
  refine lv_aload_n hx hb dX1_keepLine_21 rfl (lv_at hl 1 rfl) ?_
  refine th_get (D := (dC, dI)) (ci := 1) (v := .ref z7) (C := RX1) (T := TX1) (N := 12) hx hb hts inX1 hown hK hP (hLK _ ha0 (by decide)) o21 rfl 3 (by decide) (hts _ T_105) (fun _ h9 => h9) rfl dX1_keepLine_22 ?_
  refine th_getN (D := (dC, dI)) (ci := 4) (v := .int z42) (C := RX4) (T := TX4) (N := 15) hx hb hts inX4 hown hK hP (hLK _ h8 (by decide)) o48 rfl 11 (by decide) (va_Nw.use rfl hN.2.2.2.2.2.2.2.2.2.2.2.2.2.2.2.2.2.2.2.2.2.1) (fun _ h9 => h9) rfl dX1_keepLine_25 ?_
  obtain ⟨f51, o52, h53⟩ := s_op29 hI h35
  refine th_iast hx hb hK hP hD hS (hLK _ h35 (by decide)) 0 o52 rfl (th_in ⟨by omega, by omega⟩) dX1_keepLine_28 (fun H locs hP hS => ?_)
  have hP : va_P (dC, dI) vwCl (va_pl L (va_up F z34 (.inl (cs 0, 150, .inl (upd f51 (v50 : Int32).toNatClampNeg z42))))) H := hP
  obtain ⟨F54, hF55⟩ : ∃ G : Nat → va_E, G = va_up F z34 (.inl (cs 0, 150, .inl (upd f51 (v50 : Int32).toNatClampNeg z42))) := ⟨_, rfl⟩
  rw [← hF55] at hP
  have hI : s_I K cs D F54 := by rw [hF55]; exact s_cl29 hI h35 ⟨_, rfl, trivial⟩
  have hfr : ∀ b, K b ∉ [5, 6, 29] → F54 b = F b := by rw [hF55]; exact s_fr hfr h35 (by decide)
  have o56 : F54 a0 = .inr (1, [.ref z1, .ref z3, .ref z5, .ref z7, .ref z9, .ref z11, .int z13, .int z15, .int z16, .int z17, .int z19, .long z20]) := by rw [hF55]; exact th_ne (th_kd ha0 h35 (by decide)) o21
  have o57 : F54 z7 = .inr (4, [.ref z22, .ref z24, .ref z26, .ref z28, .ref z30, .ref z32, .ref z34, .int z36, .int z38, .int z39, .int z40, .int z42, .int z43, .int z45, .int z46]) := by rw [hF55]; exact th_ne (th_kd h8 h35 (by decide)) o48
  refine lv_aload_n hx hb dX1_keepLine_29 rfl (lv_at hl 1 rfl) ?_
  refine th_get (D := (dC, dI)) (ci := 1) (v := .ref z7) (C := RX1) (T := TX1) (N := 12) hx hb hts inX1 hown hK hP (hLK _ ha0 (by decide)) o56 rfl 3 (by decide) (hts _ T_105) (fun _ h9 => h9) rfl dX1_keepLine_30 ?_
  refine th_getN (D := (dC, dI)) (ci := 4) (v := .ref z34) (C := RX4) (T := TX4) (N := 15) hx hb hts inX4 hown hK hP (hLK _ h8 (by decide)) o57 rfl 6 (by decide) (va_Nw.use rfl hN.2.2.2.2.2.2.2.2.2.2.2.2.2.2.2.2.2.2.2.2.1) (fun _ h9 => h9) rfl dX1_keepLine_33 ?_
  refine lv_iload_n hx hb dX1_keepLine_36 rfl (lv_at hl 0 rfl) ?_
  refine lv_iconst (v := 1) hx hb dX1_keepLine_37 (by decide) ?_
  refine lv_iadd hx hb dX1_keepLine_38 ?_
  refine lv_topi (fun v58 ev58 => ?_)
  have qv58 : v58.toInt = v50.toInt + 1 := by rw [ev58]; exact th_add rfl (by decide) ⟨by omega, by omega⟩
  refine lv_aload_n hx hb dX1_keepLine_39 rfl (lv_at hl 1 rfl) ?_
  refine th_get (D := (dC, dI)) (ci := 1) (v := .int z13) (C := RX1) (T := TX1) (N := 12) hx hb hts inX1 hown hK hP (hLK _ ha0 (by decide)) o56 rfl 6 (by decide) (hts _ T_110) (fun _ h9 => h9) rfl dX1_keepLine_40 ?_
  obtain ⟨f59, o60, h61⟩ := s_op29 hI h35
  refine th_iast hx hb hK hP hD hS (hLK _ h35 (by decide)) 0 o60 rfl (th_in ⟨by omega, by omega⟩) dX1_keepLine_43 (fun H locs hP hS => ?_)
  have hP : va_P (dC, dI) vwCl (va_pl L (va_up F54 z34 (.inl (cs 0, 150, .inl (upd f59 (v58 : Int32).toNatClampNeg z13))))) H := hP
  obtain ⟨F62, hF63⟩ : ∃ G : Nat → va_E, G = va_up F54 z34 (.inl (cs 0, 150, .inl (upd f59 (v58 : Int32).toNatClampNeg z13))) := ⟨_, rfl⟩
  rw [← hF63] at hP
  have hI : s_I K cs D F62 := by rw [hF63]; exact s_cl29 hI h35 ⟨_, rfl, trivial⟩
  have hfr : ∀ b, K b ∉ [5, 6, 29] → F62 b = F b := by rw [hF63]; exact s_fr hfr h35 (by decide)
  have o64 : F62 a0 = .inr (1, [.ref z1, .ref z3, .ref z5, .ref z7, .ref z9, .ref z11, .int z13, .int z15, .int z16, .int z17, .int z19, .long z20]) := by rw [hF63]; exact th_ne (th_kd ha0 h35 (by decide)) o56
  have o65 : F62 z7 = .inr (4, [.ref z22, .ref z24, .ref z26, .ref z28, .ref z30, .ref z32, .ref z34, .int z36, .int z38, .int z39, .int z40, .int z42, .int z43, .int z45, .int z46]) := by rw [hF63]; exact th_ne (th_kd h8 h35 (by decide)) o57
  refine lv_aload_n hx hb dX1_keepLine_44 rfl (lv_at hl 1 rfl) ?_
  refine th_get (D := (dC, dI)) (ci := 1) (v := .ref z7) (C := RX1) (T := TX1) (N := 12) hx hb hts inX1 hown hK hP (hLK _ ha0 (by decide)) o64 rfl 3 (by decide) (hts _ T_105) (fun _ h9 => h9) rfl dX1_keepLine_45 ?_
  refine th_getN (D := (dC, dI)) (ci := 4) (v := .ref z34) (C := RX4) (T := TX4) (N := 15) hx hb hts inX4 hown hK hP (hLK _ h8 (by decide)) o65 rfl 6 (by decide) (va_Nw.use rfl hN.2.2.2.2.2.2.2.2.2.2.2.2.2.2.2.2.2.2.2.2.1) (fun _ h9 => h9) rfl dX1_keepLine_48 ?_
  refine lv_iload_n hx hb dX1_keepLine_51 rfl (lv_at hl 0 rfl) ?_
  refine lv_iconst (v := 2) hx hb dX1_keepLine_52 (by decide) ?_
  refine lv_iadd hx hb dX1_keepLine_53 ?_
  refine lv_topi (fun v66 ev66 => ?_)
  have qv66 : v66.toInt = v50.toInt + 2 := by rw [ev66]; exact th_add rfl (by decide) ⟨by omega, by omega⟩
  refine lv_aload_n hx hb dX1_keepLine_54 rfl (lv_at hl 1 rfl) ?_
  refine th_get (D := (dC, dI)) (ci := 1) (v := .int z15) (C := RX1) (T := TX1) (N := 12) hx hb hts inX1 hown hK hP (hLK _ ha0 (by decide)) o64 rfl 7 (by decide) (hts _ T_115) (fun _ h9 => h9) rfl dX1_keepLine_55 ?_
  obtain ⟨f67, o68, h69⟩ := s_op29 hI h35
  refine th_iast hx hb hK hP hD hS (hLK _ h35 (by decide)) 0 o68 rfl (th_in ⟨by omega, by omega⟩) dX1_keepLine_58 (fun H locs hP hS => ?_)
  have hP : va_P (dC, dI) vwCl (va_pl L (va_up F62 z34 (.inl (cs 0, 150, .inl (upd f67 (v66 : Int32).toNatClampNeg z15))))) H := hP
  obtain ⟨F70, hF71⟩ : ∃ G : Nat → va_E, G = va_up F62 z34 (.inl (cs 0, 150, .inl (upd f67 (v66 : Int32).toNatClampNeg z15))) := ⟨_, rfl⟩
  rw [← hF71] at hP
  have hI : s_I K cs D F70 := by rw [hF71]; exact s_cl29 hI h35 ⟨_, rfl, trivial⟩
  have hfr : ∀ b, K b ∉ [5, 6, 29] → F70 b = F b := by rw [hF71]; exact s_fr hfr h35 (by decide)
  have o72 : F70 a0 = .inr (1, [.ref z1, .ref z3, .ref z5, .ref z7, .ref z9, .ref z11, .int z13, .int z15, .int z16, .int z17, .int z19, .long z20]) := by rw [hF71]; exact th_ne (th_kd ha0 h35 (by decide)) o64
  have o73 : F70 z7 = .inr (4, [.ref z22, .ref z24, .ref z26, .ref z28, .ref z30, .ref z32, .ref z34, .int z36, .int z38, .int z39, .int z40, .int z42, .int z43, .int z45, .int z46]) := by rw [hF71]; exact th_ne (th_kd h8 h35 (by decide)) o65
  refine lv_aload_n hx hb dX1_keepLine_59 rfl (lv_at hl 1 rfl) ?_
  refine th_get (D := (dC, dI)) (ci := 1) (v := .ref z7) (C := RX1) (T := TX1) (N := 12) hx hb hts inX1 hown hK hP (hLK _ ha0 (by decide)) o72 rfl 3 (by decide) (hts _ T_105) (fun _ h9 => h9) rfl dX1_keepLine_60 ?_
  refine th_getN (D := (dC, dI)) (ci := 4) (v := .ref z34) (C := RX4) (T := TX4) (N := 15) hx hb hts inX4 hown hK hP (hLK _ h8 (by decide)) o73 rfl 6 (by decide) (va_Nw.use rfl hN.2.2.2.2.2.2.2.2.2.2.2.2.2.2.2.2.2.2.2.2.1) (fun _ h9 => h9) rfl dX1_keepLine_63 ?_
  refine lv_iload_n hx hb dX1_keepLine_66 rfl (lv_at hl 0 rfl) ?_
  refine lv_iconst (v := 3) hx hb dX1_keepLine_67 (by decide) ?_
  refine lv_iadd hx hb dX1_keepLine_68 ?_
  refine lv_topi (fun v74 ev74 => ?_)
  have qv74 : v74.toInt = v50.toInt + 3 := by rw [ev74]; exact th_add rfl (by decide) ⟨by omega, by omega⟩
  refine lv_aload_n hx hb dX1_keepLine_69 rfl (lv_at hl 1 rfl) ?_
  refine th_get (D := (dC, dI)) (ci := 1) (v := .int z16) (C := RX1) (T := TX1) (N := 12) hx hb hts inX1 hown hK hP (hLK _ ha0 (by decide)) o72 rfl 8 (by decide) (hts _ T_97) (fun _ h9 => h9) rfl dX1_keepLine_70 ?_
  obtain ⟨f75, o76, h77⟩ := s_op29 hI h35
  refine th_iast hx hb hK hP hD hS (hLK _ h35 (by decide)) 0 o76 rfl (th_in ⟨by omega, by omega⟩) dX1_keepLine_73 (fun H locs hP hS => ?_)
  have hP : va_P (dC, dI) vwCl (va_pl L (va_up F70 z34 (.inl (cs 0, 150, .inl (upd f75 (v74 : Int32).toNatClampNeg z16))))) H := hP
  obtain ⟨F78, hF79⟩ : ∃ G : Nat → va_E, G = va_up F70 z34 (.inl (cs 0, 150, .inl (upd f75 (v74 : Int32).toNatClampNeg z16))) := ⟨_, rfl⟩
  rw [← hF79] at hP
  have hI : s_I K cs D F78 := by rw [hF79]; exact s_cl29 hI h35 ⟨_, rfl, trivial⟩
  have hfr : ∀ b, K b ∉ [5, 6, 29] → F78 b = F b := by rw [hF79]; exact s_fr hfr h35 (by decide)
  have o80 : F78 a0 = .inr (1, [.ref z1, .ref z3, .ref z5, .ref z7, .ref z9, .ref z11, .int z13, .int z15, .int z16, .int z17, .int z19, .long z20]) := by rw [hF79]; exact th_ne (th_kd ha0 h35 (by decide)) o72
  have o81 : F78 z7 = .inr (4, [.ref z22, .ref z24, .ref z26, .ref z28, .ref z30, .ref z32, .ref z34, .int z36, .int z38, .int z39, .int z40, .int z42, .int z43, .int z45, .int z46]) := by rw [hF79]; exact th_ne (th_kd h8 h35 (by decide)) o73
  refine lv_aload_n hx hb dX1_keepLine_74 rfl (lv_at hl 1 rfl) ?_
  refine th_get (D := (dC, dI)) (ci := 1) (v := .ref z7) (C := RX1) (T := TX1) (N := 12) hx hb hts inX1 hown hK hP (hLK _ ha0 (by decide)) o80 rfl 3 (by decide) (hts _ T_105) (fun _ h9 => h9) rfl dX1_keepLine_75 ?_
  refine th_getN (D := (dC, dI)) (ci := 4) (v := .ref z34) (C := RX4) (T := TX4) (N := 15) hx hb hts inX4 hown hK hP (hLK _ h8 (by decide)) o81 rfl 6 (by decide) (va_Nw.use rfl hN.2.2.2.2.2.2.2.2.2.2.2.2.2.2.2.2.2.2.2.2.1) (fun _ h9 => h9) rfl dX1_keepLine_78 ?_
  refine lv_iload_n hx hb dX1_keepLine_81 rfl (lv_at hl 0 rfl) ?_
  refine lv_iconst (v := 4) hx hb dX1_keepLine_82 (by decide) ?_
  refine lv_iadd hx hb dX1_keepLine_83 ?_
  refine lv_topi (fun v82 ev82 => ?_)
  have qv82 : v82.toInt = v50.toInt + 4 := by rw [ev82]; exact th_add rfl (by decide) ⟨by omega, by omega⟩
  refine lv_aload_n hx hb dX1_keepLine_84 rfl (lv_at hl 1 rfl) ?_
  refine th_get (D := (dC, dI)) (ci := 1) (v := .int z19) (C := RX1) (T := TX1) (N := 12) hx hb hts inX1 hown hK hP (hLK _ ha0 (by decide)) o80 rfl 10 (by decide) (hts _ T_119) (fun _ h9 => h9) rfl dX1_keepLine_85 ?_
  obtain ⟨f83, o84, h85⟩ := s_op29 hI h35
  refine th_iast hx hb hK hP hD hS (hLK _ h35 (by decide)) 0 o84 rfl (th_in ⟨by omega, by omega⟩) dX1_keepLine_88 (fun H locs hP hS => ?_)
  have hP : va_P (dC, dI) vwCl (va_pl L (va_up F78 z34 (.inl (cs 0, 150, .inl (upd f83 (v82 : Int32).toNatClampNeg z19))))) H := hP
  obtain ⟨F86, hF87⟩ : ∃ G : Nat → va_E, G = va_up F78 z34 (.inl (cs 0, 150, .inl (upd f83 (v82 : Int32).toNatClampNeg z19))) := ⟨_, rfl⟩
  rw [← hF87] at hP
  have hI : s_I K cs D F86 := by rw [hF87]; exact s_cl29 hI h35 ⟨_, rfl, trivial⟩
  have hfr : ∀ b, K b ∉ [5, 6, 29] → F86 b = F b := by rw [hF87]; exact s_fr hfr h35 (by decide)
  have o88 : F86 a0 = .inr (1, [.ref z1, .ref z3, .ref z5, .ref z7, .ref z9, .ref z11, .int z13, .int z15, .int z16, .int z17, .int z19, .long z20]) := by rw [hF87]; exact th_ne (th_kd ha0 h35 (by decide)) o80
  have o89 : F86 z7 = .inr (4, [.ref z22, .ref z24, .ref z26, .ref z28, .ref z30, .ref z32, .ref z34, .int z36, .int z38, .int z39, .int z40, .int z42, .int z43, .int z45, .int z46]) := by rw [hF87]; exact th_ne (th_kd h8 h35 (by decide)) o81
  refine lv_aload_n hx hb dX1_keepLine_89 rfl (lv_at hl 1 rfl) ?_
  refine th_get (D := (dC, dI)) (ci := 1) (v := .ref z7) (C := RX1) (T := TX1) (N := 12) hx hb hts inX1 hown hK hP (hLK _ ha0 (by decide)) o88 rfl 3 (by decide) (hts _ T_105) (fun _ h9 => h9) rfl dX1_keepLine_90 ?_
  refine lv_dup hx hb dX1_keepLine_93 rfl ?_
  refine th_getN (D := (dC, dI)) (ci := 4) (v := .int z43) (C := RX4) (T := TX4) (N := 15) hx hb hts inX4 hown hK hP (hLK _ h8 (by decide)) o89 rfl 12 (by decide) (va_Nw.use rfl hN.2.2.2.2.2.2.2.2.2.2.2.2.2.2.2.2.2.2.2.1) (fun _ h9 => h9) rfl dX1_keepLine_94 ?_
  refine lv_iconst (v := 1) hx hb dX1_keepLine_97 (by decide) ?_
  refine lv_iadd hx hb dX1_keepLine_98 ?_
  refine lv_topi (fun v90 ev90 => ?_)
  have qv90 : v90.toInt = z43.toInt + 1 := by rw [ev90]; exact th_add rfl (by decide) ⟨by omega, by omega⟩
  refine th_putN (D := (dC, dI)) (ci := 4) (v := .int v90) (ty := .int) (C := RX4) (T := TX4) (N := 15) hx hb hts inX4 tyX4 tyX4_ok nmX4 hown hK hP hD hS (hLK _ h8 (by decide)) o89 rfl 12 (by decide) (va_Nw.use rfl hN.2.2.2.2.2.2.2.2.2.2.2.2.2.2.2.2.2.2.2.1) (fun _ h9 => h9) rfl (by decide +kernel) rfl rfl (Nat.le_of_ble_eq_true rfl) dX1_keepLine_99 (fun H locs hP hS => ?_)
  have hI := s_mono (Nat.le_succ D) hI
  have hP : va_P (dC, dI) vwCl (va_pl L (va_up F86 z7 (.inr (4, [.ref z22, .ref z24, .ref z26, .ref z28, .ref z30, .ref z32, .ref z34, .int z36, .int z38, .int z39, .int z40, .int z42, .int v90, .int z45, .int z46])))) H := hP
  obtain ⟨F91, hF92⟩ : ∃ G : Nat → va_E, G = va_up F86 z7 (.inr (4, [.ref z22, .ref z24, .ref z26, .ref z28, .ref z30, .ref z32, .ref z34, .int z36, .int z38, .int z39, .int z40, .int z42, .int v90, .int z45, .int z46])) := ⟨_, rfl⟩
  rw [← hF92] at hP
  have hI : s_I K cs (D + 1) F91 := by rw [hF92]; exact s_cl5 hI h8 ⟨z22, z24, z26, z28, z30, z32, z34, z36, z38, z39, z40, z42, v90, z45, z46, rfl, h23, h25, h27, h29, h31, h33, h35, ⟨by omega, by omega⟩, ⟨by omega, by omega⟩, ⟨by omega, by omega⟩, ⟨by omega, by omega⟩, trivial⟩
  have hfr : ∀ b, K b ∉ [5, 6, 29] → F91 b = F b := by rw [hF92]; exact s_fr hfr h8 (by decide)
  have o93 : F91 a0 = .inr (1, [.ref z1, .ref z3, .ref z5, .ref z7, .ref z9, .ref z11, .int z13, .int z15, .int z16, .int z17, .int z19, .long z20]) := by rw [hF92]; exact th_ne (th_kd ha0 h8 (by decide)) o88
  have o94 : F91 z7 = .inr (4, [.ref z22, .ref z24, .ref z26, .ref z28, .ref z30, .ref z32, .ref z34, .int z36, .int z38, .int z39, .int z40, .int z42, .int v90, .int z45, .int z46]) := by rw [hF92]; exact th_up
  refine lv_aload_n hx hb dX1_keepLine_102 rfl (lv_at hl 1 rfl) ?_
  refine th_get (D := (dC, dI)) (ci := 1) (v := .ref z9) (C := RX1) (T := TX1) (N := 12) hx hb hts inX1 hown hK hP (hLK _ ha0 (by decide)) o93 rfl 4 (by decide) (hts _ T_111) (fun _ h9 => h9) rfl dX1_keepLine_103 ?_
  refine lv_dup hx hb dX1_keepLine_106 rfl ?_
  obtain ⟨z95, z97, z99, z101, z103, z105, z107, z108, z109, z110, z111, o113, h96, h98, h100, h102, h104, h106, h112, -⟩ := s_op6 hI h10
  refine th_getN (D := (dC, dI)) (ci := 5) (v := .int z110) (C := RX5) (T := TX5) (N := 11) hx hb hts inX5 hown hK hP (hLK _ h10 (by decide)) o113 rfl 9 (by decide) (va_Nw.use rfl hN.2.2.2.2.2.2.2.2.2.2.2.2.2.2.2.2.2.2.2.2.2.2.1) (fun _ h9 => h9) rfl dX1_keepLine_107 ?_
  refine lv_iconst (v := 1) hx hb dX1_keepLine_110 (by decide) ?_
  refine lv_iadd hx hb dX1_keepLine_111 ?_
  refine lv_topi (fun v114 ev114 => ?_)
  refine th_putN (D := (dC, dI)) (ci := 5) (v := .int v114) (ty := .int) (C := RX5) (T := TX5) (N := 11) hx hb hts inX5 tyX5 tyX5_ok nmX5 hown hK hP hD hS (hLK _ h10 (by decide)) o113 rfl 9 (by decide) (va_Nw.use rfl hN.2.2.2.2.2.2.2.2.2.2.2.2.2.2.2.2.2.2.2.2.2.2.1) (fun _ h9 => h9) rfl (by decide +kernel) rfl rfl (Nat.le_of_ble_eq_true rfl) dX1_keepLine_112 (fun H locs hP hS => ?_)
  have hP : va_P (dC, dI) vwCl (va_pl L (va_up F91 z9 (.inr (5, [.ref z95, .ref z97, .ref z99, .ref z101, .ref z103, .int z105, .int z107, .int z108, .int z109, .int v114, .int z111])))) H := hP
  obtain ⟨F115, hF116⟩ : ∃ G : Nat → va_E, G = va_up F91 z9 (.inr (5, [.ref z95, .ref z97, .ref z99, .ref z101, .ref z103, .int z105, .int z107, .int z108, .int z109, .int v114, .int z111])) := ⟨_, rfl⟩
  rw [← hF116] at hP
  have hI : s_I K cs (D + 1) F115 := by rw [hF116]; exact s_cl6 hI h10 ⟨z95, z97, z99, z101, z103, z105, z107, z108, z109, v114, z111, rfl, h96, h98, h100, h102, h104, ⟨by omega, by omega⟩, ⟨by omega, by omega⟩, trivial⟩
  have hfr : ∀ b, K b ∉ [5, 6, 29] → F115 b = F b := by rw [hF116]; exact s_fr hfr h10 (by decide)
  have o117 : F115 a0 = .inr (1, [.ref z1, .ref z3, .ref z5, .ref z7, .ref z9, .ref z11, .int z13, .int z15, .int z16, .int z17, .int z19, .long z20]) := by rw [hF116]; exact th_ne (th_kd ha0 h10 (by decide)) o93
  have o118 : F115 z7 = .inr (4, [.ref z22, .ref z24, .ref z26, .ref z28, .ref z30, .ref z32, .ref z34, .int z36, .int z38, .int z39, .int z40, .int z42, .int v90, .int z45, .int z46]) := by rw [hF116]; exact th_ne (th_kd h8 h10 (by decide)) o94
  have o119 : F115 z9 = .inr (5, [.ref z95, .ref z97, .ref z99, .ref z101, .ref z103, .int z105, .int z107, .int z108, .int z109, .int v114, .int z111]) := by rw [hF116]; exact th_up
  refine lv_aload_n hx hb dX1_keepLine_115 rfl (lv_at hl 1 rfl) ?_
  refine th_get (D := (dC, dI)) (ci := 1) (v := .ref z7) (C := RX1) (T := TX1) (N := 12) hx hb hts inX1 hown hK hP (hLK _ ha0 (by decide)) o117 rfl 3 (by decide) (hts _ T_105) (fun _ h9 => h9) rfl dX1_keepLine_116 ?_
  refine lv_aload_n hx hb dX1_keepLine_119 rfl (lv_at hl 1 rfl) ?_
  refine th_get (D := (dC, dI)) (ci := 1) (v := .int z13) (C := RX1) (T := TX1) (N := 12) hx hb hts inX1 hown hK hP (hLK _ ha0 (by decide)) o117 rfl 6 (by decide) (hts _ T_110) (fun _ h9 => h9) rfl dX1_keepLine_120 ?_
  refine th_putN (D := (dC, dI)) (ci := 4) (v := .int z13) (ty := .int) (C := RX4) (T := TX4) (N := 15) hx hb hts inX4 tyX4 tyX4_ok nmX4 hown hK hP hD hS (hLK _ h8 (by decide)) o118 rfl 14 (by decide) (va_Nw.use rfl hN.2.2.2.2.2.2.2.2.2.1) (fun _ h9 => h9) rfl (by decide +kernel) rfl rfl (Nat.le_of_ble_eq_true rfl) dX1_keepLine_123 (fun H locs hP hS => ?_)
  have hP : va_P (dC, dI) vwCl (va_pl L (va_up F115 z7 (.inr (4, [.ref z22, .ref z24, .ref z26, .ref z28, .ref z30, .ref z32, .ref z34, .int z36, .int z38, .int z39, .int z40, .int z42, .int v90, .int z45, .int z13])))) H := hP
  obtain ⟨F120, hF121⟩ : ∃ G : Nat → va_E, G = va_up F115 z7 (.inr (4, [.ref z22, .ref z24, .ref z26, .ref z28, .ref z30, .ref z32, .ref z34, .int z36, .int z38, .int z39, .int z40, .int z42, .int v90, .int z45, .int z13])) := ⟨_, rfl⟩
  rw [← hF121] at hP
  have hI : s_I K cs (D + 1) F120 := by rw [hF121]; exact s_cl5 hI h8 ⟨z22, z24, z26, z28, z30, z32, z34, z36, z38, z39, z40, z42, v90, z45, z13, rfl, h23, h25, h27, h29, h31, h33, h35, ⟨by omega, by omega⟩, ⟨by omega, by omega⟩, ⟨by omega, by omega⟩, ⟨by omega, by omega⟩, trivial⟩
  have hfr : ∀ b, K b ∉ [5, 6, 29] → F120 b = F b := by rw [hF121]; exact s_fr hfr h8 (by decide)
  have o122 : F120 a0 = .inr (1, [.ref z1, .ref z3, .ref z5, .ref z7, .ref z9, .ref z11, .int z13, .int z15, .int z16, .int z17, .int z19, .long z20]) := by rw [hF121]; exact th_ne (th_kd ha0 h8 (by decide)) o117
  have o123 : F120 z9 = .inr (5, [.ref z95, .ref z97, .ref z99, .ref z101, .ref z103, .int z105, .int z107, .int z108, .int z109, .int v114, .int z111]) := by rw [hF121]; exact th_ne (th_kd h10 h8 (by decide)) o119
  have o124 : F120 z7 = .inr (4, [.ref z22, .ref z24, .ref z26, .ref z28, .ref z30, .ref z32, .ref z34, .int z36, .int z38, .int z39, .int z40, .int z42, .int v90, .int z45, .int z13]) := by rw [hF121]; exact th_up
  exact W.vret hx hb hr (fun t ht hW => ⟨⟨F120, rfl, ⟨trivial, trivial, (s_mono (by omega) hI), hfr⟩, by rw [ht]; exact hP, va_K.moved hW.alike hK⟩, hS.F ht⟩) hS.2.2 dX1_keepLine_126

set_option maxHeartbeats 4000000 in
set_option maxRecDepth 100000 in
theorem s_X1_result (l : Launch) (dC : Nat → ClassId) (dI : Nat → Nat → Nat) (sz : Nat) {L : List Nat} {K : Nat → Nat} {cs : Nat → ClassId} (hLK : ∀ a {k : Nat}, K a = k → k ≠ 0 → a ∈ L) (D : Nat) (F : Nat → va_E) (a0 : Nat) (x1 : Int32) (x2 : Int32) (ha0 : K a0 = 2) (hx2 : 0 ≤ x2.toInt ∧ x2.toInt ≤ 7) (hI : s_I K cs D F) (hR : s_rd3 K F a0) : Met l yX1_result (Cond.code yX1_result cX1_result 5 (some .int) :: T0) ({ frames := 1, cells := 0, slots := 0, locals := 22 }) (va_Pc [.ref a0, .int x1, .int x2] (s_W dC dI sz L F [(cs 0, .int), (cs 1, .byte), (cs 2, .long), (cs 3, .object RX5), (cs 4, .object RX4), (cs 5, .array .int), (cs 6, .char), (cs 7, .boolean)])) (va_Qi (fun (r : Int32) (G : Nat → va_E) => True ∧ True ∧ s_I K cs D G ∧ ∀ b, K b ∉ ([] : List Nat) → G b = F b) (fun (G : Nat → va_E) (t : State) => va_P (dC, dI) vwCl (va_pl L G) t.heap ∧ va_K (dC, dI) vwCl [(cs 0, .int), (cs 1, .byte), (cs 2, .long), (cs 3, .object RX5), (cs 4, .object RX4), (cs 5, .array .int), (cs 6, .char), (cs 7, .boolean)] t) (fun q => q ∈ L)) 0 0 (fun q => q ∈ L) := by
  refine Met.ofW (cc := cX1_result) (maxL := 5) (ret := (some .int)) (by decide) rfl ?_
  intro p e s m args below meth c s₁ B hml hv
  obtain ⟨rfl, hsz, hP, hK, hD, hN⟩ := hv
  have hx := B.exec
  have hb := B.bytes
  have hr := B.returns
  have hts : ∀ w ∈ T0, w.before _ s = true := fun w h => atoms_spec (ws := Cond.code yX1_result cX1_result 5 (some .int) :: T0) B.pre w (List.mem_cons_of_mem _ h)
  have hown : s.vm.findClass RX1 = some m.cls := findClass_of_methodNamed B.named
  have hlocks := B.notSynchronized
  have hS : va_S (fun q => q ∈ L) s.heap s.heap [] := va_S.rf
  have hfr : ∀ b, K b ∉ ([] : List Nat) → F b = F b := fun _ _ => rfl
  have hl := lv_entry ([.ref a0, .int x1, .int x2]) (n := 5) (Nat.le_of_ble_eq_true rfl)
  rw [lg_entry_eq]
  generalize (lg_sl ([.ref a0, .int x1, .int x2]) ++ List.replicate (5 - (lg_sl ([.ref a0, .int x1, .int x2])).length) Slot.unset).toArray = ls at hl ⊢
  have hl : lv_has ls 5 [(0, .ref a0), (1, .int x1), (2, .int x2)] := hl
  refine s_gen hP hS (fun H locs hP hS => ?_)
  obtain ⟨z1, z3, z5, z7, z9, z11, z13, z15, z16, z17, z19, z20, o21, h2, h4, h6, h8, h10, h12, h14, h18, -⟩ := hR
  refine lv_aload_n hx hb dX1_result_0 rfl (lv_at hl 0 rfl) ?_
  refine lv_aload_n hx hb dX1_result_1 rfl (lv_at hl 0 rfl) ?_
  refine th_get (D := (dC, dI)) (ci := 1) (v := .ref z11) (C := RX1) (T := TX1) (N := 12) hx hb hts inX1 hown hK hP (hLK _ ha0 (by decide)) o21 rfl 5 (by decide) (hts _ T_118) (fun _ h9 => h9) rfl dX1_result_2 ?_
  refine lv_iconst (v := 2) hx hb dX1_result_5 (by decide) ?_
  obtain ⟨f22, o23, h24⟩ := s_op23 hI h12
  refine th_iald hx hb hK hP (hLK _ h12 (by decide)) 0 o23 rfl (ax_in (by decide)) dX1_result_6 ?_
  refine lv_topi (fun v25 ev25 => ?_)
  refine lv_iload_n hx hb dX1_result_7 rfl (lv_at hl 2 rfl) ?_
  refine va_calli (va_runV (As := [.int v25, .int x2]) (rest := []) ⟨hx, hb, hml, hown, hts⟩ (s_X1_valueOf l dC dI H.size hLK D F a0 v25 x2 ha0 (⟨by omega, by omega⟩) hI ⟨z1, z3, z5, z7, z9, z11, z13, z15, z16, z17, z19, z20, o21, h2, h4, h6, h8, h10, h12, ⟨by omega, by omega⟩, ⟨by omega, by omega⟩, trivial⟩) (cwV 2 hts (ax_gV T_129 T_130 T_131 T_100 T_128) rfl rfl rfl (by decide +kernel) ⟨Nat.le_of_ble_eq_true rfl, Nat.le_of_ble_eq_true rfl⟩) ⟨fun a U g mk q => ⟨q.1, s_pc rfl rfl q.2⟩, s_recv hK hP (hLK _ ha0 (by decide)) (ci := 1) rfl o21, fun U hU hW => ⟨rfl, s_pw hU hW hP hK hD hN⟩⟩ rfl rfl hl.1 rfl (lv_room (Nat.le_of_ble_eq_true rfl)) dX1_result_8 ⟨Nat.zero_le _, Nat.zero_le _⟩) hS (fun q _ h => h) (fun q h => h) (fun r26 F27 t H1 locs ht hvm hw hB hz1 hk1 hS => ?_)
  obtain ⟨hP, hK1⟩ := hB
  rw [ht] at hP
  generalize H1 = H at hP hS ⊢
  obtain ⟨h28, h29, hI, hfr1⟩ := hw
  have o30 : F27 a0 = .inr (1, [.ref z1, .ref z3, .ref z5, .ref z7, .ref z9, .ref z11, .int z13, .int z15, .int z16, .int z17, .int z19, .long z20]) := (hfr1 _ (by rw [ha0]; decide)).trans o21
  have hfr : ∀ b, K b ∉ ([] : List Nat) → F27 b = F b := fun b hb9 => (hfr1 b (fun q => hb9 (s_sub (by decide) q))).trans (hfr b hb9)
  refine lv_istore_n (lv' := [(3, .int r26), (0, .ref a0), (1, .int x1), (2, .int x2)]) hx hb dX1_result_11 rfl hl (by decide) rfl (fun ls hl => ?_)
  refine lv_aload_n hx hb dX1_result_12 rfl (lv_at hl 1 rfl) ?_
  refine lv_aload_n hx hb dX1_result_13 rfl (lv_at hl 1 rfl) ?_
  refine th_get (D := (dC, dI)) (ci := 1) (v := .ref z11) (C := RX1) (T := TX1) (N := 12) hx hb hts inX1 hown hK hP (hLK _ ha0 (by decide)) o30 rfl 5 (by decide) (hts _ T_118) (fun _ h9 => h9) rfl dX1_result_14 ?_
  refine lv_iconst (v := 3) hx hb dX1_result_17 (by decide) ?_
  obtain ⟨f31, o32, h33⟩ := s_op23 hI h12
  refine th_iald hx hb hK hP (hLK _ h12 (by decide)) 0 o32 rfl (ax_in (by decide)) dX1_result_18 ?_
  refine lv_topi (fun v34 ev34 => ?_)
  refine lv_iload_n hx hb dX1_result_19 rfl (lv_at hl 3 rfl) ?_
  refine va_calli (va_runV (As := [.int v34, .int x2]) (rest := []) ⟨hx, hb, hml, hown, hts⟩ (s_X1_valueOf l dC dI H.size hLK D F27 a0 v34 x2 ha0 (⟨by omega, by omega⟩) hI ⟨z1, z3, z5, z7, z9, z11, z13, z15, z16, z17, z19, z20, o30, h2, h4, h6, h8, h10, h12, ⟨by omega, by omega⟩, ⟨by omega, by omega⟩, trivial⟩) (cwV 2 hts (ax_gV T_129 T_130 T_131 T_100 T_128) rfl rfl rfl (by decide +kernel) ⟨Nat.le_of_ble_eq_true rfl, Nat.le_of_ble_eq_true rfl⟩) ⟨fun a U g mk q => ⟨q.1, s_pc rfl rfl q.2⟩, s_recv hK hP (hLK _ ha0 (by decide)) (ci := 1) rfl o30, fun U hU hW => ⟨rfl, s_pw hU hW hP hK hD hN⟩⟩ rfl rfl hl.1 rfl (lv_room (Nat.le_of_ble_eq_true rfl)) dX1_result_20 ⟨Nat.zero_le _, Nat.zero_le _⟩) hS (fun q _ h => h) (fun q h => h) (fun r35 F36 t H1 locs ht hvm hw hB hz1 hk1 hS => ?_)
  obtain ⟨hP, hK1⟩ := hB
  rw [ht] at hP
  generalize H1 = H at hP hS ⊢
  obtain ⟨h37, h38, hI, hfr1⟩ := hw
  have o39 : F36 a0 = .inr (1, [.ref z1, .ref z3, .ref z5, .ref z7, .ref z9, .ref z11, .int z13, .int z15, .int z16, .int z17, .int z19, .long z20]) := (hfr1 _ (by rw [ha0]; decide)).trans o30
  have hfr : ∀ b, K b ∉ ([] : List Nat) → F36 b = F b := fun b hb9 => (hfr1 b (fun q => hb9 (s_sub (by decide) q))).trans (hfr b hb9)
  refine lv_istore (lv' := [(4, .int r35), (3, .int r26), (0, .ref a0), (1, .int x1), (2, .int x2)]) hx hb dX1_result_23 hl (by decide) rfl (fun ls hl => ?_)
  refine lv_iload_n hx hb dX1_result_25 rfl (lv_at hl 3 rfl) ?_
  by_cases c40 : x1 = 0
  · refine ax_eqi c40 ?_
    refine lv_tableIn (off := 38) (tgt := 64) hx hb dX1_result_26 (by decide) (by decide) (by decide) (by decide) ?_
    have c40 := (ax_eq (n := 0) (by decide)).mp c40
    refine lv_iload_n hx hb dX1_result_64 rfl (lv_at hl 1 rfl) ?_
    exact W.iret (v := r26) hx hb hr (fun t ht hW => ⟨⟨r26, F36, rfl, ⟨trivial, trivial, hI, hfr⟩, by rw [ht]; exact hP, va_K.moved hW.alike hK⟩, hS.F ht⟩) hS.2.2 dX1_result_65
  · have c40 := mt (ax_eq (n := 0) (by decide)).mpr c40
    by_cases c41 : x1 = 1
    · refine ax_eqi c41 ?_
      refine lv_tableIn (off := 40) (tgt := 66) hx hb dX1_result_26 (by decide) (by decide) (by decide) (by decide) ?_
      have c41 := (ax_eq (n := 1) (by decide)).mp c41
      refine lv_iload_n hx hb dX1_result_66 rfl (lv_at hl 1 rfl) ?_
      refine lv_iload hx hb dX1_result_67 (lv_at hl 0 rfl) ?_
      refine lv_iadd hx hb dX1_result_69 ?_
      refine lv_topi (fun v42 ev42 => ?_)
      exact W.iret (v := v42) hx hb hr (fun t ht hW => ⟨⟨v42, F36, rfl, ⟨trivial, trivial, hI, hfr⟩, by rw [ht]; exact hP, va_K.moved hW.alike hK⟩, hS.F ht⟩) hS.2.2 dX1_result_70
    · have c41 := mt (ax_eq (n := 1) (by decide)).mpr c41
      by_cases c43 : x1 = 2
      · refine ax_eqi c43 ?_
        refine lv_tableIn (off := 45) (tgt := 71) hx hb dX1_result_26 (by decide) (by decide) (by decide) (by decide) ?_
        have c43 := (ax_eq (n := 2) (by decide)).mp c43
        refine lv_iload_n hx hb dX1_result_71 rfl (lv_at hl 1 rfl) ?_
        refine lv_iload hx hb dX1_result_72 (lv_at hl 0 rfl) ?_
        refine lv_isub hx hb dX1_result_74 ?_
        refine lv_topi (fun v44 ev44 => ?_)
        exact W.iret (v := v44) hx hb hr (fun t ht hW => ⟨⟨v44, F36, rfl, ⟨trivial, trivial, hI, hfr⟩, by rw [ht]; exact hP, va_K.moved hW.alike hK⟩, hS.F ht⟩) hS.2.2 dX1_result_75
      · have c43 := mt (ax_eq (n := 2) (by decide)).mpr c43
        by_cases c45 : x1 = 3
        · refine ax_eqi c45 ?_
          refine lv_tableIn (off := 50) (tgt := 76) hx hb dX1_result_26 (by decide) (by decide) (by decide) (by decide) ?_
          have c45 := (ax_eq (n := 3) (by decide)).mp c45
          refine lv_iload_n hx hb dX1_result_76 rfl (lv_at hl 1 rfl) ?_
          refine lv_iload hx hb dX1_result_77 (lv_at hl 0 rfl) ?_
          refine lv_imul hx hb dX1_result_79 ?_
          refine lv_topi (fun v46 ev46 => ?_)
          exact W.iret (v := v46) hx hb hr (fun t ht hW => ⟨⟨v46, F36, rfl, ⟨trivial, trivial, hI, hfr⟩, by rw [ht]; exact hP, va_K.moved hW.alike hK⟩, hS.F ht⟩) hS.2.2 dX1_result_80
        · have c45 := mt (ax_eq (n := 3) (by decide)).mpr c45
          by_cases c47 : x1 = 4
          · refine ax_eqi c47 ?_
            refine lv_tableIn (off := 55) (tgt := 81) hx hb dX1_result_26 (by decide) (by decide) (by decide) (by decide) ?_
            have c47 := (ax_eq (n := 4) (by decide)).mp c47
            refine lv_iload hx hb dX1_result_81 (lv_at hl 0 rfl) ?_
            refine lv_if_gt (tgt := 90) hx hb dX1_result_83 (by decide) (fun c48 => ?_) (fun c48 => ?_)
            · have c48 := (ax_gt (n := 0) (by decide)).mp c48
              refine lv_iload_n hx hb dX1_result_90 rfl (lv_at hl 1 rfl) ?_
              refine lv_iload hx hb dX1_result_91 (lv_at hl 0 rfl) ?_
              refine va_calli (va_runS (As := [.int r26, .int r35]) (rest := []) ⟨hx, hb, hml, hown, hts⟩ (s_J9_floorMod_7cf53 l dC dI H.size hLK D F36 r26 r35 (⟨by omega, by have q9 := th_hi r35; omega⟩) hI) ⟨callB_of 2 hts (ax_gT T_132) rfl rfl rfl (hts _ T_133) (hts _ T_134) (by decide +kernel) ⟨Nat.le_of_ble_eq_true rfl, Nat.le_of_ble_eq_true rfl⟩, hts _ T_135⟩ ⟨fun a U g mk q => ⟨q.1, s_pc rfl rfl q.2⟩, fun U hU hW => ⟨rfl, s_pw hU hW hP hK hD hN⟩⟩ rfl rfl hl.1 rfl (lv_room (Nat.le_of_ble_eq_true rfl)) dX1_result_93 ⟨Nat.zero_le _, Nat.zero_le _⟩) hS (fun q _ h => h) (fun q h => h) (fun r49 F50 t H1 locs ht hvm hw hB hz1 hk1 hS => ?_)
              obtain ⟨hP, hK1⟩ := hB
              rw [ht] at hP
              generalize H1 = H at hP hS ⊢
              obtain ⟨h51, h52, hI, hfr1⟩ := hw
              have o53 : F50 a0 = .inr (1, [.ref z1, .ref z3, .ref z5, .ref z7, .ref z9, .ref z11, .int z13, .int z15, .int z16, .int z17, .int z19, .long z20]) := (hfr1 _ (by rw [ha0]; decide)).trans o39
              have hfr : ∀ b, K b ∉ ([] : List Nat) → F50 b = F b := fun b hb9 => (hfr1 b (fun q => hb9 (s_sub (by decide) q))).trans (hfr b hb9)
              obtain ⟨h52, h54⟩ := h52
              have h54 : (0 ≤ r49.toInt ∧ r49.toInt < r35.toInt) := h54
              exact W.iret (v := r49) hx hb hr (fun t ht hW => ⟨⟨r49, F50, rfl, ⟨trivial, trivial, hI, hfr⟩, by rw [ht]; exact hP, va_K.moved hW.alike hK⟩, hS.F ht⟩) hS.2.2 dX1_result_96
            · have c48 := mt (ax_gt (n := 0) (by decide)).mpr c48
              refine lv_iconst (v := 0) hx hb dX1_result_86 (by decide) ?_
              refine lv_goto (tgt := 96) hx hb dX1_result_87 (by decide) ?_
              exact W.iret (v := 0) hx hb hr (fun t ht hW => ⟨⟨0, F36, rfl, ⟨trivial, trivial, hI, hfr⟩, by rw [ht]; exact hP, va_K.moved hW.alike hK⟩, hS.F ht⟩) hS.2.2 dX1_result_96
          · have c47 := mt (ax_eq (n := 4) (by decide)).mpr c47
            by_cases c55 : x1 = 5
            · refine ax_eqi c55 ?_
              refine lv_tableIn (off := 71) (tgt := 97) hx hb dX1_result_26 (by decide) (by decide) (by decide) (by decide) ?_
              have c55 := (ax_eq (n := 5) (by decide)).mp c55
              refine lv_iload_n hx hb dX1_result_97 rfl (lv_at hl 4 rfl) ?_
              exact W.iret (v := x2) hx hb hr (fun t ht hW => ⟨⟨x2, F36, rfl, ⟨trivial, trivial, hI, hfr⟩, by rw [ht]; exact hP, va_K.moved hW.alike hK⟩, hS.F ht⟩) hS.2.2 dX1_result_98
            · have c55 := mt (ax_eq (n := 5) (by decide)).mpr c55
              refine lv_tableOut (tgt := 99) hx hb dX1_result_26 (by omega) (by decide) ?_
              refine lv_aload_n hx hb dX1_result_99 rfl (lv_at hl 2 rfl) ?_
              refine th_get (D := (dC, dI)) (ci := 1) (v := .int z13) (C := RX1) (T := TX1) (N := 12) hx hb hts inX1 hown hK hP (hLK _ ha0 (by decide)) o39 rfl 6 (by decide) (hts _ T_110) (fun _ h9 => h9) rfl dX1_result_100 ?_
              exact W.iret (v := z13) hx hb hr (fun t ht hW => ⟨⟨z13, F36, rfl, ⟨trivial, trivial, hI, hfr⟩, by rw [ht]; exact hP, va_K.moved hW.alike hK⟩, hS.F ht⟩) hS.2.2 dX1_result_103

set_option maxHeartbeats 4000000 in
set_option maxRecDepth 100000 in
theorem s_X1_holds (l : Launch) (dC : Nat → ClassId) (dI : Nat → Nat → Nat) (sz : Nat) {L : List Nat} {K : Nat → Nat} {cs : Nat → ClassId} (hLK : ∀ a {k : Nat}, K a = k → k ≠ 0 → a ∈ L) (D : Nat) (F : Nat → va_E) (a0 : Nat) (x1 : Int32) (ha0 : K a0 = 2) (hx1 : 0 ≤ x1.toInt ∧ x1.toInt ≤ 7) (hI : s_I K cs D F) (hR : s_rd3 K F a0) : Met l yX1_holds (Cond.code yX1_holds cX1_holds 4 (some .boolean) :: T0) ({ frames := 1, cells := 0, slots := 0, locals := 22 }) (va_Pc [.ref a0, .int x1] (s_W dC dI sz L F [(cs 0, .int), (cs 1, .byte), (cs 2, .long), (cs 3, .object RX5), (cs 4, .object RX4), (cs 5, .array .int), (cs 6, .char), (cs 7, .boolean)])) (va_Qi (fun (r : Int32) (G : Nat → va_E) => (0 ≤ r.toInt ∧ r.toInt ≤ 1) ∧ True ∧ s_I K cs D G ∧ ∀ b, K b ∉ ([] : List Nat) → G b = F b) (fun (G : Nat → va_E) (t : State) => va_P (dC, dI) vwCl (va_pl L G) t.heap ∧ va_K (dC, dI) vwCl [(cs 0, .int), (cs 1, .byte), (cs 2, .long), (cs 3, .object RX5), (cs 4, .object RX4), (cs 5, .array .int), (cs 6, .char), (cs 7, .boolean)] t) (fun q => q ∈ L)) 0 0 (fun q => q ∈ L) := by
  refine Met.ofW (cc := cX1_holds) (maxL := 4) (ret := (some .boolean)) (by decide) rfl ?_
  intro p e s m args below meth c s₁ B hml hv
  obtain ⟨rfl, hsz, hP, hK, hD, hN⟩ := hv
  have hx := B.exec
  have hb := B.bytes
  have hr := B.returns
  have hts : ∀ w ∈ T0, w.before _ s = true := fun w h => atoms_spec (ws := Cond.code yX1_holds cX1_holds 4 (some .boolean) :: T0) B.pre w (List.mem_cons_of_mem _ h)
  have hown : s.vm.findClass RX1 = some m.cls := findClass_of_methodNamed B.named
  have hlocks := B.notSynchronized
  have hS : va_S (fun q => q ∈ L) s.heap s.heap [] := va_S.rf
  have hfr : ∀ b, K b ∉ ([] : List Nat) → F b = F b := fun _ _ => rfl
  have hl := lv_entry ([.ref a0, .int x1]) (n := 4) (Nat.le_of_ble_eq_true rfl)
  rw [lg_entry_eq]
  generalize (lg_sl ([.ref a0, .int x1]) ++ List.replicate (4 - (lg_sl ([.ref a0, .int x1])).length) Slot.unset).toArray = ls at hl ⊢
  have hl : lv_has ls 4 [(0, .ref a0), (1, .int x1)] := hl
  refine s_gen hP hS (fun H locs hP hS => ?_)
  obtain ⟨z1, z3, z5, z7, z9, z11, z13, z15, z16, z17, z19, z20, o21, h2, h4, h6, h8, h10, h12, h14, h18, -⟩ := hR
  refine lv_aload_n hx hb dX1_holds_0 rfl (lv_at hl 0 rfl) ?_
  refine lv_aload_n hx hb dX1_holds_1 rfl (lv_at hl 0 rfl) ?_
  refine th_get (D := (dC, dI)) (ci := 1) (v := .ref z11) (C := RX1) (T := TX1) (N := 12) hx hb hts inX1 hown hK hP (hLK _ ha0 (by decide)) o21 rfl 5 (by decide) (hts _ T_118) (fun _ h9 => h9) rfl dX1_holds_2 ?_
  refine lv_iconst (v := 2) hx hb dX1_holds_5 (by decide) ?_
  obtain ⟨f22, o23, h24⟩ := s_op23 hI h12
  refine th_iald hx hb hK hP (hLK _ h12 (by decide)) 0 o23 rfl (ax_in (by decide)) dX1_holds_6 ?_
  refine lv_topi (fun v25 ev25 => ?_)
  refine lv_iload_n hx hb dX1_holds_7 rfl (lv_at hl 1 rfl) ?_
  refine va_calli (va_runV (As := [.int v25, .int x1]) (rest := []) ⟨hx, hb, hml, hown, hts⟩ (s_X1_valueOf l dC dI H.size hLK D F a0 v25 x1 ha0 (⟨by omega, by omega⟩) hI ⟨z1, z3, z5, z7, z9, z11, z13, z15, z16, z17, z19, z20, o21, h2, h4, h6, h8, h10, h12, ⟨by omega, by omega⟩, ⟨by omega, by omega⟩, trivial⟩) (cwV 2 hts (ax_gV T_129 T_130 T_131 T_100 T_128) rfl rfl rfl (by decide +kernel) ⟨Nat.le_of_ble_eq_true rfl, Nat.le_of_ble_eq_true rfl⟩) ⟨fun a U g mk q => ⟨q.1, s_pc rfl rfl q.2⟩, s_recv hK hP (hLK _ ha0 (by decide)) (ci := 1) rfl o21, fun U hU hW => ⟨rfl, s_pw hU hW hP hK hD hN⟩⟩ rfl rfl hl.1 rfl (lv_room (Nat.le_of_ble_eq_true rfl)) dX1_holds_8 ⟨Nat.zero_le _, Nat.zero_le _⟩) hS (fun q _ h => h) (fun q h => h) (fun r26 F27 t H1 locs ht hvm hw hB hz1 hk1 hS => ?_)
  obtain ⟨hP, hK1⟩ := hB
  rw [ht] at hP
  generalize H1 = H at hP hS ⊢
  obtain ⟨h28, h29, hI, hfr1⟩ := hw
  have o30 : F27 a0 = .inr (1, [.ref z1, .ref z3, .ref z5, .ref z7, .ref z9, .ref z11, .int z13, .int z15, .int z16, .int z17, .int z19, .long z20]) := (hfr1 _ (by rw [ha0]; decide)).trans o21
  have hfr : ∀ b, K b ∉ ([] : List Nat) → F27 b = F b := fun b hb9 => (hfr1 b (fun q => hb9 (s_sub (by decide) q))).trans (hfr b hb9)
  refine lv_istore_n (lv' := [(2, .int r26), (0, .ref a0), (1, .int x1)]) hx hb dX1_holds_11 rfl hl (by decide) rfl (fun ls hl => ?_)
  refine lv_aload_n hx hb dX1_holds_12 rfl (lv_at hl 1 rfl) ?_
  refine lv_aload_n hx hb dX1_holds_13 rfl (lv_at hl 1 rfl) ?_
  refine th_get (D := (dC, dI)) (ci := 1) (v := .ref z11) (C := RX1) (T := TX1) (N := 12) hx hb hts inX1 hown hK hP (hLK _ ha0 (by decide)) o30 rfl 5 (by decide) (hts _ T_118) (fun _ h9 => h9) rfl dX1_holds_14 ?_
  refine lv_iconst (v := 3) hx hb dX1_holds_17 (by decide) ?_
  obtain ⟨f31, o32, h33⟩ := s_op23 hI h12
  refine th_iald hx hb hK hP (hLK _ h12 (by decide)) 0 o32 rfl (ax_in (by decide)) dX1_holds_18 ?_
  refine lv_topi (fun v34 ev34 => ?_)
  refine lv_iload_n hx hb dX1_holds_19 rfl (lv_at hl 2 rfl) ?_
  refine va_calli (va_runV (As := [.int v34, .int x1]) (rest := []) ⟨hx, hb, hml, hown, hts⟩ (s_X1_valueOf l dC dI H.size hLK D F27 a0 v34 x1 ha0 (⟨by omega, by omega⟩) hI ⟨z1, z3, z5, z7, z9, z11, z13, z15, z16, z17, z19, z20, o30, h2, h4, h6, h8, h10, h12, ⟨by omega, by omega⟩, ⟨by omega, by omega⟩, trivial⟩) (cwV 2 hts (ax_gV T_129 T_130 T_131 T_100 T_128) rfl rfl rfl (by decide +kernel) ⟨Nat.le_of_ble_eq_true rfl, Nat.le_of_ble_eq_true rfl⟩) ⟨fun a U g mk q => ⟨q.1, s_pc rfl rfl q.2⟩, s_recv hK hP (hLK _ ha0 (by decide)) (ci := 1) rfl o30, fun U hU hW => ⟨rfl, s_pw hU hW hP hK hD hN⟩⟩ rfl rfl hl.1 rfl (lv_room (Nat.le_of_ble_eq_true rfl)) dX1_holds_20 ⟨Nat.zero_le _, Nat.zero_le _⟩) hS (fun q _ h => h) (fun q h => h) (fun r35 F36 t H1 locs ht hvm hw hB hz1 hk1 hS => ?_)
  obtain ⟨hP, hK1⟩ := hB
  rw [ht] at hP
  generalize H1 = H at hP hS ⊢
  obtain ⟨h37, h38, hI, hfr1⟩ := hw
  have o39 : F36 a0 = .inr (1, [.ref z1, .ref z3, .ref z5, .ref z7, .ref z9, .ref z11, .int z13, .int z15, .int z16, .int z17, .int z19, .long z20]) := (hfr1 _ (by rw [ha0]; decide)).trans o30
  have hfr : ∀ b, K b ∉ ([] : List Nat) → F36 b = F b := fun b hb9 => (hfr1 b (fun q => hb9 (s_sub (by decide) q))).trans (hfr b hb9)
  refine lv_istore_n (lv' := [(3, .int r35), (2, .int r26), (0, .ref a0), (1, .int x1)]) hx hb dX1_holds_23 rfl hl (by decide) rfl (fun ls hl => ?_)
  refine lv_aload_n hx hb dX1_holds_24 rfl (lv_at hl 2 rfl) ?_
  refine th_get (D := (dC, dI)) (ci := 1) (v := .ref z11) (C := RX1) (T := TX1) (N := 12) hx hb hts inX1 hown hK hP (hLK _ ha0 (by decide)) o39 rfl 5 (by decide) (hts _ T_118) (fun _ h9 => h9) rfl dX1_holds_25 ?_
  refine lv_iconst (v := 5) hx hb dX1_holds_28 (by decide) ?_
  obtain ⟨f40, o41, h42⟩ := s_op23 hI h12
  refine th_iald hx hb hK hP (hLK _ h12 (by decide)) 0 o41 rfl (ax_in (by decide)) dX1_holds_29 ?_
  refine lv_topi (fun v43 ev43 => ?_)
  by_cases c44 : v43 = 0
  · refine ax_eqi c44 ?_
    refine lv_tableIn (off := 26) (tgt := 56) hx hb dX1_holds_30 (by decide) (by decide) (by decide) (by decide) ?_
    have c44 := (ax_eq (n := 0) (by decide)).mp c44
    refine lv_iload_n hx hb dX1_holds_56 rfl (lv_at hl 1 rfl) ?_
    refine lv_iload_n hx hb dX1_holds_57 rfl (lv_at hl 0 rfl) ?_
    refine lv_icmp_ge (tgt := 65) hx hb dX1_holds_58 (by decide) (fun c45 => ?_) (fun c45 => ?_)
    · have c45 := Int32.le_iff_toInt_le.mp c45
      refine lv_iconst (v := 0) hx hb dX1_holds_65 (by decide) ?_
      exact W.zret (v := 0) (ty := .boolean) hx hb hr (by decide) (fun t ht hW => ⟨⟨0, F36, rfl, ⟨(by decide), trivial, hI, hfr⟩, by rw [ht]; exact hP, va_K.moved hW.alike hK⟩, hS.F ht⟩) hS.2.2 dX1_holds_66
    · have c45 := mt Int32.le_iff_toInt_le.mpr c45
      refine lv_iconst (v := 1) hx hb dX1_holds_61 (by decide) ?_
      refine lv_goto (tgt := 66) hx hb dX1_holds_62 (by decide) ?_
      exact W.zret (v := 1) (ty := .boolean) hx hb hr (by decide) (fun t ht hW => ⟨⟨1, F36, rfl, ⟨(by decide), trivial, hI, hfr⟩, by rw [ht]; exact hP, va_K.moved hW.alike hK⟩, hS.F ht⟩) hS.2.2 dX1_holds_66
  · have c44 := mt (ax_eq (n := 0) (by decide)).mpr c44
    by_cases c46 : v43 = 1
    · refine ax_eqi c46 ?_
      refine lv_tableIn (off := 37) (tgt := 67) hx hb dX1_holds_30 (by decide) (by decide) (by decide) (by decide) ?_
      have c46 := (ax_eq (n := 1) (by decide)).mp c46
      refine lv_iload_n hx hb dX1_holds_67 rfl (lv_at hl 1 rfl) ?_
      refine lv_iload_n hx hb dX1_holds_68 rfl (lv_at hl 0 rfl) ?_
      refine lv_icmp_ne (tgt := 76) hx hb dX1_holds_69 (by decide) (fun c47 => ?_) (fun c47 => ?_)
      · have c47 := mt Int32.toInt_inj.symm.mpr c47
        refine lv_iconst (v := 0) hx hb dX1_holds_76 (by decide) ?_
        exact W.zret (v := 0) (ty := .boolean) hx hb hr (by decide) (fun t ht hW => ⟨⟨0, F36, rfl, ⟨(by decide), trivial, hI, hfr⟩, by rw [ht]; exact hP, va_K.moved hW.alike hK⟩, hS.F ht⟩) hS.2.2 dX1_holds_77
      · have c47 := Int32.toInt_inj.symm.mp c47
        refine lv_iconst (v := 1) hx hb dX1_holds_72 (by decide) ?_
        refine lv_goto (tgt := 77) hx hb dX1_holds_73 (by decide) ?_
        exact W.zret (v := 1) (ty := .boolean) hx hb hr (by decide) (fun t ht hW => ⟨⟨1, F36, rfl, ⟨(by decide), trivial, hI, hfr⟩, by rw [ht]; exact hP, va_K.moved hW.alike hK⟩, hS.F ht⟩) hS.2.2 dX1_holds_77
    · have c46 := mt (ax_eq (n := 1) (by decide)).mpr c46
      by_cases c48 : v43 = 2
      · refine ax_eqi c48 ?_
        refine lv_tableIn (off := 48) (tgt := 78) hx hb dX1_holds_30 (by decide) (by decide) (by decide) (by decide) ?_
        have c48 := (ax_eq (n := 2) (by decide)).mp c48
        refine lv_iload_n hx hb dX1_holds_78 rfl (lv_at hl 1 rfl) ?_
        refine lv_iload_n hx hb dX1_holds_79 rfl (lv_at hl 0 rfl) ?_
        refine lv_icmp_le (tgt := 87) hx hb dX1_holds_80 (by decide) (fun c49 => ?_) (fun c49 => ?_)
        · have c49 := Int32.le_iff_toInt_le.mp c49
          refine lv_iconst (v := 0) hx hb dX1_holds_87 (by decide) ?_
          exact W.zret (v := 0) (ty := .boolean) hx hb hr (by decide) (fun t ht hW => ⟨⟨0, F36, rfl, ⟨(by decide), trivial, hI, hfr⟩, by rw [ht]; exact hP, va_K.moved hW.alike hK⟩, hS.F ht⟩) hS.2.2 dX1_holds_88
        · have c49 := mt Int32.le_iff_toInt_le.mpr c49
          refine lv_iconst (v := 1) hx hb dX1_holds_83 (by decide) ?_
          refine lv_goto (tgt := 88) hx hb dX1_holds_84 (by decide) ?_
          exact W.zret (v := 1) (ty := .boolean) hx hb hr (by decide) (fun t ht hW => ⟨⟨1, F36, rfl, ⟨(by decide), trivial, hI, hfr⟩, by rw [ht]; exact hP, va_K.moved hW.alike hK⟩, hS.F ht⟩) hS.2.2 dX1_holds_88
      · have c48 := mt (ax_eq (n := 2) (by decide)).mpr c48
        refine lv_tableOut (tgt := 89) hx hb dX1_holds_30 (by omega) (by decide) ?_
        refine lv_iconst (v := 1) hx hb dX1_holds_89 (by decide) ?_
        exact W.zret (v := 1) (ty := .boolean) hx hb hr (by decide) (fun t ht hW => ⟨⟨1, F36, rfl, ⟨(by decide), trivial, hI, hfr⟩, by rw [ht]; exact hP, va_K.moved hW.alike hK⟩, hS.F ht⟩) hS.2.2 dX1_holds_90

set_option maxHeartbeats 4000000 in
set_option maxRecDepth 100000 in
theorem s_X1_goers (l : Launch) (dC : Nat → ClassId) (dI : Nat → Nat → Nat) (sz : Nat) {L : List Nat} {K : Nat → Nat} {cs : Nat → ClassId} (hLK : ∀ a {k : Nat}, K a = k → k ≠ 0 → a ∈ L) (D : Nat) (F : Nat → va_E) (a0 : Nat) (ha0 : K a0 = 2) (hI : s_I K cs D F) (hR : s_rd3 K F a0) : Met l yX1_goers (Cond.code yX1_goers cX1_goers 3 (some .int) :: T0) ({ frames := 2, cells := 0, slots := 0, locals := 45 }) (va_Pc [.ref a0] (s_W dC dI sz L F [(cs 0, .int), (cs 1, .byte), (cs 2, .long), (cs 3, .object RX5), (cs 4, .object RX4), (cs 5, .array .int), (cs 6, .char), (cs 7, .boolean)])) (va_Qi (fun (r : Int32) (G : Nat → va_E) => True ∧ True ∧ s_I K cs D G ∧ ∀ b, K b ∉ ([] : List Nat) → G b = F b) (fun (G : Nat → va_E) (t : State) => va_P (dC, dI) vwCl (va_pl L G) t.heap ∧ va_K (dC, dI) vwCl [(cs 0, .int), (cs 1, .byte), (cs 2, .long), (cs 3, .object RX5), (cs 4, .object RX4), (cs 5, .array .int), (cs 6, .char), (cs 7, .boolean)] t) (fun q => q ∈ L)) 0 0 (fun q => q ∈ L) := by
  refine Met.ofW (cc := cX1_goers) (maxL := 3) (ret := (some .int)) (by decide) rfl ?_
  intro p e s m args below meth c s₁ B hml hv
  obtain ⟨rfl, hsz, hP, hK, hD, hN⟩ := hv
  have hx := B.exec
  have hb := B.bytes
  have hr := B.returns
  have hts : ∀ w ∈ T0, w.before _ s = true := fun w h => atoms_spec (ws := Cond.code yX1_goers cX1_goers 3 (some .int) :: T0) B.pre w (List.mem_cons_of_mem _ h)
  have hown : s.vm.findClass RX1 = some m.cls := findClass_of_methodNamed B.named
  have hlocks := B.notSynchronized
  have hS : va_S (fun q => q ∈ L) s.heap s.heap [] := va_S.rf
  have hfr : ∀ b, K b ∉ ([] : List Nat) → F b = F b := fun _ _ => rfl
  have hl := lv_entry ([.ref a0]) (n := 3) (Nat.le_of_ble_eq_true rfl)
  rw [lg_entry_eq]
  generalize (lg_sl ([.ref a0]) ++ List.replicate (3 - (lg_sl ([.ref a0])).length) Slot.unset).toArray = ls at hl ⊢
  have hl : lv_has ls 3 [(0, .ref a0)] := hl
  refine s_gen hP hS (fun H locs hP hS => ?_)
  obtain ⟨z1, z3, z5, z7, z9, z11, z13, z15, z16, z17, z19, z20, o21, h2, h4, h6, h8, h10, h12, h14, h18, -⟩ := hR
  refine lv_aload_n hx hb dX1_goers_0 rfl (lv_at hl 0 rfl) ?_
  refine th_get (D := (dC, dI)) (ci := 1) (v := .ref z11) (C := RX1) (T := TX1) (N := 12) hx hb hts inX1 hown hK hP (hLK _ ha0 (by decide)) o21 rfl 5 (by decide) (hts _ T_118) (fun _ h9 => h9) rfl dX1_goers_1 ?_
  refine lv_iconst (v := 0) hx hb dX1_goers_4 (by decide) ?_
  obtain ⟨f22, o23, h24⟩ := s_op23 hI h12
  refine th_iald hx hb hK hP (hLK _ h12 (by decide)) 0 o23 rfl (ax_in (by decide)) dX1_goers_5 ?_
  refine lv_topi (fun v25 ev25 => ?_)
  refine lv_bipush (v := 12) hx hb dX1_goers_6 (by decide) ?_
  refine lv_icmp_eq (tgt := 13) hx hb dX1_goers_8 (by decide) (fun c26 => ?_) (fun c26 => ?_)
  · have c26 := (ax_eq (n := 12) (by decide)).mp c26
    refine lv_iconst (v := 0) hx hb dX1_goers_13 (by decide) ?_
    refine lv_istore_n (lv' := [(1, .int 0), (0, .ref a0)]) hx hb dX1_goers_14 rfl hl (by decide) rfl (fun ls hl => ?_)
    refine lv_iconst (v := 0) hx hb dX1_goers_15 (by decide) ?_
    refine lv_istore_n (lv' := [(2, .int 0), (1, .int 0), (0, .ref a0)]) hx hb dX1_goers_16 rfl hl (by decide) rfl (fun ls hl => ?_)
    refine th_loop (fun n g H locs => ∃ (G : Nat → va_E) (ls : Array Slot) (w27 : Int32) (w28 : Int32), g = F0 m 17 ls [] ∧ lv_has ls 3 [(0, .ref a0), (1, .int w27), (2, .int w28)] ∧ s_I K cs D G ∧ va_P (dC, dI) vwCl (va_pl L G) H ∧ va_S (fun q => q ∈ L) s.heap H locs ∧ (∀ b, K b ∉ ([] : List Nat) → G b = F b) ∧ True ∧ (0 ≤ w28.toInt ∧ w28.toInt ≤ 8) ∧ s_rd3 K G a0 ∧ n = (9 - w28.toInt).toNat) _ ⟨F, _, 0, 0, rfl, lv_sub hl [2, 1, 0] rfl, hI, hP, hS, hfr, trivial, (by decide), ⟨z1, z3, z5, z7, z9, z11, z13, z15, z16, z17, z19, z20, o21, h2, h4, h6, h8, h10, h12, ⟨by omega, by omega⟩, ⟨by omega, by omega⟩, trivial⟩, rfl⟩ (fun n ih17 g H locs hq => ?_)
    obtain ⟨F9, ls, w27, w28, rfl, hl, hI, hP, hS, hfr, h29, h30, h31, hn⟩ := hq
    obtain ⟨z32, z34, z36, z38, z40, z42, z44, z46, z47, z48, z50, z51, o52, h33, h35, h37, h39, h41, h43, h45, h49, -⟩ := h31
    have hn_17 := hn
    obtain ⟨n_17, hn9_17⟩ : ∃ q, q = n := ⟨_, rfl⟩
    refine th_join (fun g H locs => ∃ (G : Nat → va_E) (ls : Array Slot) (w53 : Int32), g = F0 m 45 ls [] ∧ lv_has ls 3 [(0, .ref a0), (1, .int w53), (2, .int w28)] ∧ s_I K cs D G ∧ va_P (dC, dI) vwCl (va_pl L G) H ∧ va_S (fun q => q ∈ L) s.heap H locs ∧ (∀ b, K b ∉ ([] : List Nat) → G b = F b) ∧ True ∧ (0 ≤ w28.toInt ∧ w28.toInt ≤ 7) ∧ s_rd3 K G a0) (fun K45 => ?_) ?_
    · refine lv_iload_n hx hb dX1_goers_17 rfl (lv_at hl 2 rfl) ?_
      refine lv_bipush (v := 8) hx hb dX1_goers_18 (by decide) ?_
      refine lv_icmp_ge (tgt := 51) hx hb dX1_goers_20 (by decide) (fun c54 => ?_) (fun c54 => ?_)
      · have c54 := (ax_ge (n := 8) (by decide)).mp c54
        refine lv_iload_n hx hb dX1_goers_51 rfl (lv_at hl 1 rfl) ?_
        exact W.iret (v := w27) hx hb hr (fun t ht hW => ⟨⟨w27, F9, rfl, ⟨trivial, trivial, hI, hfr⟩, by rw [ht]; exact hP, va_K.moved hW.alike hK⟩, hS.F ht⟩) hS.2.2 dX1_goers_52
      · have c54 := mt (ax_ge (n := 8) (by decide)).mpr c54
        refine lv_aload_n hx hb dX1_goers_23 rfl (lv_at hl 0 rfl) ?_
        refine lv_iload_n hx hb dX1_goers_24 rfl (lv_at hl 2 rfl) ?_
        refine va_calli (va_runV (As := [.int w28]) (rest := []) ⟨hx, hb, hml, hown, hts⟩ (s_X1_goesNow l dC dI H.size hLK D F9 a0 w28 ha0 hI) (cwV 1 hts (ax_gV T_101 T_102 T_103 T_100 T_99) rfl rfl rfl (by decide +kernel) ⟨Nat.le_of_ble_eq_true rfl, Nat.le_of_ble_eq_true rfl⟩) ⟨fun a U g mk q => ⟨q.1, s_pc rfl rfl q.2⟩, s_recv hK hP (hLK _ ha0 (by decide)) (ci := 1) rfl o52, fun U hU hW => ⟨rfl, s_pw hU hW hP hK hD hN⟩⟩ rfl rfl hl.1 rfl (lv_room (Nat.le_of_ble_eq_true rfl)) dX1_goers_25 ⟨Nat.zero_le _, Nat.zero_le _⟩) hS (fun q _ h => h) (fun q h => h) (fun r55 F56 t H1 locs ht hvm hw hB hz1 hk1 hS => ?_)
        obtain ⟨hP, hK1⟩ := hB
        rw [ht] at hP
        generalize H1 = H at hP hS ⊢
        obtain ⟨h57, h58, hI, hfr1⟩ := hw
        have o59 : F56 a0 = .inr (1, [.ref z32, .ref z34, .ref z36, .ref z38, .ref z40, .ref z42, .int z44, .int z46, .int z47, .int z48, .int z50, .long z51]) := (hfr1 _ (by rw [ha0]; decide)).trans o52
        have hfr : ∀ b, K b ∉ ([] : List Nat) → F56 b = F b := fun b hb9 => (hfr1 b (fun q => hb9 (s_sub (by decide) q))).trans (hfr b hb9)
        obtain ⟨h58, h60⟩ := h58
        have h60 : (∀ vs z, F9 a0 = .inr (1, vs) → vs[8]? = some (.int z) → (r55 = 0 ↔ (z >>> (w28 &&& 31) &&& 1) = 0)) := h60
        refine lv_if_eq (tgt := 45) hx hb dX1_goers_28 (by decide) (fun c61 => ?_) (fun c61 => ?_)
        · have c61 := (ax_eq (n := 0) (by decide)).mp c61
          exact K45 _ _ _ ⟨F56, _, w27, rfl, lv_sub hl [0, 1, 2] rfl, hI, hP, hS, hfr, trivial, ⟨by omega, by omega⟩, ⟨z32, z34, z36, z38, z40, z42, z44, z46, z47, z48, z50, z51, o59, h33, h35, h37, h39, h41, h43, ⟨by omega, by omega⟩, ⟨by omega, by omega⟩, trivial⟩⟩
        · have c61 := mt (ax_eq (n := 0) (by decide)).mpr c61
          refine lv_aload_n hx hb dX1_goers_31 rfl (lv_at hl 0 rfl) ?_
          refine lv_iload_n hx hb dX1_goers_32 rfl (lv_at hl 2 rfl) ?_
          refine va_calli (va_runV (As := [.int w28]) (rest := []) ⟨hx, hb, hml, hown, hts⟩ (s_X1_holds l dC dI H.size hLK D F56 a0 w28 ha0 (⟨by omega, by omega⟩) hI ⟨z32, z34, z36, z38, z40, z42, z44, z46, z47, z48, z50, z51, o59, h33, h35, h37, h39, h41, h43, ⟨by omega, by omega⟩, ⟨by omega, by omega⟩, trivial⟩) (cwV 1 hts (ax_gV T_137 T_138 T_139 T_100 T_136) rfl rfl rfl (by decide +kernel) ⟨Nat.le_of_ble_eq_true rfl, Nat.le_of_ble_eq_true rfl⟩) ⟨fun a U g mk q => ⟨q.1, s_pc rfl rfl q.2⟩, s_recv hK hP (hLK _ ha0 (by decide)) (ci := 1) rfl o59, fun U hU hW => ⟨rfl, s_pw hU hW hP hK hD hN⟩⟩ rfl rfl hl.1 rfl (lv_room (Nat.le_of_ble_eq_true rfl)) dX1_goers_33 ⟨Nat.zero_le _, Nat.zero_le _⟩) hS (fun q _ h => h) (fun q h => h) (fun r62 F63 t H1 locs ht hvm hw hB hz1 hk1 hS => ?_)
          obtain ⟨hP, hK1⟩ := hB
          rw [ht] at hP
          generalize H1 = H at hP hS ⊢
          obtain ⟨h64, h65, hI, hfr1⟩ := hw
          have o66 : F63 a0 = .inr (1, [.ref z32, .ref z34, .ref z36, .ref z38, .ref z40, .ref z42, .int z44, .int z46, .int z47, .int z48, .int z50, .long z51]) := (hfr1 _ (by rw [ha0]; decide)).trans o59
          have hfr : ∀ b, K b ∉ ([] : List Nat) → F63 b = F b := fun b hb9 => (hfr1 b (fun q => hb9 (s_sub (by decide) q))).trans (hfr b hb9)
          refine lv_if_eq (tgt := 45) hx hb dX1_goers_36 (by decide) (fun c67 => ?_) (fun c67 => ?_)
          · have c67 := (ax_eq (n := 0) (by decide)).mp c67
            exact K45 _ _ _ ⟨F63, _, w27, rfl, lv_sub hl [0, 1, 2] rfl, hI, hP, hS, hfr, trivial, ⟨by omega, by omega⟩, ⟨z32, z34, z36, z38, z40, z42, z44, z46, z47, z48, z50, z51, o66, h33, h35, h37, h39, h41, h43, ⟨by omega, by omega⟩, ⟨by omega, by omega⟩, trivial⟩⟩
          · have c67 := mt (ax_eq (n := 0) (by decide)).mpr c67
            refine lv_iload_n hx hb dX1_goers_39 rfl (lv_at hl 1 rfl) ?_
            refine lv_iconst (v := 1) hx hb dX1_goers_40 (by decide) ?_
            refine lv_iload_n hx hb dX1_goers_41 rfl (lv_at hl 2 rfl) ?_
            refine lv_ishl hx hb dX1_goers_42 ?_
            refine lv_topi (fun v68 ev68 => ?_)
            refine lv_ior hx hb dX1_goers_43 ?_
            refine lv_topi (fun v69 ev69 => ?_)
            refine lv_istore_n (lv' := [(1, .int v69), (0, .ref a0), (2, .int w28)]) hx hb dX1_goers_44 rfl hl (by decide) rfl (fun ls hl => ?_)
            exact K45 _ _ _ ⟨F63, _, v69, rfl, lv_sub hl [1, 0, 2] rfl, hI, hP, hS, hfr, trivial, ⟨by omega, by omega⟩, ⟨z32, z34, z36, z38, z40, z42, z44, z46, z47, z48, z50, z51, o66, h33, h35, h37, h39, h41, h43, ⟨by omega, by omega⟩, ⟨by omega, by omega⟩, trivial⟩⟩
    · intro g H locs hq
      obtain ⟨F9, ls, w53, rfl, hl, hI, hP, hS, hfr, h70, h71, h72⟩ := hq
      obtain ⟨z73, z75, z77, z79, z81, z83, z85, z87, z88, z89, z91, z92, o93, h74, h76, h78, h80, h82, h84, h86, h90, -⟩ := h72
      obtain ⟨v94, ev94⟩ : ∃ y : Int32, w28 + 1 = y := ⟨_, rfl⟩
      have qv94 : v94.toInt = w28.toInt + 1 := by rw [← ev94]; exact th_add rfl (by decide) ⟨by omega, by omega⟩
      refine lv_iinc (v := v94) (lv' := [(2, .int v94), (0, .ref a0), (1, .int w53)]) hx hb dX1_goers_45 hl (k := 2) rfl ev94 (by decide) rfl (fun ls hl => ?_)
      refine lv_goto (tgt := 17) hx hb dX1_goers_48 (by decide) ?_
      exact ih17 _ _ _ _ (by omega) ⟨F9, _, w53, v94, rfl, lv_sub hl [1, 2, 0] rfl, hI, hP, hS, hfr, trivial, ⟨by omega, by omega⟩, ⟨z73, z75, z77, z79, z81, z83, z85, z87, z88, z89, z91, z92, o93, h74, h76, h78, h80, h82, h84, ⟨by omega, by omega⟩, ⟨by omega, by omega⟩, trivial⟩, rfl⟩
  · have c26 := mt (ax_eq (n := 12) (by decide)).mpr c26
    refine lv_iconst (v := 0) hx hb dX1_goers_11 (by decide) ?_
    exact W.iret (v := 0) hx hb hr (fun t ht hW => ⟨⟨0, F, rfl, ⟨trivial, trivial, hI, hfr⟩, by rw [ht]; exact hP, va_K.moved hW.alike hK⟩, hS.F ht⟩) hS.2.2 dX1_goers_12

set_option maxHeartbeats 4000000 in
set_option maxRecDepth 100000 in
theorem s_X1_lineBehind (l : Launch) (dC : Nat → ClassId) (dI : Nat → Nat → Nat) (sz : Nat) {L : List Nat} {K : Nat → Nat} {cs : Nat → ClassId} (hLK : ∀ a {k : Nat}, K a = k → k ≠ 0 → a ∈ L) (D : Nat) (F : Nat → va_E) (a0 : Nat) (ha0 : K a0 = 2) (hI : s_I K cs D F) (hR : s_rd3 K F a0) : Met l yX1_lineBehind (Cond.code yX1_lineBehind cX1_lineBehind 1 (some .int) :: T0) ({ frames := 0, cells := 0, slots := 0, locals := 0 }) (va_Pc [.ref a0] (s_W dC dI sz L F [(cs 0, .int), (cs 1, .byte), (cs 2, .long), (cs 3, .object RX5), (cs 4, .object RX4), (cs 5, .array .int), (cs 6, .char), (cs 7, .boolean)])) (va_Qi (fun (r : Int32) (G : Nat → va_E) => True ∧ True ∧ s_I K cs D G ∧ ∀ b, K b ∉ ([] : List Nat) → G b = F b) (fun (G : Nat → va_E) (t : State) => va_P (dC, dI) vwCl (va_pl L G) t.heap ∧ va_K (dC, dI) vwCl [(cs 0, .int), (cs 1, .byte), (cs 2, .long), (cs 3, .object RX5), (cs 4, .object RX4), (cs 5, .array .int), (cs 6, .char), (cs 7, .boolean)] t) (fun q => q ∈ L)) 0 0 (fun q => q ∈ L) := by
  refine Met.ofW (cc := cX1_lineBehind) (maxL := 1) (ret := (some .int)) (by decide) rfl ?_
  intro p e s m args below meth c s₁ B hml hv
  obtain ⟨rfl, hsz, hP, hK, hD, hN⟩ := hv
  have hx := B.exec
  have hb := B.bytes
  have hr := B.returns
  have hts : ∀ w ∈ T0, w.before _ s = true := fun w h => atoms_spec (ws := Cond.code yX1_lineBehind cX1_lineBehind 1 (some .int) :: T0) B.pre w (List.mem_cons_of_mem _ h)
  have hown : s.vm.findClass RX1 = some m.cls := findClass_of_methodNamed B.named
  have hlocks := B.notSynchronized
  have hS : va_S (fun q => q ∈ L) s.heap s.heap [] := va_S.rf
  have hfr : ∀ b, K b ∉ ([] : List Nat) → F b = F b := fun _ _ => rfl
  have hl := lv_entry ([.ref a0]) (n := 1) (Nat.le_of_ble_eq_true rfl)
  rw [lg_entry_eq]
  generalize (lg_sl ([.ref a0]) ++ List.replicate (1 - (lg_sl ([.ref a0])).length) Slot.unset).toArray = ls at hl ⊢
  have hl : lv_has ls 1 [(0, .ref a0)] := hl
  refine s_gen hP hS (fun H locs hP hS => ?_)
  obtain ⟨z1, z3, z5, z7, z9, z11, z13, z15, z16, z17, z19, z20, o21, h2, h4, h6, h8, h10, h12, h14, h18, -⟩ := hR
  refine lv_aload_n hx hb dX1_lineBehind_0 rfl (lv_at hl 0 rfl) ?_
  refine th_get (D := (dC, dI)) (ci := 1) (v := .ref z11) (C := RX1) (T := TX1) (N := 12) hx hb hts inX1 hown hK hP (hLK _ ha0 (by decide)) o21 rfl 5 (by decide) (hts _ T_118) (fun _ h9 => h9) rfl dX1_lineBehind_1 ?_
  refine lv_iconst (v := 0) hx hb dX1_lineBehind_4 (by decide) ?_
  obtain ⟨f22, o23, h24⟩ := s_op23 hI h12
  refine th_iald hx hb hK hP (hLK _ h12 (by decide)) 0 o23 rfl (ax_in (by decide)) dX1_lineBehind_5 ?_
  refine lv_topi (fun v25 ev25 => ?_)
  refine lv_bipush (v := 15) hx hb dX1_lineBehind_6 (by decide) ?_
  refine lv_icmp_ne (tgt := 21) hx hb dX1_lineBehind_8 (by decide) (fun c26 => ?_) (fun c26 => ?_)
  · have c26 := mt (ax_eq (n := 15) (by decide)).mpr c26
    refine lv_aload_n hx hb dX1_lineBehind_21 rfl (lv_at hl 0 rfl) ?_
    refine th_get (D := (dC, dI)) (ci := 1) (v := .int z15) (C := RX1) (T := TX1) (N := 12) hx hb hts inX1 hown hK hP (hLK _ ha0 (by decide)) o21 rfl 7 (by decide) (hts _ T_115) (fun _ h9 => h9) rfl dX1_lineBehind_22 ?_
    refine lv_iconst (v := 1) hx hb dX1_lineBehind_25 (by decide) ?_
    refine lv_iadd hx hb dX1_lineBehind_26 ?_
    refine lv_topi (fun v27 ev27 => ?_)
    exact W.iret (v := v27) hx hb hr (fun t ht hW => ⟨⟨v27, F, rfl, ⟨trivial, trivial, hI, hfr⟩, by rw [ht]; exact hP, va_K.moved hW.alike hK⟩, hS.F ht⟩) hS.2.2 dX1_lineBehind_27
  · have c26 := (ax_eq (n := 15) (by decide)).mp c26
    refine lv_aload_n hx hb dX1_lineBehind_11 rfl (lv_at hl 0 rfl) ?_
    refine th_get (D := (dC, dI)) (ci := 1) (v := .ref z5) (C := RX1) (T := TX1) (N := 12) hx hb hts inX1 hown hK hP (hLK _ ha0 (by decide)) o21 rfl 2 (by decide) (hts _ T_96) (fun _ h9 => h9) rfl dX1_lineBehind_12 ?_
    obtain ⟨z28, z30, z32, z34, z36, z38, z39, o40, h29, h31, h33, h35, h37, -⟩ := s_op3 hI h6
    refine th_getN (D := (dC, dI)) (ci := 2) (v := .int z34) (C := RX2) (T := TX2) (N := 7) hx hb hts inX2 hown hK hP (hLK _ h6 (by decide)) o40 rfl 3 (by decide) (va_Nw.use rfl hN.2.2.2.2.2.2.2.2.2.2.2.2.2.2.2.2.2.2.2.2.2.2.2.1) (fun _ h9 => h9) rfl dX1_lineBehind_15 ?_
    refine lv_goto (tgt := 27) hx hb dX1_lineBehind_18 (by decide) ?_
    exact W.iret (v := z34) hx hb hr (fun t ht hW => ⟨⟨z34, F, rfl, ⟨trivial, trivial, hI, hfr⟩, by rw [ht]; exact hP, va_K.moved hW.alike hK⟩, hS.F ht⟩) hS.2.2 dX1_lineBehind_27

set_option maxHeartbeats 4000000 in
set_option maxRecDepth 100000 in
theorem s_X1_bounded (l : Launch) (dC : Nat → ClassId) (dI : Nat → Nat → Nat) (sz : Nat) {L : List Nat} {K : Nat → Nat} {cs : Nat → ClassId} (hLK : ∀ a {k : Nat}, K a = k → k ≠ 0 → a ∈ L) (D : Nat) (F : Nat → va_E) (x0 : Int32)  (hI : s_I K cs D F) : Met l yX1_bounded (Cond.code yX1_bounded cX1_bounded 1 (some .int) :: T0) ({ frames := 1, cells := 0, slots := 0, locals := 14 }) (va_Pc [.int x0] (s_W dC dI sz L F [(cs 0, .int), (cs 1, .byte), (cs 2, .long), (cs 3, .object RX5), (cs 4, .object RX4), (cs 5, .array .int), (cs 6, .char), (cs 7, .boolean)])) (va_Qi (fun (r : Int32) (G : Nat → va_E) => (-9999 ≤ r.toInt ∧ r.toInt ≤ 9999) ∧ True ∧ s_I K cs D G ∧ ∀ b, K b ∉ ([] : List Nat) → G b = F b) (fun (G : Nat → va_E) (t : State) => va_P (dC, dI) vwCl (va_pl L G) t.heap ∧ va_K (dC, dI) vwCl [(cs 0, .int), (cs 1, .byte), (cs 2, .long), (cs 3, .object RX5), (cs 4, .object RX4), (cs 5, .array .int), (cs 6, .char), (cs 7, .boolean)] t) (fun q => q ∈ L)) 0 0 (fun q => q ∈ L) := by
  refine Met.ofW (cc := cX1_bounded) (maxL := 1) (ret := (some .int)) (by decide) rfl ?_
  intro p e s m args below meth c s₁ B hml hv
  obtain ⟨rfl, hsz, hP, hK, hD, hN⟩ := hv
  have hx := B.exec
  have hb := B.bytes
  have hr := B.returns
  have hts : ∀ w ∈ T0, w.before _ s = true := fun w h => atoms_spec (ws := Cond.code yX1_bounded cX1_bounded 1 (some .int) :: T0) B.pre w (List.mem_cons_of_mem _ h)
  have hown : s.vm.findClass RX1 = some m.cls := findClass_of_methodNamed B.named
  have hlocks := B.notSynchronized
  have hS : va_S (fun q => q ∈ L) s.heap s.heap [] := va_S.rf
  have hfr : ∀ b, K b ∉ ([] : List Nat) → F b = F b := fun _ _ => rfl
  have hl := lv_entry ([.int x0]) (n := 1) (Nat.le_of_ble_eq_true rfl)
  rw [lg_entry_eq]
  generalize (lg_sl ([.int x0]) ++ List.replicate (1 - (lg_sl ([.int x0])).length) Slot.unset).toArray = ls at hl ⊢
  have hl : lv_has ls 1 [(0, .int x0)] := hl
  refine s_gen hP hS (fun H locs hP hS => ?_)
  refine lv_sipush (v := (-9999)) hx hb dX1_bounded_0 (by decide) ?_
  refine lv_sipush (v := 9999) hx hb dX1_bounded_3 (by decide) ?_
  refine lv_iload_n hx hb dX1_bounded_6 rfl (lv_at hl 0 rfl) ?_
  refine va_mmin hx hb (by rw [hml]; exact hl.1.symm) hown (hts _ T_140) (hts _ T_141) (hts _ T_74) (hts _ T_142) (Nat.le_of_ble_eq_true rfl) (Nat.le_of_ble_eq_true rfl) (Nat.zero_le _) (Nat.zero_le _) dX1_bounded_7 ?_
  refine lv_topi (fun v1 ev1 => ?_)
  have qv1 := th_mmin (a := 9999) (b := x0.toInt) ev1 (by decide) rfl
  refine va_mmax hx hb (by rw [hml]; exact hl.1.symm) hown (hts _ T_114) (hts _ T_73) (hts _ T_74) (hts _ T_75) (Nat.le_of_ble_eq_true rfl) (Nat.le_of_ble_eq_true rfl) (Nat.zero_le _) (Nat.zero_le _) dX1_bounded_10 ?_
  refine lv_topi (fun v2 ev2 => ?_)
  have qv2 := th_mmax (a := (-9999)) (b := v1.toInt) ev2 (by decide) rfl
  exact W.iret (v := v2) hx hb hr (fun t ht hW => ⟨⟨v2, F, rfl, ⟨⟨by omega, by omega⟩, trivial, hI, hfr⟩, by rw [ht]; exact hP, va_K.moved hW.alike hK⟩, hS.F ht⟩) hS.2.2 dX1_bounded_13

set_option maxHeartbeats 4000000 in
set_option maxRecDepth 100000 in
theorem s_X1_moveTop (l : Launch) (dC : Nat → ClassId) (dI : Nat → Nat → Nat) (sz : Nat) {L : List Nat} {K : Nat → Nat} {cs : Nat → ClassId} (hLK : ∀ a {k : Nat}, K a = k → k ≠ 0 → a ∈ L) (D : Nat) (F : Nat → va_E) (a0 : Nat) (ha0 : K a0 = 2) (hI : s_I K cs D F) (hR : s_rd3 K F a0) : Met l yX1_moveTop (Cond.code yX1_moveTop cX1_moveTop 2 none :: T0) ({ frames := 3, cells := 0, slots := 0, locals := 67 }) (va_Pc [.ref a0] (s_W dC dI sz L F [(cs 0, .int), (cs 1, .byte), (cs 2, .long), (cs 3, .object RX5), (cs 4, .object RX4), (cs 5, .array .int), (cs 6, .char), (cs 7, .boolean)])) (va_Qv (fun (G : Nat → va_E) => True ∧ True ∧ s_I K cs D G ∧ ∀ b, K b ∉ [6, 32] → G b = F b) (fun (G : Nat → va_E) (t : State) => va_P (dC, dI) vwCl (va_pl L G) t.heap ∧ va_K (dC, dI) vwCl [(cs 0, .int), (cs 1, .byte), (cs 2, .long), (cs 3, .object RX5), (cs 4, .object RX4), (cs 5, .array .int), (cs 6, .char), (cs 7, .boolean)] t) (fun q => q ∈ L)) 0 0 (fun q => q ∈ L) := by
  refine Met.ofW (cc := cX1_moveTop) (maxL := 2) (ret := none) (by decide) rfl ?_
  intro p e s m args below meth c s₁ B hml hv
  obtain ⟨rfl, hsz, hP, hK, hD, hN⟩ := hv
  have hx := B.exec
  have hb := B.bytes
  have hr := B.returns
  have hts : ∀ w ∈ T0, w.before _ s = true := fun w h => atoms_spec (ws := Cond.code yX1_moveTop cX1_moveTop 2 none :: T0) B.pre w (List.mem_cons_of_mem _ h)
  have hown : s.vm.findClass RX1 = some m.cls := findClass_of_methodNamed B.named
  have hlocks := B.notSynchronized
  have hS : va_S (fun q => q ∈ L) s.heap s.heap [] := va_S.rf
  have hfr : ∀ b, K b ∉ [6, 32] → F b = F b := fun _ _ => rfl
  have hl := lv_entry ([.ref a0]) (n := 2) (Nat.le_of_ble_eq_true rfl)
  rw [lg_entry_eq]
  generalize (lg_sl ([.ref a0]) ++ List.replicate (2 - (lg_sl ([.ref a0])).length) Slot.unset).toArray = ls at hl ⊢
  have hl : lv_has ls 2 [(0, .ref a0)] := hl
  refine s_gen hP hS (fun H locs hP hS => ?_)
  obtain ⟨z1, z3, z5, z7, z9, z11, z13, z15, z16, z17, z19, z20, o21, h2, h4, h6, h8, h10, h12, h14, h18, -⟩ := hR
  refine th_join (fun g H locs => ∃ (G : Nat → va_E) (ls : Array Slot), g = F0 m 127 ls [] ∧ lv_has ls 2 [(0, .ref a0)] ∧ s_I K cs D G ∧ va_P (dC, dI) vwCl (va_pl L G) H ∧ va_S (fun q => q ∈ L) s.heap H locs ∧ (∀ b, K b ∉ [6, 32] → G b = F b) ∧ s_rd3 K G a0) (fun K127 => ?_) ?_
  refine th_join (fun g H locs => ∃ (G : Nat → va_E) (ls : Array Slot), g = F0 m 109 ls [] ∧ lv_has ls 2 [(0, .ref a0)] ∧ s_I K cs D G ∧ va_P (dC, dI) vwCl (va_pl L G) H ∧ va_S (fun q => q ∈ L) s.heap H locs ∧ (∀ b, K b ∉ [6, 32] → G b = F b) ∧ s_rd3 K G a0) (fun K109 => ?_) ?_
  · refine lv_aload_n hx hb dX1_moveTop_0 rfl (lv_at hl 0 rfl) ?_
    refine th_get (D := (dC, dI)) (ci := 1) (v := .ref z11) (C := RX1) (T := TX1) (N := 12) hx hb hts inX1 hown hK hP (hLK _ ha0 (by decide)) o21 rfl 5 (by decide) (hts _ T_118) (fun _ h9 => h9) rfl dX1_moveTop_1 ?_
    refine lv_iconst (v := 0) hx hb dX1_moveTop_4 (by decide) ?_
    obtain ⟨f22, o23, h24⟩ := s_op23 hI h12
    refine th_iald hx hb hK hP (hLK _ h12 (by decide)) 0 o23 rfl (ax_in (by decide)) dX1_moveTop_5 ?_
    refine lv_topi (fun v25 ev25 => ?_)
    refine lv_bipush (v := 13) hx hb dX1_moveTop_6 (by decide) ?_
    refine lv_icmp_ne (tgt := 28) hx hb dX1_moveTop_8 (by decide) (fun c26 => ?_) (fun c26 => ?_)
    · have c26 := mt (ax_eq (n := 13) (by decide)).mpr c26
      refine lv_aload_n hx hb dX1_moveTop_28 rfl (lv_at hl 0 rfl) ?_
      refine va_calli (va_runV (As := []) (rest := []) ⟨hx, hb, hml, hown, hts⟩ (s_X1_goers l dC dI H.size hLK D F a0 ha0 hI ⟨z1, z3, z5, z7, z9, z11, z13, z15, z16, z17, z19, z20, o21, h2, h4, h6, h8, h10, h12, ⟨by omega, by omega⟩, ⟨by omega, by omega⟩, trivial⟩) (cwV 0 hts (ax_gV T_144 T_145 T_146 T_100 T_143) rfl rfl rfl (by decide +kernel) ⟨Nat.le_of_ble_eq_true rfl, Nat.le_of_ble_eq_true rfl⟩) ⟨fun a U g mk q => ⟨q.1, s_pc rfl rfl q.2⟩, s_recv hK hP (hLK _ ha0 (by decide)) (ci := 1) rfl o21, fun U hU hW => ⟨rfl, s_pw hU hW hP hK hD hN⟩⟩ rfl rfl hl.1 rfl (lv_room (Nat.le_of_ble_eq_true rfl)) dX1_moveTop_29 ⟨Nat.zero_le _, Nat.zero_le _⟩) hS (fun q _ h => h) (fun q h => h) (fun r27 F28 t H1 locs ht hvm hw hB hz1 hk1 hS => ?_)
      obtain ⟨hP, hK1⟩ := hB
      rw [ht] at hP
      generalize H1 = H at hP hS ⊢
      obtain ⟨h29, h30, hI, hfr1⟩ := hw
      have o31 : F28 a0 = .inr (1, [.ref z1, .ref z3, .ref z5, .ref z7, .ref z9, .ref z11, .int z13, .int z15, .int z16, .int z17, .int z19, .long z20]) := (hfr1 _ (by rw [ha0]; decide)).trans o21
      have hfr : ∀ b, K b ∉ [6, 32] → F28 b = F b := fun b hb9 => (hfr1 b (fun q => hb9 (s_sub (by decide) q))).trans (hfr b hb9)
      refine lv_istore_n (lv' := [(1, .int r27), (0, .ref a0)]) hx hb dX1_moveTop_32 rfl hl (by decide) rfl (fun ls hl => ?_)
      refine lv_iload_n hx hb dX1_moveTop_33 rfl (lv_at hl 0 rfl) ?_
      refine lv_if_ne (tgt := 51) hx hb dX1_moveTop_34 (by decide) (fun c32 => ?_) (fun c32 => ?_)
      · have c32 := mt (ax_eq (n := 0) (by decide)).mpr c32
        refine lv_iload_n hx hb dX1_moveTop_51 rfl (lv_at hl 0 rfl) ?_
        refine lv_aload_n hx hb dX1_moveTop_52 rfl (lv_at hl 1 rfl) ?_
        refine th_get (D := (dC, dI)) (ci := 1) (v := .int z16) (C := RX1) (T := TX1) (N := 12) hx hb hts inX1 hown hK hP (hLK _ ha0 (by decide)) o31 rfl 8 (by decide) (hts _ T_97) (fun _ h9 => h9) rfl dX1_moveTop_53 ?_
        refine lv_icmp_ne (tgt := 75) hx hb dX1_moveTop_56 (by decide) (fun c33 => ?_) (fun c33 => ?_)
        · have c33 := mt Int32.toInt_inj.symm.mpr c33
          refine lv_aload_n hx hb dX1_moveTop_75 rfl (lv_at hl 1 rfl) ?_
          refine th_get (D := (dC, dI)) (ci := 1) (v := .ref z9) (C := RX1) (T := TX1) (N := 12) hx hb hts inX1 hown hK hP (hLK _ ha0 (by decide)) o31 rfl 4 (by decide) (hts _ T_111) (fun _ h9 => h9) rfl dX1_moveTop_76 ?_
          refine lv_aload_n hx hb dX1_moveTop_79 rfl (lv_at hl 1 rfl) ?_
          refine th_get (D := (dC, dI)) (ci := 1) (v := .int z15) (C := RX1) (T := TX1) (N := 12) hx hb hts inX1 hown hK hP (hLK _ ha0 (by decide)) o31 rfl 7 (by decide) (hts _ T_115) (fun _ h9 => h9) rfl dX1_moveTop_80 ?_
          refine lv_iconst (v := 1) hx hb dX1_moveTop_83 (by decide) ?_
          refine lv_iadd hx hb dX1_moveTop_84 ?_
          refine lv_topi (fun v34 ev34 => ?_)
          refine lv_aload_n hx hb dX1_moveTop_85 rfl (lv_at hl 1 rfl) ?_
          refine th_get (D := (dC, dI)) (ci := 1) (v := .ref z11) (C := RX1) (T := TX1) (N := 12) hx hb hts inX1 hown hK hP (hLK _ ha0 (by decide)) o31 rfl 5 (by decide) (hts _ T_118) (fun _ h9 => h9) rfl dX1_moveTop_86 ?_
          refine lv_iconst (v := 4) hx hb dX1_moveTop_89 (by decide) ?_
          obtain ⟨f35, o36, h37⟩ := s_op23 hI h12
          refine th_iald hx hb hK hP (hLK _ h12 (by decide)) 0 o36 rfl (ax_in (by decide)) dX1_moveTop_90 ?_
          refine lv_topi (fun v38 ev38 => ?_)
          refine lv_aload_n hx hb dX1_moveTop_91 rfl (lv_at hl 1 rfl) ?_
          refine th_get (D := (dC, dI)) (ci := 1) (v := .ref z11) (C := RX1) (T := TX1) (N := 12) hx hb hts inX1 hown hK hP (hLK _ ha0 (by decide)) o31 rfl 5 (by decide) (hts _ T_118) (fun _ h9 => h9) rfl dX1_moveTop_92 ?_
          refine lv_bipush (v := 6) hx hb dX1_moveTop_95 (by decide) ?_
          obtain ⟨f39, o40, h41⟩ := s_op23 hI h12
          refine th_iald hx hb hK hP (hLK _ h12 (by decide)) 0 o40 rfl (ax_in (by decide)) dX1_moveTop_97 ?_
          refine lv_topi (fun v42 ev42 => ?_)
          refine lv_iload_n hx hb dX1_moveTop_98 rfl (lv_at hl 0 rfl) ?_
          refine lv_aload_n hx hb dX1_moveTop_99 rfl (lv_at hl 1 rfl) ?_
          refine th_get (D := (dC, dI)) (ci := 1) (v := .ref z5) (C := RX1) (T := TX1) (N := 12) hx hb hts inX1 hown hK hP (hLK _ ha0 (by decide)) o31 rfl 2 (by decide) (hts _ T_96) (fun _ h9 => h9) rfl dX1_moveTop_100 ?_
          obtain ⟨z43, z45, z47, z49, z51, z53, z54, o55, h44, h46, h48, h50, h52, -⟩ := s_op3 hI h6
          refine th_getN (D := (dC, dI)) (ci := 2) (v := .int z49) (C := RX2) (T := TX2) (N := 7) hx hb hts inX2 hown hK hP (hLK _ h6 (by decide)) o55 rfl 3 (by decide) (va_Nw.use rfl hN.2.2.2.2.2.2.2.2.2.2.2.2.2.2.2.2.2.2.2.2.2.2.2.1) (fun _ h9 => h9) rfl dX1_moveTop_103 ?_
          obtain ⟨z56, z58, z60, z62, z64, z66, z68, z69, z70, z71, z72, o74, h57, h59, h61, h63, h65, h67, h73, -⟩ := s_op6 hI h10
          refine va_callv (va_runV (As := [.int v34, .int v38, .int v42, .int r27, .int z49]) (rest := []) ⟨hx, hb, hml, hown, hts⟩ (s_X5_splitTop l dC dI H.size hLK D F28 z9 v34 v38 v42 r27 z49 h10 hI) (cwV 5 hts (ax_gV T_148 T_149 T_150 T_11 T_147) rfl rfl rfl (by decide +kernel) ⟨Nat.le_of_ble_eq_true rfl, Nat.le_of_ble_eq_true rfl⟩) ⟨fun a U g mk q => ⟨q.1, s_pc rfl rfl q.2⟩, s_recv hK hP (hLK _ h10 (by decide)) (ci := 5) rfl o74, fun U hU hW => ⟨rfl, s_pw hU hW hP hK hD hN⟩⟩ rfl rfl hl.1 rfl (lv_room (Nat.le_of_ble_eq_true rfl)) dX1_moveTop_106 ⟨Nat.zero_le _, Nat.zero_le _⟩) hS (fun q _ h => h) (fun q h => h) (fun F75 t H1 locs ht hvm hw hB hz1 hk1 hS => ?_)
          obtain ⟨hP, hK1⟩ := hB
          rw [ht] at hP
          generalize H1 = H at hP hS ⊢
          obtain ⟨h76, h77, hI, hfr1⟩ := hw
          have o78 : F75 a0 = .inr (1, [.ref z1, .ref z3, .ref z5, .ref z7, .ref z9, .ref z11, .int z13, .int z15, .int z16, .int z17, .int z19, .long z20]) := (hfr1 _ (by rw [ha0]; decide)).trans o31
          have o79 : F75 z5 = .inr (2, [.ref z43, .ref z45, .ref z47, .int z49, .int z51, .int z53, .int z54]) := (hfr1 _ (by rw [h6]; decide)).trans o55
          have hfr : ∀ b, K b ∉ [6, 32] → F75 b = F b := fun b hb9 => (hfr1 b (fun q => hb9 (s_sub (by decide) q))).trans (hfr b hb9)
          exact K109 _ _ _ ⟨F75, _, rfl, lv_sub hl [1] rfl, hI, hP, hS, hfr, ⟨z1, z3, z5, z7, z9, z11, z13, z15, z16, z17, z19, z20, o78, h2, h4, h6, h8, h10, h12, ⟨by omega, by omega⟩, ⟨by omega, by omega⟩, trivial⟩⟩
        · have c33 := Int32.toInt_inj.symm.mp c33
          refine lv_aload_n hx hb dX1_moveTop_59 rfl (lv_at hl 1 rfl) ?_
          refine th_get (D := (dC, dI)) (ci := 1) (v := .ref z9) (C := RX1) (T := TX1) (N := 12) hx hb hts inX1 hown hK hP (hLK _ ha0 (by decide)) o31 rfl 4 (by decide) (hts _ T_111) (fun _ h9 => h9) rfl dX1_moveTop_60 ?_
          refine lv_aload_n hx hb dX1_moveTop_63 rfl (lv_at hl 1 rfl) ?_
          refine th_get (D := (dC, dI)) (ci := 1) (v := .ref z11) (C := RX1) (T := TX1) (N := 12) hx hb hts inX1 hown hK hP (hLK _ ha0 (by decide)) o31 rfl 5 (by decide) (hts _ T_118) (fun _ h9 => h9) rfl dX1_moveTop_64 ?_
          refine lv_iconst (v := 4) hx hb dX1_moveTop_67 (by decide) ?_
          obtain ⟨f80, o81, h82⟩ := s_op23 hI h12
          refine th_iald hx hb hK hP (hLK _ h12 (by decide)) 0 o81 rfl (ax_in (by decide)) dX1_moveTop_68 ?_
          refine lv_topi (fun v83 ev83 => ?_)
          obtain ⟨z84, z86, z88, z90, z92, z94, z96, z97, z98, z99, z100, o102, h85, h87, h89, h91, h93, h95, h101, -⟩ := s_op6 hI h10
          refine va_callv (va_runV (As := [.int v83]) (rest := []) ⟨hx, hb, hml, hown, hts⟩ (s_X5_moveTop l dC dI H.size hLK D F28 z9 v83 h10 hI) (cwV 1 hts (ax_gV T_151 T_17 T_18 T_11 T_15) rfl rfl rfl (by decide +kernel) ⟨Nat.le_of_ble_eq_true rfl, Nat.le_of_ble_eq_true rfl⟩) ⟨fun a U g mk q => ⟨q.1, s_pc rfl rfl q.2⟩, s_recv hK hP (hLK _ h10 (by decide)) (ci := 5) rfl o102, fun U hU hW => ⟨rfl, s_pw hU hW hP hK hD hN⟩⟩ rfl rfl hl.1 rfl (lv_room (Nat.le_of_ble_eq_true rfl)) dX1_moveTop_69 ⟨Nat.zero_le _, Nat.zero_le _⟩) hS (fun q _ h => h) (fun q h => h) (fun F103 t H1 locs ht hvm hw hB hz1 hk1 hS => ?_)
          obtain ⟨hP, hK1⟩ := hB
          rw [ht] at hP
          generalize H1 = H at hP hS ⊢
          obtain ⟨h104, h105, hI, hfr1⟩ := hw
          have o106 : F103 a0 = .inr (1, [.ref z1, .ref z3, .ref z5, .ref z7, .ref z9, .ref z11, .int z13, .int z15, .int z16, .int z17, .int z19, .long z20]) := (hfr1 _ (by rw [ha0]; decide)).trans o31
          have o107 : F103 z9 = .inr (5, [.ref z84, .ref z86, .ref z88, .ref z90, .ref z92, .int z94, .int z96, .int z97, .int z98, .int z99, .int z100]) := (hfr1 _ (by rw [h10]; decide)).trans o102
          have hfr : ∀ b, K b ∉ [6, 32] → F103 b = F b := fun b hb9 => (hfr1 b (fun q => hb9 (s_sub (by decide) q))).trans (hfr b hb9)
          refine lv_goto (tgt := 109) hx hb dX1_moveTop_72 (by decide) ?_
          exact K109 _ _ _ ⟨F103, _, rfl, lv_sub hl [1] rfl, hI, hP, hS, hfr, ⟨z1, z3, z5, z7, z9, z11, z13, z15, z16, z17, z19, z20, o106, h2, h4, h6, h8, h10, h12, ⟨by omega, by omega⟩, ⟨by omega, by omega⟩, trivial⟩⟩
      · have c32 := (ax_eq (n := 0) (by decide)).mp c32
        refine lv_aload_n hx hb dX1_moveTop_37 rfl (lv_at hl 1 rfl) ?_
        refine th_get (D := (dC, dI)) (ci := 1) (v := .ref z9) (C := RX1) (T := TX1) (N := 12) hx hb hts inX1 hown hK hP (hLK _ ha0 (by decide)) o31 rfl 4 (by decide) (hts _ T_111) (fun _ h9 => h9) rfl dX1_moveTop_38 ?_
        refine lv_aload_n hx hb dX1_moveTop_41 rfl (lv_at hl 1 rfl) ?_
        refine va_calli (va_runV (As := []) (rest := [.ref z9]) ⟨hx, hb, hml, hown, hts⟩ (s_X1_lineBehind l dC dI H.size hLK D F28 a0 ha0 hI ⟨z1, z3, z5, z7, z9, z11, z13, z15, z16, z17, z19, z20, o31, h2, h4, h6, h8, h10, h12, ⟨by omega, by omega⟩, ⟨by omega, by omega⟩, trivial⟩) (cwV 0 hts (ax_gV T_153 T_154 T_155 T_100 T_152) rfl rfl rfl (by decide +kernel) ⟨Nat.le_of_ble_eq_true rfl, Nat.le_of_ble_eq_true rfl⟩) ⟨fun a U g mk q => ⟨q.1, s_pc rfl rfl q.2⟩, s_recv hK hP (hLK _ ha0 (by decide)) (ci := 1) rfl o31, fun U hU hW => ⟨rfl, s_pw hU hW hP hK hD hN⟩⟩ rfl rfl hl.1 rfl (lv_room (Nat.le_of_ble_eq_true rfl)) dX1_moveTop_42 ⟨Nat.zero_le _, Nat.zero_le _⟩) hS (fun q _ h => h) (fun q h => h) (fun r108 F109 t H1 locs ht hvm hw hB hz1 hk1 hS => ?_)
        obtain ⟨hP, hK1⟩ := hB
        rw [ht] at hP
        generalize H1 = H at hP hS ⊢
        obtain ⟨h110, h111, hI, hfr1⟩ := hw
        have o112 : F109 a0 = .inr (1, [.ref z1, .ref z3, .ref z5, .ref z7, .ref z9, .ref z11, .int z13, .int z15, .int z16, .int z17, .int z19, .long z20]) := (hfr1 _ (by rw [ha0]; decide)).trans o31
        have hfr : ∀ b, K b ∉ [6, 32] → F109 b = F b := fun b hb9 => (hfr1 b (fun q => hb9 (s_sub (by decide) q))).trans (hfr b hb9)
        obtain ⟨z113, z115, z117, z119, z121, z123, z125, z126, z127, z128, z129, o131, h114, h116, h118, h120, h122, h124, h130, -⟩ := s_op6 hI h10
        refine va_callv (va_runV (As := [.int r108]) (rest := []) ⟨hx, hb, hml, hown, hts⟩ (s_X5_moveTop l dC dI H.size hLK D F109 z9 r108 h10 hI) (cwV 1 hts (ax_gV T_151 T_17 T_18 T_11 T_15) rfl rfl rfl (by decide +kernel) ⟨Nat.le_of_ble_eq_true rfl, Nat.le_of_ble_eq_true rfl⟩) ⟨fun a U g mk q => ⟨q.1, s_pc rfl rfl q.2⟩, s_recv hK hP (hLK _ h10 (by decide)) (ci := 5) rfl o131, fun U hU hW => ⟨rfl, s_pw hU hW hP hK hD hN⟩⟩ rfl rfl hl.1 rfl (lv_room (Nat.le_of_ble_eq_true rfl)) dX1_moveTop_45 ⟨Nat.zero_le _, Nat.zero_le _⟩) hS (fun q _ h => h) (fun q h => h) (fun F132 t H1 locs ht hvm hw hB hz1 hk1 hS => ?_)
        obtain ⟨hP, hK1⟩ := hB
        rw [ht] at hP
        generalize H1 = H at hP hS ⊢
        obtain ⟨h133, h134, hI, hfr1⟩ := hw
        have o135 : F132 a0 = .inr (1, [.ref z1, .ref z3, .ref z5, .ref z7, .ref z9, .ref z11, .int z13, .int z15, .int z16, .int z17, .int z19, .long z20]) := (hfr1 _ (by rw [ha0]; decide)).trans o112
        have o136 : F132 z9 = .inr (5, [.ref z113, .ref z115, .ref z117, .ref z119, .ref z121, .int z123, .int z125, .int z126, .int z127, .int z128, .int z129]) := (hfr1 _ (by rw [h10]; decide)).trans o131
        have hfr : ∀ b, K b ∉ [6, 32] → F132 b = F b := fun b hb9 => (hfr1 b (fun q => hb9 (s_sub (by decide) q))).trans (hfr b hb9)
        refine lv_goto (tgt := 109) hx hb dX1_moveTop_48 (by decide) ?_
        exact K109 _ _ _ ⟨F132, _, rfl, lv_sub hl [1] rfl, hI, hP, hS, hfr, ⟨z1, z3, z5, z7, z9, z11, z13, z15, z16, z17, z19, z20, o135, h2, h4, h6, h8, h10, h12, ⟨by omega, by omega⟩, ⟨by omega, by omega⟩, trivial⟩⟩
    · have c26 := (ax_eq (n := 13) (by decide)).mp c26
      refine lv_aload_n hx hb dX1_moveTop_11 rfl (lv_at hl 0 rfl) ?_
      refine th_get (D := (dC, dI)) (ci := 1) (v := .ref z9) (C := RX1) (T := TX1) (N := 12) hx hb hts inX1 hown hK hP (hLK _ ha0 (by decide)) o21 rfl 4 (by decide) (hts _ T_111) (fun _ h9 => h9) rfl dX1_moveTop_12 ?_
      refine lv_dup hx hb dX1_moveTop_15 rfl ?_
      obtain ⟨z137, z139, z141, z143, z145, z147, z149, z150, z151, z152, z153, o155, h138, h140, h142, h144, h146, h148, h154, -⟩ := s_op6 hI h10
      refine th_getN (D := (dC, dI)) (ci := 5) (v := .int z150) (C := RX5) (T := TX5) (N := 11) hx hb hts inX5 hown hK hP (hLK _ h10 (by decide)) o155 rfl 7 (by decide) (va_Nw.use rfl hN.2.2.2.2.2.2.2.2.2.2.2.2.2.2.2.2.2.2.2.2.2.2.2.2.1) (fun _ h9 => h9) rfl dX1_moveTop_16 ?_
      refine lv_aload_n hx hb dX1_moveTop_19 rfl (lv_at hl 0 rfl) ?_
      refine th_get (D := (dC, dI)) (ci := 1) (v := .int z16) (C := RX1) (T := TX1) (N := 12) hx hb hts inX1 hown hK hP (hLK _ ha0 (by decide)) o21 rfl 8 (by decide) (hts _ T_97) (fun _ h9 => h9) rfl dX1_moveTop_20 ?_
      refine lv_ior hx hb dX1_moveTop_23 ?_
      refine lv_topi (fun v156 ev156 => ?_)
      refine th_putN (D := (dC, dI)) (ci := 5) (v := .int v156) (ty := .int) (C := RX5) (T := TX5) (N := 11) hx hb hts inX5 tyX5 tyX5_ok nmX5 hown hK hP hD hS (hLK _ h10 (by decide)) o155 rfl 7 (by decide) (va_Nw.use rfl hN.2.2.2.2.2.2.2.2.2.2.2.2.2.2.2.2.2.2.2.2.2.2.2.2.1) (fun _ h9 => h9) rfl (by decide +kernel) rfl rfl (Nat.le_of_ble_eq_true rfl) dX1_moveTop_24 (fun H locs hP hS => ?_)
      have hP : va_P (dC, dI) vwCl (va_pl L (va_up F z9 (.inr (5, [.ref z137, .ref z139, .ref z141, .ref z143, .ref z145, .int z147, .int z149, .int v156, .int z151, .int z152, .int z153])))) H := hP
      obtain ⟨F157, hF158⟩ : ∃ G : Nat → va_E, G = va_up F z9 (.inr (5, [.ref z137, .ref z139, .ref z141, .ref z143, .ref z145, .int z147, .int z149, .int v156, .int z151, .int z152, .int z153])) := ⟨_, rfl⟩
      rw [← hF158] at hP
      have hI : s_I K cs D F157 := by rw [hF158]; exact s_cl6 hI h10 ⟨z137, z139, z141, z143, z145, z147, z149, v156, z151, z152, z153, rfl, h138, h140, h142, h144, h146, ⟨by omega, by omega⟩, ⟨by omega, by omega⟩, trivial⟩
      have hfr : ∀ b, K b ∉ [6, 32] → F157 b = F b := by rw [hF158]; exact s_fr hfr h10 (by decide)
      have o159 : F157 a0 = .inr (1, [.ref z1, .ref z3, .ref z5, .ref z7, .ref z9, .ref z11, .int z13, .int z15, .int z16, .int z17, .int z19, .long z20]) := by rw [hF158]; exact th_ne (th_kd ha0 h10 (by decide)) o21
      have o160 : F157 z9 = .inr (5, [.ref z137, .ref z139, .ref z141, .ref z143, .ref z145, .int z147, .int z149, .int v156, .int z151, .int z152, .int z153]) := by rw [hF158]; exact th_up
      exact W.vret hx hb hr (fun t ht hW => ⟨⟨F157, rfl, ⟨trivial, trivial, hI, hfr⟩, by rw [ht]; exact hP, va_K.moved hW.alike hK⟩, hS.F ht⟩) hS.2.2 dX1_moveTop_27
  · intro g H locs hq
    obtain ⟨F9, ls, rfl, hl, hI, hP, hS, hfr, h161⟩ := hq
    obtain ⟨z162, z164, z166, z168, z170, z172, z174, z176, z177, z178, z180, z181, o182, h163, h165, h167, h169, h171, h173, h175, h179, -⟩ := h161
    refine lv_aload_n hx hb dX1_moveTop_109 rfl (lv_at hl 0 rfl) ?_
    refine th_get (D := (dC, dI)) (ci := 1) (v := .ref z172) (C := RX1) (T := TX1) (N := 12) hx hb hts inX1 hown hK hP (hLK _ ha0 (by decide)) o182 rfl 5 (by decide) (hts _ T_118) (fun _ h9 => h9) rfl dX1_moveTop_110 ?_
    refine lv_iconst (v := 0) hx hb dX1_moveTop_113 (by decide) ?_
    obtain ⟨f183, o184, h185⟩ := s_op23 hI h173
    refine th_iald hx hb hK hP (hLK _ h173 (by decide)) 0 o184 rfl (ax_in (by decide)) dX1_moveTop_114 ?_
    refine lv_topi (fun v186 ev186 => ?_)
    refine lv_bipush (v := 14) hx hb dX1_moveTop_115 (by decide) ?_
    refine lv_icmp_ne (tgt := 127) hx hb dX1_moveTop_117 (by decide) (fun c187 => ?_) (fun c187 => ?_)
    · have c187 := mt (ax_eq (n := 14) (by decide)).mpr c187
      exact K127 _ _ _ ⟨F9, _, rfl, lv_sub hl [0] rfl, hI, hP, hS, hfr, ⟨z162, z164, z166, z168, z170, z172, z174, z176, z177, z178, z180, z181, o182, h163, h165, h167, h169, h171, h173, ⟨by omega, by omega⟩, ⟨by omega, by omega⟩, trivial⟩⟩
    · have c187 := (ax_eq (n := 14) (by decide)).mp c187
      refine lv_aload_n hx hb dX1_moveTop_120 rfl (lv_at hl 0 rfl) ?_
      refine th_get (D := (dC, dI)) (ci := 1) (v := .ref z170) (C := RX1) (T := TX1) (N := 12) hx hb hts inX1 hown hK hP (hLK _ ha0 (by decide)) o182 rfl 4 (by decide) (hts _ T_111) (fun _ h9 => h9) rfl dX1_moveTop_121 ?_
      obtain ⟨z188, z190, z192, z194, z196, z198, z200, z201, z202, z203, z204, o206, h189, h191, h193, h195, h197, h199, h205, -⟩ := s_op6 hI h171
      refine va_callv (va_runV (As := []) (rest := []) ⟨hx, hb, hml, hown, hts⟩ (s_X5_yieldTop l dC dI H.size hLK D F9 z170 h171 hI) (cwV 0 hts (ax_gV T_157 T_158 T_159 T_11 T_156) rfl rfl rfl (by decide +kernel) ⟨Nat.le_of_ble_eq_true rfl, Nat.le_of_ble_eq_true rfl⟩) ⟨fun a U g mk q => ⟨q.1, s_pc rfl rfl q.2⟩, s_recv hK hP (hLK _ h171 (by decide)) (ci := 5) rfl o206, fun U hU hW => ⟨rfl, s_pw hU hW hP hK hD hN⟩⟩ rfl rfl hl.1 rfl (lv_room (Nat.le_of_ble_eq_true rfl)) dX1_moveTop_124 ⟨Nat.zero_le _, Nat.zero_le _⟩) hS (fun q _ h => h) (fun q h => h) (fun F207 t H1 locs ht hvm hw hB hz1 hk1 hS => ?_)
      obtain ⟨hP, hK1⟩ := hB
      rw [ht] at hP
      generalize H1 = H at hP hS ⊢
      obtain ⟨h208, h209, hI, hfr1⟩ := hw
      have o210 : F207 a0 = .inr (1, [.ref z162, .ref z164, .ref z166, .ref z168, .ref z170, .ref z172, .int z174, .int z176, .int z177, .int z178, .int z180, .long z181]) := (hfr1 _ (by rw [ha0]; decide)).trans o182
      have o211 : F207 z170 = .inr (5, [.ref z188, .ref z190, .ref z192, .ref z194, .ref z196, .int z198, .int z200, .int z201, .int z202, .int z203, .int z204]) := (hfr1 _ (by rw [h171]; decide)).trans o206
      have hfr : ∀ b, K b ∉ [6, 32] → F207 b = F b := fun b hb9 => (hfr1 b (fun q => hb9 (s_sub (by decide) q))).trans (hfr b hb9)
      exact K127 _ _ _ ⟨F207, _, rfl, lv_sub hl [0] rfl, hI, hP, hS, hfr, ⟨z162, z164, z166, z168, z170, z172, z174, z176, z177, z178, z180, z181, o210, h163, h165, h167, h169, h171, h173, ⟨by omega, by omega⟩, ⟨by omega, by omega⟩, trivial⟩⟩
  · intro g H locs hq
    obtain ⟨F9, ls, rfl, hl, hI, hP, hS, hfr, h212⟩ := hq
    obtain ⟨z213, z215, z217, z219, z221, z223, z225, z227, z228, z229, z231, z232, o233, h214, h216, h218, h220, h222, h224, h226, h230, -⟩ := h212
    refine lv_aload_n hx hb dX1_moveTop_127 rfl (lv_at hl 0 rfl) ?_
    refine th_get (D := (dC, dI)) (ci := 1) (v := .ref z221) (C := RX1) (T := TX1) (N := 12) hx hb hts inX1 hown hK hP (hLK _ ha0 (by decide)) o233 rfl 4 (by decide) (hts _ T_111) (fun _ h9 => h9) rfl dX1_moveTop_128 ?_
    refine lv_aload_n hx hb dX1_moveTop_131 rfl (lv_at hl 0 rfl) ?_
    refine th_get (D := (dC, dI)) (ci := 1) (v := .ref z217) (C := RX1) (T := TX1) (N := 12) hx hb hts inX1 hown hK hP (hLK _ ha0 (by decide)) o233 rfl 2 (by decide) (hts _ T_96) (fun _ h9 => h9) rfl dX1_moveTop_132 ?_
    obtain ⟨z234, z236, z238, z240, z242, z244, z245, o246, h235, h237, h239, h241, h243, -⟩ := s_op3 hI h218
    refine th_getN (D := (dC, dI)) (ci := 2) (v := .int z240) (C := RX2) (T := TX2) (N := 7) hx hb hts inX2 hown hK hP (hLK _ h218 (by decide)) o246 rfl 3 (by decide) (va_Nw.use rfl hN.2.2.2.2.2.2.2.2.2.2.2.2.2.2.2.2.2.2.2.2.2.2.2.1) (fun _ h9 => h9) rfl dX1_moveTop_135 ?_
    obtain ⟨z247, z249, z251, z253, z255, z257, z259, z260, z261, z262, z263, o265, h248, h250, h252, h254, h256, h258, h264, -⟩ := s_op6 hI h222
    refine va_callv (va_runV (As := [.int z240]) (rest := []) ⟨hx, hb, hml, hown, hts⟩ (s_X5_settle l dC dI H.size hLK D F9 z221 z240 h222 hI) (cwV 1 hts (ax_gV T_160 T_21 T_22 T_11 T_19) rfl rfl rfl (by decide +kernel) ⟨Nat.le_of_ble_eq_true rfl, Nat.le_of_ble_eq_true rfl⟩) ⟨fun a U g mk q => ⟨q.1, s_pc rfl rfl q.2⟩, s_recv hK hP (hLK _ h222 (by decide)) (ci := 5) rfl o265, fun U hU hW => ⟨rfl, s_pw hU hW hP hK hD hN⟩⟩ rfl rfl hl.1 rfl (lv_room (Nat.le_of_ble_eq_true rfl)) dX1_moveTop_138 ⟨Nat.zero_le _, Nat.zero_le _⟩) hS (fun q _ h => h) (fun q h => h) (fun F266 t H1 locs ht hvm hw hB hz1 hk1 hS => ?_)
    obtain ⟨hP, hK1⟩ := hB
    rw [ht] at hP
    generalize H1 = H at hP hS ⊢
    obtain ⟨h267, h268, hI, hfr1⟩ := hw
    have o269 : F266 a0 = .inr (1, [.ref z213, .ref z215, .ref z217, .ref z219, .ref z221, .ref z223, .int z225, .int z227, .int z228, .int z229, .int z231, .long z232]) := (hfr1 _ (by rw [ha0]; decide)).trans o233
    have o270 : F266 z217 = .inr (2, [.ref z234, .ref z236, .ref z238, .int z240, .int z242, .int z244, .int z245]) := (hfr1 _ (by rw [h218]; decide)).trans o246
    have hfr : ∀ b, K b ∉ [6, 32] → F266 b = F b := fun b hb9 => (hfr1 b (fun q => hb9 (s_sub (by decide) q))).trans (hfr b hb9)
    exact W.vret hx hb hr (fun t ht hW => ⟨⟨F266, rfl, ⟨trivial, trivial, hI, hfr⟩, by rw [ht]; exact hP, va_K.moved hW.alike hK⟩, hS.F ht⟩) hS.2.2 dX1_moveTop_141

set_option maxHeartbeats 4000000 in
set_option maxRecDepth 100000 in
theorem s_X1_moveEach (l : Launch) (dC : Nat → ClassId) (dI : Nat → Nat → Nat) (sz : Nat) {L : List Nat} {K : Nat → Nat} {cs : Nat → ClassId} (hLK : ∀ a {k : Nat}, K a = k → k ≠ 0 → a ∈ L) (D : Nat) (F : Nat → va_E) (a0 : Nat) (ha0 : K a0 = 2) (hI : s_I K cs D F) (hR : s_rd3 K F a0) : Met l yX1_moveEach (Cond.code yX1_moveEach cX1_moveEach 4 none :: T0) ({ frames := 3, cells := 0, slots := 0, locals := 67 }) (va_Pc [.ref a0] (s_W dC dI sz L F [(cs 0, .int), (cs 1, .byte), (cs 2, .long), (cs 3, .object RX5), (cs 4, .object RX4), (cs 5, .array .int), (cs 6, .char), (cs 7, .boolean)])) (va_Qv (fun (G : Nat → va_E) => True ∧ True ∧ s_I K cs D G ∧ ∀ b, K b ∉ [6, 31] → G b = F b) (fun (G : Nat → va_E) (t : State) => va_P (dC, dI) vwCl (va_pl L G) t.heap ∧ va_K (dC, dI) vwCl [(cs 0, .int), (cs 1, .byte), (cs 2, .long), (cs 3, .object RX5), (cs 4, .object RX4), (cs 5, .array .int), (cs 6, .char), (cs 7, .boolean)] t) (fun q => q ∈ L)) 0 0 (fun q => q ∈ L) := by
  refine Met.ofW (cc := cX1_moveEach) (maxL := 4) (ret := none) (by decide) rfl ?_
  intro p e s m args below meth c s₁ B hml hv
  obtain ⟨rfl, hsz, hP, hK, hD, hN⟩ := hv
  have hx := B.exec
  have hb := B.bytes
  have hr := B.returns
  have hts : ∀ w ∈ T0, w.before _ s = true := fun w h => atoms_spec (ws := Cond.code yX1_moveEach cX1_moveEach 4 none :: T0) B.pre w (List.mem_cons_of_mem _ h)
  have hown : s.vm.findClass RX1 = some m.cls := findClass_of_methodNamed B.named
  have hlocks := B.notSynchronized
  have hS : va_S (fun q => q ∈ L) s.heap s.heap [] := va_S.rf
  have hfr : ∀ b, K b ∉ [6, 31] → F b = F b := fun _ _ => rfl
  have hl := lv_entry ([.ref a0]) (n := 4) (Nat.le_of_ble_eq_true rfl)
  rw [lg_entry_eq]
  generalize (lg_sl ([.ref a0]) ++ List.replicate (4 - (lg_sl ([.ref a0])).length) Slot.unset).toArray = ls at hl ⊢
  have hl : lv_has ls 4 [(0, .ref a0)] := hl
  refine s_gen hP hS (fun H locs hP hS => ?_)
  obtain ⟨z1, z3, z5, z7, z9, z11, z13, z15, z16, z17, z19, z20, o21, h2, h4, h6, h8, h10, h12, h14, h18, -⟩ := hR
  refine lv_aload_n hx hb dX1_moveEach_0 rfl (lv_at hl 0 rfl) ?_
  refine th_get (D := (dC, dI)) (ci := 1) (v := .ref z9) (C := RX1) (T := TX1) (N := 12) hx hb hts inX1 hown hK hP (hLK _ ha0 (by decide)) o21 rfl 4 (by decide) (hts _ T_111) (fun _ h9 => h9) rfl dX1_moveEach_1 ?_
  refine lv_aload_n hx hb dX1_moveEach_4 rfl (lv_at hl 0 rfl) ?_
  refine th_get (D := (dC, dI)) (ci := 1) (v := .int z17) (C := RX1) (T := TX1) (N := 12) hx hb hts inX1 hown hK hP (hLK _ ha0 (by decide)) o21 rfl 9 (by decide) (hts _ T_113) (fun _ h9 => h9) rfl dX1_moveEach_5 ?_
  refine lv_iconst (v := 1) hx hb dX1_moveEach_8 (by decide) ?_
  refine lv_iadd hx hb dX1_moveEach_9 ?_
  refine lv_topi (fun v22 ev22 => ?_)
  have qv22 : v22.toInt = z17.toInt + 1 := by rw [ev22]; exact th_add rfl (by decide) ⟨by omega, by omega⟩
  refine lv_bipush (v := 8) hx hb dX1_moveEach_10 (by decide) ?_
  refine lv_irem hx hb dX1_moveEach_12 (by decide) ?_
  refine lv_topi (fun v23 ev23 => ?_)
  have qv23 : v23.toInt = v22.toInt % 8 := by rw [ev23]; exact th_rem rfl (by decide) (by omega) (by decide)
  obtain ⟨z24, z26, z28, z30, z32, z34, z36, z37, z38, z39, z40, o42, h25, h27, h29, h31, h33, h35, h41, -⟩ := s_op6 hI h10
  refine th_putN (D := (dC, dI)) (ci := 5) (v := .int v23) (ty := .int) (C := RX5) (T := TX5) (N := 11) hx hb hts inX5 tyX5 tyX5_ok nmX5 hown hK hP hD hS (hLK _ h10 (by decide)) o42 rfl 10 (by decide) (va_Nw.use rfl hN.2.2.2.2.2.2.2.2.2.2.2.2.2.1) (fun _ h9 => h9) rfl (by decide +kernel) rfl rfl (Nat.le_of_ble_eq_true rfl) dX1_moveEach_13 (fun H locs hP hS => ?_)
  have hP : va_P (dC, dI) vwCl (va_pl L (va_up F z9 (.inr (5, [.ref z24, .ref z26, .ref z28, .ref z30, .ref z32, .int z34, .int z36, .int z37, .int z38, .int z39, .int v23])))) H := hP
  obtain ⟨F43, hF44⟩ : ∃ G : Nat → va_E, G = va_up F z9 (.inr (5, [.ref z24, .ref z26, .ref z28, .ref z30, .ref z32, .int z34, .int z36, .int z37, .int z38, .int z39, .int v23])) := ⟨_, rfl⟩
  rw [← hF44] at hP
  have hI : s_I K cs D F43 := by rw [hF44]; exact s_cl6 hI h10 ⟨z24, z26, z28, z30, z32, z34, z36, z37, z38, z39, v23, rfl, h25, h27, h29, h31, h33, ⟨by omega, by omega⟩, ⟨by omega, by omega⟩, trivial⟩
  have hfr : ∀ b, K b ∉ [6, 31] → F43 b = F b := by rw [hF44]; exact s_fr hfr h10 (by decide)
  have o45 : F43 a0 = .inr (1, [.ref z1, .ref z3, .ref z5, .ref z7, .ref z9, .ref z11, .int z13, .int z15, .int z16, .int z17, .int z19, .long z20]) := by rw [hF44]; exact th_ne (th_kd ha0 h10 (by decide)) o21
  have o46 : F43 z9 = .inr (5, [.ref z24, .ref z26, .ref z28, .ref z30, .ref z32, .int z34, .int z36, .int z37, .int z38, .int z39, .int v23]) := by rw [hF44]; exact th_up
  refine lv_aload_n hx hb dX1_moveEach_16 rfl (lv_at hl 0 rfl) ?_
  refine th_get (D := (dC, dI)) (ci := 1) (v := .ref z11) (C := RX1) (T := TX1) (N := 12) hx hb hts inX1 hown hK hP (hLK _ ha0 (by decide)) o45 rfl 5 (by decide) (hts _ T_118) (fun _ h9 => h9) rfl dX1_moveEach_17 ?_
  refine lv_iconst (v := 0) hx hb dX1_moveEach_20 (by decide) ?_
  obtain ⟨f47, o48, h49⟩ := s_op23 hI h12
  refine th_iald hx hb hK hP (hLK _ h12 (by decide)) 0 o48 rfl (ax_in (by decide)) dX1_moveEach_21 ?_
  refine lv_topi (fun v50 ev50 => ?_)
  refine lv_bipush (v := 13) hx hb dX1_moveEach_22 (by decide) ?_
  refine lv_icmp_ne (tgt := 44) hx hb dX1_moveEach_24 (by decide) (fun c51 => ?_) (fun c51 => ?_)
  · have c51 := mt (ax_eq (n := 13) (by decide)).mpr c51
    refine lv_aload_n hx hb dX1_moveEach_44 rfl (lv_at hl 0 rfl) ?_
    refine va_calli (va_runV (As := []) (rest := []) ⟨hx, hb, hml, hown, hts⟩ (s_X1_goers l dC dI H.size hLK D F43 a0 ha0 hI ⟨z1, z3, z5, z7, z9, z11, z13, z15, z16, z17, z19, z20, o45, h2, h4, h6, h8, h10, h12, ⟨by omega, by omega⟩, ⟨by omega, by omega⟩, trivial⟩) (cwV 0 hts (ax_gV T_144 T_145 T_146 T_100 T_143) rfl rfl rfl (by decide +kernel) ⟨Nat.le_of_ble_eq_true rfl, Nat.le_of_ble_eq_true rfl⟩) ⟨fun a U g mk q => ⟨q.1, s_pc rfl rfl q.2⟩, s_recv hK hP (hLK _ ha0 (by decide)) (ci := 1) rfl o45, fun U hU hW => ⟨rfl, s_pw hU hW hP hK hD hN⟩⟩ rfl rfl hl.1 rfl (lv_room (Nat.le_of_ble_eq_true rfl)) dX1_moveEach_45 ⟨Nat.zero_le _, Nat.zero_le _⟩) hS (fun q _ h => h) (fun q h => h) (fun r52 F53 t H1 locs ht hvm hw hB hz1 hk1 hS => ?_)
    obtain ⟨hP, hK1⟩ := hB
    rw [ht] at hP
    generalize H1 = H at hP hS ⊢
    obtain ⟨h54, h55, hI, hfr1⟩ := hw
    have o56 : F53 a0 = .inr (1, [.ref z1, .ref z3, .ref z5, .ref z7, .ref z9, .ref z11, .int z13, .int z15, .int z16, .int z17, .int z19, .long z20]) := (hfr1 _ (by rw [ha0]; decide)).trans o45
    have o57 : F53 z9 = .inr (5, [.ref z24, .ref z26, .ref z28, .ref z30, .ref z32, .int z34, .int z36, .int z37, .int z38, .int z39, .int v23]) := (hfr1 _ (by rw [h10]; decide)).trans o46
    have hfr : ∀ b, K b ∉ [6, 31] → F53 b = F b := fun b hb9 => (hfr1 b (fun q => hb9 (s_sub (by decide) q))).trans (hfr b hb9)
    refine lv_istore_n (lv' := [(1, .int r52), (0, .ref a0)]) hx hb dX1_moveEach_48 rfl hl (by decide) rfl (fun ls hl => ?_)
    refine lv_iconst (v := 0) hx hb dX1_moveEach_49 (by decide) ?_
    refine lv_istore_n (lv' := [(2, .int 0), (1, .int r52), (0, .ref a0)]) hx hb dX1_moveEach_50 rfl hl (by decide) rfl (fun ls hl => ?_)
    refine th_loop (fun n g H locs => ∃ (G : Nat → va_E) (ls : Array Slot) (w58 : Int32), g = F0 m 51 ls [] ∧ lv_has ls 4 [(0, .ref a0), (1, .int r52), (2, .int w58)] ∧ s_I K cs D G ∧ va_P (dC, dI) vwCl (va_pl L G) H ∧ va_S (fun q => q ∈ L) s.heap H locs ∧ (∀ b, K b ∉ [6, 31] → G b = F b) ∧ (0 ≤ w58.toInt ∧ w58.toInt ≤ 8) ∧ s_rd3 K G a0 ∧ n = (9 - w58.toInt).toNat) _ ⟨F53, _, 0, rfl, lv_sub hl [2, 1, 0] rfl, hI, hP, hS, hfr, (by decide), ⟨z1, z3, z5, z7, z9, z11, z13, z15, z16, z17, z19, z20, o56, h2, h4, h6, h8, h10, h12, ⟨by omega, by omega⟩, ⟨by omega, by omega⟩, trivial⟩, rfl⟩ (fun n ih51 g H locs hq => ?_)
    obtain ⟨F9, ls, w58, rfl, hl, hI, hP, hS, hfr, h59, h60, hn⟩ := hq
    obtain ⟨z61, z63, z65, z67, z69, z71, z73, z75, z76, z77, z79, z80, o81, h62, h64, h66, h68, h70, h72, h74, h78, -⟩ := h60
    have hn_51 := hn
    obtain ⟨n_51, hn9_51⟩ : ∃ q, q = n := ⟨_, rfl⟩
    refine th_join (fun g H locs => ∃ (G : Nat → va_E) (ls : Array Slot), g = F0 m 111 ls [] ∧ lv_has ls 4 [(0, .ref a0), (1, .int r52), (2, .int w58)] ∧ s_I K cs D G ∧ va_P (dC, dI) vwCl (va_pl L G) H ∧ va_S (fun q => q ∈ L) s.heap H locs ∧ (∀ b, K b ∉ [6, 31] → G b = F b) ∧ (0 ≤ w58.toInt ∧ w58.toInt ≤ 7) ∧ s_rd3 K G a0) (fun K111 => ?_) ?_
    refine th_join (fun g H locs => ∃ (G : Nat → va_E) (ls : Array Slot) (w82 : Int32) (w83 : Int32) (w84 : Nat), g = F0 m 101 ls [.int w82, .int w83, .ref w84] ∧ lv_has ls 4 [(0, .ref a0), (1, .int r52), (2, .int w58)] ∧ s_I K cs D G ∧ va_P (dC, dI) vwCl (va_pl L G) H ∧ va_S (fun q => q ∈ L) s.heap H locs ∧ (∀ b, K b ∉ [6, 31] → G b = F b) ∧ True ∧ (0 ≤ w83.toInt ∧ w83.toInt ≤ 7) ∧ K w84 = 6 ∧ (0 ≤ w58.toInt ∧ w58.toInt ≤ 7) ∧ s_rd3 K G a0) (fun K101 => ?_) ?_
    refine th_join (fun g H locs => ∃ (G : Nat → va_E) (ls : Array Slot) (w85 : Int32), g = F0 m 78 ls [.int w85] ∧ lv_has ls 4 [(0, .ref a0), (1, .int r52), (2, .int w58)] ∧ s_I K cs D G ∧ va_P (dC, dI) vwCl (va_pl L G) H ∧ va_S (fun q => q ∈ L) s.heap H locs ∧ (∀ b, K b ∉ [6, 31] → G b = F b) ∧ (0 ≤ w85.toInt ∧ w85.toInt ≤ 1) ∧ (0 ≤ w58.toInt ∧ w58.toInt ≤ 7) ∧ s_rd3 K G a0) (fun K78 => ?_) ?_
    · refine lv_iload_n hx hb dX1_moveEach_51 rfl (lv_at hl 2 rfl) ?_
      refine lv_bipush (v := 8) hx hb dX1_moveEach_52 (by decide) ?_
      refine lv_icmp_ge (tgt := 117) hx hb dX1_moveEach_54 (by decide) (fun c86 => ?_) (fun c86 => ?_)
      · have c86 := (ax_ge (n := 8) (by decide)).mp c86
        exact W.vret hx hb hr (fun t ht hW => ⟨⟨F9, rfl, ⟨trivial, trivial, hI, hfr⟩, by rw [ht]; exact hP, va_K.moved hW.alike hK⟩, hS.F ht⟩) hS.2.2 dX1_moveEach_117
      · have c86 := mt (ax_ge (n := 8) (by decide)).mpr c86
        refine lv_aload_n hx hb dX1_moveEach_57 rfl (lv_at hl 0 rfl) ?_
        refine lv_iload_n hx hb dX1_moveEach_58 rfl (lv_at hl 2 rfl) ?_
        refine va_calli (va_runV (As := [.int w58]) (rest := []) ⟨hx, hb, hml, hown, hts⟩ (s_X1_goesNow l dC dI H.size hLK D F9 a0 w58 ha0 hI) (cwV 1 hts (ax_gV T_101 T_102 T_103 T_100 T_99) rfl rfl rfl (by decide +kernel) ⟨Nat.le_of_ble_eq_true rfl, Nat.le_of_ble_eq_true rfl⟩) ⟨fun a U g mk q => ⟨q.1, s_pc rfl rfl q.2⟩, s_recv hK hP (hLK _ ha0 (by decide)) (ci := 1) rfl o81, fun U hU hW => ⟨rfl, s_pw hU hW hP hK hD hN⟩⟩ rfl rfl hl.1 rfl (lv_room (Nat.le_of_ble_eq_true rfl)) dX1_moveEach_59 ⟨Nat.zero_le _, Nat.zero_le _⟩) hS (fun q _ h => h) (fun q h => h) (fun r87 F88 t H1 locs ht hvm hw hB hz1 hk1 hS => ?_)
        obtain ⟨hP, hK1⟩ := hB
        rw [ht] at hP
        generalize H1 = H at hP hS ⊢
        obtain ⟨h89, h90, hI, hfr1⟩ := hw
        have o91 : F88 a0 = .inr (1, [.ref z61, .ref z63, .ref z65, .ref z67, .ref z69, .ref z71, .int z73, .int z75, .int z76, .int z77, .int z79, .long z80]) := (hfr1 _ (by rw [ha0]; decide)).trans o81
        have hfr : ∀ b, K b ∉ [6, 31] → F88 b = F b := fun b hb9 => (hfr1 b (fun q => hb9 (s_sub (by decide) q))).trans (hfr b hb9)
        obtain ⟨h90, h92⟩ := h90
        have h92 : (∀ vs z, F9 a0 = .inr (1, vs) → vs[8]? = some (.int z) → (r87 = 0 ↔ (z >>> (w58 &&& 31) &&& 1) = 0)) := h92
        refine lv_if_eq (tgt := 111) hx hb dX1_moveEach_62 (by decide) (fun c93 => ?_) (fun c93 => ?_)
        · have c93 := (ax_eq (n := 0) (by decide)).mp c93
          exact K111 _ _ _ ⟨F88, _, rfl, lv_sub hl [0, 1, 2] rfl, hI, hP, hS, hfr, ⟨by omega, by omega⟩, ⟨z61, z63, z65, z67, z69, z71, z73, z75, z76, z77, z79, z80, o91, h62, h64, h66, h68, h70, h72, ⟨by omega, by omega⟩, ⟨by omega, by omega⟩, trivial⟩⟩
        · have c93 := mt (ax_eq (n := 0) (by decide)).mpr c93
          refine lv_iload_n hx hb dX1_moveEach_65 rfl (lv_at hl 1 rfl) ?_
          refine lv_iload_n hx hb dX1_moveEach_66 rfl (lv_at hl 2 rfl) ?_
          refine lv_ishr hx hb dX1_moveEach_67 ?_
          refine lv_topi (fun v94 ev94 => ?_)
          refine lv_iconst (v := 1) hx hb dX1_moveEach_68 (by decide) ?_
          refine lv_iand hx hb dX1_moveEach_69 ?_
          refine lv_topi (fun v95 ev95 => ?_)
          have qv95 : 0 ≤ v95.toInt ∧ v95.toInt ≤ 1 := by rw [ev95]; exact th_and 1 (by decide) (by decide)
          refine lv_if_eq (tgt := 77) hx hb dX1_moveEach_70 (by decide) (fun c96 => ?_) (fun c96 => ?_)
          · have c96 := (ax_eq (n := 0) (by decide)).mp c96
            refine lv_iconst (v := 0) hx hb dX1_moveEach_77 (by decide) ?_
            exact K78 _ _ _ ⟨F88, _, 0, rfl, lv_sub hl [0, 1, 2] rfl, hI, hP, hS, hfr, (by decide), ⟨by omega, by omega⟩, ⟨z61, z63, z65, z67, z69, z71, z73, z75, z76, z77, z79, z80, o91, h62, h64, h66, h68, h70, h72, ⟨by omega, by omega⟩, ⟨by omega, by omega⟩, trivial⟩⟩
          · have c96 := mt (ax_eq (n := 0) (by decide)).mpr c96
            refine lv_iconst (v := 1) hx hb dX1_moveEach_73 (by decide) ?_
            refine lv_goto (tgt := 78) hx hb dX1_moveEach_74 (by decide) ?_
            exact K78 _ _ _ ⟨F88, _, 1, rfl, lv_sub hl [0, 1, 2] rfl, hI, hP, hS, hfr, (by decide), ⟨by omega, by omega⟩, ⟨z61, z63, z65, z67, z69, z71, z73, z75, z76, z77, z79, z80, o91, h62, h64, h66, h68, h70, h72, ⟨by omega, by omega⟩, ⟨by omega, by omega⟩, trivial⟩⟩
    · intro g H locs hq
      obtain ⟨F9, ls, w85, rfl, hl, hI, hP, hS, hfr, h97, h98, h99⟩ := hq
      obtain ⟨z100, z102, z104, z106, z108, z110, z112, z114, z115, z116, z118, z119, o120, h101, h103, h105, h107, h109, h111, h113, h117, -⟩ := h99
      refine lv_istore_n (lv' := [(3, .int w85), (0, .ref a0), (1, .int r52), (2, .int w58)]) hx hb dX1_moveEach_78 rfl hl (by decide) rfl (fun ls hl => ?_)
      refine lv_aload_n hx hb dX1_moveEach_79 rfl (lv_at hl 1 rfl) ?_
      refine th_get (D := (dC, dI)) (ci := 1) (v := .ref z108) (C := RX1) (T := TX1) (N := 12) hx hb hts inX1 hown hK hP (hLK _ ha0 (by decide)) o120 rfl 4 (by decide) (hts _ T_111) (fun _ h9 => h9) rfl dX1_moveEach_80 ?_
      refine lv_iload_n hx hb dX1_moveEach_83 rfl (lv_at hl 3 rfl) ?_
      refine lv_iload_n hx hb dX1_moveEach_84 rfl (lv_at hl 0 rfl) ?_
      refine lv_if_eq (tgt := 97) hx hb dX1_moveEach_85 (by decide) (fun c121 => ?_) (fun c121 => ?_)
      · have c121 := (ax_eq (n := 0) (by decide)).mp c121
        refine lv_aload_n hx hb dX1_moveEach_97 rfl (lv_at hl 1 rfl) ?_
        refine va_calli (va_runV (As := []) (rest := [.int w58, .ref z108]) ⟨hx, hb, hml, hown, hts⟩ (s_X1_lineBehind l dC dI H.size hLK D F9 a0 ha0 hI ⟨z100, z102, z104, z106, z108, z110, z112, z114, z115, z116, z118, z119, o120, h101, h103, h105, h107, h109, h111, ⟨by omega, by omega⟩, ⟨by omega, by omega⟩, trivial⟩) (cwV 0 hts (ax_gV T_153 T_154 T_155 T_100 T_152) rfl rfl rfl (by decide +kernel) ⟨Nat.le_of_ble_eq_true rfl, Nat.le_of_ble_eq_true rfl⟩) ⟨fun a U g mk q => ⟨q.1, s_pc rfl rfl q.2⟩, s_recv hK hP (hLK _ ha0 (by decide)) (ci := 1) rfl o120, fun U hU hW => ⟨rfl, s_pw hU hW hP hK hD hN⟩⟩ rfl rfl hl.1 rfl (lv_room (Nat.le_of_ble_eq_true rfl)) dX1_moveEach_98 ⟨Nat.zero_le _, Nat.zero_le _⟩) hS (fun q _ h => h) (fun q h => h) (fun r122 F123 t H1 locs ht hvm hw hB hz1 hk1 hS => ?_)
        obtain ⟨hP, hK1⟩ := hB
        rw [ht] at hP
        generalize H1 = H at hP hS ⊢
        obtain ⟨h124, h125, hI, hfr1⟩ := hw
        have o126 : F123 a0 = .inr (1, [.ref z100, .ref z102, .ref z104, .ref z106, .ref z108, .ref z110, .int z112, .int z114, .int z115, .int z116, .int z118, .long z119]) := (hfr1 _ (by rw [ha0]; decide)).trans o120
        have hfr : ∀ b, K b ∉ [6, 31] → F123 b = F b := fun b hb9 => (hfr1 b (fun q => hb9 (s_sub (by decide) q))).trans (hfr b hb9)
        exact K101 _ _ _ ⟨F123, _, r122, w58, z108, rfl, lv_sub hl [1, 2, 3] rfl, hI, hP, hS, hfr, trivial, ⟨by omega, by omega⟩, h109, ⟨by omega, by omega⟩, ⟨z100, z102, z104, z106, z108, z110, z112, z114, z115, z116, z118, z119, o126, h101, h103, h105, h107, h109, h111, ⟨by omega, by omega⟩, ⟨by omega, by omega⟩, trivial⟩⟩
      · have c121 := mt (ax_eq (n := 0) (by decide)).mpr c121
        refine lv_aload_n hx hb dX1_moveEach_88 rfl (lv_at hl 1 rfl) ?_
        refine th_get (D := (dC, dI)) (ci := 1) (v := .ref z110) (C := RX1) (T := TX1) (N := 12) hx hb hts inX1 hown hK hP (hLK _ ha0 (by decide)) o120 rfl 5 (by decide) (hts _ T_118) (fun _ h9 => h9) rfl dX1_moveEach_89 ?_
        refine lv_iconst (v := 4) hx hb dX1_moveEach_92 (by decide) ?_
        obtain ⟨f127, o128, h129⟩ := s_op23 hI h111
        refine th_iald hx hb hK hP (hLK _ h111 (by decide)) 0 o128 rfl (ax_in (by decide)) dX1_moveEach_93 ?_
        refine lv_topi (fun v130 ev130 => ?_)
        refine lv_goto (tgt := 101) hx hb dX1_moveEach_94 (by decide) ?_
        exact K101 _ _ _ ⟨F9, _, v130, w58, z108, rfl, lv_sub hl [1, 2, 3] rfl, hI, hP, hS, hfr, trivial, ⟨by omega, by omega⟩, h109, ⟨by omega, by omega⟩, ⟨z100, z102, z104, z106, z108, z110, z112, z114, z115, z116, z118, z119, o120, h101, h103, h105, h107, h109, h111, ⟨by omega, by omega⟩, ⟨by omega, by omega⟩, trivial⟩⟩
    · intro g H locs hq
      obtain ⟨F9, ls, w82, w83, w84, rfl, hl, hI, hP, hS, hfr, h131, h132, h133, h134, h135⟩ := hq
      obtain ⟨z136, z138, z140, z142, z144, z146, z148, z150, z151, z152, z154, z155, o156, h137, h139, h141, h143, h145, h147, h149, h153, -⟩ := h135
      refine lv_aload_n hx hb dX1_moveEach_101 rfl (lv_at hl 0 rfl) ?_
      refine th_get (D := (dC, dI)) (ci := 1) (v := .ref z140) (C := RX1) (T := TX1) (N := 12) hx hb hts inX1 hown hK hP (hLK _ ha0 (by decide)) o156 rfl 2 (by decide) (hts _ T_96) (fun _ h9 => h9) rfl dX1_moveEach_102 ?_
      obtain ⟨z157, z159, z161, z163, z165, z167, z168, o169, h158, h160, h162, h164, h166, -⟩ := s_op3 hI h141
      refine th_getN (D := (dC, dI)) (ci := 2) (v := .int z163) (C := RX2) (T := TX2) (N := 7) hx hb hts inX2 hown hK hP (hLK _ h141 (by decide)) o169 rfl 3 (by decide) (va_Nw.use rfl hN.2.2.2.2.2.2.2.2.2.2.2.2.2.2.2.2.2.2.2.2.2.2.2.1) (fun _ h9 => h9) rfl dX1_moveEach_105 ?_
      obtain ⟨z170, z172, z174, z176, z178, z180, z182, z183, z184, z185, z186, o188, h171, h173, h175, h177, h179, h181, h187, -⟩ := s_op6 hI h133
      refine va_callv (va_runV (As := [.int w83, .int w82, .int z163]) (rest := []) ⟨hx, hb, hml, hown, hts⟩ (s_X5_moveLane l dC dI H.size hLK D F9 w84 w83 w82 z163 h133 (⟨by omega, by omega⟩) hI) (cwV 3 hts (ax_gV T_161 T_25 T_26 T_11 T_23) rfl rfl rfl (by decide +kernel) ⟨Nat.le_of_ble_eq_true rfl, Nat.le_of_ble_eq_true rfl⟩) ⟨fun a U g mk q => ⟨q.1, s_pc rfl rfl q.2⟩, s_recv hK hP (hLK _ h133 (by decide)) (ci := 5) rfl o188, fun U hU hW => ⟨rfl, s_pw hU hW hP hK hD hN⟩⟩ rfl rfl hl.1 rfl (lv_room (Nat.le_of_ble_eq_true rfl)) dX1_moveEach_108 ⟨Nat.zero_le _, Nat.zero_le _⟩) hS (fun q _ h => h) (fun q h => h) (fun F189 t H1 locs ht hvm hw hB hz1 hk1 hS => ?_)
      obtain ⟨hP, hK1⟩ := hB
      rw [ht] at hP
      generalize H1 = H at hP hS ⊢
      obtain ⟨h190, h191, hI, hfr1⟩ := hw
      have o192 : F189 a0 = .inr (1, [.ref z136, .ref z138, .ref z140, .ref z142, .ref z144, .ref z146, .int z148, .int z150, .int z151, .int z152, .int z154, .long z155]) := (hfr1 _ (by rw [ha0]; decide)).trans o156
      have o193 : F189 z140 = .inr (2, [.ref z157, .ref z159, .ref z161, .int z163, .int z165, .int z167, .int z168]) := (hfr1 _ (by rw [h141]; decide)).trans o169
      have hfr : ∀ b, K b ∉ [6, 31] → F189 b = F b := fun b hb9 => (hfr1 b (fun q => hb9 (s_sub (by decide) q))).trans (hfr b hb9)
      exact K111 _ _ _ ⟨F189, _, rfl, lv_sub hl [0, 1, 2] rfl, hI, hP, hS, hfr, ⟨by omega, by omega⟩, ⟨z136, z138, z140, z142, z144, z146, z148, z150, z151, z152, z154, z155, o192, h137, h139, h141, h143, h145, h147, ⟨by omega, by omega⟩, ⟨by omega, by omega⟩, trivial⟩⟩
    · intro g H locs hq
      obtain ⟨F9, ls, rfl, hl, hI, hP, hS, hfr, h194, h195⟩ := hq
      obtain ⟨z196, z198, z200, z202, z204, z206, z208, z210, z211, z212, z214, z215, o216, h197, h199, h201, h203, h205, h207, h209, h213, -⟩ := h195
      obtain ⟨v217, ev217⟩ : ∃ y : Int32, w58 + 1 = y := ⟨_, rfl⟩
      have qv217 : v217.toInt = w58.toInt + 1 := by rw [← ev217]; exact th_add rfl (by decide) ⟨by omega, by omega⟩
      refine lv_iinc (v := v217) (lv' := [(2, .int v217), (0, .ref a0), (1, .int r52)]) hx hb dX1_moveEach_111 hl (k := 2) rfl ev217 (by decide) rfl (fun ls hl => ?_)
      refine lv_goto (tgt := 51) hx hb dX1_moveEach_114 (by decide) ?_
      exact ih51 _ _ _ _ (by omega) ⟨F9, _, v217, rfl, lv_sub hl [1, 2, 0] rfl, hI, hP, hS, hfr, ⟨by omega, by omega⟩, ⟨z196, z198, z200, z202, z204, z206, z208, z210, z211, z212, z214, z215, o216, h197, h199, h201, h203, h205, h207, ⟨by omega, by omega⟩, ⟨by omega, by omega⟩, trivial⟩, rfl⟩
  · have c51 := (ax_eq (n := 13) (by decide)).mp c51
    refine lv_aload_n hx hb dX1_moveEach_27 rfl (lv_at hl 0 rfl) ?_
    refine th_get (D := (dC, dI)) (ci := 1) (v := .ref z9) (C := RX1) (T := TX1) (N := 12) hx hb hts inX1 hown hK hP (hLK _ ha0 (by decide)) o45 rfl 4 (by decide) (hts _ T_111) (fun _ h9 => h9) rfl dX1_moveEach_28 ?_
    refine lv_dup hx hb dX1_moveEach_31 rfl ?_
    refine th_getN (D := (dC, dI)) (ci := 5) (v := .int z37) (C := RX5) (T := TX5) (N := 11) hx hb hts inX5 hown hK hP (hLK _ h10 (by decide)) o46 rfl 7 (by decide) (va_Nw.use rfl hN.2.2.2.2.2.2.2.2.2.2.2.2.2.2.2.2.2.2.2.2.2.2.2.2.1) (fun _ h9 => h9) rfl dX1_moveEach_32 ?_
    refine lv_aload_n hx hb dX1_moveEach_35 rfl (lv_at hl 0 rfl) ?_
    refine th_get (D := (dC, dI)) (ci := 1) (v := .int z16) (C := RX1) (T := TX1) (N := 12) hx hb hts inX1 hown hK hP (hLK _ ha0 (by decide)) o45 rfl 8 (by decide) (hts _ T_97) (fun _ h9 => h9) rfl dX1_moveEach_36 ?_
    refine lv_ior hx hb dX1_moveEach_39 ?_
    refine lv_topi (fun v218 ev218 => ?_)
    refine th_putN (D := (dC, dI)) (ci := 5) (v := .int v218) (ty := .int) (C := RX5) (T := TX5) (N := 11) hx hb hts inX5 tyX5 tyX5_ok nmX5 hown hK hP hD hS (hLK _ h10 (by decide)) o46 rfl 7 (by decide) (va_Nw.use rfl hN.2.2.2.2.2.2.2.2.2.2.2.2.2.2.2.2.2.2.2.2.2.2.2.2.1) (fun _ h9 => h9) rfl (by decide +kernel) rfl rfl (Nat.le_of_ble_eq_true rfl) dX1_moveEach_40 (fun H locs hP hS => ?_)
    have hP : va_P (dC, dI) vwCl (va_pl L (va_up F43 z9 (.inr (5, [.ref z24, .ref z26, .ref z28, .ref z30, .ref z32, .int z34, .int z36, .int v218, .int z38, .int z39, .int v23])))) H := hP
    obtain ⟨F219, hF220⟩ : ∃ G : Nat → va_E, G = va_up F43 z9 (.inr (5, [.ref z24, .ref z26, .ref z28, .ref z30, .ref z32, .int z34, .int z36, .int v218, .int z38, .int z39, .int v23])) := ⟨_, rfl⟩
    rw [← hF220] at hP
    have hI : s_I K cs D F219 := by rw [hF220]; exact s_cl6 hI h10 ⟨z24, z26, z28, z30, z32, z34, z36, v218, z38, z39, v23, rfl, h25, h27, h29, h31, h33, ⟨by omega, by omega⟩, ⟨by omega, by omega⟩, trivial⟩
    have hfr : ∀ b, K b ∉ [6, 31] → F219 b = F b := by rw [hF220]; exact s_fr hfr h10 (by decide)
    have o221 : F219 a0 = .inr (1, [.ref z1, .ref z3, .ref z5, .ref z7, .ref z9, .ref z11, .int z13, .int z15, .int z16, .int z17, .int z19, .long z20]) := by rw [hF220]; exact th_ne (th_kd ha0 h10 (by decide)) o45
    have o222 : F219 z9 = .inr (5, [.ref z24, .ref z26, .ref z28, .ref z30, .ref z32, .int z34, .int z36, .int v218, .int z38, .int z39, .int v23]) := by rw [hF220]; exact th_up
    exact W.vret hx hb hr (fun t ht hW => ⟨⟨F219, rfl, ⟨trivial, trivial, hI, hfr⟩, by rw [ht]; exact hP, va_K.moved hW.alike hK⟩, hS.F ht⟩) hS.2.2 dX1_moveEach_43

set_option maxHeartbeats 4000000 in
set_option maxRecDepth 100000 in
theorem s_X1_foresee (l : Launch) (dC : Nat → ClassId) (dI : Nat → Nat → Nat) (sz : Nat) {L : List Nat} {K : Nat → Nat} {cs : Nat → ClassId} (hLK : ∀ a {k : Nat}, K a = k → k ≠ 0 → a ∈ L) (D : Nat) (F : Nat → va_E) (a0 : Nat) (a1 : Nat) (ha0 : K a0 = 2) (ha1 : K a1 = 5) (hI : s_I K cs D F) (hPG : s_PG K cs F) : Met l yX1_foresee (Cond.code yX1_foresee cX1_foresee 2 (some .boolean) :: T0) ({ frames := 3, cells := 0, slots := 0, locals := 71 }) (va_Pc [.ref a0, .ref a1] (s_W dC dI sz L F [(cs 0, .int), (cs 1, .byte), (cs 2, .long), (cs 3, .object RX5), (cs 4, .object RX4), (cs 5, .array .int), (cs 6, .char), (cs 7, .boolean)])) (va_Qi (fun (r : Int32) (G : Nat → va_E) => (0 ≤ r.toInt ∧ r.toInt ≤ 1) ∧ (True ∧ (¬ r = 0 → (∀ z0 z1 z2 z3 z4 z5 z6 z7 z8 z9 z10 z11 f g, G a0 = .inr (1, [.ref z0, .ref z1, .ref z2, .ref z3, .ref z4, .ref z5, .int z6, .int z7, .int z8, .int z9, .int z10, .long z11]) → G z0 = .inl (cs 0, 8, .inl f) → G z5 = .inl (cs 0, 7, .inl g) → ∀ i : Int32, 0 ≤ i.toInt → i.toInt < 8 → ¬ (z8 >>> (i &&& 31) &&& 1) = 0 → 9 ≤ (g 0).toInt → (g 0).toInt ≤ 11 → (f i.toNatClampNeg).toInt ≤ 31) ∧ (∀ z0 z1 z2 z3 z4 z5 z6 z7 z8 z9 z10 z11 g, G a0 = .inr (1, [.ref z0, .ref z1, .ref z2, .ref z3, .ref z4, .ref z5, .int z6, .int z7, .int z8, .int z9, .int z10, .long z11]) → G z5 = .inl (cs 0, 7, .inl g) → (g 0).toInt < 7 → 0 ≤ (g 1).toInt))) ∧ s_I K cs D G ∧ (∀ b, K b ∉ [2, 34, 35] → G b = F b) ∧ (¬ r = 0 → s_rd3 K G a0)) (fun (G : Nat → va_E) (t : State) => va_P (dC, dI) vwCl (va_pl L G) t.heap ∧ va_K (dC, dI) vwCl [(cs 0, .int), (cs 1, .byte), (cs 2, .long), (cs 3, .object RX5), (cs 4, .object RX4), (cs 5, .array .int), (cs 6, .char), (cs 7, .boolean)] t) (fun q => q ∈ L)) 0 0 (fun q => q ∈ L) := by
  refine Met.ofW (cc := cX1_foresee) (maxL := 2) (ret := (some .boolean)) (by decide) rfl ?_
  intro p e s m args below meth c s₁ B hml hv
  obtain ⟨rfl, hsz, hP, hK, hD, hN⟩ := hv
  have hx := B.exec
  have hb := B.bytes
  have hr := B.returns
  have hts : ∀ w ∈ T0, w.before _ s = true := fun w h => atoms_spec (ws := Cond.code yX1_foresee cX1_foresee 2 (some .boolean) :: T0) B.pre w (List.mem_cons_of_mem _ h)
  have hown : s.vm.findClass RX1 = some m.cls := findClass_of_methodNamed B.named
  have hlocks := B.notSynchronized
  have hS : va_S (fun q => q ∈ L) s.heap s.heap [] := va_S.rf
  have hfr : ∀ b, K b ∉ [2, 34, 35] → F b = F b := fun _ _ => rfl
  have hl := lv_entry ([.ref a0, .ref a1]) (n := 2) (Nat.le_of_ble_eq_true rfl)
  rw [lg_entry_eq]
  generalize (lg_sl ([.ref a0, .ref a1]) ++ List.replicate (2 - (lg_sl ([.ref a0, .ref a1])).length) Slot.unset).toArray = ls at hl ⊢
  have hl : lv_has ls 2 [(0, .ref a0), (1, .ref a1)] := hl
  have hI0 := hI
  refine s_gen hP hS (fun H locs hP hS => ?_)
  refine lv_aload_n hx hb dX1_foresee_0 rfl (lv_at hl 0 rfl) ?_
  refine lv_aload_n hx hb dX1_foresee_1 rfl (lv_at hl 1 rfl) ?_
  obtain ⟨z1, z3, z5, z7, z9, z11, z13, z15, z16, z17, z19, z20, o21, h2, h4, h6, h8, h10, h12, h14, h18, -⟩ := s_op2 hI ha0
  refine th_put (D := (dC, dI)) (ci := 1) (v := .ref a1) (ty := .object "LaneWarps$State") (C := RX1) (T := TX1) (N := 12) hx hb hts inX1 tyX1 tyX1_ok nmX1 hown hK hP hD hS (hLK _ ha0 (by decide)) o21 rfl 3 (by decide) (hts _ T_105) (fun _ h9 => h9) rfl (by decide +kernel) rfl rfl (Nat.le_of_ble_eq_true rfl) dX1_foresee_2 (fun H locs hP hS => ?_)
  have hP : va_P (dC, dI) vwCl (va_pl L (va_up F a0 (.inr (1, [.ref z1, .ref z3, .ref z5, .ref a1, va_rf z9, va_rf z11, .int z13, .int z15, .int z16, .int z17, .int z19, .long z20])))) H := hP
  obtain ⟨F22, hF23⟩ : ∃ G : Nat → va_E, G = va_up F a0 (.inr (1, [.ref z1, .ref z3, .ref z5, .ref a1, va_rf z9, va_rf z11, .int z13, .int z15, .int z16, .int z17, .int z19, .long z20])) := ⟨_, rfl⟩
  rw [← hF23] at hP
  have hI : s_I K cs D F22 := by rw [hF23]; exact s_cl2 hI ha0 ⟨z1, z3, z5, some a1, z9, z11, z13, z15, z16, z17, z19, z20, rfl, h2, h4, h6, (fun q e => by cases e; exact ha1), h10, h12, ⟨by omega, by omega⟩, ⟨by omega, by omega⟩, trivial⟩
  have hfr : ∀ b, K b ∉ [2, 34, 35] → F22 b = F b := by rw [hF23]; exact s_fr hfr ha0 (by decide)
  have o24 : F22 a0 = .inr (1, [.ref z1, .ref z3, .ref z5, .ref a1, va_rf z9, va_rf z11, .int z13, .int z15, .int z16, .int z17, .int z19, .long z20]) := by rw [hF23]; exact th_up
  refine lv_aload_n hx hb dX1_foresee_5 rfl (lv_at hl 0 rfl) ?_
  refine va_calli (va_runV (As := []) (rest := []) ⟨hx, hb, hml, hown, hts⟩ (s_X1_pickWarp l dC dI H.size hLK D F22 a0 ha0 hI ⟨z1, z3, z5, a1, z9, z11, z13, z15, z16, z17, z19, z20, o24, h2, h4, h6, ha1, h10, h12, ⟨by omega, by omega⟩, ⟨by omega, by omega⟩, trivial⟩) (cwV 0 hts (ax_gV T_235 T_236 T_237 T_100 T_234) rfl rfl rfl (by decide +kernel) ⟨Nat.le_of_ble_eq_true rfl, Nat.le_of_ble_eq_true rfl⟩) ⟨fun a U g mk q => ⟨q.1, s_pc rfl rfl q.2⟩, s_recv hK hP (hLK _ ha0 (by decide)) (ci := 1) rfl o24, fun U hU hW => ⟨rfl, s_pw hU hW hP hK hD hN⟩⟩ rfl rfl hl.1 rfl (lv_room (Nat.le_of_ble_eq_true rfl)) dX1_foresee_6 ⟨Nat.zero_le _, Nat.zero_le _⟩) hS (fun q _ h => h) (fun q h => h) (fun r25 F26 t H1 locs ht hvm hw hB hz1 hk1 hS => ?_)
  obtain ⟨hP, hK1⟩ := hB
  rw [ht] at hP
  generalize H1 = H at hP hS ⊢
  obtain ⟨h27, h28, hI, hfr1, h29⟩ := hw
  have hfr : ∀ b, K b ∉ [2, 34, 35] → F26 b = F b := fun b hb9 => (hfr1 b (fun q => hb9 (s_sub (by decide) q))).trans (hfr b hb9)
  refine lv_if_ne (tgt := 14) hx hb dX1_foresee_9 (by decide) (fun c30 => ?_) (fun c30 => ?_)
  · have c30 := mt (ax_eq (n := 0) (by decide)).mpr c30
    obtain ⟨z31, z33, z35, z37, z39, z41, z43, z45, z46, z47, z49, z50, o51, h32, h34, h36, h38, h40, h42, h44, h48, -⟩ := h29 (fun q => c30 (by rw [q]; decide))
    refine lv_aload_n hx hb dX1_foresee_14 rfl (lv_at hl 0 rfl) ?_
    refine va_callv (va_runV (As := []) (rest := []) ⟨hx, hb, hml, hown, hts⟩ (s_X1_pickLanes l dC dI H.size hLK D F26 a0 ha0 hI ⟨z31, z33, z35, z37, z39, z41, z43, z45, z46, z47, z49, z50, o51, h32, h34, h36, h38, h40, h42, ⟨by omega, by omega⟩, ⟨by omega, by omega⟩, trivial⟩) (cwV 0 hts (ax_gV T_239 T_240 T_241 T_100 T_238) rfl rfl rfl (by decide +kernel) ⟨Nat.le_of_ble_eq_true rfl, Nat.le_of_ble_eq_true rfl⟩) ⟨fun a U g mk q => ⟨q.1, s_pc rfl rfl q.2⟩, s_recv hK hP (hLK _ ha0 (by decide)) (ci := 1) rfl o51, fun U hU hW => ⟨rfl, s_pw hU hW hP hK hD hN⟩⟩ rfl rfl hl.1 rfl (lv_room (Nat.le_of_ble_eq_true rfl)) dX1_foresee_15 ⟨Nat.zero_le _, Nat.zero_le _⟩) hS (fun q _ h => h) (fun q h => h) (fun F52 t H1 locs ht hvm hw hB hz1 hk1 hS => ?_)
    obtain ⟨hP, hK1⟩ := hB
    rw [ht] at hP
    generalize H1 = H at hP hS ⊢
    obtain ⟨h53, h54, hI, hfr1, h55⟩ := hw
    have hfr : ∀ b, K b ∉ [2, 34, 35] → F52 b = F b := fun b hb9 => (hfr1 b (fun q => hb9 (s_sub (by decide) q))).trans (hfr b hb9)
    obtain ⟨z56, z58, z60, z62, z64, z66, z68, z70, z71, z72, z74, z75, o76, h57, h59, h61, h63, h65, h67, h69, h73, -⟩ := h55
    refine lv_aload_n hx hb dX1_foresee_18 rfl (lv_at hl 0 rfl) ?_
    refine th_get (D := (dC, dI)) (ci := 1) (v := .int z70) (C := RX1) (T := TX1) (N := 12) hx hb hts inX1 hown hK hP (hLK _ ha0 (by decide)) o76 rfl 7 (by decide) (hts _ T_115) (fun _ h9 => h9) rfl dX1_foresee_19 ?_
    refine lv_if_lt (tgt := 39) hx hb dX1_foresee_22 (by decide) (fun c77 => ?_) (fun c77 => ?_)
    · have c77 := (ax_lt (n := 0) (by decide)).mp c77
      refine lv_iconst (v := 0) hx hb dX1_foresee_39 (by decide) ?_
      exact W.zret (v := 0) (ty := .boolean) hx hb hr (by decide) (fun t ht hW => ⟨⟨0, F52, rfl, ⟨(by decide), ⟨trivial, (fun q => absurd (by decide) q)⟩, hI, hfr, (fun q => absurd (by decide) q)⟩, by rw [ht]; exact hP, va_K.moved hW.alike hK⟩, hS.F ht⟩) hS.2.2 dX1_foresee_40
    · have c77 := mt (ax_lt (n := 0) (by decide)).mpr c77
      refine lv_aload_n hx hb dX1_foresee_25 rfl (lv_at hl 0 rfl) ?_
      refine th_get (D := (dC, dI)) (ci := 1) (v := .int z70) (C := RX1) (T := TX1) (N := 12) hx hb hts inX1 hown hK hP (hLK _ ha0 (by decide)) o76 rfl 7 (by decide) (hts _ T_115) (fun _ h9 => h9) rfl dX1_foresee_26 ?_
      refine lv_aload_n hx hb dX1_foresee_29 rfl (lv_at hl 0 rfl) ?_
      refine th_get (D := (dC, dI)) (ci := 1) (v := .ref z60) (C := RX1) (T := TX1) (N := 12) hx hb hts inX1 hown hK hP (hLK _ ha0 (by decide)) o76 rfl 2 (by decide) (hts _ T_96) (fun _ h9 => h9) rfl dX1_foresee_30 ?_
      obtain ⟨z78, z80, z82, z84, z86, z88, z89, o90, h79, h81, h83, h85, h87, -⟩ := s_op3 hI h61
      refine th_getN (D := (dC, dI)) (ci := 2) (v := .int z84) (C := RX2) (T := TX2) (N := 7) hx hb hts inX2 hown hK hP (hLK _ h61 (by decide)) o90 rfl 3 (by decide) (va_Nw.use rfl hN.2.2.2.2.2.2.2.2.2.2.2.2.2.2.2.2.2.2.2.2.2.2.2.1) (fun _ h9 => h9) rfl dX1_foresee_33 ?_
      refine lv_icmp_lt (tgt := 41) hx hb dX1_foresee_36 (by decide) (fun c91 => ?_) (fun c91 => ?_)
      · have c91 := Int32.lt_iff_toInt_lt.mp c91
        refine lv_aload_n hx hb dX1_foresee_41 rfl (lv_at hl 0 rfl) ?_
        refine lv_aload_n hx hb dX1_foresee_42 rfl (lv_at hl 0 rfl) ?_
        refine th_get (D := (dC, dI)) (ci := 1) (v := .ref z60) (C := RX1) (T := TX1) (N := 12) hx hb hts inX1 hown hK hP (hLK _ ha0 (by decide)) o76 rfl 2 (by decide) (hts _ T_96) (fun _ h9 => h9) rfl dX1_foresee_43 ?_
        refine th_getN (D := (dC, dI)) (ci := 2) (v := .ref z78) (C := RX2) (T := TX2) (N := 7) hx hb hts inX2 hown hK hP (hLK _ h61 (by decide)) o90 rfl 0 (by decide) (va_Nw.use rfl hN.2.2.2.2.2.2.2.2.2.2.2.2.2.2.2.2.2.2.2.2.2.2.2.2.2.2.2.2.2.2.2.2.2.2.2.2.2.2.2.2.2.2.2.2.2.2.2.2.2.2.2.2.1) (fun _ h9 => h9) rfl dX1_foresee_46 ?_
        refine lv_aload_n hx hb dX1_foresee_49 rfl (lv_at hl 0 rfl) ?_
        refine th_get (D := (dC, dI)) (ci := 1) (v := .int z70) (C := RX1) (T := TX1) (N := 12) hx hb hts inX1 hown hK hP (hLK _ ha0 (by decide)) o76 rfl 7 (by decide) (hts _ T_115) (fun _ h9 => h9) rfl dX1_foresee_50 ?_
        obtain ⟨f92, o93, h94⟩ := s_op22 hI h79
        obtain ⟨z95, o97, h96⟩ := h94 (z70 : Int32).toNatClampNeg (th_cl ⟨by omega, by omega⟩)
        refine th_aaldA hx hb hK hP (hLK _ h79 (by decide)) 5 o93 rfl (th_in ⟨by omega, by omega⟩) o97 dX1_foresee_53 ?_
        obtain ⟨f98, o99, h100⟩ := s_op23 hI h96
        have hrow : (f98 0).toInt < 7 → 0 ≤ (f98 1).toInt := s_PGt hI0 hfr (by decide) hPG _ h61 _ _ _ _ (z70 : Int32).toNatClampNeg _ _ o90 rfl o93 (th_cl ⟨by omega, by omega⟩) (th_cln (by omega) (by omega)) o97 o99
        refine th_put (D := (dC, dI)) (ci := 1) (v := .ref z95) (ty := .array .int) (C := RX1) (T := TX1) (N := 12) hx hb hts inX1 tyX1 tyX1_ok nmX1 hown hK hP hD hS (hLK _ ha0 (by decide)) o76 rfl 5 (by decide) (hts _ T_118) (fun _ h9 => h9) rfl (by decide +kernel) rfl rfl (Nat.le_of_ble_eq_true rfl) dX1_foresee_54 (fun H locs hP hS => ?_)
        have hP : va_P (dC, dI) vwCl (va_pl L (va_up F52 a0 (.inr (1, [.ref z56, .ref z58, .ref z60, .ref z62, .ref z64, .ref z95, .int z68, .int z70, .int z71, .int z72, .int z74, .long z75])))) H := hP
        obtain ⟨F101, hF102⟩ : ∃ G : Nat → va_E, G = va_up F52 a0 (.inr (1, [.ref z56, .ref z58, .ref z60, .ref z62, .ref z64, .ref z95, .int z68, .int z70, .int z71, .int z72, .int z74, .long z75])) := ⟨_, rfl⟩
        rw [← hF102] at hP
        have hI : s_I K cs D F101 := by rw [hF102]; exact s_cl2 hI ha0 ⟨z56, z58, z60, some z62, some z64, some z95, z68, z70, z71, z72, z74, z75, rfl, h57, h59, h61, (fun q e => by cases e; exact h63), (fun q e => by cases e; exact h65), (fun q e => by cases e; exact h96), ⟨by omega, by omega⟩, ⟨by omega, by omega⟩, trivial⟩
        have hfr : ∀ b, K b ∉ [2, 34, 35] → F101 b = F b := by rw [hF102]; exact s_fr hfr ha0 (by decide)
        have o103 : F101 z60 = .inr (2, [.ref z78, .ref z80, .ref z82, .int z84, .int z86, .int z88, .int z89]) := by rw [hF102]; exact th_ne (th_kd h61 ha0 (by decide)) o90
        have o104 : F101 z95 = .inl (cs 0, 7, .inl f98) := by rw [hF102]; exact th_ne (th_kd h96 ha0 (by decide)) o99
        have o105 : F101 a0 = .inr (1, [.ref z56, .ref z58, .ref z60, .ref z62, .ref z64, .ref z95, .int z68, .int z70, .int z71, .int z72, .int z74, .long z75]) := by rw [hF102]; exact th_up
        refine lv_aload_n hx hb dX1_foresee_57 rfl (lv_at hl 0 rfl) ?_
        refine va_callv (va_runV (As := []) (rest := []) ⟨hx, hb, hml, hown, hts⟩ (s_X1_measure l dC dI H.size hLK D F101 a0 ha0 hI ⟨z56, z58, z60, z62, z64, z95, z68, z70, z71, z72, z74, z75, o105, h57, h59, h61, h63, h65, h96, ⟨by omega, by omega⟩, ⟨by omega, by omega⟩, trivial⟩) (cwV 0 hts (ax_gV T_243 T_244 T_245 T_100 T_242) rfl rfl rfl (by decide +kernel) ⟨Nat.le_of_ble_eq_true rfl, Nat.le_of_ble_eq_true rfl⟩) ⟨fun a U g mk q => ⟨q.1, s_pc rfl rfl q.2⟩, s_recv hK hP (hLK _ ha0 (by decide)) (ci := 1) rfl o105, fun U hU hW => ⟨rfl, s_pw hU hW hP hK hD hN⟩⟩ rfl rfl hl.1 rfl (lv_room (Nat.le_of_ble_eq_true rfl)) dX1_foresee_58 ⟨Nat.zero_le _, Nat.zero_le _⟩) hS (fun q _ h => h) (fun q h => h) (fun F106 t H1 locs ht hvm hw hB hz1 hk1 hS => ?_)
        obtain ⟨hP, hK1⟩ := hB
        rw [ht] at hP
        generalize H1 = H at hP hS ⊢
        obtain ⟨h107, h108, hI, hfr1⟩ := hw
        have o109 : F106 z60 = .inr (2, [.ref z78, .ref z80, .ref z82, .int z84, .int z86, .int z88, .int z89]) := (hfr1 _ (by rw [h61]; decide)).trans o103
        have o110 : F106 z95 = .inl (cs 0, 7, .inl f98) := (hfr1 _ (by rw [h96]; decide)).trans o104
        have hfr : ∀ b, K b ∉ [2, 34, 35] → F106 b = F b := fun b hb9 => (hfr1 b (fun q => hb9 (s_sub (by decide) q))).trans (hfr b hb9)
        obtain ⟨h108, h111⟩ := h108
        have h111 : ((∀ vs, F101 a0 = .inr (1, vs) → ∃ w, F106 a0 = .inr (1, vs.set 10 (.int w))) ∧ ∀ z0 z1 z2 z3 z4 z5 z6 z7 z8 z9 z10 z11 f g, F106 a0 = .inr (1, [.ref z0, .ref z1, .ref z2, .ref z3, .ref z4, .ref z5, .int z6, .int z7, .int z8, .int z9, .int z10, .long z11]) → F106 z0 = .inl (cs 0, 8, .inl f) → F106 z5 = .inl (cs 0, 7, .inl g) → ∀ i : Int32, 0 ≤ i.toInt → i.toInt < 8 → ¬ (z8 >>> (i &&& 31) &&& 1) = 0 → 9 ≤ (g 0).toInt → (g 0).toInt ≤ 11 → (f i.toNatClampNeg).toInt ≤ 31) := h111
        obtain ⟨h114, h111⟩ := h111
        obtain ⟨z112, o113⟩ := h114 _ o105
        have o113 : F106 a0 = .inr (1, [.ref z56, .ref z58, .ref z60, .ref z62, .ref z64, .ref z95, .int z68, .int z70, .int z71, .int z72, .int z112, .long z75]) := o113
        refine lv_iconst (v := 1) hx hb dX1_foresee_61 (by decide) ?_
        exact W.zret (v := 1) (ty := .boolean) hx hb hr (by decide) (fun t ht hW => ⟨⟨1, F106, rfl, ⟨(by decide), ⟨trivial, (fun _ => ⟨h111, fun z0 z1 z2 z3 z4 z5 z6 z7 z8 z9 z10 z11 g q1 q3 => by rw [o113] at q1; cases q1; rw [o110] at q3; cases q3; exact hrow⟩)⟩, hI, hfr, (fun _ => ⟨z56, z58, z60, z62, z64, z95, z68, z70, z71, z72, z112, z75, o113, h57, h59, h61, h63, h65, h96, ⟨by omega, by omega⟩, ⟨by omega, by omega⟩, trivial⟩)⟩, by rw [ht]; exact hP, va_K.moved hW.alike hK⟩, hS.F ht⟩) hS.2.2 dX1_foresee_62
      · have c91 := mt Int32.lt_iff_toInt_lt.mpr c91
        refine lv_iconst (v := 0) hx hb dX1_foresee_39 (by decide) ?_
        exact W.zret (v := 0) (ty := .boolean) hx hb hr (by decide) (fun t ht hW => ⟨⟨0, F52, rfl, ⟨(by decide), ⟨trivial, (fun q => absurd (by decide) q)⟩, hI, hfr, (fun q => absurd (by decide) q)⟩, by rw [ht]; exact hP, va_K.moved hW.alike hK⟩, hS.F ht⟩) hS.2.2 dX1_foresee_40
  · have c30 := (ax_eq (n := 0) (by decide)).mp c30
    refine lv_iconst (v := 0) hx hb dX1_foresee_12 (by decide) ?_
    exact W.zret (v := 0) (ty := .boolean) hx hb hr (by decide) (fun t ht hW => ⟨⟨0, F26, rfl, ⟨(by decide), ⟨trivial, (fun q => absurd (by decide) q)⟩, hI, hfr, (fun q => absurd (by decide) q)⟩, by rw [ht]; exact hP, va_K.moved hW.alike hK⟩, hS.F ht⟩) hS.2.2 dX1_foresee_13

set_option maxHeartbeats 4000000 in
set_option maxRecDepth 100000 in
theorem s_X1_ask (l : Launch) (dC : Nat → ClassId) (dI : Nat → Nat → Nat) (sz : Nat) {L : List Nat} {K : Nat → Nat} {cs : Nat → ClassId} (hLK : ∀ a {k : Nat}, K a = k → k ≠ 0 → a ∈ L) (D : Nat) (F : Nat → va_E) (a0 : Nat) (x1 : Int32) (x2 : Int32) (ha0 : K a0 = 2) (hx2 : 0 ≤ x2.toInt ∧ x2.toInt ≤ 7) (hI : s_I K cs D F) (hR : s_rd3 K F a0) (hadr : ∀ z vs f, F a0 = .inr (1, .ref z :: vs) → F z = .inl (cs 0, 8, .inl f) → 9 ≤ x1.toInt → (f x2.toNatClampNeg).toInt ≤ 31) : Met l yX1_ask (Cond.code yX1_ask cX1_ask 8 none :: T0) ({ frames := 2, cells := 0, slots := 0, locals := 43 }) (va_Pc [.ref a0, .int x1, .int x2] (s_W dC dI sz L F [(cs 0, .int), (cs 1, .byte), (cs 2, .long), (cs 3, .object RX5), (cs 4, .object RX4), (cs 5, .array .int), (cs 6, .char), (cs 7, .boolean)])) (va_Qv (fun (G : Nat → va_E) => True ∧ (True ∧ (∀ vs, F a0 = .inr (1, vs) → ∃ w, G a0 = .inr (1, vs.set 11 (.long w)))) ∧ s_I K cs D G ∧ ∀ b, K b ∉ [2, 24, 27, 28, 30] → G b = F b) (fun (G : Nat → va_E) (t : State) => va_P (dC, dI) vwCl (va_pl L G) t.heap ∧ va_K (dC, dI) vwCl [(cs 0, .int), (cs 1, .byte), (cs 2, .long), (cs 3, .object RX5), (cs 4, .object RX4), (cs 5, .array .int), (cs 6, .char), (cs 7, .boolean)] t) (fun q => q ∈ L)) 0 0 (fun q => q ∈ L) := by
  refine Met.ofW (cc := cX1_ask) (maxL := 8) (ret := none) (by decide) rfl ?_
  intro p e s m args below meth c s₁ B hml hv
  obtain ⟨rfl, hsz, hP, hK, hD, hN⟩ := hv
  have hx := B.exec
  have hb := B.bytes
  have hr := B.returns
  have hts : ∀ w ∈ T0, w.before _ s = true := fun w h => atoms_spec (ws := Cond.code yX1_ask cX1_ask 8 none :: T0) B.pre w (List.mem_cons_of_mem _ h)
  have hown : s.vm.findClass RX1 = some m.cls := findClass_of_methodNamed B.named
  have hlocks := B.notSynchronized
  have hS : va_S (fun q => q ∈ L) s.heap s.heap [] := va_S.rf
  have hfr : ∀ b, K b ∉ [2, 24, 27, 28, 30] → F b = F b := fun _ _ => rfl
  have hl := lv_entry ([.ref a0, .int x1, .int x2]) (n := 8) (Nat.le_of_ble_eq_true rfl)
  rw [lg_entry_eq]
  generalize (lg_sl ([.ref a0, .int x1, .int x2]) ++ List.replicate (8 - (lg_sl ([.ref a0, .int x1, .int x2])).length) Slot.unset).toArray = ls at hl ⊢
  have hl : lv_has ls 8 [(0, .ref a0), (1, .int x1), (2, .int x2)] := hl
  refine s_gen hP hS (fun H locs hP hS => ?_)
  obtain ⟨z1, z3, z5, z7, z9, z11, z13, z15, z16, z17, z19, z20, o21, h2, h4, h6, h8, h10, h12, h14, h18, -⟩ := hR
  refine lv_aload_n hx hb dX1_ask_0 rfl (lv_at hl 0 rfl) ?_
  refine th_get (D := (dC, dI)) (ci := 1) (v := .ref z1) (C := RX1) (T := TX1) (N := 12) hx hb hts inX1 hown hK hP (hLK _ ha0 (by decide)) o21 rfl 0 (by decide) (hts _ T_104) (fun _ h9 => h9) rfl dX1_ask_1 ?_
  refine lv_iload_n hx hb dX1_ask_4 rfl (lv_at hl 2 rfl) ?_
  obtain ⟨f22, o23, h24⟩ := s_op34 hI h2
  refine th_iald hx hb hK hP (hLK _ h2 (by decide)) 0 o23 rfl (th_in ⟨by omega, by omega⟩) dX1_ask_5 ?_
  refine lv_topi (fun v25 ev25 => ?_)
  have qv25 : 0 ≤ v25.toInt ∧ v25.toInt ≤ 63 := by rw [ev25]; exact h24 _ (th_cl ⟨by omega, by omega⟩)
  have nv25 : 9 ≤ x1.toInt → v25.toInt ≤ 31 := fun q => by rw [ev25]; exact hadr _ _ f22 o21 o23 q
  refine lv_istore_n (lv' := [(3, .int v25), (0, .ref a0), (1, .int x1), (2, .int x2)]) hx hb dX1_ask_6 rfl hl (by decide) rfl (fun ls hl => ?_)
  refine lv_iload_n hx hb dX1_ask_7 rfl (lv_at hl 3 rfl) ?_
  refine lv_iconst (v := 4) hx hb dX1_ask_8 (by decide) ?_
  refine lv_imul hx hb dX1_ask_9 ?_
  refine lv_topi (fun v26 ev26 => ?_)
  have qv26 : v26.toInt = x2.toInt * 4 := by rw [ev26]; exact th_mul rfl (by decide) ⟨by omega, by omega⟩
  refine lv_aload_n hx hb dX1_ask_10 rfl (lv_at hl 1 rfl) ?_
  refine th_get (D := (dC, dI)) (ci := 1) (v := .ref z11) (C := RX1) (T := TX1) (N := 12) hx hb hts inX1 hown hK hP (hLK _ ha0 (by decide)) o21 rfl 5 (by decide) (hts _ T_118) (fun _ h9 => h9) rfl dX1_ask_11 ?_
  refine lv_iconst (v := 1) hx hb dX1_ask_14 (by decide) ?_
  obtain ⟨f27, o28, h29⟩ := s_op23 hI h12
  refine th_iald hx hb hK hP (hLK _ h12 (by decide)) 0 o28 rfl (ax_in (by decide)) dX1_ask_15 ?_
  refine lv_topi (fun v30 ev30 => ?_)
  have qv30 : v30.toInt ≤ 3 := by rw [ev30]; exact h29
  refine lv_iconst (v := 0) hx hb dX1_ask_16 (by decide) ?_
  refine va_mmax hx hb (by rw [hml]; exact hl.1.symm) hown (hts _ T_114) (hts _ T_73) (hts _ T_74) (hts _ T_75) (Nat.le_of_ble_eq_true rfl) (Nat.le_of_ble_eq_true rfl) (Nat.zero_le _) (Nat.zero_le _) dX1_ask_17 ?_
  refine lv_topi (fun v31 ev31 => ?_)
  have qv31 := th_mmax (a := v30.toInt) (b := 0) ev31 rfl (by decide)
  refine lv_iadd hx hb dX1_ask_20 ?_
  refine lv_topi (fun v32 ev32 => ?_)
  have qv32 : v32.toInt = v26.toInt + v31.toInt := by rw [ev32]; exact th_add rfl rfl ⟨by omega, by omega⟩
  refine lv_istore (lv' := [(4, .int v32), (3, .int v25), (0, .ref a0), (1, .int x1), (2, .int x2)]) hx hb dX1_ask_21 hl (by decide) rfl (fun ls hl => ?_)
  refine lv_iload_n hx hb dX1_ask_23 rfl (lv_at hl 3 rfl) ?_
  refine lv_bipush (v := 9) hx hb dX1_ask_24 (by decide) ?_
  refine lv_icmp_lt (tgt := 33) hx hb dX1_ask_26 (by decide) (fun c33 => ?_) (fun c33 => ?_)
  · have c33 := (ax_lt (n := 9) (by decide)).mp c33
    refine lv_iconst (v := 0) hx hb dX1_ask_33 (by decide) ?_
    refine lv_istore (lv' := [(5, .int 0), (4, .int v32), (3, .int v25), (0, .ref a0), (1, .int x1), (2, .int x2)]) hx hb dX1_ask_34 hl (by decide) rfl (fun ls hl => ?_)
    refine lv_iload hx hb dX1_ask_36 (lv_at hl 0 rfl) ?_
    refine lv_if_eq (tgt := 51) hx hb dX1_ask_38 (by decide) (fun _ => ?_) (fun c => absurd (by decide) c)
    refine lv_aload_n hx hb dX1_ask_51 rfl (lv_at hl 3 rfl) ?_
    refine th_get (D := (dC, dI)) (ci := 1) (v := .ref z7) (C := RX1) (T := TX1) (N := 12) hx hb hts inX1 hown hK hP (hLK _ ha0 (by decide)) o21 rfl 3 (by decide) (hts _ T_105) (fun _ h9 => h9) rfl dX1_ask_52 ?_
    obtain ⟨z35, z37, z39, z41, z43, z45, z47, z49, z51, z52, z53, z55, z56, z58, z59, o61, h36, h38, h40, h42, h44, h46, h48, h50, h54, h57, h60, -⟩ := s_op5 hI h8
    refine th_getN (D := (dC, dI)) (ci := 4) (v := .ref z37) (C := RX4) (T := TX4) (N := 15) hx hb hts inX4 hown hK hP (hLK _ h8 (by decide)) o61 rfl 1 (by decide) (va_Nw.use rfl hN.2.2.2.2.2.2.2.2.2.2.2.2.2.2.2.2.2.2.2.2.2.2.2.2.2.2.2.2.2.2.2.2.2.2.2.2.2.2.2.2.2.2.2.2.2.2.2.2.2.2.2.2.2.1) (fun _ h9 => h9) rfl dX1_ask_55 ?_
    refine lv_astore (lv' := [(6, .ref z37), (5, .int 0), (4, .int v32), (3, .int v25), (0, .ref a0), (1, .int x1), (2, .int x2)]) hx hb dX1_ask_58 hl (by decide) rfl (fun ls hl => ?_)
    refine lv_iload_n hx hb dX1_ask_60 rfl (lv_at hl 5 rfl) ?_
    refine lv_bipush (v := 11) hx hb dX1_ask_61 (by decide) ?_
    refine lv_icmp_ne (tgt := 99) hx hb dX1_ask_63 (by decide) (fun c62 => ?_) (fun c62 => ?_)
    · have c62 := mt (ax_eq (n := 11) (by decide)).mpr c62
      refine lv_iload_n hx hb dX1_ask_99 rfl (lv_at hl 5 rfl) ?_
      refine lv_bipush (v := 8) hx hb dX1_ask_100 (by decide) ?_
      refine lv_icmp_eq (tgt := 111) hx hb dX1_ask_102 (by decide) (fun c63 => ?_) (fun c63 => ?_)
      · have c63 := (ax_eq (n := 8) (by decide)).mp c63
        refine lv_iconst (v := 1) hx hb dX1_ask_111 (by decide) ?_
        refine lv_goto (tgt := 116) hx hb dX1_ask_112 (by decide) ?_
        refine lv_istore (lv' := [(7, .int 1), (6, .ref z37), (5, .int 0), (4, .int v32), (3, .int v25), (0, .ref a0), (1, .int x1), (2, .int x2)]) hx hb dX1_ask_116 hl (by decide) rfl (fun ls hl => ?_)
        refine lv_iload hx hb dX1_ask_118 (lv_at hl 0 rfl) ?_
        refine lv_if_eq (tgt := 141) hx hb dX1_ask_120 (by decide) (fun c => absurd c (by decide)) (fun _ => ?_)
        refine lv_aload hx hb dX1_ask_123 (lv_at hl 1 rfl) ?_
        refine lv_iload_n hx hb dX1_ask_125 rfl (lv_at hl 4 rfl) ?_
        refine lv_aload_n hx hb dX1_ask_126 rfl (lv_at hl 5 rfl) ?_
        refine lv_aload_n hx hb dX1_ask_127 rfl (lv_at hl 5 rfl) ?_
        refine th_get (D := (dC, dI)) (ci := 1) (v := .ref z11) (C := RX1) (T := TX1) (N := 12) hx hb hts inX1 hown hK hP (hLK _ ha0 (by decide)) o21 rfl 5 (by decide) (hts _ T_118) (fun _ h9 => h9) rfl dX1_ask_128 ?_
        refine lv_iconst (v := 3) hx hb dX1_ask_131 (by decide) ?_
        obtain ⟨f65, o66, h67⟩ := s_op23 hI h12
        refine th_iald hx hb hK hP (hLK _ h12 (by decide)) 0 o66 rfl (ax_in (by decide)) dX1_ask_132 ?_
        refine lv_topi (fun v68 ev68 => ?_)
        refine lv_iload_n hx hb dX1_ask_133 rfl (lv_at hl 7 rfl) ?_
        refine va_calli (va_runV (As := [.int v68, .int x2]) (rest := [.int v25, .ref z37]) ⟨hx, hb, hml, hown, hts⟩ (s_X1_valueOf l dC dI H.size hLK D F a0 v68 x2 ha0 (⟨by omega, by omega⟩) hI ⟨z1, z3, z5, z7, z9, z11, z13, z15, z16, z17, z19, z20, o21, h2, h4, h6, h8, h10, h12, ⟨by omega, by omega⟩, ⟨by omega, by omega⟩, trivial⟩) (cwV 2 hts (ax_gV T_129 T_130 T_131 T_100 T_128) rfl rfl rfl (by decide +kernel) ⟨Nat.le_of_ble_eq_true rfl, Nat.le_of_ble_eq_true rfl⟩) ⟨fun a U g mk q => ⟨q.1, s_pc rfl rfl q.2⟩, s_recv hK hP (hLK _ ha0 (by decide)) (ci := 1) rfl o21, fun U hU hW => ⟨rfl, s_pw hU hW hP hK hD hN⟩⟩ rfl rfl hl.1 rfl (lv_room (Nat.le_of_ble_eq_true rfl)) dX1_ask_134 ⟨Nat.zero_le _, Nat.zero_le _⟩) hS (fun q _ h => h) (fun q h => h) (fun r69 F70 t H1 locs ht hvm hw hB hz1 hk1 hS => ?_)
        obtain ⟨hP, hK1⟩ := hB
        rw [ht] at hP
        generalize H1 = H at hP hS ⊢
        obtain ⟨h71, h72, hI, hfr1⟩ := hw
        have o73 : F70 a0 = .inr (1, [.ref z1, .ref z3, .ref z5, .ref z7, .ref z9, .ref z11, .int z13, .int z15, .int z16, .int z17, .int z19, .long z20]) := (hfr1 _ (by rw [ha0]; decide)).trans o21
        have o74 : F70 z7 = .inr (4, [.ref z35, .ref z37, .ref z39, .ref z41, .ref z43, .ref z45, .ref z47, .int z49, .int z51, .int z52, .int z53, .int z55, .int z56, .int z58, .int z59]) := (hfr1 _ (by rw [h8]; decide)).trans o61
        have hfr : ∀ b, K b ∉ [2, 24, 27, 28, 30] → F70 b = F b := fun b hb9 => (hfr1 b (fun q => hb9 (s_sub (by decide) q))).trans (hfr b hb9)
        obtain ⟨f75, o76, h77⟩ := s_op24 hI h38
        refine th_iast hx hb hK hP hD hS (hLK _ h38 (by decide)) 0 o76 rfl (th_in ⟨by omega, by omega⟩) dX1_ask_137 (fun H locs hP hS => ?_)
        have hP : va_P (dC, dI) vwCl (va_pl L (va_up F70 z37 (.inl (cs 0, 64, .inl (upd f75 (v25 : Int32).toNatClampNeg r69))))) H := hP
        obtain ⟨F78, hF79⟩ : ∃ G : Nat → va_E, G = va_up F70 z37 (.inl (cs 0, 64, .inl (upd f75 (v25 : Int32).toNatClampNeg r69))) := ⟨_, rfl⟩
        rw [← hF79] at hP
        have hI : s_I K cs D F78 := by rw [hF79]; exact s_cl24 hI h38 ⟨_, rfl, trivial⟩
        have hfr : ∀ b, K b ∉ [2, 24, 27, 28, 30] → F78 b = F b := by rw [hF79]; exact s_fr hfr h38 (by decide)
        have o80 : F78 a0 = .inr (1, [.ref z1, .ref z3, .ref z5, .ref z7, .ref z9, .ref z11, .int z13, .int z15, .int z16, .int z17, .int z19, .long z20]) := by rw [hF79]; exact th_ne (th_kd ha0 h38 (by decide)) o73
        have o81 : F78 z7 = .inr (4, [.ref z35, .ref z37, .ref z39, .ref z41, .ref z43, .ref z45, .ref z47, .int z49, .int z51, .int z52, .int z53, .int z55, .int z56, .int z58, .int z59]) := by rw [hF79]; exact th_ne (th_kd h8 h38 (by decide)) o74
        refine lv_goto (tgt := 155) hx hb dX1_ask_138 (by decide) ?_
        refine lv_iload_n hx hb dX1_ask_155 rfl (lv_at hl 6 rfl) ?_
        refine lv_bipush (v := 7) hx hb dX1_ask_156 (by decide) ?_
        refine lv_icmp_ne (tgt := 173) hx hb dX1_ask_158 (by decide) (fun c82 => ?_) (fun c82 => ?_)
        · have c82 := mt (ax_eq (n := 7) (by decide)).mpr c82
          refine lv_aload_n hx hb dX1_ask_173 rfl (lv_at hl 5 rfl) ?_
          refine th_get (D := (dC, dI)) (ci := 1) (v := .ref z7) (C := RX1) (T := TX1) (N := 12) hx hb hts inX1 hown hK hP (hLK _ ha0 (by decide)) o80 rfl 3 (by decide) (hts _ T_105) (fun _ h9 => h9) rfl dX1_ask_174 ?_
          refine lv_iload hx hb dX1_ask_177 (lv_at hl 2 rfl) ?_
          refine lv_if_eq (tgt := 189) hx hb dX1_ask_179 (by decide) (fun _ => ?_) (fun c => absurd (by decide) c)
          refine lv_iload_n hx hb dX1_ask_189 rfl (lv_at hl 4 rfl) ?_
          refine lv_aload_n hx hb dX1_ask_190 rfl (lv_at hl 5 rfl) ?_
          refine th_get (D := (dC, dI)) (ci := 1) (v := .int z13) (C := RX1) (T := TX1) (N := 12) hx hb hts inX1 hown hK hP (hLK _ ha0 (by decide)) o80 rfl 6 (by decide) (hts _ T_110) (fun _ h9 => h9) rfl dX1_ask_191 ?_
          refine lv_bipush (v := 8) hx hb dX1_ask_194 (by decide) ?_
          refine lv_imul hx hb dX1_ask_196 ?_
          refine lv_topi (fun v84 ev84 => ?_)
          have qv84 : v84.toInt = z13.toInt * 8 := by rw [ev84]; exact th_mul rfl (by decide) ⟨by omega, by omega⟩
          refine lv_iload_n hx hb dX1_ask_197 rfl (lv_at hl 7 rfl) ?_
          refine lv_iadd hx hb dX1_ask_198 ?_
          refine lv_topi (fun v85 ev85 => ?_)
          have qv85 : v85.toInt = v84.toInt + x2.toInt := by rw [ev85]; exact th_add rfl rfl ⟨by omega, by omega⟩
          refine lv_iload hx hb dX1_ask_199 (lv_at hl 0 rfl) ?_
          refine va_callv (va_runV (As := [.int v25, .int v85, .int 1]) (rest := []) ⟨hx, hb, hml, hown, hts⟩ (s_X4_touch l dC dI H.size hLK D F78 z7 v25 v85 1 h8 (⟨by omega, by omega⟩) (by decide) hI) (cwV 3 hts (ax_gV T_247 T_248 T_249 T_63 T_246) rfl rfl rfl (by decide +kernel) ⟨Nat.le_of_ble_eq_true rfl, Nat.le_of_ble_eq_true rfl⟩) ⟨fun a U g mk q => ⟨q.1, s_pc rfl rfl q.2⟩, s_recv hK hP (hLK _ h8 (by decide)) (ci := 4) rfl o81, fun U hU hW => ⟨rfl, s_pw hU hW hP hK hD hN⟩⟩ rfl rfl hl.1 rfl (lv_room (Nat.le_of_ble_eq_true rfl)) dX1_ask_201 ⟨Nat.zero_le _, Nat.zero_le _⟩) hS (fun q _ h => h) (fun q h => h) (fun F86 t H1 locs ht hvm hw hB hz1 hk1 hS => ?_)
          obtain ⟨hP, hK1⟩ := hB
          rw [ht] at hP
          generalize H1 = H at hP hS ⊢
          obtain ⟨h87, h88, hI, hfr1⟩ := hw
          have o89 : F86 a0 = .inr (1, [.ref z1, .ref z3, .ref z5, .ref z7, .ref z9, .ref z11, .int z13, .int z15, .int z16, .int z17, .int z19, .long z20]) := (hfr1 _ (by rw [ha0]; decide)).trans o80
          have o90 : F86 z7 = .inr (4, [.ref z35, .ref z37, .ref z39, .ref z41, .ref z43, .ref z45, .ref z47, .int z49, .int z51, .int z52, .int z53, .int z55, .int z56, .int z58, .int z59]) := (hfr1 _ (by rw [h8]; decide)).trans o81
          have hfr : ∀ b, K b ∉ [2, 24, 27, 28, 30] → F86 b = F b := fun b hb9 => (hfr1 b (fun q => hb9 (s_sub (by decide) q))).trans (hfr b hb9)
          exact W.vret hx hb hr (fun t ht hW => ⟨⟨F86, rfl, ⟨trivial, ⟨trivial, (fun vs q => by rw [o21] at q; cases q; exact ⟨_, o89⟩)⟩, hI, hfr⟩, by rw [ht]; exact hP, va_K.moved hW.alike hK⟩, hS.F ht⟩) hS.2.2 dX1_ask_204
        · have c82 := (ax_eq (n := 7) (by decide)).mp c82
          exact absurd c82 (by omega)
      · have c63 := mt (ax_eq (n := 8) (by decide)).mpr c63
        refine lv_iload_n hx hb dX1_ask_105 rfl (lv_at hl 5 rfl) ?_
        refine lv_bipush (v := 10) hx hb dX1_ask_106 (by decide) ?_
        refine lv_icmp_ne (tgt := 115) hx hb dX1_ask_108 (by decide) (fun c91 => ?_) (fun c91 => ?_)
        · have c91 := mt (ax_eq (n := 10) (by decide)).mpr c91
          refine lv_iconst (v := 0) hx hb dX1_ask_115 (by decide) ?_
          refine lv_istore (lv' := [(7, .int 0), (6, .ref z37), (5, .int 0), (4, .int v32), (3, .int v25), (0, .ref a0), (1, .int x1), (2, .int x2)]) hx hb dX1_ask_116 hl (by decide) rfl (fun ls hl => ?_)
          refine lv_iload hx hb dX1_ask_118 (lv_at hl 0 rfl) ?_
          refine lv_if_eq (tgt := 141) hx hb dX1_ask_120 (by decide) (fun _ => ?_) (fun c => absurd (by decide) c)
          refine lv_aload_n hx hb dX1_ask_141 rfl (lv_at hl 5 rfl) ?_
          refine th_get (D := (dC, dI)) (ci := 1) (v := .ref z9) (C := RX1) (T := TX1) (N := 12) hx hb hts inX1 hown hK hP (hLK _ ha0 (by decide)) o21 rfl 4 (by decide) (hts _ T_111) (fun _ h9 => h9) rfl dX1_ask_142 ?_
          obtain ⟨z93, z95, z97, z99, z101, z103, z105, z106, z107, z108, z109, o111, h94, h96, h98, h100, h102, h104, h110, -⟩ := s_op6 hI h10
          refine th_getN (D := (dC, dI)) (ci := 5) (v := .ref z93) (C := RX5) (T := TX5) (N := 11) hx hb hts inX5 hown hK hP (hLK _ h10 (by decide)) o111 rfl 0 (by decide) (va_Nw.use rfl hN.2.2.2.2.2.2.2.2.2.2.2.2.2.2.2.2.2.1) (fun _ h9 => h9) rfl dX1_ask_145 ?_
          refine lv_iload hx hb dX1_ask_148 (lv_at hl 3 rfl) ?_
          refine lv_aload hx hb dX1_ask_150 (lv_at hl 1 rfl) ?_
          refine lv_iload_n hx hb dX1_ask_152 rfl (lv_at hl 4 rfl) ?_
          obtain ⟨f112, o113, h114⟩ := s_op24 hI h38
          refine th_iald hx hb hK hP (hLK _ h38 (by decide)) 0 o113 rfl (th_in ⟨by omega, by omega⟩) dX1_ask_153 ?_
          refine lv_topi (fun v115 ev115 => ?_)
          obtain ⟨f116, o117, h118⟩ := s_op30 hI h94
          refine th_iast hx hb hK hP hD hS (hLK _ h94 (by decide)) 0 o117 rfl (th_in ⟨by omega, by omega⟩) dX1_ask_154 (fun H locs hP hS => ?_)
          have hP : va_P (dC, dI) vwCl (va_pl L (va_up F z93 (.inl (cs 0, 32, .inl (upd f116 (v32 : Int32).toNatClampNeg v115))))) H := hP
          obtain ⟨F119, hF120⟩ : ∃ G : Nat → va_E, G = va_up F z93 (.inl (cs 0, 32, .inl (upd f116 (v32 : Int32).toNatClampNeg v115))) := ⟨_, rfl⟩
          rw [← hF120] at hP
          have hI : s_I K cs D F119 := by rw [hF120]; exact s_cl30 hI h94 ⟨_, rfl, trivial⟩
          have hfr : ∀ b, K b ∉ [2, 24, 27, 28, 30] → F119 b = F b := by rw [hF120]; exact s_fr hfr h94 (by decide)
          have o121 : F119 a0 = .inr (1, [.ref z1, .ref z3, .ref z5, .ref z7, .ref z9, .ref z11, .int z13, .int z15, .int z16, .int z17, .int z19, .long z20]) := by rw [hF120]; exact th_ne (th_kd ha0 h94 (by decide)) o21
          have o122 : F119 z7 = .inr (4, [.ref z35, .ref z37, .ref z39, .ref z41, .ref z43, .ref z45, .ref z47, .int z49, .int z51, .int z52, .int z53, .int z55, .int z56, .int z58, .int z59]) := by rw [hF120]; exact th_ne (th_kd h8 h94 (by decide)) o61
          have o123 : F119 z9 = .inr (5, [.ref z93, .ref z95, .ref z97, .ref z99, .ref z101, .int z103, .int z105, .int z106, .int z107, .int z108, .int z109]) := by rw [hF120]; exact th_ne (th_kd h10 h94 (by decide)) o111
          refine lv_iload_n hx hb dX1_ask_155 rfl (lv_at hl 6 rfl) ?_
          refine lv_bipush (v := 7) hx hb dX1_ask_156 (by decide) ?_
          refine lv_icmp_ne (tgt := 173) hx hb dX1_ask_158 (by decide) (fun c124 => ?_) (fun c124 => ?_)
          · have c124 := mt (ax_eq (n := 7) (by decide)).mpr c124
            refine lv_aload_n hx hb dX1_ask_173 rfl (lv_at hl 5 rfl) ?_
            refine th_get (D := (dC, dI)) (ci := 1) (v := .ref z7) (C := RX1) (T := TX1) (N := 12) hx hb hts inX1 hown hK hP (hLK _ ha0 (by decide)) o121 rfl 3 (by decide) (hts _ T_105) (fun _ h9 => h9) rfl dX1_ask_174 ?_
            refine lv_iload hx hb dX1_ask_177 (lv_at hl 2 rfl) ?_
            refine lv_if_eq (tgt := 189) hx hb dX1_ask_179 (by decide) (fun _ => ?_) (fun c => absurd (by decide) c)
            refine lv_iload_n hx hb dX1_ask_189 rfl (lv_at hl 4 rfl) ?_
            refine lv_aload_n hx hb dX1_ask_190 rfl (lv_at hl 5 rfl) ?_
            refine th_get (D := (dC, dI)) (ci := 1) (v := .int z13) (C := RX1) (T := TX1) (N := 12) hx hb hts inX1 hown hK hP (hLK _ ha0 (by decide)) o121 rfl 6 (by decide) (hts _ T_110) (fun _ h9 => h9) rfl dX1_ask_191 ?_
            refine lv_bipush (v := 8) hx hb dX1_ask_194 (by decide) ?_
            refine lv_imul hx hb dX1_ask_196 ?_
            refine lv_topi (fun v126 ev126 => ?_)
            have qv126 : v126.toInt = z13.toInt * 8 := by rw [ev126]; exact th_mul rfl (by decide) ⟨by omega, by omega⟩
            refine lv_iload_n hx hb dX1_ask_197 rfl (lv_at hl 7 rfl) ?_
            refine lv_iadd hx hb dX1_ask_198 ?_
            refine lv_topi (fun v127 ev127 => ?_)
            have qv127 : v127.toInt = v126.toInt + x2.toInt := by rw [ev127]; exact th_add rfl rfl ⟨by omega, by omega⟩
            refine lv_iload hx hb dX1_ask_199 (lv_at hl 0 rfl) ?_
            refine va_callv (va_runV (As := [.int v25, .int v127, .int 0]) (rest := []) ⟨hx, hb, hml, hown, hts⟩ (s_X4_touch l dC dI H.size hLK D F119 z7 v25 v127 0 h8 (⟨by omega, by omega⟩) (by decide) hI) (cwV 3 hts (ax_gV T_247 T_248 T_249 T_63 T_246) rfl rfl rfl (by decide +kernel) ⟨Nat.le_of_ble_eq_true rfl, Nat.le_of_ble_eq_true rfl⟩) ⟨fun a U g mk q => ⟨q.1, s_pc rfl rfl q.2⟩, s_recv hK hP (hLK _ h8 (by decide)) (ci := 4) rfl o122, fun U hU hW => ⟨rfl, s_pw hU hW hP hK hD hN⟩⟩ rfl rfl hl.1 rfl (lv_room (Nat.le_of_ble_eq_true rfl)) dX1_ask_201 ⟨Nat.zero_le _, Nat.zero_le _⟩) hS (fun q _ h => h) (fun q h => h) (fun F128 t H1 locs ht hvm hw hB hz1 hk1 hS => ?_)
            obtain ⟨hP, hK1⟩ := hB
            rw [ht] at hP
            generalize H1 = H at hP hS ⊢
            obtain ⟨h129, h130, hI, hfr1⟩ := hw
            have o131 : F128 a0 = .inr (1, [.ref z1, .ref z3, .ref z5, .ref z7, .ref z9, .ref z11, .int z13, .int z15, .int z16, .int z17, .int z19, .long z20]) := (hfr1 _ (by rw [ha0]; decide)).trans o121
            have o132 : F128 z7 = .inr (4, [.ref z35, .ref z37, .ref z39, .ref z41, .ref z43, .ref z45, .ref z47, .int z49, .int z51, .int z52, .int z53, .int z55, .int z56, .int z58, .int z59]) := (hfr1 _ (by rw [h8]; decide)).trans o122
            have o133 : F128 z9 = .inr (5, [.ref z93, .ref z95, .ref z97, .ref z99, .ref z101, .int z103, .int z105, .int z106, .int z107, .int z108, .int z109]) := (hfr1 _ (by rw [h10]; decide)).trans o123
            have hfr : ∀ b, K b ∉ [2, 24, 27, 28, 30] → F128 b = F b := fun b hb9 => (hfr1 b (fun q => hb9 (s_sub (by decide) q))).trans (hfr b hb9)
            exact W.vret hx hb hr (fun t ht hW => ⟨⟨F128, rfl, ⟨trivial, ⟨trivial, (fun vs q => by rw [o21] at q; cases q; exact ⟨_, o131⟩)⟩, hI, hfr⟩, by rw [ht]; exact hP, va_K.moved hW.alike hK⟩, hS.F ht⟩) hS.2.2 dX1_ask_204
          · have c124 := (ax_eq (n := 7) (by decide)).mp c124
            refine lv_aload_n hx hb dX1_ask_161 rfl (lv_at hl 5 rfl) ?_
            refine lv_dup hx hb dX1_ask_162 rfl ?_
            refine th_get (D := (dC, dI)) (ci := 1) (v := .long z20) (C := RX1) (T := TX1) (N := 12) hx hb hts inX1 hown hK hP (hLK _ ha0 (by decide)) o121 rfl 11 (by decide) (hts _ T_250) (fun _ h9 => h9) rfl dX1_ask_163 ?_
            refine lv_lconst (v := 1) hx hb dX1_ask_166 (by decide) ?_
            refine lv_iload_n hx hb dX1_ask_167 rfl (lv_at hl 4 rfl) ?_
            refine lv_lshl hx hb dX1_ask_168 rfl ?_
            refine lv_topl (fun v134 _ => ?_)
            refine lv_lor hx hb dX1_ask_169 ?_
            refine lv_topl (fun v135 ev135 => ?_)
            refine th_put (D := (dC, dI)) (ci := 1) (v := .long v135) (ty := .long) (C := RX1) (T := TX1) (N := 12) hx hb hts inX1 tyX1 tyX1_ok nmX1 hown hK hP hD hS (hLK _ ha0 (by decide)) o121 rfl 11 (by decide) (hts _ T_250) (fun _ h9 => h9) rfl (by decide +kernel) rfl rfl (Nat.le_of_ble_eq_true rfl) dX1_ask_170 (fun H locs hP hS => ?_)
            have hP : va_P (dC, dI) vwCl (va_pl L (va_up F119 a0 (.inr (1, [.ref z1, .ref z3, .ref z5, .ref z7, .ref z9, .ref z11, .int z13, .int z15, .int z16, .int z17, .int z19, .long v135])))) H := hP
            obtain ⟨F136, hF137⟩ : ∃ G : Nat → va_E, G = va_up F119 a0 (.inr (1, [.ref z1, .ref z3, .ref z5, .ref z7, .ref z9, .ref z11, .int z13, .int z15, .int z16, .int z17, .int z19, .long v135])) := ⟨_, rfl⟩
            rw [← hF137] at hP
            have hI : s_I K cs D F136 := by rw [hF137]; exact s_cl2 hI ha0 ⟨z1, z3, z5, some z7, some z9, some z11, z13, z15, z16, z17, z19, v135, rfl, h2, h4, h6, (fun q e => by cases e; exact h8), (fun q e => by cases e; exact h10), (fun q e => by cases e; exact h12), ⟨by omega, by omega⟩, ⟨by omega, by omega⟩, trivial⟩
            have hfr : ∀ b, K b ∉ [2, 24, 27, 28, 30] → F136 b = F b := by rw [hF137]; exact s_fr hfr ha0 (by decide)
            have o138 : F136 z7 = .inr (4, [.ref z35, .ref z37, .ref z39, .ref z41, .ref z43, .ref z45, .ref z47, .int z49, .int z51, .int z52, .int z53, .int z55, .int z56, .int z58, .int z59]) := by rw [hF137]; exact th_ne (th_kd h8 ha0 (by decide)) o122
            have o139 : F136 z9 = .inr (5, [.ref z93, .ref z95, .ref z97, .ref z99, .ref z101, .int z103, .int z105, .int z106, .int z107, .int z108, .int z109]) := by rw [hF137]; exact th_ne (th_kd h10 ha0 (by decide)) o123
            have o140 : F136 a0 = .inr (1, [.ref z1, .ref z3, .ref z5, .ref z7, .ref z9, .ref z11, .int z13, .int z15, .int z16, .int z17, .int z19, .long v135]) := by rw [hF137]; exact th_up
            refine lv_aload_n hx hb dX1_ask_173 rfl (lv_at hl 5 rfl) ?_
            refine th_get (D := (dC, dI)) (ci := 1) (v := .ref z7) (C := RX1) (T := TX1) (N := 12) hx hb hts inX1 hown hK hP (hLK _ ha0 (by decide)) o140 rfl 3 (by decide) (hts _ T_105) (fun _ h9 => h9) rfl dX1_ask_174 ?_
            refine lv_iload hx hb dX1_ask_177 (lv_at hl 2 rfl) ?_
            refine lv_if_eq (tgt := 189) hx hb dX1_ask_179 (by decide) (fun _ => ?_) (fun c => absurd (by decide) c)
            refine lv_iload_n hx hb dX1_ask_189 rfl (lv_at hl 4 rfl) ?_
            refine lv_aload_n hx hb dX1_ask_190 rfl (lv_at hl 5 rfl) ?_
            refine th_get (D := (dC, dI)) (ci := 1) (v := .int z13) (C := RX1) (T := TX1) (N := 12) hx hb hts inX1 hown hK hP (hLK _ ha0 (by decide)) o140 rfl 6 (by decide) (hts _ T_110) (fun _ h9 => h9) rfl dX1_ask_191 ?_
            refine lv_bipush (v := 8) hx hb dX1_ask_194 (by decide) ?_
            refine lv_imul hx hb dX1_ask_196 ?_
            refine lv_topi (fun v142 ev142 => ?_)
            have qv142 : v142.toInt = z13.toInt * 8 := by rw [ev142]; exact th_mul rfl (by decide) ⟨by omega, by omega⟩
            refine lv_iload_n hx hb dX1_ask_197 rfl (lv_at hl 7 rfl) ?_
            refine lv_iadd hx hb dX1_ask_198 ?_
            refine lv_topi (fun v143 ev143 => ?_)
            have qv143 : v143.toInt = v142.toInt + x2.toInt := by rw [ev143]; exact th_add rfl rfl ⟨by omega, by omega⟩
            refine lv_iload hx hb dX1_ask_199 (lv_at hl 0 rfl) ?_
            refine va_callv (va_runV (As := [.int v25, .int v143, .int 0]) (rest := []) ⟨hx, hb, hml, hown, hts⟩ (s_X4_touch l dC dI H.size hLK D F136 z7 v25 v143 0 h8 (⟨by omega, by omega⟩) (by decide) hI) (cwV 3 hts (ax_gV T_247 T_248 T_249 T_63 T_246) rfl rfl rfl (by decide +kernel) ⟨Nat.le_of_ble_eq_true rfl, Nat.le_of_ble_eq_true rfl⟩) ⟨fun a U g mk q => ⟨q.1, s_pc rfl rfl q.2⟩, s_recv hK hP (hLK _ h8 (by decide)) (ci := 4) rfl o138, fun U hU hW => ⟨rfl, s_pw hU hW hP hK hD hN⟩⟩ rfl rfl hl.1 rfl (lv_room (Nat.le_of_ble_eq_true rfl)) dX1_ask_201 ⟨Nat.zero_le _, Nat.zero_le _⟩) hS (fun q _ h => h) (fun q h => h) (fun F144 t H1 locs ht hvm hw hB hz1 hk1 hS => ?_)
            obtain ⟨hP, hK1⟩ := hB
            rw [ht] at hP
            generalize H1 = H at hP hS ⊢
            obtain ⟨h145, h146, hI, hfr1⟩ := hw
            have o147 : F144 z7 = .inr (4, [.ref z35, .ref z37, .ref z39, .ref z41, .ref z43, .ref z45, .ref z47, .int z49, .int z51, .int z52, .int z53, .int z55, .int z56, .int z58, .int z59]) := (hfr1 _ (by rw [h8]; decide)).trans o138
            have o148 : F144 z9 = .inr (5, [.ref z93, .ref z95, .ref z97, .ref z99, .ref z101, .int z103, .int z105, .int z106, .int z107, .int z108, .int z109]) := (hfr1 _ (by rw [h10]; decide)).trans o139
            have o149 : F144 a0 = .inr (1, [.ref z1, .ref z3, .ref z5, .ref z7, .ref z9, .ref z11, .int z13, .int z15, .int z16, .int z17, .int z19, .long v135]) := (hfr1 _ (by rw [ha0]; decide)).trans o140
            have hfr : ∀ b, K b ∉ [2, 24, 27, 28, 30] → F144 b = F b := fun b hb9 => (hfr1 b (fun q => hb9 (s_sub (by decide) q))).trans (hfr b hb9)
            exact W.vret hx hb hr (fun t ht hW => ⟨⟨F144, rfl, ⟨trivial, ⟨trivial, (fun vs q => by rw [o21] at q; cases q; exact ⟨_, o149⟩)⟩, hI, hfr⟩, by rw [ht]; exact hP, va_K.moved hW.alike hK⟩, hS.F ht⟩) hS.2.2 dX1_ask_204
        · have c91 := (ax_eq (n := 10) (by decide)).mp c91
          exact absurd c91 (by omega)
    · have c62 := (ax_eq (n := 11) (by decide)).mp c62
      exact absurd c62 (by omega)
  · have c33 := mt (ax_lt (n := 9) (by decide)).mpr c33
    refine lv_iconst (v := 1) hx hb dX1_ask_29 (by decide) ?_
    refine lv_goto (tgt := 34) hx hb dX1_ask_30 (by decide) ?_
    refine lv_istore (lv' := [(5, .int 1), (4, .int v32), (3, .int v25), (0, .ref a0), (1, .int x1), (2, .int x2)]) hx hb dX1_ask_34 hl (by decide) rfl (fun ls hl => ?_)
    refine lv_iload hx hb dX1_ask_36 (lv_at hl 0 rfl) ?_
    refine lv_if_eq (tgt := 51) hx hb dX1_ask_38 (by decide) (fun c => absurd c (by decide)) (fun _ => ?_)
    refine lv_aload_n hx hb dX1_ask_41 rfl (lv_at hl 3 rfl) ?_
    refine th_get (D := (dC, dI)) (ci := 1) (v := .ref z7) (C := RX1) (T := TX1) (N := 12) hx hb hts inX1 hown hK hP (hLK _ ha0 (by decide)) o21 rfl 3 (by decide) (hts _ T_105) (fun _ h9 => h9) rfl dX1_ask_42 ?_
    obtain ⟨z151, z153, z155, z157, z159, z161, z163, z165, z167, z168, z169, z171, z172, z174, z175, o177, h152, h154, h156, h158, h160, h162, h164, h166, h170, h173, h176, -⟩ := s_op5 hI h8
    refine th_getN (D := (dC, dI)) (ci := 4) (v := .ref z155) (C := RX4) (T := TX4) (N := 15) hx hb hts inX4 hown hK hP (hLK _ h8 (by decide)) o177 rfl 2 (by decide) (va_Nw.use rfl hN.2.2.2.2.2.2.2.2.2.2.2.2.2.2.2.2.2.2.2.2.2.2.2.2.2.2.2.2.2.2.2.2.2.2.2.2.2.2.2.2.2.2.2.2.2.2.2.2.2.2.2.2.2.2.1) (fun _ h9 => h9) rfl dX1_ask_45 ?_
    refine lv_goto (tgt := 58) hx hb dX1_ask_48 (by decide) ?_
    refine lv_astore (lv' := [(6, .ref z155), (5, .int 1), (4, .int v32), (3, .int v25), (0, .ref a0), (1, .int x1), (2, .int x2)]) hx hb dX1_ask_58 hl (by decide) rfl (fun ls hl => ?_)
    refine lv_iload_n hx hb dX1_ask_60 rfl (lv_at hl 5 rfl) ?_
    refine lv_bipush (v := 11) hx hb dX1_ask_61 (by decide) ?_
    refine lv_icmp_ne (tgt := 99) hx hb dX1_ask_63 (by decide) (fun c178 => ?_) (fun c178 => ?_)
    · have c178 := mt (ax_eq (n := 11) (by decide)).mpr c178
      refine lv_iload_n hx hb dX1_ask_99 rfl (lv_at hl 5 rfl) ?_
      refine lv_bipush (v := 8) hx hb dX1_ask_100 (by decide) ?_
      refine lv_icmp_eq (tgt := 111) hx hb dX1_ask_102 (by decide) (fun c179 => ?_) (fun c179 => ?_)
      · have c179 := (ax_eq (n := 8) (by decide)).mp c179
        exact absurd c179 (by omega)
      · have c179 := mt (ax_eq (n := 8) (by decide)).mpr c179
        refine lv_iload_n hx hb dX1_ask_105 rfl (lv_at hl 5 rfl) ?_
        refine lv_bipush (v := 10) hx hb dX1_ask_106 (by decide) ?_
        refine lv_icmp_ne (tgt := 115) hx hb dX1_ask_108 (by decide) (fun c180 => ?_) (fun c180 => ?_)
        · have c180 := mt (ax_eq (n := 10) (by decide)).mpr c180
          refine lv_iconst (v := 0) hx hb dX1_ask_115 (by decide) ?_
          refine lv_istore (lv' := [(7, .int 0), (6, .ref z155), (5, .int 1), (4, .int v32), (3, .int v25), (0, .ref a0), (1, .int x1), (2, .int x2)]) hx hb dX1_ask_116 hl (by decide) rfl (fun ls hl => ?_)
          refine lv_iload hx hb dX1_ask_118 (lv_at hl 0 rfl) ?_
          refine lv_if_eq (tgt := 141) hx hb dX1_ask_120 (by decide) (fun _ => ?_) (fun c => absurd (by decide) c)
          refine lv_aload_n hx hb dX1_ask_141 rfl (lv_at hl 5 rfl) ?_
          refine th_get (D := (dC, dI)) (ci := 1) (v := .ref z9) (C := RX1) (T := TX1) (N := 12) hx hb hts inX1 hown hK hP (hLK _ ha0 (by decide)) o21 rfl 4 (by decide) (hts _ T_111) (fun _ h9 => h9) rfl dX1_ask_142 ?_
          obtain ⟨z182, z184, z186, z188, z190, z192, z194, z195, z196, z197, z198, o200, h183, h185, h187, h189, h191, h193, h199, -⟩ := s_op6 hI h10
          refine th_getN (D := (dC, dI)) (ci := 5) (v := .ref z182) (C := RX5) (T := TX5) (N := 11) hx hb hts inX5 hown hK hP (hLK _ h10 (by decide)) o200 rfl 0 (by decide) (va_Nw.use rfl hN.2.2.2.2.2.2.2.2.2.2.2.2.2.2.2.2.2.1) (fun _ h9 => h9) rfl dX1_ask_145 ?_
          refine lv_iload hx hb dX1_ask_148 (lv_at hl 3 rfl) ?_
          refine lv_aload hx hb dX1_ask_150 (lv_at hl 1 rfl) ?_
          refine lv_iload_n hx hb dX1_ask_152 rfl (lv_at hl 4 rfl) ?_
          obtain ⟨f201, o202, h203⟩ := s_op27 hI h156
          refine th_iald hx hb hK hP (hLK _ h156 (by decide)) 0 o202 rfl (th_in ⟨by omega, by omega⟩) dX1_ask_153 ?_
          refine lv_topi (fun v204 ev204 => ?_)
          obtain ⟨f205, o206, h207⟩ := s_op30 hI h183
          refine th_iast hx hb hK hP hD hS (hLK _ h183 (by decide)) 0 o206 rfl (th_in ⟨by omega, by omega⟩) dX1_ask_154 (fun H locs hP hS => ?_)
          have hP : va_P (dC, dI) vwCl (va_pl L (va_up F z182 (.inl (cs 0, 32, .inl (upd f205 (v32 : Int32).toNatClampNeg v204))))) H := hP
          obtain ⟨F208, hF209⟩ : ∃ G : Nat → va_E, G = va_up F z182 (.inl (cs 0, 32, .inl (upd f205 (v32 : Int32).toNatClampNeg v204))) := ⟨_, rfl⟩
          rw [← hF209] at hP
          have hI : s_I K cs D F208 := by rw [hF209]; exact s_cl30 hI h183 ⟨_, rfl, trivial⟩
          have hfr : ∀ b, K b ∉ [2, 24, 27, 28, 30] → F208 b = F b := by rw [hF209]; exact s_fr hfr h183 (by decide)
          have o210 : F208 a0 = .inr (1, [.ref z1, .ref z3, .ref z5, .ref z7, .ref z9, .ref z11, .int z13, .int z15, .int z16, .int z17, .int z19, .long z20]) := by rw [hF209]; exact th_ne (th_kd ha0 h183 (by decide)) o21
          have o211 : F208 z7 = .inr (4, [.ref z151, .ref z153, .ref z155, .ref z157, .ref z159, .ref z161, .ref z163, .int z165, .int z167, .int z168, .int z169, .int z171, .int z172, .int z174, .int z175]) := by rw [hF209]; exact th_ne (th_kd h8 h183 (by decide)) o177
          have o212 : F208 z9 = .inr (5, [.ref z182, .ref z184, .ref z186, .ref z188, .ref z190, .int z192, .int z194, .int z195, .int z196, .int z197, .int z198]) := by rw [hF209]; exact th_ne (th_kd h10 h183 (by decide)) o200
          refine lv_iload_n hx hb dX1_ask_155 rfl (lv_at hl 6 rfl) ?_
          refine lv_bipush (v := 7) hx hb dX1_ask_156 (by decide) ?_
          refine lv_icmp_ne (tgt := 173) hx hb dX1_ask_158 (by decide) (fun c213 => ?_) (fun c213 => ?_)
          · have c213 := mt (ax_eq (n := 7) (by decide)).mpr c213
            refine lv_aload_n hx hb dX1_ask_173 rfl (lv_at hl 5 rfl) ?_
            refine th_get (D := (dC, dI)) (ci := 1) (v := .ref z7) (C := RX1) (T := TX1) (N := 12) hx hb hts inX1 hown hK hP (hLK _ ha0 (by decide)) o210 rfl 3 (by decide) (hts _ T_105) (fun _ h9 => h9) rfl dX1_ask_174 ?_
            refine lv_iload hx hb dX1_ask_177 (lv_at hl 2 rfl) ?_
            refine lv_if_eq (tgt := 189) hx hb dX1_ask_179 (by decide) (fun c => absurd c (by decide)) (fun _ => ?_)
            refine lv_bipush (v := 64) hx hb dX1_ask_182 (by decide) ?_
            refine lv_iload_n hx hb dX1_ask_184 rfl (lv_at hl 4 rfl) ?_
            refine lv_iadd hx hb dX1_ask_185 ?_
            refine lv_topi (fun v215 ev215 => ?_)
            have qv215 : v215.toInt = 64 + v25.toInt := by rw [ev215]; exact th_add (by decide) rfl ⟨by omega, by omega⟩
            refine lv_goto (tgt := 190) hx hb dX1_ask_186 (by decide) ?_
            refine lv_aload_n hx hb dX1_ask_190 rfl (lv_at hl 5 rfl) ?_
            refine th_get (D := (dC, dI)) (ci := 1) (v := .int z13) (C := RX1) (T := TX1) (N := 12) hx hb hts inX1 hown hK hP (hLK _ ha0 (by decide)) o210 rfl 6 (by decide) (hts _ T_110) (fun _ h9 => h9) rfl dX1_ask_191 ?_
            refine lv_bipush (v := 8) hx hb dX1_ask_194 (by decide) ?_
            refine lv_imul hx hb dX1_ask_196 ?_
            refine lv_topi (fun v216 ev216 => ?_)
            have qv216 : v216.toInt = z13.toInt * 8 := by rw [ev216]; exact th_mul rfl (by decide) ⟨by omega, by omega⟩
            refine lv_iload_n hx hb dX1_ask_197 rfl (lv_at hl 7 rfl) ?_
            refine lv_iadd hx hb dX1_ask_198 ?_
            refine lv_topi (fun v217 ev217 => ?_)
            have qv217 : v217.toInt = v216.toInt + x2.toInt := by rw [ev217]; exact th_add rfl rfl ⟨by omega, by omega⟩
            refine lv_iload hx hb dX1_ask_199 (lv_at hl 0 rfl) ?_
            refine va_callv (va_runV (As := [.int v215, .int v217, .int 0]) (rest := []) ⟨hx, hb, hml, hown, hts⟩ (s_X4_touch l dC dI H.size hLK D F208 z7 v215 v217 0 h8 (⟨by omega, by omega⟩) (by decide) hI) (cwV 3 hts (ax_gV T_247 T_248 T_249 T_63 T_246) rfl rfl rfl (by decide +kernel) ⟨Nat.le_of_ble_eq_true rfl, Nat.le_of_ble_eq_true rfl⟩) ⟨fun a U g mk q => ⟨q.1, s_pc rfl rfl q.2⟩, s_recv hK hP (hLK _ h8 (by decide)) (ci := 4) rfl o211, fun U hU hW => ⟨rfl, s_pw hU hW hP hK hD hN⟩⟩ rfl rfl hl.1 rfl (lv_room (Nat.le_of_ble_eq_true rfl)) dX1_ask_201 ⟨Nat.zero_le _, Nat.zero_le _⟩) hS (fun q _ h => h) (fun q h => h) (fun F218 t H1 locs ht hvm hw hB hz1 hk1 hS => ?_)
            obtain ⟨hP, hK1⟩ := hB
            rw [ht] at hP
            generalize H1 = H at hP hS ⊢
            obtain ⟨h219, h220, hI, hfr1⟩ := hw
            have o221 : F218 a0 = .inr (1, [.ref z1, .ref z3, .ref z5, .ref z7, .ref z9, .ref z11, .int z13, .int z15, .int z16, .int z17, .int z19, .long z20]) := (hfr1 _ (by rw [ha0]; decide)).trans o210
            have o222 : F218 z7 = .inr (4, [.ref z151, .ref z153, .ref z155, .ref z157, .ref z159, .ref z161, .ref z163, .int z165, .int z167, .int z168, .int z169, .int z171, .int z172, .int z174, .int z175]) := (hfr1 _ (by rw [h8]; decide)).trans o211
            have o223 : F218 z9 = .inr (5, [.ref z182, .ref z184, .ref z186, .ref z188, .ref z190, .int z192, .int z194, .int z195, .int z196, .int z197, .int z198]) := (hfr1 _ (by rw [h10]; decide)).trans o212
            have hfr : ∀ b, K b ∉ [2, 24, 27, 28, 30] → F218 b = F b := fun b hb9 => (hfr1 b (fun q => hb9 (s_sub (by decide) q))).trans (hfr b hb9)
            exact W.vret hx hb hr (fun t ht hW => ⟨⟨F218, rfl, ⟨trivial, ⟨trivial, (fun vs q => by rw [o21] at q; cases q; exact ⟨_, o221⟩)⟩, hI, hfr⟩, by rw [ht]; exact hP, va_K.moved hW.alike hK⟩, hS.F ht⟩) hS.2.2 dX1_ask_204
          · have c213 := (ax_eq (n := 7) (by decide)).mp c213
            exact absurd c213 (by omega)
        · have c180 := (ax_eq (n := 10) (by decide)).mp c180
          refine lv_iconst (v := 1) hx hb dX1_ask_111 (by decide) ?_
          refine lv_goto (tgt := 116) hx hb dX1_ask_112 (by decide) ?_
          refine lv_istore (lv' := [(7, .int 1), (6, .ref z155), (5, .int 1), (4, .int v32), (3, .int v25), (0, .ref a0), (1, .int x1), (2, .int x2)]) hx hb dX1_ask_116 hl (by decide) rfl (fun ls hl => ?_)
          refine lv_iload hx hb dX1_ask_118 (lv_at hl 0 rfl) ?_
          refine lv_if_eq (tgt := 141) hx hb dX1_ask_120 (by decide) (fun c => absurd c (by decide)) (fun _ => ?_)
          refine lv_aload hx hb dX1_ask_123 (lv_at hl 1 rfl) ?_
          refine lv_iload_n hx hb dX1_ask_125 rfl (lv_at hl 4 rfl) ?_
          refine lv_aload_n hx hb dX1_ask_126 rfl (lv_at hl 5 rfl) ?_
          refine lv_aload_n hx hb dX1_ask_127 rfl (lv_at hl 5 rfl) ?_
          refine th_get (D := (dC, dI)) (ci := 1) (v := .ref z11) (C := RX1) (T := TX1) (N := 12) hx hb hts inX1 hown hK hP (hLK _ ha0 (by decide)) o21 rfl 5 (by decide) (hts _ T_118) (fun _ h9 => h9) rfl dX1_ask_128 ?_
          refine lv_iconst (v := 3) hx hb dX1_ask_131 (by decide) ?_
          obtain ⟨f225, o226, h227⟩ := s_op23 hI h12
          refine th_iald hx hb hK hP (hLK _ h12 (by decide)) 0 o226 rfl (ax_in (by decide)) dX1_ask_132 ?_
          refine lv_topi (fun v228 ev228 => ?_)
          refine lv_iload_n hx hb dX1_ask_133 rfl (lv_at hl 7 rfl) ?_
          refine va_calli (va_runV (As := [.int v228, .int x2]) (rest := [.int v25, .ref z155]) ⟨hx, hb, hml, hown, hts⟩ (s_X1_valueOf l dC dI H.size hLK D F a0 v228 x2 ha0 (⟨by omega, by omega⟩) hI ⟨z1, z3, z5, z7, z9, z11, z13, z15, z16, z17, z19, z20, o21, h2, h4, h6, h8, h10, h12, ⟨by omega, by omega⟩, ⟨by omega, by omega⟩, trivial⟩) (cwV 2 hts (ax_gV T_129 T_130 T_131 T_100 T_128) rfl rfl rfl (by decide +kernel) ⟨Nat.le_of_ble_eq_true rfl, Nat.le_of_ble_eq_true rfl⟩) ⟨fun a U g mk q => ⟨q.1, s_pc rfl rfl q.2⟩, s_recv hK hP (hLK _ ha0 (by decide)) (ci := 1) rfl o21, fun U hU hW => ⟨rfl, s_pw hU hW hP hK hD hN⟩⟩ rfl rfl hl.1 rfl (lv_room (Nat.le_of_ble_eq_true rfl)) dX1_ask_134 ⟨Nat.zero_le _, Nat.zero_le _⟩) hS (fun q _ h => h) (fun q h => h) (fun r229 F230 t H1 locs ht hvm hw hB hz1 hk1 hS => ?_)
          obtain ⟨hP, hK1⟩ := hB
          rw [ht] at hP
          generalize H1 = H at hP hS ⊢
          obtain ⟨h231, h232, hI, hfr1⟩ := hw
          have o233 : F230 a0 = .inr (1, [.ref z1, .ref z3, .ref z5, .ref z7, .ref z9, .ref z11, .int z13, .int z15, .int z16, .int z17, .int z19, .long z20]) := (hfr1 _ (by rw [ha0]; decide)).trans o21
          have o234 : F230 z7 = .inr (4, [.ref z151, .ref z153, .ref z155, .ref z157, .ref z159, .ref z161, .ref z163, .int z165, .int z167, .int z168, .int z169, .int z171, .int z172, .int z174, .int z175]) := (hfr1 _ (by rw [h8]; decide)).trans o177
          have hfr : ∀ b, K b ∉ [2, 24, 27, 28, 30] → F230 b = F b := fun b hb9 => (hfr1 b (fun q => hb9 (s_sub (by decide) q))).trans (hfr b hb9)
          obtain ⟨f235, o236, h237⟩ := s_op27 hI h156
          refine th_iast hx hb hK hP hD hS (hLK _ h156 (by decide)) 0 o236 rfl (th_in ⟨by omega, by omega⟩) dX1_ask_137 (fun H locs hP hS => ?_)
          have hP : va_P (dC, dI) vwCl (va_pl L (va_up F230 z155 (.inl (cs 0, 32, .inl (upd f235 (v25 : Int32).toNatClampNeg r229))))) H := hP
          obtain ⟨F238, hF239⟩ : ∃ G : Nat → va_E, G = va_up F230 z155 (.inl (cs 0, 32, .inl (upd f235 (v25 : Int32).toNatClampNeg r229))) := ⟨_, rfl⟩
          rw [← hF239] at hP
          have hI : s_I K cs D F238 := by rw [hF239]; exact s_cl27 hI h156 ⟨_, rfl, trivial⟩
          have hfr : ∀ b, K b ∉ [2, 24, 27, 28, 30] → F238 b = F b := by rw [hF239]; exact s_fr hfr h156 (by decide)
          have o240 : F238 a0 = .inr (1, [.ref z1, .ref z3, .ref z5, .ref z7, .ref z9, .ref z11, .int z13, .int z15, .int z16, .int z17, .int z19, .long z20]) := by rw [hF239]; exact th_ne (th_kd ha0 h156 (by decide)) o233
          have o241 : F238 z7 = .inr (4, [.ref z151, .ref z153, .ref z155, .ref z157, .ref z159, .ref z161, .ref z163, .int z165, .int z167, .int z168, .int z169, .int z171, .int z172, .int z174, .int z175]) := by rw [hF239]; exact th_ne (th_kd h8 h156 (by decide)) o234
          refine lv_goto (tgt := 155) hx hb dX1_ask_138 (by decide) ?_
          refine lv_iload_n hx hb dX1_ask_155 rfl (lv_at hl 6 rfl) ?_
          refine lv_bipush (v := 7) hx hb dX1_ask_156 (by decide) ?_
          refine lv_icmp_ne (tgt := 173) hx hb dX1_ask_158 (by decide) (fun c242 => ?_) (fun c242 => ?_)
          · have c242 := mt (ax_eq (n := 7) (by decide)).mpr c242
            refine lv_aload_n hx hb dX1_ask_173 rfl (lv_at hl 5 rfl) ?_
            refine th_get (D := (dC, dI)) (ci := 1) (v := .ref z7) (C := RX1) (T := TX1) (N := 12) hx hb hts inX1 hown hK hP (hLK _ ha0 (by decide)) o240 rfl 3 (by decide) (hts _ T_105) (fun _ h9 => h9) rfl dX1_ask_174 ?_
            refine lv_iload hx hb dX1_ask_177 (lv_at hl 2 rfl) ?_
            refine lv_if_eq (tgt := 189) hx hb dX1_ask_179 (by decide) (fun c => absurd c (by decide)) (fun _ => ?_)
            refine lv_bipush (v := 64) hx hb dX1_ask_182 (by decide) ?_
            refine lv_iload_n hx hb dX1_ask_184 rfl (lv_at hl 4 rfl) ?_
            refine lv_iadd hx hb dX1_ask_185 ?_
            refine lv_topi (fun v244 ev244 => ?_)
            have qv244 : v244.toInt = 64 + v25.toInt := by rw [ev244]; exact th_add (by decide) rfl ⟨by omega, by omega⟩
            refine lv_goto (tgt := 190) hx hb dX1_ask_186 (by decide) ?_
            refine lv_aload_n hx hb dX1_ask_190 rfl (lv_at hl 5 rfl) ?_
            refine th_get (D := (dC, dI)) (ci := 1) (v := .int z13) (C := RX1) (T := TX1) (N := 12) hx hb hts inX1 hown hK hP (hLK _ ha0 (by decide)) o240 rfl 6 (by decide) (hts _ T_110) (fun _ h9 => h9) rfl dX1_ask_191 ?_
            refine lv_bipush (v := 8) hx hb dX1_ask_194 (by decide) ?_
            refine lv_imul hx hb dX1_ask_196 ?_
            refine lv_topi (fun v245 ev245 => ?_)
            have qv245 : v245.toInt = z13.toInt * 8 := by rw [ev245]; exact th_mul rfl (by decide) ⟨by omega, by omega⟩
            refine lv_iload_n hx hb dX1_ask_197 rfl (lv_at hl 7 rfl) ?_
            refine lv_iadd hx hb dX1_ask_198 ?_
            refine lv_topi (fun v246 ev246 => ?_)
            have qv246 : v246.toInt = v245.toInt + x2.toInt := by rw [ev246]; exact th_add rfl rfl ⟨by omega, by omega⟩
            refine lv_iload hx hb dX1_ask_199 (lv_at hl 0 rfl) ?_
            refine va_callv (va_runV (As := [.int v244, .int v246, .int 1]) (rest := []) ⟨hx, hb, hml, hown, hts⟩ (s_X4_touch l dC dI H.size hLK D F238 z7 v244 v246 1 h8 (⟨by omega, by omega⟩) (by decide) hI) (cwV 3 hts (ax_gV T_247 T_248 T_249 T_63 T_246) rfl rfl rfl (by decide +kernel) ⟨Nat.le_of_ble_eq_true rfl, Nat.le_of_ble_eq_true rfl⟩) ⟨fun a U g mk q => ⟨q.1, s_pc rfl rfl q.2⟩, s_recv hK hP (hLK _ h8 (by decide)) (ci := 4) rfl o241, fun U hU hW => ⟨rfl, s_pw hU hW hP hK hD hN⟩⟩ rfl rfl hl.1 rfl (lv_room (Nat.le_of_ble_eq_true rfl)) dX1_ask_201 ⟨Nat.zero_le _, Nat.zero_le _⟩) hS (fun q _ h => h) (fun q h => h) (fun F247 t H1 locs ht hvm hw hB hz1 hk1 hS => ?_)
            obtain ⟨hP, hK1⟩ := hB
            rw [ht] at hP
            generalize H1 = H at hP hS ⊢
            obtain ⟨h248, h249, hI, hfr1⟩ := hw
            have o250 : F247 a0 = .inr (1, [.ref z1, .ref z3, .ref z5, .ref z7, .ref z9, .ref z11, .int z13, .int z15, .int z16, .int z17, .int z19, .long z20]) := (hfr1 _ (by rw [ha0]; decide)).trans o240
            have o251 : F247 z7 = .inr (4, [.ref z151, .ref z153, .ref z155, .ref z157, .ref z159, .ref z161, .ref z163, .int z165, .int z167, .int z168, .int z169, .int z171, .int z172, .int z174, .int z175]) := (hfr1 _ (by rw [h8]; decide)).trans o241
            have hfr : ∀ b, K b ∉ [2, 24, 27, 28, 30] → F247 b = F b := fun b hb9 => (hfr1 b (fun q => hb9 (s_sub (by decide) q))).trans (hfr b hb9)
            exact W.vret hx hb hr (fun t ht hW => ⟨⟨F247, rfl, ⟨trivial, ⟨trivial, (fun vs q => by rw [o21] at q; cases q; exact ⟨_, o250⟩)⟩, hI, hfr⟩, by rw [ht]; exact hP, va_K.moved hW.alike hK⟩, hS.F ht⟩) hS.2.2 dX1_ask_204
          · have c242 := (ax_eq (n := 7) (by decide)).mp c242
            exact absurd c242 (by omega)
    · have c178 := (ax_eq (n := 11) (by decide)).mp c178
      refine lv_aload hx hb dX1_ask_66 (lv_at hl 0 rfl) ?_
      refine lv_iload_n hx hb dX1_ask_68 rfl (lv_at hl 3 rfl) ?_
      obtain ⟨f252, o253, h254⟩ := s_op27 hI h156
      refine th_iald hx hb hK hP (hLK _ h156 (by decide)) 0 o253 rfl (th_in ⟨by omega, by omega⟩) dX1_ask_69 ?_
      refine lv_topi (fun v255 ev255 => ?_)
      refine lv_istore (lv' := [(7, .int v255), (6, .ref z155), (5, .int 1), (4, .int v32), (3, .int v25), (0, .ref a0), (1, .int x1), (2, .int x2)]) hx hb dX1_ask_70 hl (by decide) rfl (fun ls hl => ?_)
      refine lv_aload hx hb dX1_ask_72 (lv_at hl 1 rfl) ?_
      refine lv_iload_n hx hb dX1_ask_74 rfl (lv_at hl 4 rfl) ?_
      refine lv_aload_n hx hb dX1_ask_75 rfl (lv_at hl 5 rfl) ?_
      refine th_get (D := (dC, dI)) (ci := 1) (v := .ref z9) (C := RX1) (T := TX1) (N := 12) hx hb hts inX1 hown hK hP (hLK _ ha0 (by decide)) o21 rfl 4 (by decide) (hts _ T_111) (fun _ h9 => h9) rfl dX1_ask_76 ?_
      obtain ⟨z256, z258, z260, z262, z264, z266, z268, z269, z270, z271, z272, o274, h257, h259, h261, h263, h265, h267, h273, -⟩ := s_op6 hI h10
      refine th_getN (D := (dC, dI)) (ci := 5) (v := .ref z256) (C := RX5) (T := TX5) (N := 11) hx hb hts inX5 hown hK hP (hLK _ h10 (by decide)) o274 rfl 0 (by decide) (va_Nw.use rfl hN.2.2.2.2.2.2.2.2.2.2.2.2.2.2.2.2.2.1) (fun _ h9 => h9) rfl dX1_ask_79 ?_
      refine lv_iload hx hb dX1_ask_82 (lv_at hl 3 rfl) ?_
      obtain ⟨f275, o276, h277⟩ := s_op30 hI h257
      refine th_iald hx hb hK hP (hLK _ h257 (by decide)) 0 o276 rfl (th_in ⟨by omega, by omega⟩) dX1_ask_84 ?_
      refine lv_topi (fun v278 ev278 => ?_)
      obtain ⟨f279, o280, h281⟩ := s_op27 hI h156
      refine th_iast hx hb hK hP hD hS (hLK _ h156 (by decide)) 0 o280 rfl (th_in ⟨by omega, by omega⟩) dX1_ask_85 (fun H locs hP hS => ?_)
      have hP : va_P (dC, dI) vwCl (va_pl L (va_up F z155 (.inl (cs 0, 32, .inl (upd f279 (v25 : Int32).toNatClampNeg v278))))) H := hP
      obtain ⟨F282, hF283⟩ : ∃ G : Nat → va_E, G = va_up F z155 (.inl (cs 0, 32, .inl (upd f279 (v25 : Int32).toNatClampNeg v278))) := ⟨_, rfl⟩
      rw [← hF283] at hP
      have hI : s_I K cs D F282 := by rw [hF283]; exact s_cl27 hI h156 ⟨_, rfl, trivial⟩
      have hfr : ∀ b, K b ∉ [2, 24, 27, 28, 30] → F282 b = F b := by rw [hF283]; exact s_fr hfr h156 (by decide)
      have o284 : F282 a0 = .inr (1, [.ref z1, .ref z3, .ref z5, .ref z7, .ref z9, .ref z11, .int z13, .int z15, .int z16, .int z17, .int z19, .long z20]) := by rw [hF283]; exact th_ne (th_kd ha0 h156 (by decide)) o21
      have o285 : F282 z7 = .inr (4, [.ref z151, .ref z153, .ref z155, .ref z157, .ref z159, .ref z161, .ref z163, .int z165, .int z167, .int z168, .int z169, .int z171, .int z172, .int z174, .int z175]) := by rw [hF283]; exact th_ne (th_kd h8 h156 (by decide)) o177
      have o286 : F282 z9 = .inr (5, [.ref z256, .ref z258, .ref z260, .ref z262, .ref z264, .int z266, .int z268, .int z269, .int z270, .int z271, .int z272]) := by rw [hF283]; exact th_ne (th_kd h10 h156 (by decide)) o274
      refine lv_aload_n hx hb dX1_ask_86 rfl (lv_at hl 5 rfl) ?_
      refine th_get (D := (dC, dI)) (ci := 1) (v := .ref z9) (C := RX1) (T := TX1) (N := 12) hx hb hts inX1 hown hK hP (hLK _ ha0 (by decide)) o284 rfl 4 (by decide) (hts _ T_111) (fun _ h9 => h9) rfl dX1_ask_87 ?_
      refine th_getN (D := (dC, dI)) (ci := 5) (v := .ref z256) (C := RX5) (T := TX5) (N := 11) hx hb hts inX5 hown hK hP (hLK _ h10 (by decide)) o286 rfl 0 (by decide) (va_Nw.use rfl hN.2.2.2.2.2.2.2.2.2.2.2.2.2.2.2.2.2.1) (fun _ h9 => h9) rfl dX1_ask_90 ?_
      refine lv_iload hx hb dX1_ask_93 (lv_at hl 3 rfl) ?_
      refine lv_iload hx hb dX1_ask_95 (lv_at hl 0 rfl) ?_
      obtain ⟨f287, o288, h289⟩ := s_op30 hI h257
      refine th_iast hx hb hK hP hD hS (hLK _ h257 (by decide)) 0 o288 rfl (th_in ⟨by omega, by omega⟩) dX1_ask_97 (fun H locs hP hS => ?_)
      have hP : va_P (dC, dI) vwCl (va_pl L (va_up F282 z256 (.inl (cs 0, 32, .inl (upd f287 (v32 : Int32).toNatClampNeg v255))))) H := hP
      obtain ⟨F290, hF291⟩ : ∃ G : Nat → va_E, G = va_up F282 z256 (.inl (cs 0, 32, .inl (upd f287 (v32 : Int32).toNatClampNeg v255))) := ⟨_, rfl⟩
      rw [← hF291] at hP
      have hI : s_I K cs D F290 := by rw [hF291]; exact s_cl30 hI h257 ⟨_, rfl, trivial⟩
      have hfr : ∀ b, K b ∉ [2, 24, 27, 28, 30] → F290 b = F b := by rw [hF291]; exact s_fr hfr h257 (by decide)
      have o292 : F290 a0 = .inr (1, [.ref z1, .ref z3, .ref z5, .ref z7, .ref z9, .ref z11, .int z13, .int z15, .int z16, .int z17, .int z19, .long z20]) := by rw [hF291]; exact th_ne (th_kd ha0 h257 (by decide)) o284
      have o293 : F290 z7 = .inr (4, [.ref z151, .ref z153, .ref z155, .ref z157, .ref z159, .ref z161, .ref z163, .int z165, .int z167, .int z168, .int z169, .int z171, .int z172, .int z174, .int z175]) := by rw [hF291]; exact th_ne (th_kd h8 h257 (by decide)) o285
      have o294 : F290 z9 = .inr (5, [.ref z256, .ref z258, .ref z260, .ref z262, .ref z264, .int z266, .int z268, .int z269, .int z270, .int z271, .int z272]) := by rw [hF291]; exact th_ne (th_kd h10 h257 (by decide)) o286
      exact W.vret hx hb hr (fun t ht hW => ⟨⟨F290, rfl, ⟨trivial, ⟨trivial, (fun vs q => by rw [o21] at q; cases q; exact ⟨_, o292⟩)⟩, hI, hfr⟩, by rw [ht]; exact hP, va_K.moved hW.alike hK⟩, hS.F ht⟩) hS.2.2 dX1_ask_98

set_option maxHeartbeats 4000000 in
set_option maxRecDepth 100000 in
theorem s_X1_work (l : Launch) (dC : Nat → ClassId) (dI : Nat → Nat → Nat) (sz : Nat) {L : List Nat} {K : Nat → Nat} {cs : Nat → ClassId} (hLK : ∀ a {k : Nat}, K a = k → k ≠ 0 → a ∈ L) (D : Nat) (F : Nat → va_E) (a0 : Nat) (ha0 : K a0 = 2) (hI : s_I K cs D F) (hR : s_rd3 K F a0) (hMR : ∀ z0 z1 z2 z3 z4 z5 z6 z7 z8 z9 z10 z11 f g, F a0 = .inr (1, [.ref z0, .ref z1, .ref z2, .ref z3, .ref z4, .ref z5, .int z6, .int z7, .int z8, .int z9, .int z10, .long z11]) → F z0 = .inl (cs 0, 8, .inl f) → F z5 = .inl (cs 0, 7, .inl g) → ∀ i : Int32, 0 ≤ i.toInt → i.toInt < 8 → ¬ (z8 >>> (i &&& 31) &&& 1) = 0 → 9 ≤ (g 0).toInt → (g 0).toInt ≤ 11 → (f i.toNatClampNeg).toInt ≤ 31) (hGR : ∀ z0 z1 z2 z3 z4 z5 z6 z7 z8 z9 z10 z11 g, F a0 = .inr (1, [.ref z0, .ref z1, .ref z2, .ref z3, .ref z4, .ref z5, .int z6, .int z7, .int z8, .int z9, .int z10, .long z11]) → F z5 = .inl (cs 0, 7, .inl g) → (g 0).toInt < 7 → 0 ≤ (g 1).toInt) : Met l yX1_work (Cond.code yX1_work cX1_work 3 none :: T0) ({ frames := 3, cells := 0, slots := 0, locals := 70 }) (va_Pc [.ref a0] (s_W dC dI sz L F [(cs 0, .int), (cs 1, .byte), (cs 2, .long), (cs 3, .object RX5), (cs 4, .object RX4), (cs 5, .array .int), (cs 6, .char), (cs 7, .boolean)])) (va_Qv (fun (G : Nat → va_E) => True ∧ (True ∧ (∀ vs, F a0 = .inr (1, vs) → ∃ w, G a0 = .inr (1, vs.set 11 (.long w)))) ∧ s_I K cs D G ∧ ∀ b, K b ∉ [2, 24, 27, 28, 30] → G b = F b) (fun (G : Nat → va_E) (t : State) => va_P (dC, dI) vwCl (va_pl L G) t.heap ∧ va_K (dC, dI) vwCl [(cs 0, .int), (cs 1, .byte), (cs 2, .long), (cs 3, .object RX5), (cs 4, .object RX4), (cs 5, .array .int), (cs 6, .char), (cs 7, .boolean)] t) (fun q => q ∈ L)) 0 0 (fun q => q ∈ L) := by
  refine Met.ofW (cc := cX1_work) (maxL := 3) (ret := none) (by decide) rfl ?_
  intro p e s m args below meth c s₁ B hml hv
  obtain ⟨rfl, hsz, hP, hK, hD, hN⟩ := hv
  have hx := B.exec
  have hb := B.bytes
  have hr := B.returns
  have hts : ∀ w ∈ T0, w.before _ s = true := fun w h => atoms_spec (ws := Cond.code yX1_work cX1_work 3 none :: T0) B.pre w (List.mem_cons_of_mem _ h)
  have hown : s.vm.findClass RX1 = some m.cls := findClass_of_methodNamed B.named
  have hlocks := B.notSynchronized
  have hS : va_S (fun q => q ∈ L) s.heap s.heap [] := va_S.rf
  have hfr : ∀ b, K b ∉ [2, 24, 27, 28, 30] → F b = F b := fun _ _ => rfl
  have hl := lv_entry ([.ref a0]) (n := 3) (Nat.le_of_ble_eq_true rfl)
  rw [lg_entry_eq]
  generalize (lg_sl ([.ref a0]) ++ List.replicate (3 - (lg_sl ([.ref a0])).length) Slot.unset).toArray = ls at hl ⊢
  have hl : lv_has ls 3 [(0, .ref a0)] := hl
  refine s_gen hP hS (fun H locs hP hS => ?_)
  obtain ⟨z1, z3, z5, z7, z9, z11, z13, z15, z16, z17, z19, z20, o21, h2, h4, h6, h8, h10, h12, h14, h18, -⟩ := hR
  obtain ⟨f22, o23, h24⟩ := s_op34 hI h2
  obtain ⟨f25, o26, h27⟩ := s_op23 hI h12
  have hadr := hMR _ _ _ _ _ _ _ _ _ _ _ _ f22 f25 o21 o23 o26
  have hrow := hGR _ _ _ _ _ _ _ _ _ _ _ _ f25 o21 o26
  refine lv_aload_n hx hb dX1_work_0 rfl (lv_at hl 0 rfl) ?_
  refine th_get (D := (dC, dI)) (ci := 1) (v := .ref z11) (C := RX1) (T := TX1) (N := 12) hx hb hts inX1 hown hK hP (hLK _ ha0 (by decide)) o21 rfl 5 (by decide) (hts _ T_118) (fun _ h9 => h9) rfl dX1_work_1 ?_
  refine lv_iconst (v := 0) hx hb dX1_work_4 (by decide) ?_
  refine th_iald hx hb hK hP (hLK _ h12 (by decide)) 0 o26 rfl (ax_in (by decide)) dX1_work_5 ?_
  refine lv_topi (fun v28 ev28 => ?_)
  refine lv_istore_n (lv' := [(1, .int v28), (0, .ref a0)]) hx hb dX1_work_6 rfl hl (by decide) rfl (fun ls hl => ?_)
  refine lv_iload_n hx hb dX1_work_7 rfl (lv_at hl 0 rfl) ?_
  refine lv_bipush (v := 11) hx hb dX1_work_8 (by decide) ?_
  refine lv_icmp_le (tgt := 14) hx hb dX1_work_10 (by decide) (fun c29 => ?_) (fun c29 => ?_)
  · have c29 := (ax_le (n := 11) (by decide)).mp c29
    refine lv_iconst (v := 0) hx hb dX1_work_14 (by decide) ?_
    refine lv_istore_n (lv' := [(2, .int 0), (1, .int v28), (0, .ref a0)]) hx hb dX1_work_15 rfl hl (by decide) rfl (fun ls hl => ?_)
    refine th_loop (fun n g H locs => ∃ (G : Nat → va_E) (ls : Array Slot) (w30 : Int32), g = F0 m 16 ls [] ∧ lv_has ls 3 [(0, .ref a0), (1, .int v28), (2, .int w30)] ∧ s_I K cs D G ∧ va_P (dC, dI) vwCl (va_pl L G) H ∧ va_S (fun q => q ∈ L) s.heap H locs ∧ (∀ b, K b ∉ [2, 24, 27, 28, 30] → G b = F b) ∧ (0 ≤ w30.toInt ∧ w30.toInt ≤ 8) ∧ (-2147483648 ≤ v28.toInt ∧ v28.toInt ≤ 11) ∧ (∃ w, G a0 = .inr (1, [.ref z1, .ref z3, .ref z5, .ref z7, .ref z9, .ref z11, .int z13, .int z15, .int z16, .int z17, .int z19, .long w])) ∧ n = (9 - w30.toInt).toNat) _ ⟨F, _, 0, rfl, lv_sub hl [2, 1, 0] rfl, hI, hP, hS, hfr, (by decide), ⟨th_lo v28, by omega⟩, ⟨_, o21⟩, rfl⟩ (fun n ih16 g H locs hq => ?_)
    obtain ⟨F9, ls, w30, rfl, hl, hI, hP, hS, hfr, h31, h32, h33, hn⟩ := hq
    have o34 : F9 z1 = .inl (cs 0, 8, .inl f22) := (hfr _ (by rw [h2]; decide)).trans o23
    have o35 : F9 z11 = .inl (cs 0, 7, .inl f25) := (hfr _ (by rw [h12]; decide)).trans o26
    obtain ⟨z36, o37⟩ := h33
    have hn_16 := hn
    obtain ⟨n_16, hn9_16⟩ : ∃ q, q = n := ⟨_, rfl⟩
    refine th_join (fun g H locs => ∃ (G : Nat → va_E) (ls : Array Slot), g = F0 m 72 ls [] ∧ lv_has ls 3 [(0, .ref a0), (1, .int v28), (2, .int w30)] ∧ s_I K cs D G ∧ va_P (dC, dI) vwCl (va_pl L G) H ∧ va_S (fun q => q ∈ L) s.heap H locs ∧ (∀ b, K b ∉ [2, 24, 27, 28, 30] → G b = F b) ∧ (-2147483648 ≤ v28.toInt ∧ v28.toInt ≤ 11) ∧ (0 ≤ w30.toInt ∧ w30.toInt ≤ 7) ∧ (∃ w, G a0 = .inr (1, [.ref z1, .ref z3, .ref z5, .ref z7, .ref z9, .ref z11, .int z13, .int z15, .int z16, .int z17, .int z19, .long w]))) (fun K72 => ?_) ?_
    · refine lv_iload_n hx hb dX1_work_16 rfl (lv_at hl 2 rfl) ?_
      refine lv_bipush (v := 8) hx hb dX1_work_17 (by decide) ?_
      refine lv_icmp_ge (tgt := 78) hx hb dX1_work_19 (by decide) (fun c38 => ?_) (fun c38 => ?_)
      · have c38 := (ax_ge (n := 8) (by decide)).mp c38
        exact W.vret hx hb hr (fun t ht hW => ⟨⟨F9, rfl, ⟨trivial, ⟨trivial, (fun vs q => by rw [o21] at q; cases q; exact ⟨_, o37⟩)⟩, hI, hfr⟩, by rw [ht]; exact hP, va_K.moved hW.alike hK⟩, hS.F ht⟩) hS.2.2 dX1_work_78
      · have c38 := mt (ax_ge (n := 8) (by decide)).mpr c38
        refine lv_aload_n hx hb dX1_work_22 rfl (lv_at hl 0 rfl) ?_
        refine lv_iload_n hx hb dX1_work_23 rfl (lv_at hl 2 rfl) ?_
        refine va_calli (va_runV (As := [.int w30]) (rest := []) ⟨hx, hb, hml, hown, hts⟩ (s_X1_goesNow l dC dI H.size hLK D F9 a0 w30 ha0 hI) (cwV 1 hts (ax_gV T_101 T_102 T_103 T_100 T_99) rfl rfl rfl (by decide +kernel) ⟨Nat.le_of_ble_eq_true rfl, Nat.le_of_ble_eq_true rfl⟩) ⟨fun a U g mk q => ⟨q.1, s_pc rfl rfl q.2⟩, s_recv hK hP (hLK _ ha0 (by decide)) (ci := 1) rfl o37, fun U hU hW => ⟨rfl, s_pw hU hW hP hK hD hN⟩⟩ rfl rfl hl.1 rfl (lv_room (Nat.le_of_ble_eq_true rfl)) dX1_work_24 ⟨Nat.zero_le _, Nat.zero_le _⟩) hS (fun q _ h => h) (fun q h => h) (fun r39 F40 t H1 locs ht hvm hw hB hz1 hk1 hS => ?_)
        obtain ⟨hP, hK1⟩ := hB
        rw [ht] at hP
        generalize H1 = H at hP hS ⊢
        obtain ⟨h41, h42, hI, hfr1⟩ := hw
        have o43 : F40 a0 = .inr (1, [.ref z1, .ref z3, .ref z5, .ref z7, .ref z9, .ref z11, .int z13, .int z15, .int z16, .int z17, .int z19, .long z36]) := (hfr1 _ (by rw [ha0]; decide)).trans o37
        have o44 : F40 z1 = .inl (cs 0, 8, .inl f22) := (hfr1 _ (by rw [h2]; decide)).trans o34
        have o45 : F40 z11 = .inl (cs 0, 7, .inl f25) := (hfr1 _ (by rw [h12]; decide)).trans o35
        have hfr : ∀ b, K b ∉ [2, 24, 27, 28, 30] → F40 b = F b := fun b hb9 => (hfr1 b (fun q => hb9 (s_sub (by decide) q))).trans (hfr b hb9)
        obtain ⟨h42, h46⟩ := h42
        have h46 : (∀ vs z, F9 a0 = .inr (1, vs) → vs[8]? = some (.int z) → (r39 = 0 ↔ (z >>> (w30 &&& 31) &&& 1) = 0)) := h46
        refine lv_if_eq (tgt := 72) hx hb dX1_work_27 (by decide) (fun c47 => ?_) (fun c47 => ?_)
        · have c47 := (ax_eq (n := 0) (by decide)).mp c47
          exact K72 _ _ _ ⟨F40, _, rfl, lv_sub hl [0, 1, 2] rfl, hI, hP, hS, hfr, ⟨th_lo v28, by omega⟩, ⟨by omega, by omega⟩, ⟨_, o43⟩⟩
        · have c47 := mt (ax_eq (n := 0) (by decide)).mpr c47
          have h48 := mt (h46 _ _ o37 rfl).mp (fun q9 => c47 (by rw [q9]; decide))
          refine lv_iload_n hx hb dX1_work_30 rfl (lv_at hl 1 rfl) ?_
          refine lv_bipush (v := 7) hx hb dX1_work_31 (by decide) ?_
          refine lv_icmp_ge (tgt := 66) hx hb dX1_work_33 (by decide) (fun c49 => ?_) (fun c49 => ?_)
          · have c49 := (ax_ge (n := 7) (by decide)).mp c49
            refine lv_aload_n hx hb dX1_work_66 rfl (lv_at hl 0 rfl) ?_
            refine lv_iload_n hx hb dX1_work_67 rfl (lv_at hl 1 rfl) ?_
            refine lv_iload_n hx hb dX1_work_68 rfl (lv_at hl 2 rfl) ?_
            refine va_callv (va_runV (As := [.int v28, .int w30]) (rest := []) ⟨hx, hb, hml, hown, hts⟩ (s_X1_ask l dC dI H.size hLK D F40 a0 v28 w30 ha0 (⟨by omega, by omega⟩) hI ⟨z1, z3, z5, z7, z9, z11, z13, z15, z16, z17, z19, z36, o43, h2, h4, h6, h8, h10, h12, ⟨by omega, by omega⟩, ⟨by omega, by omega⟩, trivial⟩ (fun z vs f q1 q2 q3 => by rw [o43] at q1; cases q1; rw [o44] at q2; cases q2; exact hadr _ (by omega) (by omega) h48 (by omega) (by omega))) (cwV 2 hts (ax_gV T_252 T_253 T_254 T_100 T_251) rfl rfl rfl (by decide +kernel) ⟨Nat.le_of_ble_eq_true rfl, Nat.le_of_ble_eq_true rfl⟩) ⟨fun a U g mk q => ⟨q.1, s_pc rfl rfl q.2⟩, s_recv hK hP (hLK _ ha0 (by decide)) (ci := 1) rfl o43, fun U hU hW => ⟨rfl, s_pw hU hW hP hK hD hN⟩⟩ rfl rfl hl.1 rfl (lv_room (Nat.le_of_ble_eq_true rfl)) dX1_work_69 ⟨Nat.zero_le _, Nat.zero_le _⟩) hS (fun q _ h => h) (fun q h => h) (fun F50 t H1 locs ht hvm hw hB hz1 hk1 hS => ?_)
            obtain ⟨hP, hK1⟩ := hB
            rw [ht] at hP
            generalize H1 = H at hP hS ⊢
            obtain ⟨h51, h52, hI, hfr1⟩ := hw
            have o53 : F50 z1 = .inl (cs 0, 8, .inl f22) := (hfr1 _ (by rw [h2]; decide)).trans o44
            have o54 : F50 z11 = .inl (cs 0, 7, .inl f25) := (hfr1 _ (by rw [h12]; decide)).trans o45
            have hfr : ∀ b, K b ∉ [2, 24, 27, 28, 30] → F50 b = F b := fun b hb9 => (hfr1 b (fun q => hb9 (s_sub (by decide) q))).trans (hfr b hb9)
            obtain ⟨h52, h55⟩ := h52
            have h55 : (∀ vs, F40 a0 = .inr (1, vs) → ∃ w, F50 a0 = .inr (1, vs.set 11 (.long w))) := h55
            obtain ⟨z56, o57⟩ := h55 _ o43
            have o57 : F50 a0 = .inr (1, [.ref z1, .ref z3, .ref z5, .ref z7, .ref z9, .ref z11, .int z13, .int z15, .int z16, .int z17, .int z19, .long z56]) := o57
            exact K72 _ _ _ ⟨F50, _, rfl, lv_sub hl [0, 1, 2] rfl, hI, hP, hS, hfr, ⟨th_lo v28, by omega⟩, ⟨by omega, by omega⟩, ⟨_, o57⟩⟩
          · have c49 := mt (ax_ge (n := 7) (by decide)).mpr c49
            refine lv_aload_n hx hb dX1_work_36 rfl (lv_at hl 0 rfl) ?_
            refine th_get (D := (dC, dI)) (ci := 1) (v := .ref z9) (C := RX1) (T := TX1) (N := 12) hx hb hts inX1 hown hK hP (hLK _ ha0 (by decide)) o43 rfl 4 (by decide) (hts _ T_111) (fun _ h9 => h9) rfl dX1_work_37 ?_
            obtain ⟨z58, z60, z62, z64, z66, z68, z70, z71, z72, z73, z74, o76, h59, h61, h63, h65, h67, h69, h75, -⟩ := s_op6 hI h10
            refine th_getN (D := (dC, dI)) (ci := 5) (v := .ref z58) (C := RX5) (T := TX5) (N := 11) hx hb hts inX5 hown hK hP (hLK _ h10 (by decide)) o76 rfl 0 (by decide) (va_Nw.use rfl hN.2.2.2.2.2.2.2.2.2.2.2.2.2.2.2.2.2.1) (fun _ h9 => h9) rfl dX1_work_40 ?_
            refine lv_iload_n hx hb dX1_work_43 rfl (lv_at hl 2 rfl) ?_
            refine lv_iconst (v := 4) hx hb dX1_work_44 (by decide) ?_
            refine lv_imul hx hb dX1_work_45 ?_
            refine lv_topi (fun v77 ev77 => ?_)
            have qv77 : v77.toInt = w30.toInt * 4 := by rw [ev77]; exact th_mul rfl (by decide) ⟨by omega, by omega⟩
            refine lv_aload_n hx hb dX1_work_46 rfl (lv_at hl 0 rfl) ?_
            refine th_get (D := (dC, dI)) (ci := 1) (v := .ref z11) (C := RX1) (T := TX1) (N := 12) hx hb hts inX1 hown hK hP (hLK _ ha0 (by decide)) o43 rfl 5 (by decide) (hts _ T_118) (fun _ h9 => h9) rfl dX1_work_47 ?_
            refine lv_iconst (v := 1) hx hb dX1_work_50 (by decide) ?_
            refine th_iald hx hb hK hP (hLK _ h12 (by decide)) 0 o45 rfl (ax_in (by decide)) dX1_work_51 ?_
            refine lv_topi (fun v78 ev78 => ?_)
            have qv78 : v78.toInt ≤ 3 := by rw [ev78]; exact h27
            refine lv_iadd hx hb dX1_work_52 ?_
            refine lv_topi (fun v79 ev79 => ?_)
            have qv79 : v79.toInt = v77.toInt + v78.toInt := by rw [ev79]; exact th_add rfl rfl (by have q8 := th_lo v78; have q9 := th_hi v78; exact ⟨by omega, by omega⟩)
            refine lv_aload_n hx hb dX1_work_53 rfl (lv_at hl 0 rfl) ?_
            refine lv_iload_n hx hb dX1_work_54 rfl (lv_at hl 1 rfl) ?_
            refine lv_iload_n hx hb dX1_work_55 rfl (lv_at hl 2 rfl) ?_
            refine va_calli (va_runV (As := [.int v28, .int w30]) (rest := [.int v79, .ref z58]) ⟨hx, hb, hml, hown, hts⟩ (s_X1_result l dC dI H.size hLK D F40 a0 v28 w30 ha0 (⟨by omega, by omega⟩) hI ⟨z1, z3, z5, z7, z9, z11, z13, z15, z16, z17, z19, z36, o43, h2, h4, h6, h8, h10, h12, ⟨by omega, by omega⟩, ⟨by omega, by omega⟩, trivial⟩) (cwV 2 hts (ax_gV T_256 T_257 T_258 T_100 T_255) rfl rfl rfl (by decide +kernel) ⟨Nat.le_of_ble_eq_true rfl, Nat.le_of_ble_eq_true rfl⟩) ⟨fun a U g mk q => ⟨q.1, s_pc rfl rfl q.2⟩, s_recv hK hP (hLK _ ha0 (by decide)) (ci := 1) rfl o43, fun U hU hW => ⟨rfl, s_pw hU hW hP hK hD hN⟩⟩ rfl rfl hl.1 rfl (lv_room (Nat.le_of_ble_eq_true rfl)) dX1_work_56 ⟨Nat.zero_le _, Nat.zero_le _⟩) hS (fun q _ h => h) (fun q h => h) (fun r80 F81 t H1 locs ht hvm hw hB hz1 hk1 hS => ?_)
            obtain ⟨hP, hK1⟩ := hB
            rw [ht] at hP
            generalize H1 = H at hP hS ⊢
            obtain ⟨h82, h83, hI, hfr1⟩ := hw
            have o84 : F81 a0 = .inr (1, [.ref z1, .ref z3, .ref z5, .ref z7, .ref z9, .ref z11, .int z13, .int z15, .int z16, .int z17, .int z19, .long z36]) := (hfr1 _ (by rw [ha0]; decide)).trans o43
            have o85 : F81 z9 = .inr (5, [.ref z58, .ref z60, .ref z62, .ref z64, .ref z66, .int z68, .int z70, .int z71, .int z72, .int z73, .int z74]) := (hfr1 _ (by rw [h10]; decide)).trans o76
            have o86 : F81 z1 = .inl (cs 0, 8, .inl f22) := (hfr1 _ (by rw [h2]; decide)).trans o44
            have o87 : F81 z11 = .inl (cs 0, 7, .inl f25) := (hfr1 _ (by rw [h12]; decide)).trans o45
            have hfr : ∀ b, K b ∉ [2, 24, 27, 28, 30] → F81 b = F b := fun b hb9 => (hfr1 b (fun q => hb9 (s_sub (by decide) q))).trans (hfr b hb9)
            refine va_calli (va_runS (As := [.int r80]) (rest := [.int v79, .ref z58]) ⟨hx, hb, hml, hown, hts⟩ (s_X1_bounded l dC dI H.size hLK D F81 r80 hI) (cwS 1 hts (ax_gS T_260 T_261 T_100 T_259) rfl rfl rfl (by decide +kernel) ⟨Nat.le_of_ble_eq_true rfl, Nat.le_of_ble_eq_true rfl⟩) ⟨fun a U g mk q => ⟨q.1, s_pc rfl rfl q.2⟩, fun U hU hW => ⟨rfl, s_pw hU hW hP hK hD hN⟩⟩ rfl rfl hl.1 rfl (lv_room (Nat.le_of_ble_eq_true rfl)) dX1_work_59 ⟨Nat.zero_le _, Nat.zero_le _⟩) hS (fun q _ h => h) (fun q h => h) (fun r88 F89 t H1 locs ht hvm hw hB hz1 hk1 hS => ?_)
            obtain ⟨hP, hK1⟩ := hB
            rw [ht] at hP
            generalize H1 = H at hP hS ⊢
            obtain ⟨h90, h91, hI, hfr1⟩ := hw
            have o92 : F89 a0 = .inr (1, [.ref z1, .ref z3, .ref z5, .ref z7, .ref z9, .ref z11, .int z13, .int z15, .int z16, .int z17, .int z19, .long z36]) := (hfr1 _ (by rw [ha0]; decide)).trans o84
            have o93 : F89 z9 = .inr (5, [.ref z58, .ref z60, .ref z62, .ref z64, .ref z66, .int z68, .int z70, .int z71, .int z72, .int z73, .int z74]) := (hfr1 _ (by rw [h10]; decide)).trans o85
            have o94 : F89 z1 = .inl (cs 0, 8, .inl f22) := (hfr1 _ (by rw [h2]; decide)).trans o86
            have o95 : F89 z11 = .inl (cs 0, 7, .inl f25) := (hfr1 _ (by rw [h12]; decide)).trans o87
            have hfr : ∀ b, K b ∉ [2, 24, 27, 28, 30] → F89 b = F b := fun b hb9 => (hfr1 b (fun q => hb9 (s_sub (by decide) q))).trans (hfr b hb9)
            obtain ⟨f96, o97, h98⟩ := s_op30 hI h59
            refine th_iast hx hb hK hP hD hS (hLK _ h59 (by decide)) 0 o97 rfl (th_in ⟨by omega, by omega⟩) dX1_work_62 (fun H locs hP hS => ?_)
            have hP : va_P (dC, dI) vwCl (va_pl L (va_up F89 z58 (.inl (cs 0, 32, .inl (upd f96 (v79 : Int32).toNatClampNeg r88))))) H := hP
            obtain ⟨F99, hF100⟩ : ∃ G : Nat → va_E, G = va_up F89 z58 (.inl (cs 0, 32, .inl (upd f96 (v79 : Int32).toNatClampNeg r88))) := ⟨_, rfl⟩
            rw [← hF100] at hP
            have hI : s_I K cs D F99 := by rw [hF100]; exact s_cl30 hI h59 ⟨_, rfl, trivial⟩
            have hfr : ∀ b, K b ∉ [2, 24, 27, 28, 30] → F99 b = F b := by rw [hF100]; exact s_fr hfr h59 (by decide)
            have o101 : F99 a0 = .inr (1, [.ref z1, .ref z3, .ref z5, .ref z7, .ref z9, .ref z11, .int z13, .int z15, .int z16, .int z17, .int z19, .long z36]) := by rw [hF100]; exact th_ne (th_kd ha0 h59 (by decide)) o92
            have o102 : F99 z9 = .inr (5, [.ref z58, .ref z60, .ref z62, .ref z64, .ref z66, .int z68, .int z70, .int z71, .int z72, .int z73, .int z74]) := by rw [hF100]; exact th_ne (th_kd h10 h59 (by decide)) o93
            have o103 : F99 z1 = .inl (cs 0, 8, .inl f22) := by rw [hF100]; exact th_ne (th_kd h2 h59 (by decide)) o94
            have o104 : F99 z11 = .inl (cs 0, 7, .inl f25) := by rw [hF100]; exact th_ne (th_kd h12 h59 (by decide)) o95
            refine lv_goto (tgt := 72) hx hb dX1_work_63 (by decide) ?_
            exact K72 _ _ _ ⟨F99, _, rfl, lv_sub hl [0, 1, 2] rfl, hI, hP, hS, hfr, ⟨th_lo v28, by omega⟩, ⟨by omega, by omega⟩, ⟨_, o101⟩⟩
    · intro g H locs hq
      obtain ⟨F9, ls, rfl, hl, hI, hP, hS, hfr, h105, h106, h107⟩ := hq
      have o108 : F9 z1 = .inl (cs 0, 8, .inl f22) := (hfr _ (by rw [h2]; decide)).trans o23
      have o109 : F9 z11 = .inl (cs 0, 7, .inl f25) := (hfr _ (by rw [h12]; decide)).trans o26
      obtain ⟨z110, o111⟩ := h107
      obtain ⟨v112, ev112⟩ : ∃ y : Int32, w30 + 1 = y := ⟨_, rfl⟩
      have qv112 : v112.toInt = w30.toInt + 1 := by rw [← ev112]; exact th_add rfl (by decide) ⟨by omega, by omega⟩
      refine lv_iinc (v := v112) (lv' := [(2, .int v112), (0, .ref a0), (1, .int v28)]) hx hb dX1_work_72 hl (k := 2) rfl ev112 (by decide) rfl (fun ls hl => ?_)
      refine lv_goto (tgt := 16) hx hb dX1_work_75 (by decide) ?_
      exact ih16 _ _ _ _ (by omega) ⟨F9, _, v112, rfl, lv_sub hl [1, 2, 0] rfl, hI, hP, hS, hfr, ⟨by omega, by omega⟩, ⟨th_lo v28, by omega⟩, ⟨_, o111⟩, rfl⟩
  · have c29 := mt (ax_le (n := 11) (by decide)).mpr c29
    exact W.vret hx hb hr (fun t ht hW => ⟨⟨F, rfl, ⟨trivial, ⟨trivial, (fun vs q => by rw [o21] at q; cases q; exact ⟨_, o21⟩)⟩, hI, hfr⟩, by rw [ht]; exact hP, va_K.moved hW.alike hK⟩, hS.F ht⟩) hS.2.2 dX1_work_13

