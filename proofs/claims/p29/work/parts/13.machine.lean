set_option maxHeartbeats 4000000 in
set_option maxRecDepth 100000 in
theorem s_X1_take (l : Launch) (dC : Nat → ClassId) (dI : Nat → Nat → Nat) (sz : Nat) {L : List Nat} {K : Nat → Nat} {cs : Nat → ClassId} (hLK : ∀ a {k : Nat}, K a = k → k ≠ 0 → a ∈ L) (D : Nat) (F : Nat → va_E) (a0 : Nat) (a1 : Nat) (ha0 : K a0 = 2) (ha1 : K a1 = 3) (hI : s_I K cs D F) : Met l yX1_take (Cond.code yX1_take cX1_take 2 none :: T0) ({ frames := 0, cells := 0, slots := 0, locals := 0 }) (va_Pc [.ref a0, .ref a1] (s_W dC dI sz L F [(cs 0, .int), (cs 1, .byte), (cs 2, .long), (cs 3, .object RX5), (cs 4, .object RX4), (cs 5, .array .int), (cs 6, .char), (cs 7, .boolean)])) (va_Qv (fun (G : Nat → va_E) => True ∧ True ∧ s_I K cs D G ∧ ∀ b, K b ∉ [2] → G b = F b) (fun (G : Nat → va_E) (t : State) => va_P (dC, dI) vwCl (va_pl L G) t.heap ∧ va_K (dC, dI) vwCl [(cs 0, .int), (cs 1, .byte), (cs 2, .long), (cs 3, .object RX5), (cs 4, .object RX4), (cs 5, .array .int), (cs 6, .char), (cs 7, .boolean)] t) (fun q => q ∈ L)) 0 0 (fun q => q ∈ L) := by
  refine Met.ofW (cc := cX1_take) (maxL := 2) (ret := none) (by decide) rfl ?_
  intro p e s m args below meth c s₁ B hml hv
  obtain ⟨rfl, hsz, hP, hK, hD, hN⟩ := hv
  have hx := B.exec
  have hb := B.bytes
  have hr := B.returns
  have hts : ∀ w ∈ T0, w.before _ s = true := fun w h => atoms_spec (ws := Cond.code yX1_take cX1_take 2 none :: T0) B.pre w (List.mem_cons_of_mem _ h)
  have hown : s.vm.findClass RX1 = some m.cls := findClass_of_methodNamed B.named
  have hlocks := B.notSynchronized
  have hS : va_S (fun q => q ∈ L) s.heap s.heap [] := va_S.rf
  have hfr : ∀ b, K b ∉ [2] → F b = F b := fun _ _ => rfl
  have hl := lv_entry ([.ref a0, .ref a1]) (n := 2) (Nat.le_of_ble_eq_true rfl)
  rw [lg_entry_eq]
  generalize (lg_sl ([.ref a0, .ref a1]) ++ List.replicate (2 - (lg_sl ([.ref a0, .ref a1])).length) Slot.unset).toArray = ls at hl ⊢
  have hl : lv_has ls 2 [(0, .ref a0), (1, .ref a1)] := hl
  refine s_gen hP hS (fun H locs hP hS => ?_)
  refine lv_aload_n hx hb dX1_take_0 rfl (lv_at hl 0 rfl) ?_
  refine lv_aload_n hx hb dX1_take_1 rfl (lv_at hl 1 rfl) ?_
  obtain ⟨z1, z3, z5, z7, z9, z11, z13, z15, z16, z17, z19, z20, o21, h2, h4, h6, h8, h10, h12, h14, h18, -⟩ := s_op2 hI ha0
  refine th_put (D := (dC, dI)) (ci := 1) (v := .ref a1) (ty := .object "LaneWarps$Program") (C := RX1) (T := TX1) (N := 12) hx hb hts inX1 tyX1 tyX1_ok nmX1 hown hK hP hD hS (hLK _ ha0 (by decide)) o21 rfl 2 (by decide) (hts _ T_84) (fun _ h9 => h9) rfl (by decide +kernel) rfl rfl (Nat.le_of_ble_eq_true rfl) dX1_take_2 (fun H locs hP hS => ?_)
  have hP : va_P (dC, dI) vwCl (va_pl L (va_up F a0 (.inr (1, [.ref z1, .ref z3, .ref a1, va_rf z7, va_rf z9, va_rf z11, .int z13, .int z15, .int z16, .int z17, .int z19, .long z20])))) H := hP
  obtain ⟨F22, hF23⟩ : ∃ G : Nat → va_E, G = va_up F a0 (.inr (1, [.ref z1, .ref z3, .ref a1, va_rf z7, va_rf z9, va_rf z11, .int z13, .int z15, .int z16, .int z17, .int z19, .long z20])) := ⟨_, rfl⟩
  rw [← hF23] at hP
  have hI : s_I K cs D F22 := by rw [hF23]; exact s_cl2 hI ha0 ⟨z1, z3, a1, z7, z9, z11, z13, z15, z16, z17, z19, z20, rfl, h2, h4, ha1, h8, h10, h12, ⟨by omega, by omega⟩, ⟨by omega, by omega⟩, trivial⟩
  have hfr : ∀ b, K b ∉ [2] → F22 b = F b := by rw [hF23]; exact s_fr hfr ha0 (by decide)
  have o24 : F22 a0 = .inr (1, [.ref z1, .ref z3, .ref a1, va_rf z7, va_rf z9, va_rf z11, .int z13, .int z15, .int z16, .int z17, .int z19, .long z20]) := by rw [hF23]; exact th_up
  exact W.vret hx hb hr (fun t ht hW => ⟨⟨F22, rfl, ⟨trivial, trivial, hI, hfr⟩, by rw [ht]; exact hP, va_K.moved hW.alike hK⟩, hS.F ht⟩) hS.2.2 dX1_take_5

set_option maxHeartbeats 4000000 in
set_option maxRecDepth 100000 in
theorem s_X1_goesNow (l : Launch) (dC : Nat → ClassId) (dI : Nat → Nat → Nat) (sz : Nat) {L : List Nat} {K : Nat → Nat} {cs : Nat → ClassId} (hLK : ∀ a {k : Nat}, K a = k → k ≠ 0 → a ∈ L) (D : Nat) (F : Nat → va_E) (a0 : Nat) (x1 : Int32) (ha0 : K a0 = 2) (hI : s_I K cs D F) : Met l yX1_goesNow (Cond.code yX1_goesNow cX1_goesNow 2 (some .boolean) :: T0) ({ frames := 0, cells := 0, slots := 0, locals := 0 }) (va_Pc [.ref a0, .int x1] (s_W dC dI sz L F [(cs 0, .int), (cs 1, .byte), (cs 2, .long), (cs 3, .object RX5), (cs 4, .object RX4), (cs 5, .array .int), (cs 6, .char), (cs 7, .boolean)])) (va_Qi (fun (r : Int32) (G : Nat → va_E) => (0 ≤ r.toInt ∧ r.toInt ≤ 1) ∧ (True ∧ (∀ vs z, F a0 = .inr (1, vs) → vs[8]? = some (.int z) → (r = 0 ↔ (z >>> (x1 &&& 31) &&& 1) = 0))) ∧ s_I K cs D G ∧ ∀ b, K b ∉ ([] : List Nat) → G b = F b) (fun (G : Nat → va_E) (t : State) => va_P (dC, dI) vwCl (va_pl L G) t.heap ∧ va_K (dC, dI) vwCl [(cs 0, .int), (cs 1, .byte), (cs 2, .long), (cs 3, .object RX5), (cs 4, .object RX4), (cs 5, .array .int), (cs 6, .char), (cs 7, .boolean)] t) (fun q => q ∈ L)) 0 0 (fun q => q ∈ L) := by
  refine Met.ofW (cc := cX1_goesNow) (maxL := 2) (ret := (some .boolean)) (by decide) rfl ?_
  intro p e s m args below meth c s₁ B hml hv
  obtain ⟨rfl, hsz, hP, hK, hD, hN⟩ := hv
  have hx := B.exec
  have hb := B.bytes
  have hr := B.returns
  have hts : ∀ w ∈ T0, w.before _ s = true := fun w h => atoms_spec (ws := Cond.code yX1_goesNow cX1_goesNow 2 (some .boolean) :: T0) B.pre w (List.mem_cons_of_mem _ h)
  have hown : s.vm.findClass RX1 = some m.cls := findClass_of_methodNamed B.named
  have hlocks := B.notSynchronized
  have hS : va_S (fun q => q ∈ L) s.heap s.heap [] := va_S.rf
  have hfr : ∀ b, K b ∉ ([] : List Nat) → F b = F b := fun _ _ => rfl
  have hl := lv_entry ([.ref a0, .int x1]) (n := 2) (Nat.le_of_ble_eq_true rfl)
  rw [lg_entry_eq]
  generalize (lg_sl ([.ref a0, .int x1]) ++ List.replicate (2 - (lg_sl ([.ref a0, .int x1])).length) Slot.unset).toArray = ls at hl ⊢
  have hl : lv_has ls 2 [(0, .ref a0), (1, .int x1)] := hl
  refine s_gen hP hS (fun H locs hP hS => ?_)
  refine lv_aload_n hx hb dX1_goesNow_0 rfl (lv_at hl 0 rfl) ?_
  obtain ⟨z1, z3, z5, z7, z9, z11, z13, z15, z16, z17, z19, z20, o21, h2, h4, h6, h8, h10, h12, h14, h18, -⟩ := s_op2 hI ha0
  refine th_get (D := (dC, dI)) (ci := 1) (v := .int z16) (C := RX1) (T := TX1) (N := 12) hx hb hts inX1 hown hK hP (hLK _ ha0 (by decide)) o21 rfl 8 (by decide) (hts _ T_85) (fun _ h9 => h9) rfl dX1_goesNow_1 ?_
  refine lv_iload_n hx hb dX1_goesNow_4 rfl (lv_at hl 1 rfl) ?_
  refine lv_ishr hx hb dX1_goesNow_5 ?_
  refine lv_topi (fun v22 ev22 => ?_)
  refine lv_iconst (v := 1) hx hb dX1_goesNow_6 (by decide) ?_
  refine lv_iand hx hb dX1_goesNow_7 ?_
  refine lv_topi (fun v23 ev23 => ?_)
  have qv23 : 0 ≤ v23.toInt ∧ v23.toInt ≤ 1 := by rw [ev23]; exact th_and 1 (by decide) (by decide)
  refine lv_if_eq (tgt := 15) hx hb dX1_goesNow_8 (by decide) (fun c24 => ?_) (fun c24 => ?_)
  · have c24 := (ax_eq (n := 0) (by decide)).mp c24
    have g_bit : (z16 >>> (x1 &&& 31) &&& 1) = 0 := by rw [← ev22, ← ev23]; exact Int32.toInt_inj.mp (by rw [c24]; decide)
    refine lv_iconst (v := 0) hx hb dX1_goesNow_15 (by decide) ?_
    exact W.zret (v := 0) (ty := .boolean) hx hb hr (by decide) (fun t ht hW => ⟨⟨0, F, rfl, ⟨(by decide), ⟨trivial, (fun vs z q q2 => by rw [o21] at q; cases q; cases q2; exact ⟨fun _ => g_bit, fun _ => rfl⟩)⟩, hI, hfr⟩, by rw [ht]; exact hP, va_K.moved hW.alike hK⟩, hS.F ht⟩) hS.2.2 dX1_goesNow_16
  · have c24 := mt (ax_eq (n := 0) (by decide)).mpr c24
    have g_bit : ¬ (z16 >>> (x1 &&& 31) &&& 1) = 0 := by intro q9; apply c24; rw [ev23, ev22, q9]; decide
    refine lv_iconst (v := 1) hx hb dX1_goesNow_11 (by decide) ?_
    refine lv_goto (tgt := 16) hx hb dX1_goesNow_12 (by decide) ?_
    exact W.zret (v := 1) (ty := .boolean) hx hb hr (by decide) (fun t ht hW => ⟨⟨1, F, rfl, ⟨(by decide), ⟨trivial, (fun vs z q q2 => by rw [o21] at q; cases q; cases q2; exact ⟨fun q9 => absurd q9 (by decide), fun q9 => absurd q9 g_bit⟩)⟩, hI, hfr⟩, by rw [ht]; exact hP, va_K.moved hW.alike hK⟩, hS.F ht⟩) hS.2.2 dX1_goesNow_16

set_option maxHeartbeats 4000000 in
set_option maxRecDepth 100000 in
theorem s_X1_segments (l : Launch) (dC : Nat → ClassId) (dI : Nat → Nat → Nat) (sz : Nat) {L : List Nat} {K : Nat → Nat} {cs : Nat → ClassId} (hLK : ∀ a {k : Nat}, K a = k → k ≠ 0 → a ∈ L) (D : Nat) (F : Nat → va_E) (a0 : Nat) (ha0 : K a0 = 2) (hI : s_I K cs D F) : Met l yX1_segments (Cond.code yX1_segments cX1_segments 3 (some .int) :: T0) ({ frames := 1, cells := 0, slots := 0, locals := 21 }) (va_Pc [.ref a0] (s_W dC dI sz L F [(cs 0, .int), (cs 1, .byte), (cs 2, .long), (cs 3, .object RX5), (cs 4, .object RX4), (cs 5, .array .int), (cs 6, .char), (cs 7, .boolean)])) (va_Qi (fun (r : Int32) (G : Nat → va_E) => (0 ≤ r.toInt ∧ r.toInt ≤ 63) ∧ True ∧ s_I K cs D G ∧ ∀ b, K b ∉ ([] : List Nat) → G b = F b) (fun (G : Nat → va_E) (t : State) => va_P (dC, dI) vwCl (va_pl L G) t.heap ∧ va_K (dC, dI) vwCl [(cs 0, .int), (cs 1, .byte), (cs 2, .long), (cs 3, .object RX5), (cs 4, .object RX4), (cs 5, .array .int), (cs 6, .char), (cs 7, .boolean)] t) (fun q => q ∈ L)) 0 0 (fun q => q ∈ L) := by
  refine Met.ofW (cc := cX1_segments) (maxL := 3) (ret := (some .int)) (by decide) rfl ?_
  intro p e s m args below meth c s₁ B hml hv
  obtain ⟨rfl, hsz, hP, hK, hD, hN⟩ := hv
  have hx := B.exec
  have hb := B.bytes
  have hr := B.returns
  have hts : ∀ w ∈ T0, w.before _ s = true := fun w h => atoms_spec (ws := Cond.code yX1_segments cX1_segments 3 (some .int) :: T0) B.pre w (List.mem_cons_of_mem _ h)
  have hown : s.vm.findClass RX1 = some m.cls := findClass_of_methodNamed B.named
  have hlocks := B.notSynchronized
  have hS : va_S (fun q => q ∈ L) s.heap s.heap [] := va_S.rf
  have hfr : ∀ b, K b ∉ ([] : List Nat) → F b = F b := fun _ _ => rfl
  have hl := lv_entry ([.ref a0]) (n := 3) (Nat.le_of_ble_eq_true rfl)
  rw [lg_entry_eq]
  generalize (lg_sl ([.ref a0]) ++ List.replicate (3 - (lg_sl ([.ref a0])).length) Slot.unset).toArray = ls at hl ⊢
  have hl : lv_has ls 3 [(0, .ref a0)] := hl
  refine s_gen hP hS (fun H locs hP hS => ?_)
  refine lv_iconst (v := 0) hx hb dX1_segments_0 (by decide) ?_
  refine lv_istore_n (lv' := [(1, .int 0), (0, .ref a0)]) hx hb dX1_segments_1 rfl hl (by decide) rfl (fun ls hl => ?_)
  refine lv_iconst (v := 0) hx hb dX1_segments_2 (by decide) ?_
  refine lv_istore_n (lv' := [(2, .int 0), (1, .int 0), (0, .ref a0)]) hx hb dX1_segments_3 rfl hl (by decide) rfl (fun ls hl => ?_)
  refine th_loop (fun n g H locs => ∃ (G : Nat → va_E) (ls : Array Slot) (w1 : Int32) (w2 : Int32), g = F0 m 4 ls [] ∧ lv_has ls 3 [(0, .ref a0), (1, .int w1), (2, .int w2)] ∧ s_I K cs D G ∧ va_P (dC, dI) vwCl (va_pl L G) H ∧ va_S (fun q => q ∈ L) s.heap H locs ∧ (∀ b, K b ∉ ([] : List Nat) → G b = F b) ∧ True ∧ (0 ≤ w2.toInt ∧ w2.toInt ≤ 8) ∧ n = (9 - w2.toInt).toNat) _ ⟨F, _, 0, 0, rfl, lv_sub hl [2, 1, 0] rfl, hI, hP, hS, hfr, trivial, (by decide), rfl⟩ (fun n ih4 g H locs hq => ?_)
  obtain ⟨F9, ls, w1, w2, rfl, hl, hI, hP, hS, hfr, h3, h4, hn⟩ := hq
  have hn_4 := hn
  obtain ⟨n_4, hn9_4⟩ : ∃ q, q = n := ⟨_, rfl⟩
  refine th_join (fun g H locs => ∃ (G : Nat → va_E) (ls : Array Slot) (w5 : Int32), g = F0 m 32 ls [] ∧ lv_has ls 3 [(0, .ref a0), (1, .int w5), (2, .int w2)] ∧ s_I K cs D G ∧ va_P (dC, dI) vwCl (va_pl L G) H ∧ va_S (fun q => q ∈ L) s.heap H locs ∧ (∀ b, K b ∉ ([] : List Nat) → G b = F b) ∧ True ∧ (0 ≤ w2.toInt ∧ w2.toInt ≤ 7)) (fun K32 => ?_) ?_
  · refine lv_iload_n hx hb dX1_segments_4 rfl (lv_at hl 2 rfl) ?_
    refine lv_bipush (v := 8) hx hb dX1_segments_5 (by decide) ?_
    refine lv_icmp_ge (tgt := 38) hx hb dX1_segments_7 (by decide) (fun c6 => ?_) (fun c6 => ?_)
    · have c6 := (ax_ge (n := 8) (by decide)).mp c6
      refine lv_iload_n hx hb dX1_segments_38 rfl (lv_at hl 1 rfl) ?_
      refine va_calli (va_runS (As := [.int w1]) (rest := []) ⟨hx, hb, hml, hown, hts⟩ (s_J6_bitCount_0f7a4 l dC dI H.size hLK D F9 w1 hI) ⟨callB_of 1 hts (ax_gT T_76) rfl rfl rfl (hts _ T_77) (hts _ T_86) (by decide +kernel) ⟨Nat.le_of_ble_eq_true rfl, Nat.le_of_ble_eq_true rfl⟩, hts _ T_79⟩ ⟨fun a U g mk q => ⟨q.1, s_pc rfl rfl q.2⟩, fun U hU hW => ⟨rfl, s_pw hU hW hP hK hD hN⟩⟩ rfl rfl hl.1 rfl (lv_room (Nat.le_of_ble_eq_true rfl)) dX1_segments_39 ⟨Nat.zero_le _, Nat.zero_le _⟩) hS (fun q _ h => h) (fun q h => h) (fun r7 F8 t H1 locs ht hvm hw hB hz1 hk1 hS => ?_)
      obtain ⟨hP, hK1⟩ := hB
      rw [ht] at hP
      generalize H1 = H at hP hS ⊢
      obtain ⟨h9, h10, hI, hfr1⟩ := hw
      have hfr : ∀ b, K b ∉ ([] : List Nat) → F8 b = F b := fun b hb9 => (hfr1 b (fun q => hb9 (s_sub (by decide) q))).trans (hfr b hb9)
      exact W.iret (v := r7) hx hb hr (fun t ht hW => ⟨⟨r7, F8, rfl, ⟨⟨by omega, by omega⟩, trivial, hI, hfr⟩, by rw [ht]; exact hP, va_K.moved hW.alike hK⟩, hS.F ht⟩) hS.2.2 dX1_segments_42
    · have c6 := mt (ax_ge (n := 8) (by decide)).mpr c6
      refine lv_aload_n hx hb dX1_segments_10 rfl (lv_at hl 0 rfl) ?_
      refine lv_iload_n hx hb dX1_segments_11 rfl (lv_at hl 2 rfl) ?_
      obtain ⟨z11, z13, z15, z17, z19, z21, z23, z25, z26, z27, z29, z30, o31, h12, h14, h16, h18, h20, h22, h24, h28, -⟩ := s_op2 hI ha0
      refine va_calli (va_runV (As := [.int w2]) (rest := []) ⟨hx, hb, hml, hown, hts⟩ (s_X1_goesNow l dC dI H.size hLK D F9 a0 w2 ha0 hI) (cwV 1 hts (ax_gV T_89 T_90 T_91 T_88 T_87) rfl rfl rfl (by decide +kernel) ⟨Nat.le_of_ble_eq_true rfl, Nat.le_of_ble_eq_true rfl⟩) ⟨fun a U g mk q => ⟨q.1, s_pc rfl rfl q.2⟩, s_recv hK hP (hLK _ ha0 (by decide)) (ci := 1) rfl o31, fun U hU hW => ⟨rfl, s_pw hU hW hP hK hD hN⟩⟩ rfl rfl hl.1 rfl (lv_room (Nat.le_of_ble_eq_true rfl)) dX1_segments_12 ⟨Nat.zero_le _, Nat.zero_le _⟩) hS (fun q _ h => h) (fun q h => h) (fun r32 F33 t H1 locs ht hvm hw hB hz1 hk1 hS => ?_)
      obtain ⟨hP, hK1⟩ := hB
      rw [ht] at hP
      generalize H1 = H at hP hS ⊢
      obtain ⟨h34, h35, hI, hfr1⟩ := hw
      have o36 : F33 a0 = .inr (1, [.ref z11, .ref z13, .ref z15, va_rf z17, va_rf z19, va_rf z21, .int z23, .int z25, .int z26, .int z27, .int z29, .long z30]) := (hfr1 _ (by rw [ha0]; decide)).trans o31
      have hfr : ∀ b, K b ∉ ([] : List Nat) → F33 b = F b := fun b hb9 => (hfr1 b (fun q => hb9 (s_sub (by decide) q))).trans (hfr b hb9)
      obtain ⟨h35, h37⟩ := h35
      have h37 : (∀ vs z, F9 a0 = .inr (1, vs) → vs[8]? = some (.int z) → (r32 = 0 ↔ (z >>> (w2 &&& 31) &&& 1) = 0)) := h37
      refine lv_if_eq (tgt := 32) hx hb dX1_segments_15 (by decide) (fun c38 => ?_) (fun c38 => ?_)
      · have c38 := (ax_eq (n := 0) (by decide)).mp c38
        exact K32 _ _ _ ⟨F33, _, w1, rfl, lv_sub hl [0, 1, 2] rfl, hI, hP, hS, hfr, trivial, ⟨by omega, by omega⟩⟩
      · have c38 := mt (ax_eq (n := 0) (by decide)).mpr c38
        refine lv_iload_n hx hb dX1_segments_18 rfl (lv_at hl 1 rfl) ?_
        refine lv_iconst (v := 1) hx hb dX1_segments_19 (by decide) ?_
        refine lv_aload_n hx hb dX1_segments_20 rfl (lv_at hl 0 rfl) ?_
        refine th_get (D := (dC, dI)) (ci := 1) (v := .ref z11) (C := RX1) (T := TX1) (N := 12) hx hb hts inX1 hown hK hP (hLK _ ha0 (by decide)) o36 rfl 0 (by decide) (hts _ T_92) (fun _ h9 => h9) rfl dX1_segments_21 ?_
        refine lv_iload_n hx hb dX1_segments_24 rfl (lv_at hl 2 rfl) ?_
        obtain ⟨f39, o40, h41⟩ := s_op34 hI h12
        refine th_iald hx hb hK hP (hLK _ h12 (by decide)) 0 o40 rfl (th_in ⟨by omega, by omega⟩) dX1_segments_25 ?_
        refine lv_topi (fun v42 ev42 => ?_)
        have qv42 : 0 ≤ v42.toInt ∧ v42.toInt ≤ 63 := by rw [ev42]; exact h41 _ (th_cl ⟨by omega, by omega⟩)
        refine lv_bipush (v := 8) hx hb dX1_segments_26 (by decide) ?_
        refine lv_idiv hx hb dX1_segments_28 (by decide) ?_
        refine lv_topi (fun v43 ev43 => ?_)
        have qv43 : v43.toInt = v42.toInt / 8 := by rw [ev43]; exact th_div rfl (by decide) (by omega) (by decide)
        refine lv_ishl hx hb dX1_segments_29 ?_
        refine lv_topi (fun v44 ev44 => ?_)
        refine lv_ior hx hb dX1_segments_30 ?_
        refine lv_topi (fun v45 ev45 => ?_)
        refine lv_istore_n (lv' := [(1, .int v45), (0, .ref a0), (2, .int w2)]) hx hb dX1_segments_31 rfl hl (by decide) rfl (fun ls hl => ?_)
        exact K32 _ _ _ ⟨F33, _, v45, rfl, lv_sub hl [1, 0, 2] rfl, hI, hP, hS, hfr, trivial, ⟨by omega, by omega⟩⟩
  · intro g H locs hq
    obtain ⟨F9, ls, w5, rfl, hl, hI, hP, hS, hfr, h46, h47⟩ := hq
    obtain ⟨v48, ev48⟩ : ∃ y : Int32, w2 + 1 = y := ⟨_, rfl⟩
    have qv48 : v48.toInt = w2.toInt + 1 := by rw [← ev48]; exact th_add rfl (by decide) ⟨by omega, by omega⟩
    refine lv_iinc (v := v48) (lv' := [(2, .int v48), (0, .ref a0), (1, .int w5)]) hx hb dX1_segments_32 hl (k := 2) rfl ev48 (by decide) rfl (fun ls hl => ?_)
    refine lv_goto (tgt := 4) hx hb dX1_segments_35 (by decide) ?_
    exact ih4 _ _ _ _ (by omega) ⟨F9, _, w5, v48, rfl, lv_sub hl [1, 2, 0] rfl, hI, hP, hS, hfr, trivial, ⟨by omega, by omega⟩, rfl⟩

set_option maxHeartbeats 4000000 in
set_option maxRecDepth 100000 in
theorem s_X1_result (l : Launch) (dC : Nat → ClassId) (dI : Nat → Nat → Nat) (sz : Nat) {L : List Nat} {K : Nat → Nat} {cs : Nat → ClassId} (hLK : ∀ a {k : Nat}, K a = k → k ≠ 0 → a ∈ L) (D : Nat) (F : Nat → va_E) (a0 : Nat) (x1 : Int32) (x2 : Int32) (ha0 : K a0 = 2) (hx2 : 0 ≤ x2.toInt ∧ x2.toInt ≤ 7) (hI : s_I K cs D F) (hR : s_rd3 K F a0) : Met l yX1_result (Cond.code yX1_result cX1_result 5 (some .int) :: T0) ({ frames := 1, cells := 0, slots := 0, locals := 22 }) (va_Pc [.ref a0, .int x1, .int x2] (s_W dC dI sz L F [(cs 0, .int), (cs 1, .byte), (cs 2, .long), (cs 3, .object RX5), (cs 4, .object RX4), (cs 5, .array .int), (cs 6, .char), (cs 7, .boolean)])) (va_Qi (fun (r : Int32) (G : Nat → va_E) => True ∧ True ∧ s_I K cs D G ∧ ∀ b, K b ∉ ([] : List Nat) → G b = F b) (fun (G : Nat → va_E) (t : State) => va_P (dC, dI) vwCl (va_pl L G) t.heap ∧ va_K (dC, dI) vwCl [(cs 0, .int), (cs 1, .byte), (cs 2, .long), (cs 3, .object RX5), (cs 4, .object RX4), (cs 5, .array .int), (cs 6, .char), (cs 7, .boolean)] t) (fun q => q ∈ L)) 0 0 (fun q => q ∈ L) := by
  refine Met.ofW (cc := cX1_result) (maxL := 5) (ret := (some .int)) (by decide) rfl ?_
  intro p e s m args below meth c s₁ B hml hv
  obtain ⟨rfl, hsz, hP, hK, hD, hN⟩ := hv
  have hx := B.exec
  have hb := B.bytes
  have hr := B.returns
  have hts : ∀ w ∈ T0, w.before _ s = true := fun w h => atoms_spec (ws := Cond.code yX1_result cX1_result 5 (some .int) :: T0) B.pre w (List.mem_cons_of_mem _ h)
  have hown : s.vm.findClass RX1 = some m.cls := findClass_of_methodNamed B.named
  have hlocks := B.notSynchronized
  have hS : va_S (fun q => q ∈ L) s.heap s.heap [] := va_S.rf
  have hfr : ∀ b, K b ∉ ([] : List Nat) → F b = F b := fun _ _ => rfl
  have hl := lv_entry ([.ref a0, .int x1, .int x2]) (n := 5) (Nat.le_of_ble_eq_true rfl)
  rw [lg_entry_eq]
  generalize (lg_sl ([.ref a0, .int x1, .int x2]) ++ List.replicate (5 - (lg_sl ([.ref a0, .int x1, .int x2])).length) Slot.unset).toArray = ls at hl ⊢
  have hl : lv_has ls 5 [(0, .ref a0), (1, .int x1), (2, .int x2)] := hl
  refine s_gen hP hS (fun H locs hP hS => ?_)
  obtain ⟨z1, z3, z5, z7, z9, z11, z13, z15, z16, z17, z19, z20, o21, h2, h4, h6, h8, h10, h12, h14, h18, -⟩ := hR
  refine lv_aload_n hx hb dX1_result_0 rfl (lv_at hl 0 rfl) ?_
  refine lv_aload_n hx hb dX1_result_1 rfl (lv_at hl 0 rfl) ?_
  refine th_get (D := (dC, dI)) (ci := 1) (v := .ref z11) (C := RX1) (T := TX1) (N := 12) hx hb hts inX1 hown hK hP (hLK _ ha0 (by decide)) o21 rfl 5 (by decide) (hts _ T_99) (fun _ h9 => h9) rfl dX1_result_2 ?_
  refine lv_iconst (v := 2) hx hb dX1_result_5 (by decide) ?_
  obtain ⟨f22, o23, h24⟩ := s_op23 hI h12
  refine th_iald hx hb hK hP (hLK _ h12 (by decide)) 0 o23 rfl (ax_in (by decide)) dX1_result_6 ?_
  refine lv_topi (fun v25 ev25 => ?_)
  refine lv_iload_n hx hb dX1_result_7 rfl (lv_at hl 2 rfl) ?_
  refine va_calli (va_runV (As := [.int v25, .int x2]) (rest := []) ⟨hx, hb, hml, hown, hts⟩ (s_X1_valueOf l dC dI H.size hLK D F a0 v25 x2 ha0 (⟨by omega, by omega⟩) hI ⟨z1, z3, z5, z7, z9, z11, z13, z15, z16, z17, z19, z20, o21, h2, h4, h6, h8, h10, h12, ⟨by omega, by omega⟩, ⟨by omega, by omega⟩, trivial⟩) (cwV 2 hts (ax_gV T_106 T_107 T_108 T_88 T_105) rfl rfl rfl (by decide +kernel) ⟨Nat.le_of_ble_eq_true rfl, Nat.le_of_ble_eq_true rfl⟩) ⟨fun a U g mk q => ⟨q.1, s_pc rfl rfl q.2⟩, s_recv hK hP (hLK _ ha0 (by decide)) (ci := 1) rfl o21, fun U hU hW => ⟨rfl, s_pw hU hW hP hK hD hN⟩⟩ rfl rfl hl.1 rfl (lv_room (Nat.le_of_ble_eq_true rfl)) dX1_result_8 ⟨Nat.zero_le _, Nat.zero_le _⟩) hS (fun q _ h => h) (fun q h => h) (fun r26 F27 t H1 locs ht hvm hw hB hz1 hk1 hS => ?_)
  obtain ⟨hP, hK1⟩ := hB
  rw [ht] at hP
  generalize H1 = H at hP hS ⊢
  obtain ⟨h28, h29, hI, hfr1⟩ := hw
  have o30 : F27 a0 = .inr (1, [.ref z1, .ref z3, .ref z5, .ref z7, .ref z9, .ref z11, .int z13, .int z15, .int z16, .int z17, .int z19, .long z20]) := (hfr1 _ (by rw [ha0]; decide)).trans o21
  have hfr : ∀ b, K b ∉ ([] : List Nat) → F27 b = F b := fun b hb9 => (hfr1 b (fun q => hb9 (s_sub (by decide) q))).trans (hfr b hb9)
  refine lv_istore_n (lv' := [(3, .int r26), (0, .ref a0), (1, .int x1), (2, .int x2)]) hx hb dX1_result_11 rfl hl (by decide) rfl (fun ls hl => ?_)
  refine lv_aload_n hx hb dX1_result_12 rfl (lv_at hl 1 rfl) ?_
  refine lv_aload_n hx hb dX1_result_13 rfl (lv_at hl 1 rfl) ?_
  refine th_get (D := (dC, dI)) (ci := 1) (v := .ref z11) (C := RX1) (T := TX1) (N := 12) hx hb hts inX1 hown hK hP (hLK _ ha0 (by decide)) o30 rfl 5 (by decide) (hts _ T_99) (fun _ h9 => h9) rfl dX1_result_14 ?_
  refine lv_iconst (v := 3) hx hb dX1_result_17 (by decide) ?_
  obtain ⟨f31, o32, h33⟩ := s_op23 hI h12
  refine th_iald hx hb hK hP (hLK _ h12 (by decide)) 0 o32 rfl (ax_in (by decide)) dX1_result_18 ?_
  refine lv_topi (fun v34 ev34 => ?_)
  refine lv_iload_n hx hb dX1_result_19 rfl (lv_at hl 3 rfl) ?_
  refine va_calli (va_runV (As := [.int v34, .int x2]) (rest := []) ⟨hx, hb, hml, hown, hts⟩ (s_X1_valueOf l dC dI H.size hLK D F27 a0 v34 x2 ha0 (⟨by omega, by omega⟩) hI ⟨z1, z3, z5, z7, z9, z11, z13, z15, z16, z17, z19, z20, o30, h2, h4, h6, h8, h10, h12, ⟨by omega, by omega⟩, ⟨by omega, by omega⟩, trivial⟩) (cwV 2 hts (ax_gV T_106 T_107 T_108 T_88 T_105) rfl rfl rfl (by decide +kernel) ⟨Nat.le_of_ble_eq_true rfl, Nat.le_of_ble_eq_true rfl⟩) ⟨fun a U g mk q => ⟨q.1, s_pc rfl rfl q.2⟩, s_recv hK hP (hLK _ ha0 (by decide)) (ci := 1) rfl o30, fun U hU hW => ⟨rfl, s_pw hU hW hP hK hD hN⟩⟩ rfl rfl hl.1 rfl (lv_room (Nat.le_of_ble_eq_true rfl)) dX1_result_20 ⟨Nat.zero_le _, Nat.zero_le _⟩) hS (fun q _ h => h) (fun q h => h) (fun r35 F36 t H1 locs ht hvm hw hB hz1 hk1 hS => ?_)
  obtain ⟨hP, hK1⟩ := hB
  rw [ht] at hP
  generalize H1 = H at hP hS ⊢
  obtain ⟨h37, h38, hI, hfr1⟩ := hw
  have o39 : F36 a0 = .inr (1, [.ref z1, .ref z3, .ref z5, .ref z7, .ref z9, .ref z11, .int z13, .int z15, .int z16, .int z17, .int z19, .long z20]) := (hfr1 _ (by rw [ha0]; decide)).trans o30
  have hfr : ∀ b, K b ∉ ([] : List Nat) → F36 b = F b := fun b hb9 => (hfr1 b (fun q => hb9 (s_sub (by decide) q))).trans (hfr b hb9)
  refine lv_istore (lv' := [(4, .int r35), (3, .int r26), (0, .ref a0), (1, .int x1), (2, .int x2)]) hx hb dX1_result_23 hl (by decide) rfl (fun ls hl => ?_)
  refine lv_iload_n hx hb dX1_result_25 rfl (lv_at hl 3 rfl) ?_
  by_cases c40 : x1 = 0
  · refine ax_eqi c40 ?_
    refine lv_tableIn (off := 38) (tgt := 64) hx hb dX1_result_26 (by decide) (by decide) (by decide) (by decide) ?_
    have c40 := (ax_eq (n := 0) (by decide)).mp c40
    refine lv_iload_n hx hb dX1_result_64 rfl (lv_at hl 1 rfl) ?_
    exact W.iret (v := r26) hx hb hr (fun t ht hW => ⟨⟨r26, F36, rfl, ⟨trivial, trivial, hI, hfr⟩, by rw [ht]; exact hP, va_K.moved hW.alike hK⟩, hS.F ht⟩) hS.2.2 dX1_result_65
  · have c40 := mt (ax_eq (n := 0) (by decide)).mpr c40
    by_cases c41 : x1 = 1
    · refine ax_eqi c41 ?_
      refine lv_tableIn (off := 40) (tgt := 66) hx hb dX1_result_26 (by decide) (by decide) (by decide) (by decide) ?_
      have c41 := (ax_eq (n := 1) (by decide)).mp c41
      refine lv_iload_n hx hb dX1_result_66 rfl (lv_at hl 1 rfl) ?_
      refine lv_iload hx hb dX1_result_67 (lv_at hl 0 rfl) ?_
      refine lv_iadd hx hb dX1_result_69 ?_
      refine lv_topi (fun v42 ev42 => ?_)
      exact W.iret (v := v42) hx hb hr (fun t ht hW => ⟨⟨v42, F36, rfl, ⟨trivial, trivial, hI, hfr⟩, by rw [ht]; exact hP, va_K.moved hW.alike hK⟩, hS.F ht⟩) hS.2.2 dX1_result_70
    · have c41 := mt (ax_eq (n := 1) (by decide)).mpr c41
      by_cases c43 : x1 = 2
      · refine ax_eqi c43 ?_
        refine lv_tableIn (off := 45) (tgt := 71) hx hb dX1_result_26 (by decide) (by decide) (by decide) (by decide) ?_
        have c43 := (ax_eq (n := 2) (by decide)).mp c43
        refine lv_iload_n hx hb dX1_result_71 rfl (lv_at hl 1 rfl) ?_
        refine lv_iload hx hb dX1_result_72 (lv_at hl 0 rfl) ?_
        refine lv_isub hx hb dX1_result_74 ?_
        refine lv_topi (fun v44 ev44 => ?_)
        exact W.iret (v := v44) hx hb hr (fun t ht hW => ⟨⟨v44, F36, rfl, ⟨trivial, trivial, hI, hfr⟩, by rw [ht]; exact hP, va_K.moved hW.alike hK⟩, hS.F ht⟩) hS.2.2 dX1_result_75
      · have c43 := mt (ax_eq (n := 2) (by decide)).mpr c43
        by_cases c45 : x1 = 3
        · refine ax_eqi c45 ?_
          refine lv_tableIn (off := 50) (tgt := 76) hx hb dX1_result_26 (by decide) (by decide) (by decide) (by decide) ?_
          have c45 := (ax_eq (n := 3) (by decide)).mp c45
          refine lv_iload_n hx hb dX1_result_76 rfl (lv_at hl 1 rfl) ?_
          refine lv_iload hx hb dX1_result_77 (lv_at hl 0 rfl) ?_
          refine lv_imul hx hb dX1_result_79 ?_
          refine lv_topi (fun v46 ev46 => ?_)
          exact W.iret (v := v46) hx hb hr (fun t ht hW => ⟨⟨v46, F36, rfl, ⟨trivial, trivial, hI, hfr⟩, by rw [ht]; exact hP, va_K.moved hW.alike hK⟩, hS.F ht⟩) hS.2.2 dX1_result_80
        · have c45 := mt (ax_eq (n := 3) (by decide)).mpr c45
          by_cases c47 : x1 = 4
          · refine ax_eqi c47 ?_
            refine lv_tableIn (off := 55) (tgt := 81) hx hb dX1_result_26 (by decide) (by decide) (by decide) (by decide) ?_
            have c47 := (ax_eq (n := 4) (by decide)).mp c47
            refine lv_iload hx hb dX1_result_81 (lv_at hl 0 rfl) ?_
            refine lv_if_gt (tgt := 90) hx hb dX1_result_83 (by decide) (fun c48 => ?_) (fun c48 => ?_)
            · have c48 := (ax_gt (n := 0) (by decide)).mp c48
              refine lv_iload_n hx hb dX1_result_90 rfl (lv_at hl 1 rfl) ?_
              refine lv_iload hx hb dX1_result_91 (lv_at hl 0 rfl) ?_
              refine va_calli (va_runS (As := [.int r26, .int r35]) (rest := []) ⟨hx, hb, hml, hown, hts⟩ (s_J9_floorMod_7cf53 l dC dI H.size hLK D F36 r26 r35 (⟨by omega, by have q9 := th_hi r35; omega⟩) hI) ⟨callB_of 2 hts (ax_gT T_109) rfl rfl rfl (hts _ T_110) (hts _ T_111) (by decide +kernel) ⟨Nat.le_of_ble_eq_true rfl, Nat.le_of_ble_eq_true rfl⟩, hts _ T_112⟩ ⟨fun a U g mk q => ⟨q.1, s_pc rfl rfl q.2⟩, fun U hU hW => ⟨rfl, s_pw hU hW hP hK hD hN⟩⟩ rfl rfl hl.1 rfl (lv_room (Nat.le_of_ble_eq_true rfl)) dX1_result_93 ⟨Nat.zero_le _, Nat.zero_le _⟩) hS (fun q _ h => h) (fun q h => h) (fun r49 F50 t H1 locs ht hvm hw hB hz1 hk1 hS => ?_)
              obtain ⟨hP, hK1⟩ := hB
              rw [ht] at hP
              generalize H1 = H at hP hS ⊢
              obtain ⟨h51, h52, hI, hfr1⟩ := hw
              have o53 : F50 a0 = .inr (1, [.ref z1, .ref z3, .ref z5, .ref z7, .ref z9, .ref z11, .int z13, .int z15, .int z16, .int z17, .int z19, .long z20]) := (hfr1 _ (by rw [ha0]; decide)).trans o39
              have hfr : ∀ b, K b ∉ ([] : List Nat) → F50 b = F b := fun b hb9 => (hfr1 b (fun q => hb9 (s_sub (by decide) q))).trans (hfr b hb9)
              obtain ⟨h52, h54⟩ := h52
              have h54 : (0 ≤ r49.toInt ∧ r49.toInt < r35.toInt) := h54
              exact W.iret (v := r49) hx hb hr (fun t ht hW => ⟨⟨r49, F50, rfl, ⟨trivial, trivial, hI, hfr⟩, by rw [ht]; exact hP, va_K.moved hW.alike hK⟩, hS.F ht⟩) hS.2.2 dX1_result_96
            · have c48 := mt (ax_gt (n := 0) (by decide)).mpr c48
              refine lv_iconst (v := 0) hx hb dX1_result_86 (by decide) ?_
              refine lv_goto (tgt := 96) hx hb dX1_result_87 (by decide) ?_
              exact W.iret (v := 0) hx hb hr (fun t ht hW => ⟨⟨0, F36, rfl, ⟨trivial, trivial, hI, hfr⟩, by rw [ht]; exact hP, va_K.moved hW.alike hK⟩, hS.F ht⟩) hS.2.2 dX1_result_96
          · have c47 := mt (ax_eq (n := 4) (by decide)).mpr c47
            by_cases c55 : x1 = 5
            · refine ax_eqi c55 ?_
              refine lv_tableIn (off := 71) (tgt := 97) hx hb dX1_result_26 (by decide) (by decide) (by decide) (by decide) ?_
              have c55 := (ax_eq (n := 5) (by decide)).mp c55
              refine lv_iload_n hx hb dX1_result_97 rfl (lv_at hl 4 rfl) ?_
              exact W.iret (v := x2) hx hb hr (fun t ht hW => ⟨⟨x2, F36, rfl, ⟨trivial, trivial, hI, hfr⟩, by rw [ht]; exact hP, va_K.moved hW.alike hK⟩, hS.F ht⟩) hS.2.2 dX1_result_98
            · have c55 := mt (ax_eq (n := 5) (by decide)).mpr c55
              refine lv_tableOut (tgt := 99) hx hb dX1_result_26 (by omega) (by decide) ?_
              refine lv_aload_n hx hb dX1_result_99 rfl (lv_at hl 2 rfl) ?_
              refine th_get (D := (dC, dI)) (ci := 1) (v := .int z13) (C := RX1) (T := TX1) (N := 12) hx hb hts inX1 hown hK hP (hLK _ ha0 (by decide)) o39 rfl 6 (by decide) (hts _ T_113) (fun _ h9 => h9) rfl dX1_result_100 ?_
              exact W.iret (v := z13) hx hb hr (fun t ht hW => ⟨⟨z13, F36, rfl, ⟨trivial, trivial, hI, hfr⟩, by rw [ht]; exact hP, va_K.moved hW.alike hK⟩, hS.F ht⟩) hS.2.2 dX1_result_103

set_option maxHeartbeats 4000000 in
set_option maxRecDepth 100000 in
theorem s_X1_holds (l : Launch) (dC : Nat → ClassId) (dI : Nat → Nat → Nat) (sz : Nat) {L : List Nat} {K : Nat → Nat} {cs : Nat → ClassId} (hLK : ∀ a {k : Nat}, K a = k → k ≠ 0 → a ∈ L) (D : Nat) (F : Nat → va_E) (a0 : Nat) (x1 : Int32) (ha0 : K a0 = 2) (hx1 : 0 ≤ x1.toInt ∧ x1.toInt ≤ 7) (hI : s_I K cs D F) (hR : s_rd3 K F a0) : Met l yX1_holds (Cond.code yX1_holds cX1_holds 4 (some .boolean) :: T0) ({ frames := 1, cells := 0, slots := 0, locals := 22 }) (va_Pc [.ref a0, .int x1] (s_W dC dI sz L F [(cs 0, .int), (cs 1, .byte), (cs 2, .long), (cs 3, .object RX5), (cs 4, .object RX4), (cs 5, .array .int), (cs 6, .char), (cs 7, .boolean)])) (va_Qi (fun (r : Int32) (G : Nat → va_E) => (0 ≤ r.toInt ∧ r.toInt ≤ 1) ∧ True ∧ s_I K cs D G ∧ ∀ b, K b ∉ ([] : List Nat) → G b = F b) (fun (G : Nat → va_E) (t : State) => va_P (dC, dI) vwCl (va_pl L G) t.heap ∧ va_K (dC, dI) vwCl [(cs 0, .int), (cs 1, .byte), (cs 2, .long), (cs 3, .object RX5), (cs 4, .object RX4), (cs 5, .array .int), (cs 6, .char), (cs 7, .boolean)] t) (fun q => q ∈ L)) 0 0 (fun q => q ∈ L) := by
  refine Met.ofW (cc := cX1_holds) (maxL := 4) (ret := (some .boolean)) (by decide) rfl ?_
  intro p e s m args below meth c s₁ B hml hv
  obtain ⟨rfl, hsz, hP, hK, hD, hN⟩ := hv
  have hx := B.exec
  have hb := B.bytes
  have hr := B.returns
  have hts : ∀ w ∈ T0, w.before _ s = true := fun w h => atoms_spec (ws := Cond.code yX1_holds cX1_holds 4 (some .boolean) :: T0) B.pre w (List.mem_cons_of_mem _ h)
  have hown : s.vm.findClass RX1 = some m.cls := findClass_of_methodNamed B.named
  have hlocks := B.notSynchronized
  have hS : va_S (fun q => q ∈ L) s.heap s.heap [] := va_S.rf
  have hfr : ∀ b, K b ∉ ([] : List Nat) → F b = F b := fun _ _ => rfl
  have hl := lv_entry ([.ref a0, .int x1]) (n := 4) (Nat.le_of_ble_eq_true rfl)
  rw [lg_entry_eq]
  generalize (lg_sl ([.ref a0, .int x1]) ++ List.replicate (4 - (lg_sl ([.ref a0, .int x1])).length) Slot.unset).toArray = ls at hl ⊢
  have hl : lv_has ls 4 [(0, .ref a0), (1, .int x1)] := hl
  refine s_gen hP hS (fun H locs hP hS => ?_)
  obtain ⟨z1, z3, z5, z7, z9, z11, z13, z15, z16, z17, z19, z20, o21, h2, h4, h6, h8, h10, h12, h14, h18, -⟩ := hR
  refine lv_aload_n hx hb dX1_holds_0 rfl (lv_at hl 0 rfl) ?_
  refine lv_aload_n hx hb dX1_holds_1 rfl (lv_at hl 0 rfl) ?_
  refine th_get (D := (dC, dI)) (ci := 1) (v := .ref z11) (C := RX1) (T := TX1) (N := 12) hx hb hts inX1 hown hK hP (hLK _ ha0 (by decide)) o21 rfl 5 (by decide) (hts _ T_99) (fun _ h9 => h9) rfl dX1_holds_2 ?_
  refine lv_iconst (v := 2) hx hb dX1_holds_5 (by decide) ?_
  obtain ⟨f22, o23, h24⟩ := s_op23 hI h12
  refine th_iald hx hb hK hP (hLK _ h12 (by decide)) 0 o23 rfl (ax_in (by decide)) dX1_holds_6 ?_
  refine lv_topi (fun v25 ev25 => ?_)
  refine lv_iload_n hx hb dX1_holds_7 rfl (lv_at hl 1 rfl) ?_
  refine va_calli (va_runV (As := [.int v25, .int x1]) (rest := []) ⟨hx, hb, hml, hown, hts⟩ (s_X1_valueOf l dC dI H.size hLK D F a0 v25 x1 ha0 (⟨by omega, by omega⟩) hI ⟨z1, z3, z5, z7, z9, z11, z13, z15, z16, z17, z19, z20, o21, h2, h4, h6, h8, h10, h12, ⟨by omega, by omega⟩, ⟨by omega, by omega⟩, trivial⟩) (cwV 2 hts (ax_gV T_106 T_107 T_108 T_88 T_105) rfl rfl rfl (by decide +kernel) ⟨Nat.le_of_ble_eq_true rfl, Nat.le_of_ble_eq_true rfl⟩) ⟨fun a U g mk q => ⟨q.1, s_pc rfl rfl q.2⟩, s_recv hK hP (hLK _ ha0 (by decide)) (ci := 1) rfl o21, fun U hU hW => ⟨rfl, s_pw hU hW hP hK hD hN⟩⟩ rfl rfl hl.1 rfl (lv_room (Nat.le_of_ble_eq_true rfl)) dX1_holds_8 ⟨Nat.zero_le _, Nat.zero_le _⟩) hS (fun q _ h => h) (fun q h => h) (fun r26 F27 t H1 locs ht hvm hw hB hz1 hk1 hS => ?_)
  obtain ⟨hP, hK1⟩ := hB
  rw [ht] at hP
  generalize H1 = H at hP hS ⊢
  obtain ⟨h28, h29, hI, hfr1⟩ := hw
  have o30 : F27 a0 = .inr (1, [.ref z1, .ref z3, .ref z5, .ref z7, .ref z9, .ref z11, .int z13, .int z15, .int z16, .int z17, .int z19, .long z20]) := (hfr1 _ (by rw [ha0]; decide)).trans o21
  have hfr : ∀ b, K b ∉ ([] : List Nat) → F27 b = F b := fun b hb9 => (hfr1 b (fun q => hb9 (s_sub (by decide) q))).trans (hfr b hb9)
  refine lv_istore_n (lv' := [(2, .int r26), (0, .ref a0), (1, .int x1)]) hx hb dX1_holds_11 rfl hl (by decide) rfl (fun ls hl => ?_)
  refine lv_aload_n hx hb dX1_holds_12 rfl (lv_at hl 1 rfl) ?_
  refine lv_aload_n hx hb dX1_holds_13 rfl (lv_at hl 1 rfl) ?_
  refine th_get (D := (dC, dI)) (ci := 1) (v := .ref z11) (C := RX1) (T := TX1) (N := 12) hx hb hts inX1 hown hK hP (hLK _ ha0 (by decide)) o30 rfl 5 (by decide) (hts _ T_99) (fun _ h9 => h9) rfl dX1_holds_14 ?_
  refine lv_iconst (v := 3) hx hb dX1_holds_17 (by decide) ?_
  obtain ⟨f31, o32, h33⟩ := s_op23 hI h12
  refine th_iald hx hb hK hP (hLK _ h12 (by decide)) 0 o32 rfl (ax_in (by decide)) dX1_holds_18 ?_
  refine lv_topi (fun v34 ev34 => ?_)
  refine lv_iload_n hx hb dX1_holds_19 rfl (lv_at hl 2 rfl) ?_
  refine va_calli (va_runV (As := [.int v34, .int x1]) (rest := []) ⟨hx, hb, hml, hown, hts⟩ (s_X1_valueOf l dC dI H.size hLK D F27 a0 v34 x1 ha0 (⟨by omega, by omega⟩) hI ⟨z1, z3, z5, z7, z9, z11, z13, z15, z16, z17, z19, z20, o30, h2, h4, h6, h8, h10, h12, ⟨by omega, by omega⟩, ⟨by omega, by omega⟩, trivial⟩) (cwV 2 hts (ax_gV T_106 T_107 T_108 T_88 T_105) rfl rfl rfl (by decide +kernel) ⟨Nat.le_of_ble_eq_true rfl, Nat.le_of_ble_eq_true rfl⟩) ⟨fun a U g mk q => ⟨q.1, s_pc rfl rfl q.2⟩, s_recv hK hP (hLK _ ha0 (by decide)) (ci := 1) rfl o30, fun U hU hW => ⟨rfl, s_pw hU hW hP hK hD hN⟩⟩ rfl rfl hl.1 rfl (lv_room (Nat.le_of_ble_eq_true rfl)) dX1_holds_20 ⟨Nat.zero_le _, Nat.zero_le _⟩) hS (fun q _ h => h) (fun q h => h) (fun r35 F36 t H1 locs ht hvm hw hB hz1 hk1 hS => ?_)
  obtain ⟨hP, hK1⟩ := hB
  rw [ht] at hP
  generalize H1 = H at hP hS ⊢
  obtain ⟨h37, h38, hI, hfr1⟩ := hw
  have o39 : F36 a0 = .inr (1, [.ref z1, .ref z3, .ref z5, .ref z7, .ref z9, .ref z11, .int z13, .int z15, .int z16, .int z17, .int z19, .long z20]) := (hfr1 _ (by rw [ha0]; decide)).trans o30
  have hfr : ∀ b, K b ∉ ([] : List Nat) → F36 b = F b := fun b hb9 => (hfr1 b (fun q => hb9 (s_sub (by decide) q))).trans (hfr b hb9)
  refine lv_istore_n (lv' := [(3, .int r35), (2, .int r26), (0, .ref a0), (1, .int x1)]) hx hb dX1_holds_23 rfl hl (by decide) rfl (fun ls hl => ?_)
  refine lv_aload_n hx hb dX1_holds_24 rfl (lv_at hl 2 rfl) ?_
  refine th_get (D := (dC, dI)) (ci := 1) (v := .ref z11) (C := RX1) (T := TX1) (N := 12) hx hb hts inX1 hown hK hP (hLK _ ha0 (by decide)) o39 rfl 5 (by decide) (hts _ T_99) (fun _ h9 => h9) rfl dX1_holds_25 ?_
  refine lv_iconst (v := 5) hx hb dX1_holds_28 (by decide) ?_
  obtain ⟨f40, o41, h42⟩ := s_op23 hI h12
  refine th_iald hx hb hK hP (hLK _ h12 (by decide)) 0 o41 rfl (ax_in (by decide)) dX1_holds_29 ?_
  refine lv_topi (fun v43 ev43 => ?_)
  by_cases c44 : v43 = 0
  · refine ax_eqi c44 ?_
    refine lv_tableIn (off := 26) (tgt := 56) hx hb dX1_holds_30 (by decide) (by decide) (by decide) (by decide) ?_
    have c44 := (ax_eq (n := 0) (by decide)).mp c44
    refine lv_iload_n hx hb dX1_holds_56 rfl (lv_at hl 1 rfl) ?_
    refine lv_iload_n hx hb dX1_holds_57 rfl (lv_at hl 0 rfl) ?_
    refine lv_icmp_ge (tgt := 65) hx hb dX1_holds_58 (by decide) (fun c45 => ?_) (fun c45 => ?_)
    · have c45 := Int32.le_iff_toInt_le.mp c45
      refine lv_iconst (v := 0) hx hb dX1_holds_65 (by decide) ?_
      exact W.zret (v := 0) (ty := .boolean) hx hb hr (by decide) (fun t ht hW => ⟨⟨0, F36, rfl, ⟨(by decide), trivial, hI, hfr⟩, by rw [ht]; exact hP, va_K.moved hW.alike hK⟩, hS.F ht⟩) hS.2.2 dX1_holds_66
    · have c45 := mt Int32.le_iff_toInt_le.mpr c45
      refine lv_iconst (v := 1) hx hb dX1_holds_61 (by decide) ?_
      refine lv_goto (tgt := 66) hx hb dX1_holds_62 (by decide) ?_
      exact W.zret (v := 1) (ty := .boolean) hx hb hr (by decide) (fun t ht hW => ⟨⟨1, F36, rfl, ⟨(by decide), trivial, hI, hfr⟩, by rw [ht]; exact hP, va_K.moved hW.alike hK⟩, hS.F ht⟩) hS.2.2 dX1_holds_66
  · have c44 := mt (ax_eq (n := 0) (by decide)).mpr c44
    by_cases c46 : v43 = 1
    · refine ax_eqi c46 ?_
      refine lv_tableIn (off := 37) (tgt := 67) hx hb dX1_holds_30 (by decide) (by decide) (by decide) (by decide) ?_
      have c46 := (ax_eq (n := 1) (by decide)).mp c46
      refine lv_iload_n hx hb dX1_holds_67 rfl (lv_at hl 1 rfl) ?_
      refine lv_iload_n hx hb dX1_holds_68 rfl (lv_at hl 0 rfl) ?_
      refine lv_icmp_ne (tgt := 76) hx hb dX1_holds_69 (by decide) (fun c47 => ?_) (fun c47 => ?_)
      · have c47 := mt Int32.toInt_inj.symm.mpr c47
        refine lv_iconst (v := 0) hx hb dX1_holds_76 (by decide) ?_
        exact W.zret (v := 0) (ty := .boolean) hx hb hr (by decide) (fun t ht hW => ⟨⟨0, F36, rfl, ⟨(by decide), trivial, hI, hfr⟩, by rw [ht]; exact hP, va_K.moved hW.alike hK⟩, hS.F ht⟩) hS.2.2 dX1_holds_77
      · have c47 := Int32.toInt_inj.symm.mp c47
        refine lv_iconst (v := 1) hx hb dX1_holds_72 (by decide) ?_
        refine lv_goto (tgt := 77) hx hb dX1_holds_73 (by decide) ?_
        exact W.zret (v := 1) (ty := .boolean) hx hb hr (by decide) (fun t ht hW => ⟨⟨1, F36, rfl, ⟨(by decide), trivial, hI, hfr⟩, by rw [ht]; exact hP, va_K.moved hW.alike hK⟩, hS.F ht⟩) hS.2.2 dX1_holds_77
    · have c46 := mt (ax_eq (n := 1) (by decide)).mpr c46
      by_cases c48 : v43 = 2
      · refine ax_eqi c48 ?_
        refine lv_tableIn (off := 48) (tgt := 78) hx hb dX1_holds_30 (by decide) (by decide) (by decide) (by decide) ?_
        have c48 := (ax_eq (n := 2) (by decide)).mp c48
        refine lv_iload_n hx hb dX1_holds_78 rfl (lv_at hl 1 rfl) ?_
        refine lv_iload_n hx hb dX1_holds_79 rfl (lv_at hl 0 rfl) ?_
        refine lv_icmp_le (tgt := 87) hx hb dX1_holds_80 (by decide) (fun c49 => ?_) (fun c49 => ?_)
        · have c49 := Int32.le_iff_toInt_le.mp c49
          refine lv_iconst (v := 0) hx hb dX1_holds_87 (by decide) ?_
          exact W.zret (v := 0) (ty := .boolean) hx hb hr (by decide) (fun t ht hW => ⟨⟨0, F36, rfl, ⟨(by decide), trivial, hI, hfr⟩, by rw [ht]; exact hP, va_K.moved hW.alike hK⟩, hS.F ht⟩) hS.2.2 dX1_holds_88
        · have c49 := mt Int32.le_iff_toInt_le.mpr c49
          refine lv_iconst (v := 1) hx hb dX1_holds_83 (by decide) ?_
          refine lv_goto (tgt := 88) hx hb dX1_holds_84 (by decide) ?_
          exact W.zret (v := 1) (ty := .boolean) hx hb hr (by decide) (fun t ht hW => ⟨⟨1, F36, rfl, ⟨(by decide), trivial, hI, hfr⟩, by rw [ht]; exact hP, va_K.moved hW.alike hK⟩, hS.F ht⟩) hS.2.2 dX1_holds_88
      · have c48 := mt (ax_eq (n := 2) (by decide)).mpr c48
        refine lv_tableOut (tgt := 89) hx hb dX1_holds_30 (by omega) (by decide) ?_
        refine lv_iconst (v := 1) hx hb dX1_holds_89 (by decide) ?_
        exact W.zret (v := 1) (ty := .boolean) hx hb hr (by decide) (fun t ht hW => ⟨⟨1, F36, rfl, ⟨(by decide), trivial, hI, hfr⟩, by rw [ht]; exact hP, va_K.moved hW.alike hK⟩, hS.F ht⟩) hS.2.2 dX1_holds_90

set_option maxHeartbeats 4000000 in
set_option maxRecDepth 100000 in
theorem s_X1_goers (l : Launch) (dC : Nat → ClassId) (dI : Nat → Nat → Nat) (sz : Nat) {L : List Nat} {K : Nat → Nat} {cs : Nat → ClassId} (hLK : ∀ a {k : Nat}, K a = k → k ≠ 0 → a ∈ L) (D : Nat) (F : Nat → va_E) (a0 : Nat) (ha0 : K a0 = 2) (hI : s_I K cs D F) (hR : s_rd3 K F a0) : Met l yX1_goers (Cond.code yX1_goers cX1_goers 3 (some .int) :: T0) ({ frames := 2, cells := 0, slots := 0, locals := 45 }) (va_Pc [.ref a0] (s_W dC dI sz L F [(cs 0, .int), (cs 1, .byte), (cs 2, .long), (cs 3, .object RX5), (cs 4, .object RX4), (cs 5, .array .int), (cs 6, .char), (cs 7, .boolean)])) (va_Qi (fun (r : Int32) (G : Nat → va_E) => True ∧ True ∧ s_I K cs D G ∧ ∀ b, K b ∉ ([] : List Nat) → G b = F b) (fun (G : Nat → va_E) (t : State) => va_P (dC, dI) vwCl (va_pl L G) t.heap ∧ va_K (dC, dI) vwCl [(cs 0, .int), (cs 1, .byte), (cs 2, .long), (cs 3, .object RX5), (cs 4, .object RX4), (cs 5, .array .int), (cs 6, .char), (cs 7, .boolean)] t) (fun q => q ∈ L)) 0 0 (fun q => q ∈ L) := by
  refine Met.ofW (cc := cX1_goers) (maxL := 3) (ret := (some .int)) (by decide) rfl ?_
  intro p e s m args below meth c s₁ B hml hv
  obtain ⟨rfl, hsz, hP, hK, hD, hN⟩ := hv
  have hx := B.exec
  have hb := B.bytes
  have hr := B.returns
  have hts : ∀ w ∈ T0, w.before _ s = true := fun w h => atoms_spec (ws := Cond.code yX1_goers cX1_goers 3 (some .int) :: T0) B.pre w (List.mem_cons_of_mem _ h)
  have hown : s.vm.findClass RX1 = some m.cls := findClass_of_methodNamed B.named
  have hlocks := B.notSynchronized
  have hS : va_S (fun q => q ∈ L) s.heap s.heap [] := va_S.rf
  have hfr : ∀ b, K b ∉ ([] : List Nat) → F b = F b := fun _ _ => rfl
  have hl := lv_entry ([.ref a0]) (n := 3) (Nat.le_of_ble_eq_true rfl)
  rw [lg_entry_eq]
  generalize (lg_sl ([.ref a0]) ++ List.replicate (3 - (lg_sl ([.ref a0])).length) Slot.unset).toArray = ls at hl ⊢
  have hl : lv_has ls 3 [(0, .ref a0)] := hl
  refine s_gen hP hS (fun H locs hP hS => ?_)
  obtain ⟨z1, z3, z5, z7, z9, z11, z13, z15, z16, z17, z19, z20, o21, h2, h4, h6, h8, h10, h12, h14, h18, -⟩ := hR
  refine lv_aload_n hx hb dX1_goers_0 rfl (lv_at hl 0 rfl) ?_
  refine th_get (D := (dC, dI)) (ci := 1) (v := .ref z11) (C := RX1) (T := TX1) (N := 12) hx hb hts inX1 hown hK hP (hLK _ ha0 (by decide)) o21 rfl 5 (by decide) (hts _ T_99) (fun _ h9 => h9) rfl dX1_goers_1 ?_
  refine lv_iconst (v := 0) hx hb dX1_goers_4 (by decide) ?_
  obtain ⟨f22, o23, h24⟩ := s_op23 hI h12
  refine th_iald hx hb hK hP (hLK _ h12 (by decide)) 0 o23 rfl (ax_in (by decide)) dX1_goers_5 ?_
  refine lv_topi (fun v25 ev25 => ?_)
  refine lv_bipush (v := 12) hx hb dX1_goers_6 (by decide) ?_
  refine lv_icmp_eq (tgt := 13) hx hb dX1_goers_8 (by decide) (fun c26 => ?_) (fun c26 => ?_)
  · have c26 := (ax_eq (n := 12) (by decide)).mp c26
    refine lv_iconst (v := 0) hx hb dX1_goers_13 (by decide) ?_
    refine lv_istore_n (lv' := [(1, .int 0), (0, .ref a0)]) hx hb dX1_goers_14 rfl hl (by decide) rfl (fun ls hl => ?_)
    refine lv_iconst (v := 0) hx hb dX1_goers_15 (by decide) ?_
    refine lv_istore_n (lv' := [(2, .int 0), (1, .int 0), (0, .ref a0)]) hx hb dX1_goers_16 rfl hl (by decide) rfl (fun ls hl => ?_)
    refine th_loop (fun n g H locs => ∃ (G : Nat → va_E) (ls : Array Slot) (w27 : Int32) (w28 : Int32), g = F0 m 17 ls [] ∧ lv_has ls 3 [(0, .ref a0), (1, .int w27), (2, .int w28)] ∧ s_I K cs D G ∧ va_P (dC, dI) vwCl (va_pl L G) H ∧ va_S (fun q => q ∈ L) s.heap H locs ∧ (∀ b, K b ∉ ([] : List Nat) → G b = F b) ∧ True ∧ (0 ≤ w28.toInt ∧ w28.toInt ≤ 8) ∧ s_rd3 K G a0 ∧ n = (9 - w28.toInt).toNat) _ ⟨F, _, 0, 0, rfl, lv_sub hl [2, 1, 0] rfl, hI, hP, hS, hfr, trivial, (by decide), ⟨z1, z3, z5, z7, z9, z11, z13, z15, z16, z17, z19, z20, o21, h2, h4, h6, h8, h10, h12, ⟨by omega, by omega⟩, ⟨by omega, by omega⟩, trivial⟩, rfl⟩ (fun n ih17 g H locs hq => ?_)
    obtain ⟨F9, ls, w27, w28, rfl, hl, hI, hP, hS, hfr, h29, h30, h31, hn⟩ := hq
    obtain ⟨z32, z34, z36, z38, z40, z42, z44, z46, z47, z48, z50, z51, o52, h33, h35, h37, h39, h41, h43, h45, h49, -⟩ := h31
    have hn_17 := hn
    obtain ⟨n_17, hn9_17⟩ : ∃ q, q = n := ⟨_, rfl⟩
    refine th_join (fun g H locs => ∃ (G : Nat → va_E) (ls : Array Slot) (w53 : Int32), g = F0 m 45 ls [] ∧ lv_has ls 3 [(0, .ref a0), (1, .int w53), (2, .int w28)] ∧ s_I K cs D G ∧ va_P (dC, dI) vwCl (va_pl L G) H ∧ va_S (fun q => q ∈ L) s.heap H locs ∧ (∀ b, K b ∉ ([] : List Nat) → G b = F b) ∧ True ∧ (0 ≤ w28.toInt ∧ w28.toInt ≤ 7) ∧ s_rd3 K G a0) (fun K45 => ?_) ?_
    · refine lv_iload_n hx hb dX1_goers_17 rfl (lv_at hl 2 rfl) ?_
      refine lv_bipush (v := 8) hx hb dX1_goers_18 (by decide) ?_
      refine lv_icmp_ge (tgt := 51) hx hb dX1_goers_20 (by decide) (fun c54 => ?_) (fun c54 => ?_)
      · have c54 := (ax_ge (n := 8) (by decide)).mp c54
        refine lv_iload_n hx hb dX1_goers_51 rfl (lv_at hl 1 rfl) ?_
        exact W.iret (v := w27) hx hb hr (fun t ht hW => ⟨⟨w27, F9, rfl, ⟨trivial, trivial, hI, hfr⟩, by rw [ht]; exact hP, va_K.moved hW.alike hK⟩, hS.F ht⟩) hS.2.2 dX1_goers_52
      · have c54 := mt (ax_ge (n := 8) (by decide)).mpr c54
        refine lv_aload_n hx hb dX1_goers_23 rfl (lv_at hl 0 rfl) ?_
        refine lv_iload_n hx hb dX1_goers_24 rfl (lv_at hl 2 rfl) ?_
        refine va_calli (va_runV (As := [.int w28]) (rest := []) ⟨hx, hb, hml, hown, hts⟩ (s_X1_goesNow l dC dI H.size hLK D F9 a0 w28 ha0 hI) (cwV 1 hts (ax_gV T_89 T_90 T_91 T_88 T_87) rfl rfl rfl (by decide +kernel) ⟨Nat.le_of_ble_eq_true rfl, Nat.le_of_ble_eq_true rfl⟩) ⟨fun a U g mk q => ⟨q.1, s_pc rfl rfl q.2⟩, s_recv hK hP (hLK _ ha0 (by decide)) (ci := 1) rfl o52, fun U hU hW => ⟨rfl, s_pw hU hW hP hK hD hN⟩⟩ rfl rfl hl.1 rfl (lv_room (Nat.le_of_ble_eq_true rfl)) dX1_goers_25 ⟨Nat.zero_le _, Nat.zero_le _⟩) hS (fun q _ h => h) (fun q h => h) (fun r55 F56 t H1 locs ht hvm hw hB hz1 hk1 hS => ?_)
        obtain ⟨hP, hK1⟩ := hB
        rw [ht] at hP
        generalize H1 = H at hP hS ⊢
        obtain ⟨h57, h58, hI, hfr1⟩ := hw
        have o59 : F56 a0 = .inr (1, [.ref z32, .ref z34, .ref z36, .ref z38, .ref z40, .ref z42, .int z44, .int z46, .int z47, .int z48, .int z50, .long z51]) := (hfr1 _ (by rw [ha0]; decide)).trans o52
        have hfr : ∀ b, K b ∉ ([] : List Nat) → F56 b = F b := fun b hb9 => (hfr1 b (fun q => hb9 (s_sub (by decide) q))).trans (hfr b hb9)
        obtain ⟨h58, h60⟩ := h58
        have h60 : (∀ vs z, F9 a0 = .inr (1, vs) → vs[8]? = some (.int z) → (r55 = 0 ↔ (z >>> (w28 &&& 31) &&& 1) = 0)) := h60
        refine lv_if_eq (tgt := 45) hx hb dX1_goers_28 (by decide) (fun c61 => ?_) (fun c61 => ?_)
        · have c61 := (ax_eq (n := 0) (by decide)).mp c61
          exact K45 _ _ _ ⟨F56, _, w27, rfl, lv_sub hl [0, 1, 2] rfl, hI, hP, hS, hfr, trivial, ⟨by omega, by omega⟩, ⟨z32, z34, z36, z38, z40, z42, z44, z46, z47, z48, z50, z51, o59, h33, h35, h37, h39, h41, h43, ⟨by omega, by omega⟩, ⟨by omega, by omega⟩, trivial⟩⟩
        · have c61 := mt (ax_eq (n := 0) (by decide)).mpr c61
          refine lv_aload_n hx hb dX1_goers_31 rfl (lv_at hl 0 rfl) ?_
          refine lv_iload_n hx hb dX1_goers_32 rfl (lv_at hl 2 rfl) ?_
          refine va_calli (va_runV (As := [.int w28]) (rest := []) ⟨hx, hb, hml, hown, hts⟩ (s_X1_holds l dC dI H.size hLK D F56 a0 w28 ha0 (⟨by omega, by omega⟩) hI ⟨z32, z34, z36, z38, z40, z42, z44, z46, z47, z48, z50, z51, o59, h33, h35, h37, h39, h41, h43, ⟨by omega, by omega⟩, ⟨by omega, by omega⟩, trivial⟩) (cwV 1 hts (ax_gV T_115 T_116 T_117 T_88 T_114) rfl rfl rfl (by decide +kernel) ⟨Nat.le_of_ble_eq_true rfl, Nat.le_of_ble_eq_true rfl⟩) ⟨fun a U g mk q => ⟨q.1, s_pc rfl rfl q.2⟩, s_recv hK hP (hLK _ ha0 (by decide)) (ci := 1) rfl o59, fun U hU hW => ⟨rfl, s_pw hU hW hP hK hD hN⟩⟩ rfl rfl hl.1 rfl (lv_room (Nat.le_of_ble_eq_true rfl)) dX1_goers_33 ⟨Nat.zero_le _, Nat.zero_le _⟩) hS (fun q _ h => h) (fun q h => h) (fun r62 F63 t H1 locs ht hvm hw hB hz1 hk1 hS => ?_)
          obtain ⟨hP, hK1⟩ := hB
          rw [ht] at hP
          generalize H1 = H at hP hS ⊢
          obtain ⟨h64, h65, hI, hfr1⟩ := hw
          have o66 : F63 a0 = .inr (1, [.ref z32, .ref z34, .ref z36, .ref z38, .ref z40, .ref z42, .int z44, .int z46, .int z47, .int z48, .int z50, .long z51]) := (hfr1 _ (by rw [ha0]; decide)).trans o59
          have hfr : ∀ b, K b ∉ ([] : List Nat) → F63 b = F b := fun b hb9 => (hfr1 b (fun q => hb9 (s_sub (by decide) q))).trans (hfr b hb9)
          refine lv_if_eq (tgt := 45) hx hb dX1_goers_36 (by decide) (fun c67 => ?_) (fun c67 => ?_)
          · have c67 := (ax_eq (n := 0) (by decide)).mp c67
            exact K45 _ _ _ ⟨F63, _, w27, rfl, lv_sub hl [0, 1, 2] rfl, hI, hP, hS, hfr, trivial, ⟨by omega, by omega⟩, ⟨z32, z34, z36, z38, z40, z42, z44, z46, z47, z48, z50, z51, o66, h33, h35, h37, h39, h41, h43, ⟨by omega, by omega⟩, ⟨by omega, by omega⟩, trivial⟩⟩
          · have c67 := mt (ax_eq (n := 0) (by decide)).mpr c67
            refine lv_iload_n hx hb dX1_goers_39 rfl (lv_at hl 1 rfl) ?_
            refine lv_iconst (v := 1) hx hb dX1_goers_40 (by decide) ?_
            refine lv_iload_n hx hb dX1_goers_41 rfl (lv_at hl 2 rfl) ?_
            refine lv_ishl hx hb dX1_goers_42 ?_
            refine lv_topi (fun v68 ev68 => ?_)
            refine lv_ior hx hb dX1_goers_43 ?_
            refine lv_topi (fun v69 ev69 => ?_)
            refine lv_istore_n (lv' := [(1, .int v69), (0, .ref a0), (2, .int w28)]) hx hb dX1_goers_44 rfl hl (by decide) rfl (fun ls hl => ?_)
            exact K45 _ _ _ ⟨F63, _, v69, rfl, lv_sub hl [1, 0, 2] rfl, hI, hP, hS, hfr, trivial, ⟨by omega, by omega⟩, ⟨z32, z34, z36, z38, z40, z42, z44, z46, z47, z48, z50, z51, o66, h33, h35, h37, h39, h41, h43, ⟨by omega, by omega⟩, ⟨by omega, by omega⟩, trivial⟩⟩
    · intro g H locs hq
      obtain ⟨F9, ls, w53, rfl, hl, hI, hP, hS, hfr, h70, h71, h72⟩ := hq
      obtain ⟨z73, z75, z77, z79, z81, z83, z85, z87, z88, z89, z91, z92, o93, h74, h76, h78, h80, h82, h84, h86, h90, -⟩ := h72
      obtain ⟨v94, ev94⟩ : ∃ y : Int32, w28 + 1 = y := ⟨_, rfl⟩
      have qv94 : v94.toInt = w28.toInt + 1 := by rw [← ev94]; exact th_add rfl (by decide) ⟨by omega, by omega⟩
      refine lv_iinc (v := v94) (lv' := [(2, .int v94), (0, .ref a0), (1, .int w53)]) hx hb dX1_goers_45 hl (k := 2) rfl ev94 (by decide) rfl (fun ls hl => ?_)
      refine lv_goto (tgt := 17) hx hb dX1_goers_48 (by decide) ?_
      exact ih17 _ _ _ _ (by omega) ⟨F9, _, w53, v94, rfl, lv_sub hl [1, 2, 0] rfl, hI, hP, hS, hfr, trivial, ⟨by omega, by omega⟩, ⟨z73, z75, z77, z79, z81, z83, z85, z87, z88, z89, z91, z92, o93, h74, h76, h78, h80, h82, h84, ⟨by omega, by omega⟩, ⟨by omega, by omega⟩, trivial⟩, rfl⟩
  · have c26 := mt (ax_eq (n := 12) (by decide)).mpr c26
    refine lv_iconst (v := 0) hx hb dX1_goers_11 (by decide) ?_
    exact W.iret (v := 0) hx hb hr (fun t ht hW => ⟨⟨0, F, rfl, ⟨trivial, trivial, hI, hfr⟩, by rw [ht]; exact hP, va_K.moved hW.alike hK⟩, hS.F ht⟩) hS.2.2 dX1_goers_12

set_option maxHeartbeats 4000000 in
set_option maxRecDepth 100000 in
theorem s_X1_lineBehind (l : Launch) (dC : Nat → ClassId) (dI : Nat → Nat → Nat) (sz : Nat) {L : List Nat} {K : Nat → Nat} {cs : Nat → ClassId} (hLK : ∀ a {k : Nat}, K a = k → k ≠ 0 → a ∈ L) (D : Nat) (F : Nat → va_E) (a0 : Nat) (ha0 : K a0 = 2) (hI : s_I K cs D F) (hR : s_rd3 K F a0) : Met l yX1_lineBehind (Cond.code yX1_lineBehind cX1_lineBehind 1 (some .int) :: T0) ({ frames := 0, cells := 0, slots := 0, locals := 0 }) (va_Pc [.ref a0] (s_W dC dI sz L F [(cs 0, .int), (cs 1, .byte), (cs 2, .long), (cs 3, .object RX5), (cs 4, .object RX4), (cs 5, .array .int), (cs 6, .char), (cs 7, .boolean)])) (va_Qi (fun (r : Int32) (G : Nat → va_E) => True ∧ True ∧ s_I K cs D G ∧ ∀ b, K b ∉ ([] : List Nat) → G b = F b) (fun (G : Nat → va_E) (t : State) => va_P (dC, dI) vwCl (va_pl L G) t.heap ∧ va_K (dC, dI) vwCl [(cs 0, .int), (cs 1, .byte), (cs 2, .long), (cs 3, .object RX5), (cs 4, .object RX4), (cs 5, .array .int), (cs 6, .char), (cs 7, .boolean)] t) (fun q => q ∈ L)) 0 0 (fun q => q ∈ L) := by
  refine Met.ofW (cc := cX1_lineBehind) (maxL := 1) (ret := (some .int)) (by decide) rfl ?_
  intro p e s m args below meth c s₁ B hml hv
  obtain ⟨rfl, hsz, hP, hK, hD, hN⟩ := hv
  have hx := B.exec
  have hb := B.bytes
  have hr := B.returns
  have hts : ∀ w ∈ T0, w.before _ s = true := fun w h => atoms_spec (ws := Cond.code yX1_lineBehind cX1_lineBehind 1 (some .int) :: T0) B.pre w (List.mem_cons_of_mem _ h)
  have hown : s.vm.findClass RX1 = some m.cls := findClass_of_methodNamed B.named
  have hlocks := B.notSynchronized
  have hS : va_S (fun q => q ∈ L) s.heap s.heap [] := va_S.rf
  have hfr : ∀ b, K b ∉ ([] : List Nat) → F b = F b := fun _ _ => rfl
  have hl := lv_entry ([.ref a0]) (n := 1) (Nat.le_of_ble_eq_true rfl)
  rw [lg_entry_eq]
  generalize (lg_sl ([.ref a0]) ++ List.replicate (1 - (lg_sl ([.ref a0])).length) Slot.unset).toArray = ls at hl ⊢
  have hl : lv_has ls 1 [(0, .ref a0)] := hl
  refine s_gen hP hS (fun H locs hP hS => ?_)
  obtain ⟨z1, z3, z5, z7, z9, z11, z13, z15, z16, z17, z19, z20, o21, h2, h4, h6, h8, h10, h12, h14, h18, -⟩ := hR
  refine lv_aload_n hx hb dX1_lineBehind_0 rfl (lv_at hl 0 rfl) ?_
  refine th_get (D := (dC, dI)) (ci := 1) (v := .ref z11) (C := RX1) (T := TX1) (N := 12) hx hb hts inX1 hown hK hP (hLK _ ha0 (by decide)) o21 rfl 5 (by decide) (hts _ T_99) (fun _ h9 => h9) rfl dX1_lineBehind_1 ?_
  refine lv_iconst (v := 0) hx hb dX1_lineBehind_4 (by decide) ?_
  obtain ⟨f22, o23, h24⟩ := s_op23 hI h12
  refine th_iald hx hb hK hP (hLK _ h12 (by decide)) 0 o23 rfl (ax_in (by decide)) dX1_lineBehind_5 ?_
  refine lv_topi (fun v25 ev25 => ?_)
  refine lv_bipush (v := 15) hx hb dX1_lineBehind_6 (by decide) ?_
  refine lv_icmp_ne (tgt := 21) hx hb dX1_lineBehind_8 (by decide) (fun c26 => ?_) (fun c26 => ?_)
  · have c26 := mt (ax_eq (n := 15) (by decide)).mpr c26
    refine lv_aload_n hx hb dX1_lineBehind_21 rfl (lv_at hl 0 rfl) ?_
    refine th_get (D := (dC, dI)) (ci := 1) (v := .int z15) (C := RX1) (T := TX1) (N := 12) hx hb hts inX1 hown hK hP (hLK _ ha0 (by decide)) o21 rfl 7 (by decide) (hts _ T_118) (fun _ h9 => h9) rfl dX1_lineBehind_22 ?_
    refine lv_iconst (v := 1) hx hb dX1_lineBehind_25 (by decide) ?_
    refine lv_iadd hx hb dX1_lineBehind_26 ?_
    refine lv_topi (fun v27 ev27 => ?_)
    exact W.iret (v := v27) hx hb hr (fun t ht hW => ⟨⟨v27, F, rfl, ⟨trivial, trivial, hI, hfr⟩, by rw [ht]; exact hP, va_K.moved hW.alike hK⟩, hS.F ht⟩) hS.2.2 dX1_lineBehind_27
  · have c26 := (ax_eq (n := 15) (by decide)).mp c26
    refine lv_aload_n hx hb dX1_lineBehind_11 rfl (lv_at hl 0 rfl) ?_
    refine th_get (D := (dC, dI)) (ci := 1) (v := .ref z5) (C := RX1) (T := TX1) (N := 12) hx hb hts inX1 hown hK hP (hLK _ ha0 (by decide)) o21 rfl 2 (by decide) (hts _ T_84) (fun _ h9 => h9) rfl dX1_lineBehind_12 ?_
    obtain ⟨z28, z30, z32, z34, z36, z38, z39, o40, h29, h31, h33, h35, h37, -⟩ := s_op3 hI h6
    refine th_getN (D := (dC, dI)) (ci := 2) (v := .int z34) (C := RX2) (T := TX2) (N := 7) hx hb hts inX2 hown hK hP (hLK _ h6 (by decide)) o40 rfl 3 (by decide) (va_Nw.use rfl hN.2.2.2.2.2.2.2.2.2.2.2.2.2.2.2.2.2.1) (fun _ h9 => h9) rfl dX1_lineBehind_15 ?_
    refine lv_goto (tgt := 27) hx hb dX1_lineBehind_18 (by decide) ?_
    exact W.iret (v := z34) hx hb hr (fun t ht hW => ⟨⟨z34, F, rfl, ⟨trivial, trivial, hI, hfr⟩, by rw [ht]; exact hP, va_K.moved hW.alike hK⟩, hS.F ht⟩) hS.2.2 dX1_lineBehind_27

set_option maxHeartbeats 4000000 in
set_option maxRecDepth 100000 in
theorem s_X1_bounded (l : Launch) (dC : Nat → ClassId) (dI : Nat → Nat → Nat) (sz : Nat) {L : List Nat} {K : Nat → Nat} {cs : Nat → ClassId} (hLK : ∀ a {k : Nat}, K a = k → k ≠ 0 → a ∈ L) (D : Nat) (F : Nat → va_E) (x0 : Int32)  (hI : s_I K cs D F) : Met l yX1_bounded (Cond.code yX1_bounded cX1_bounded 1 (some .int) :: T0) ({ frames := 1, cells := 0, slots := 0, locals := 14 }) (va_Pc [.int x0] (s_W dC dI sz L F [(cs 0, .int), (cs 1, .byte), (cs 2, .long), (cs 3, .object RX5), (cs 4, .object RX4), (cs 5, .array .int), (cs 6, .char), (cs 7, .boolean)])) (va_Qi (fun (r : Int32) (G : Nat → va_E) => (-9999 ≤ r.toInt ∧ r.toInt ≤ 9999) ∧ True ∧ s_I K cs D G ∧ ∀ b, K b ∉ ([] : List Nat) → G b = F b) (fun (G : Nat → va_E) (t : State) => va_P (dC, dI) vwCl (va_pl L G) t.heap ∧ va_K (dC, dI) vwCl [(cs 0, .int), (cs 1, .byte), (cs 2, .long), (cs 3, .object RX5), (cs 4, .object RX4), (cs 5, .array .int), (cs 6, .char), (cs 7, .boolean)] t) (fun q => q ∈ L)) 0 0 (fun q => q ∈ L) := by
  refine Met.ofW (cc := cX1_bounded) (maxL := 1) (ret := (some .int)) (by decide) rfl ?_
  intro p e s m args below meth c s₁ B hml hv
  obtain ⟨rfl, hsz, hP, hK, hD, hN⟩ := hv
  have hx := B.exec
  have hb := B.bytes
  have hr := B.returns
  have hts : ∀ w ∈ T0, w.before _ s = true := fun w h => atoms_spec (ws := Cond.code yX1_bounded cX1_bounded 1 (some .int) :: T0) B.pre w (List.mem_cons_of_mem _ h)
  have hown : s.vm.findClass RX1 = some m.cls := findClass_of_methodNamed B.named
  have hlocks := B.notSynchronized
  have hS : va_S (fun q => q ∈ L) s.heap s.heap [] := va_S.rf
  have hfr : ∀ b, K b ∉ ([] : List Nat) → F b = F b := fun _ _ => rfl
  have hl := lv_entry ([.int x0]) (n := 1) (Nat.le_of_ble_eq_true rfl)
  rw [lg_entry_eq]
  generalize (lg_sl ([.int x0]) ++ List.replicate (1 - (lg_sl ([.int x0])).length) Slot.unset).toArray = ls at hl ⊢
  have hl : lv_has ls 1 [(0, .int x0)] := hl
  refine s_gen hP hS (fun H locs hP hS => ?_)
  refine lv_sipush (v := (-9999)) hx hb dX1_bounded_0 (by decide) ?_
  refine lv_sipush (v := 9999) hx hb dX1_bounded_3 (by decide) ?_
  refine lv_iload_n hx hb dX1_bounded_6 rfl (lv_at hl 0 rfl) ?_
  refine va_mmin hx hb (by rw [hml]; exact hl.1.symm) hown (hts _ T_119) (hts _ T_120) (hts _ T_62) (hts _ T_121) (Nat.le_of_ble_eq_true rfl) (Nat.le_of_ble_eq_true rfl) (Nat.zero_le _) (Nat.zero_le _) dX1_bounded_7 ?_
  refine lv_topi (fun v1 ev1 => ?_)
  have qv1 := th_mmin (a := 9999) (b := x0.toInt) ev1 (by decide) rfl
  refine va_mmax hx hb (by rw [hml]; exact hl.1.symm) hown (hts _ T_122) (hts _ T_61) (hts _ T_62) (hts _ T_63) (Nat.le_of_ble_eq_true rfl) (Nat.le_of_ble_eq_true rfl) (Nat.zero_le _) (Nat.zero_le _) dX1_bounded_10 ?_
  refine lv_topi (fun v2 ev2 => ?_)
  have qv2 := th_mmax (a := (-9999)) (b := v1.toInt) ev2 (by decide) rfl
  exact W.iret (v := v2) hx hb hr (fun t ht hW => ⟨⟨v2, F, rfl, ⟨⟨by omega, by omega⟩, trivial, hI, hfr⟩, by rw [ht]; exact hP, va_K.moved hW.alike hK⟩, hS.F ht⟩) hS.2.2 dX1_bounded_13

set_option maxHeartbeats 4000000 in
set_option maxRecDepth 100000 in
theorem s_X1_moveTop (l : Launch) (dC : Nat → ClassId) (dI : Nat → Nat → Nat) (sz : Nat) {L : List Nat} {K : Nat → Nat} {cs : Nat → ClassId} (hLK : ∀ a {k : Nat}, K a = k → k ≠ 0 → a ∈ L) (D : Nat) (F : Nat → va_E) (a0 : Nat) (ha0 : K a0 = 2) (hI : s_I K cs D F) (hR : s_rd3 K F a0) : Met l yX1_moveTop (Cond.code yX1_moveTop cX1_moveTop 2 none :: T0) ({ frames := 3, cells := 0, slots := 0, locals := 67 }) (va_Pc [.ref a0] (s_W dC dI sz L F [(cs 0, .int), (cs 1, .byte), (cs 2, .long), (cs 3, .object RX5), (cs 4, .object RX4), (cs 5, .array .int), (cs 6, .char), (cs 7, .boolean)])) (va_Qv (fun (G : Nat → va_E) => True ∧ True ∧ s_I K cs D G ∧ ∀ b, K b ∉ [6, 32] → G b = F b) (fun (G : Nat → va_E) (t : State) => va_P (dC, dI) vwCl (va_pl L G) t.heap ∧ va_K (dC, dI) vwCl [(cs 0, .int), (cs 1, .byte), (cs 2, .long), (cs 3, .object RX5), (cs 4, .object RX4), (cs 5, .array .int), (cs 6, .char), (cs 7, .boolean)] t) (fun q => q ∈ L)) 0 0 (fun q => q ∈ L) := by
  refine Met.ofW (cc := cX1_moveTop) (maxL := 2) (ret := none) (by decide) rfl ?_
  intro p e s m args below meth c s₁ B hml hv
  obtain ⟨rfl, hsz, hP, hK, hD, hN⟩ := hv
  have hx := B.exec
  have hb := B.bytes
  have hr := B.returns
  have hts : ∀ w ∈ T0, w.before _ s = true := fun w h => atoms_spec (ws := Cond.code yX1_moveTop cX1_moveTop 2 none :: T0) B.pre w (List.mem_cons_of_mem _ h)
  have hown : s.vm.findClass RX1 = some m.cls := findClass_of_methodNamed B.named
  have hlocks := B.notSynchronized
  have hS : va_S (fun q => q ∈ L) s.heap s.heap [] := va_S.rf
  have hfr : ∀ b, K b ∉ [6, 32] → F b = F b := fun _ _ => rfl
  have hl := lv_entry ([.ref a0]) (n := 2) (Nat.le_of_ble_eq_true rfl)
  rw [lg_entry_eq]
  generalize (lg_sl ([.ref a0]) ++ List.replicate (2 - (lg_sl ([.ref a0])).length) Slot.unset).toArray = ls at hl ⊢
  have hl : lv_has ls 2 [(0, .ref a0)] := hl
  refine s_gen hP hS (fun H locs hP hS => ?_)
  obtain ⟨z1, z3, z5, z7, z9, z11, z13, z15, z16, z17, z19, z20, o21, h2, h4, h6, h8, h10, h12, h14, h18, -⟩ := hR
  refine th_join (fun g H locs => ∃ (G : Nat → va_E) (ls : Array Slot), g = F0 m 127 ls [] ∧ lv_has ls 2 [(0, .ref a0)] ∧ s_I K cs D G ∧ va_P (dC, dI) vwCl (va_pl L G) H ∧ va_S (fun q => q ∈ L) s.heap H locs ∧ (∀ b, K b ∉ [6, 32] → G b = F b) ∧ s_rd3 K G a0) (fun K127 => ?_) ?_
  refine th_join (fun g H locs => ∃ (G : Nat → va_E) (ls : Array Slot), g = F0 m 109 ls [] ∧ lv_has ls 2 [(0, .ref a0)] ∧ s_I K cs D G ∧ va_P (dC, dI) vwCl (va_pl L G) H ∧ va_S (fun q => q ∈ L) s.heap H locs ∧ (∀ b, K b ∉ [6, 32] → G b = F b) ∧ s_rd3 K G a0) (fun K109 => ?_) ?_
  · refine lv_aload_n hx hb dX1_moveTop_0 rfl (lv_at hl 0 rfl) ?_
    refine th_get (D := (dC, dI)) (ci := 1) (v := .ref z11) (C := RX1) (T := TX1) (N := 12) hx hb hts inX1 hown hK hP (hLK _ ha0 (by decide)) o21 rfl 5 (by decide) (hts _ T_99) (fun _ h9 => h9) rfl dX1_moveTop_1 ?_
    refine lv_iconst (v := 0) hx hb dX1_moveTop_4 (by decide) ?_
    obtain ⟨f22, o23, h24⟩ := s_op23 hI h12
    refine th_iald hx hb hK hP (hLK _ h12 (by decide)) 0 o23 rfl (ax_in (by decide)) dX1_moveTop_5 ?_
    refine lv_topi (fun v25 ev25 => ?_)
    refine lv_bipush (v := 13) hx hb dX1_moveTop_6 (by decide) ?_
    refine lv_icmp_ne (tgt := 28) hx hb dX1_moveTop_8 (by decide) (fun c26 => ?_) (fun c26 => ?_)
    · have c26 := mt (ax_eq (n := 13) (by decide)).mpr c26
      refine lv_aload_n hx hb dX1_moveTop_28 rfl (lv_at hl 0 rfl) ?_
      refine va_calli (va_runV (As := []) (rest := []) ⟨hx, hb, hml, hown, hts⟩ (s_X1_goers l dC dI H.size hLK D F a0 ha0 hI ⟨z1, z3, z5, z7, z9, z11, z13, z15, z16, z17, z19, z20, o21, h2, h4, h6, h8, h10, h12, ⟨by omega, by omega⟩, ⟨by omega, by omega⟩, trivial⟩) (cwV 0 hts (ax_gV T_124 T_125 T_126 T_88 T_123) rfl rfl rfl (by decide +kernel) ⟨Nat.le_of_ble_eq_true rfl, Nat.le_of_ble_eq_true rfl⟩) ⟨fun a U g mk q => ⟨q.1, s_pc rfl rfl q.2⟩, s_recv hK hP (hLK _ ha0 (by decide)) (ci := 1) rfl o21, fun U hU hW => ⟨rfl, s_pw hU hW hP hK hD hN⟩⟩ rfl rfl hl.1 rfl (lv_room (Nat.le_of_ble_eq_true rfl)) dX1_moveTop_29 ⟨Nat.zero_le _, Nat.zero_le _⟩) hS (fun q _ h => h) (fun q h => h) (fun r27 F28 t H1 locs ht hvm hw hB hz1 hk1 hS => ?_)
      obtain ⟨hP, hK1⟩ := hB
      rw [ht] at hP
      generalize H1 = H at hP hS ⊢
      obtain ⟨h29, h30, hI, hfr1⟩ := hw
      have o31 : F28 a0 = .inr (1, [.ref z1, .ref z3, .ref z5, .ref z7, .ref z9, .ref z11, .int z13, .int z15, .int z16, .int z17, .int z19, .long z20]) := (hfr1 _ (by rw [ha0]; decide)).trans o21
      have hfr : ∀ b, K b ∉ [6, 32] → F28 b = F b := fun b hb9 => (hfr1 b (fun q => hb9 (s_sub (by decide) q))).trans (hfr b hb9)
      refine lv_istore_n (lv' := [(1, .int r27), (0, .ref a0)]) hx hb dX1_moveTop_32 rfl hl (by decide) rfl (fun ls hl => ?_)
      refine lv_iload_n hx hb dX1_moveTop_33 rfl (lv_at hl 0 rfl) ?_
      refine lv_if_ne (tgt := 51) hx hb dX1_moveTop_34 (by decide) (fun c32 => ?_) (fun c32 => ?_)
      · have c32 := mt (ax_eq (n := 0) (by decide)).mpr c32
        refine lv_iload_n hx hb dX1_moveTop_51 rfl (lv_at hl 0 rfl) ?_
        refine lv_aload_n hx hb dX1_moveTop_52 rfl (lv_at hl 1 rfl) ?_
        refine th_get (D := (dC, dI)) (ci := 1) (v := .int z16) (C := RX1) (T := TX1) (N := 12) hx hb hts inX1 hown hK hP (hLK _ ha0 (by decide)) o31 rfl 8 (by decide) (hts _ T_85) (fun _ h9 => h9) rfl dX1_moveTop_53 ?_
        refine lv_icmp_ne (tgt := 75) hx hb dX1_moveTop_56 (by decide) (fun c33 => ?_) (fun c33 => ?_)
        · have c33 := mt Int32.toInt_inj.symm.mpr c33
          refine lv_aload_n hx hb dX1_moveTop_75 rfl (lv_at hl 1 rfl) ?_
          refine th_get (D := (dC, dI)) (ci := 1) (v := .ref z9) (C := RX1) (T := TX1) (N := 12) hx hb hts inX1 hown hK hP (hLK _ ha0 (by decide)) o31 rfl 4 (by decide) (hts _ T_94) (fun _ h9 => h9) rfl dX1_moveTop_76 ?_
          refine lv_aload_n hx hb dX1_moveTop_79 rfl (lv_at hl 1 rfl) ?_
          refine th_get (D := (dC, dI)) (ci := 1) (v := .int z15) (C := RX1) (T := TX1) (N := 12) hx hb hts inX1 hown hK hP (hLK _ ha0 (by decide)) o31 rfl 7 (by decide) (hts _ T_118) (fun _ h9 => h9) rfl dX1_moveTop_80 ?_
          refine lv_iconst (v := 1) hx hb dX1_moveTop_83 (by decide) ?_
          refine lv_iadd hx hb dX1_moveTop_84 ?_
          refine lv_topi (fun v34 ev34 => ?_)
          refine lv_aload_n hx hb dX1_moveTop_85 rfl (lv_at hl 1 rfl) ?_
          refine th_get (D := (dC, dI)) (ci := 1) (v := .ref z11) (C := RX1) (T := TX1) (N := 12) hx hb hts inX1 hown hK hP (hLK _ ha0 (by decide)) o31 rfl 5 (by decide) (hts _ T_99) (fun _ h9 => h9) rfl dX1_moveTop_86 ?_
          refine lv_iconst (v := 4) hx hb dX1_moveTop_89 (by decide) ?_
          obtain ⟨f35, o36, h37⟩ := s_op23 hI h12
          refine th_iald hx hb hK hP (hLK _ h12 (by decide)) 0 o36 rfl (ax_in (by decide)) dX1_moveTop_90 ?_
          refine lv_topi (fun v38 ev38 => ?_)
          refine lv_aload_n hx hb dX1_moveTop_91 rfl (lv_at hl 1 rfl) ?_
          refine th_get (D := (dC, dI)) (ci := 1) (v := .ref z11) (C := RX1) (T := TX1) (N := 12) hx hb hts inX1 hown hK hP (hLK _ ha0 (by decide)) o31 rfl 5 (by decide) (hts _ T_99) (fun _ h9 => h9) rfl dX1_moveTop_92 ?_
          refine lv_bipush (v := 6) hx hb dX1_moveTop_95 (by decide) ?_
          obtain ⟨f39, o40, h41⟩ := s_op23 hI h12
          refine th_iald hx hb hK hP (hLK _ h12 (by decide)) 0 o40 rfl (ax_in (by decide)) dX1_moveTop_97 ?_
          refine lv_topi (fun v42 ev42 => ?_)
          refine lv_iload_n hx hb dX1_moveTop_98 rfl (lv_at hl 0 rfl) ?_
          refine lv_aload_n hx hb dX1_moveTop_99 rfl (lv_at hl 1 rfl) ?_
          refine th_get (D := (dC, dI)) (ci := 1) (v := .ref z5) (C := RX1) (T := TX1) (N := 12) hx hb hts inX1 hown hK hP (hLK _ ha0 (by decide)) o31 rfl 2 (by decide) (hts _ T_84) (fun _ h9 => h9) rfl dX1_moveTop_100 ?_
          obtain ⟨z43, z45, z47, z49, z51, z53, z54, o55, h44, h46, h48, h50, h52, -⟩ := s_op3 hI h6
          refine th_getN (D := (dC, dI)) (ci := 2) (v := .int z49) (C := RX2) (T := TX2) (N := 7) hx hb hts inX2 hown hK hP (hLK _ h6 (by decide)) o55 rfl 3 (by decide) (va_Nw.use rfl hN.2.2.2.2.2.2.2.2.2.2.2.2.2.2.2.2.2.1) (fun _ h9 => h9) rfl dX1_moveTop_103 ?_
          obtain ⟨z56, z58, z60, z62, z64, z66, z68, z69, z70, z71, z72, o74, h57, h59, h61, h63, h65, h67, h73, -⟩ := s_op6 hI h10
          refine va_callv (va_runV (As := [.int v34, .int v38, .int v42, .int r27, .int z49]) (rest := []) ⟨hx, hb, hml, hown, hts⟩ (s_X5_splitTop l dC dI H.size hLK D F28 z9 v34 v38 v42 r27 z49 h10 hI) (cwV 5 hts (ax_gV T_128 T_129 T_130 T_19 T_127) rfl rfl rfl (by decide +kernel) ⟨Nat.le_of_ble_eq_true rfl, Nat.le_of_ble_eq_true rfl⟩) ⟨fun a U g mk q => ⟨q.1, s_pc rfl rfl q.2⟩, s_recv hK hP (hLK _ h10 (by decide)) (ci := 5) rfl o74, fun U hU hW => ⟨rfl, s_pw hU hW hP hK hD hN⟩⟩ rfl rfl hl.1 rfl (lv_room (Nat.le_of_ble_eq_true rfl)) dX1_moveTop_106 ⟨Nat.zero_le _, Nat.zero_le _⟩) hS (fun q _ h => h) (fun q h => h) (fun F75 t H1 locs ht hvm hw hB hz1 hk1 hS => ?_)
          obtain ⟨hP, hK1⟩ := hB
          rw [ht] at hP
          generalize H1 = H at hP hS ⊢
          obtain ⟨h76, h77, hI, hfr1⟩ := hw
          have o78 : F75 a0 = .inr (1, [.ref z1, .ref z3, .ref z5, .ref z7, .ref z9, .ref z11, .int z13, .int z15, .int z16, .int z17, .int z19, .long z20]) := (hfr1 _ (by rw [ha0]; decide)).trans o31
          have o79 : F75 z5 = .inr (2, [.ref z43, .ref z45, .ref z47, .int z49, .int z51, .int z53, .int z54]) := (hfr1 _ (by rw [h6]; decide)).trans o55
          have hfr : ∀ b, K b ∉ [6, 32] → F75 b = F b := fun b hb9 => (hfr1 b (fun q => hb9 (s_sub (by decide) q))).trans (hfr b hb9)
          exact K109 _ _ _ ⟨F75, _, rfl, lv_sub hl [1] rfl, hI, hP, hS, hfr, ⟨z1, z3, z5, z7, z9, z11, z13, z15, z16, z17, z19, z20, o78, h2, h4, h6, h8, h10, h12, ⟨by omega, by omega⟩, ⟨by omega, by omega⟩, trivial⟩⟩
        · have c33 := Int32.toInt_inj.symm.mp c33
          refine lv_aload_n hx hb dX1_moveTop_59 rfl (lv_at hl 1 rfl) ?_
          refine th_get (D := (dC, dI)) (ci := 1) (v := .ref z9) (C := RX1) (T := TX1) (N := 12) hx hb hts inX1 hown hK hP (hLK _ ha0 (by decide)) o31 rfl 4 (by decide) (hts _ T_94) (fun _ h9 => h9) rfl dX1_moveTop_60 ?_
          refine lv_aload_n hx hb dX1_moveTop_63 rfl (lv_at hl 1 rfl) ?_
          refine th_get (D := (dC, dI)) (ci := 1) (v := .ref z11) (C := RX1) (T := TX1) (N := 12) hx hb hts inX1 hown hK hP (hLK _ ha0 (by decide)) o31 rfl 5 (by decide) (hts _ T_99) (fun _ h9 => h9) rfl dX1_moveTop_64 ?_
          refine lv_iconst (v := 4) hx hb dX1_moveTop_67 (by decide) ?_
          obtain ⟨f80, o81, h82⟩ := s_op23 hI h12
          refine th_iald hx hb hK hP (hLK _ h12 (by decide)) 0 o81 rfl (ax_in (by decide)) dX1_moveTop_68 ?_
          refine lv_topi (fun v83 ev83 => ?_)
          obtain ⟨z84, z86, z88, z90, z92, z94, z96, z97, z98, z99, z100, o102, h85, h87, h89, h91, h93, h95, h101, -⟩ := s_op6 hI h10
          refine va_callv (va_runV (As := [.int v83]) (rest := []) ⟨hx, hb, hml, hown, hts⟩ (s_X5_moveTop l dC dI H.size hLK D F28 z9 v83 h10 hI) (cwV 1 hts (ax_gV T_132 T_133 T_134 T_19 T_131) rfl rfl rfl (by decide +kernel) ⟨Nat.le_of_ble_eq_true rfl, Nat.le_of_ble_eq_true rfl⟩) ⟨fun a U g mk q => ⟨q.1, s_pc rfl rfl q.2⟩, s_recv hK hP (hLK _ h10 (by decide)) (ci := 5) rfl o102, fun U hU hW => ⟨rfl, s_pw hU hW hP hK hD hN⟩⟩ rfl rfl hl.1 rfl (lv_room (Nat.le_of_ble_eq_true rfl)) dX1_moveTop_69 ⟨Nat.zero_le _, Nat.zero_le _⟩) hS (fun q _ h => h) (fun q h => h) (fun F103 t H1 locs ht hvm hw hB hz1 hk1 hS => ?_)
          obtain ⟨hP, hK1⟩ := hB
          rw [ht] at hP
          generalize H1 = H at hP hS ⊢
          obtain ⟨h104, h105, hI, hfr1⟩ := hw
          have o106 : F103 a0 = .inr (1, [.ref z1, .ref z3, .ref z5, .ref z7, .ref z9, .ref z11, .int z13, .int z15, .int z16, .int z17, .int z19, .long z20]) := (hfr1 _ (by rw [ha0]; decide)).trans o31
          have o107 : F103 z9 = .inr (5, [.ref z84, .ref z86, .ref z88, .ref z90, .ref z92, .int z94, .int z96, .int z97, .int z98, .int z99, .int z100]) := (hfr1 _ (by rw [h10]; decide)).trans o102
          have hfr : ∀ b, K b ∉ [6, 32] → F103 b = F b := fun b hb9 => (hfr1 b (fun q => hb9 (s_sub (by decide) q))).trans (hfr b hb9)
          refine lv_goto (tgt := 109) hx hb dX1_moveTop_72 (by decide) ?_
          exact K109 _ _ _ ⟨F103, _, rfl, lv_sub hl [1] rfl, hI, hP, hS, hfr, ⟨z1, z3, z5, z7, z9, z11, z13, z15, z16, z17, z19, z20, o106, h2, h4, h6, h8, h10, h12, ⟨by omega, by omega⟩, ⟨by omega, by omega⟩, trivial⟩⟩
      · have c32 := (ax_eq (n := 0) (by decide)).mp c32
        refine lv_aload_n hx hb dX1_moveTop_37 rfl (lv_at hl 1 rfl) ?_
        refine th_get (D := (dC, dI)) (ci := 1) (v := .ref z9) (C := RX1) (T := TX1) (N := 12) hx hb hts inX1 hown hK hP (hLK _ ha0 (by decide)) o31 rfl 4 (by decide) (hts _ T_94) (fun _ h9 => h9) rfl dX1_moveTop_38 ?_
        refine lv_aload_n hx hb dX1_moveTop_41 rfl (lv_at hl 1 rfl) ?_
        refine va_calli (va_runV (As := []) (rest := [.ref z9]) ⟨hx, hb, hml, hown, hts⟩ (s_X1_lineBehind l dC dI H.size hLK D F28 a0 ha0 hI ⟨z1, z3, z5, z7, z9, z11, z13, z15, z16, z17, z19, z20, o31, h2, h4, h6, h8, h10, h12, ⟨by omega, by omega⟩, ⟨by omega, by omega⟩, trivial⟩) (cwV 0 hts (ax_gV T_136 T_137 T_138 T_88 T_135) rfl rfl rfl (by decide +kernel) ⟨Nat.le_of_ble_eq_true rfl, Nat.le_of_ble_eq_true rfl⟩) ⟨fun a U g mk q => ⟨q.1, s_pc rfl rfl q.2⟩, s_recv hK hP (hLK _ ha0 (by decide)) (ci := 1) rfl o31, fun U hU hW => ⟨rfl, s_pw hU hW hP hK hD hN⟩⟩ rfl rfl hl.1 rfl (lv_room (Nat.le_of_ble_eq_true rfl)) dX1_moveTop_42 ⟨Nat.zero_le _, Nat.zero_le _⟩) hS (fun q _ h => h) (fun q h => h) (fun r108 F109 t H1 locs ht hvm hw hB hz1 hk1 hS => ?_)
        obtain ⟨hP, hK1⟩ := hB
        rw [ht] at hP
        generalize H1 = H at hP hS ⊢
        obtain ⟨h110, h111, hI, hfr1⟩ := hw
        have o112 : F109 a0 = .inr (1, [.ref z1, .ref z3, .ref z5, .ref z7, .ref z9, .ref z11, .int z13, .int z15, .int z16, .int z17, .int z19, .long z20]) := (hfr1 _ (by rw [ha0]; decide)).trans o31
        have hfr : ∀ b, K b ∉ [6, 32] → F109 b = F b := fun b hb9 => (hfr1 b (fun q => hb9 (s_sub (by decide) q))).trans (hfr b hb9)
        obtain ⟨z113, z115, z117, z119, z121, z123, z125, z126, z127, z128, z129, o131, h114, h116, h118, h120, h122, h124, h130, -⟩ := s_op6 hI h10
        refine va_callv (va_runV (As := [.int r108]) (rest := []) ⟨hx, hb, hml, hown, hts⟩ (s_X5_moveTop l dC dI H.size hLK D F109 z9 r108 h10 hI) (cwV 1 hts (ax_gV T_132 T_133 T_134 T_19 T_131) rfl rfl rfl (by decide +kernel) ⟨Nat.le_of_ble_eq_true rfl, Nat.le_of_ble_eq_true rfl⟩) ⟨fun a U g mk q => ⟨q.1, s_pc rfl rfl q.2⟩, s_recv hK hP (hLK _ h10 (by decide)) (ci := 5) rfl o131, fun U hU hW => ⟨rfl, s_pw hU hW hP hK hD hN⟩⟩ rfl rfl hl.1 rfl (lv_room (Nat.le_of_ble_eq_true rfl)) dX1_moveTop_45 ⟨Nat.zero_le _, Nat.zero_le _⟩) hS (fun q _ h => h) (fun q h => h) (fun F132 t H1 locs ht hvm hw hB hz1 hk1 hS => ?_)
        obtain ⟨hP, hK1⟩ := hB
        rw [ht] at hP
        generalize H1 = H at hP hS ⊢
        obtain ⟨h133, h134, hI, hfr1⟩ := hw
        have o135 : F132 a0 = .inr (1, [.ref z1, .ref z3, .ref z5, .ref z7, .ref z9, .ref z11, .int z13, .int z15, .int z16, .int z17, .int z19, .long z20]) := (hfr1 _ (by rw [ha0]; decide)).trans o112
        have o136 : F132 z9 = .inr (5, [.ref z113, .ref z115, .ref z117, .ref z119, .ref z121, .int z123, .int z125, .int z126, .int z127, .int z128, .int z129]) := (hfr1 _ (by rw [h10]; decide)).trans o131
        have hfr : ∀ b, K b ∉ [6, 32] → F132 b = F b := fun b hb9 => (hfr1 b (fun q => hb9 (s_sub (by decide) q))).trans (hfr b hb9)
        refine lv_goto (tgt := 109) hx hb dX1_moveTop_48 (by decide) ?_
        exact K109 _ _ _ ⟨F132, _, rfl, lv_sub hl [1] rfl, hI, hP, hS, hfr, ⟨z1, z3, z5, z7, z9, z11, z13, z15, z16, z17, z19, z20, o135, h2, h4, h6, h8, h10, h12, ⟨by omega, by omega⟩, ⟨by omega, by omega⟩, trivial⟩⟩
    · have c26 := (ax_eq (n := 13) (by decide)).mp c26
      refine lv_aload_n hx hb dX1_moveTop_11 rfl (lv_at hl 0 rfl) ?_
      refine th_get (D := (dC, dI)) (ci := 1) (v := .ref z9) (C := RX1) (T := TX1) (N := 12) hx hb hts inX1 hown hK hP (hLK _ ha0 (by decide)) o21 rfl 4 (by decide) (hts _ T_94) (fun _ h9 => h9) rfl dX1_moveTop_12 ?_
      refine lv_dup hx hb dX1_moveTop_15 rfl ?_
      obtain ⟨z137, z139, z141, z143, z145, z147, z149, z150, z151, z152, z153, o155, h138, h140, h142, h144, h146, h148, h154, -⟩ := s_op6 hI h10
      refine th_getN (D := (dC, dI)) (ci := 5) (v := .int z150) (C := RX5) (T := TX5) (N := 11) hx hb hts inX5 hown hK hP (hLK _ h10 (by decide)) o155 rfl 7 (by decide) (va_Nw.use rfl hN.2.2.2.2.2.2.2.2.2.2.2.2.2.2.2.2.2.2.1) (fun _ h9 => h9) rfl dX1_moveTop_16 ?_
      refine lv_aload_n hx hb dX1_moveTop_19 rfl (lv_at hl 0 rfl) ?_
      refine th_get (D := (dC, dI)) (ci := 1) (v := .int z16) (C := RX1) (T := TX1) (N := 12) hx hb hts inX1 hown hK hP (hLK _ ha0 (by decide)) o21 rfl 8 (by decide) (hts _ T_85) (fun _ h9 => h9) rfl dX1_moveTop_20 ?_
      refine lv_ior hx hb dX1_moveTop_23 ?_
      refine lv_topi (fun v156 ev156 => ?_)
      refine th_putN (D := (dC, dI)) (ci := 5) (v := .int v156) (ty := .int) (C := RX5) (T := TX5) (N := 11) hx hb hts inX5 tyX5 tyX5_ok nmX5 hown hK hP hD hS (hLK _ h10 (by decide)) o155 rfl 7 (by decide) (va_Nw.use rfl hN.2.2.2.2.2.2.2.2.2.2.2.2.2.2.2.2.2.2.1) (fun _ h9 => h9) rfl (by decide +kernel) rfl rfl (Nat.le_of_ble_eq_true rfl) dX1_moveTop_24 (fun H locs hP hS => ?_)
      have hP : va_P (dC, dI) vwCl (va_pl L (va_up F z9 (.inr (5, [.ref z137, .ref z139, .ref z141, .ref z143, .ref z145, .int z147, .int z149, .int v156, .int z151, .int z152, .int z153])))) H := hP
      obtain ⟨F157, hF158⟩ : ∃ G : Nat → va_E, G = va_up F z9 (.inr (5, [.ref z137, .ref z139, .ref z141, .ref z143, .ref z145, .int z147, .int z149, .int v156, .int z151, .int z152, .int z153])) := ⟨_, rfl⟩
      rw [← hF158] at hP
      have hI : s_I K cs D F157 := by rw [hF158]; exact s_cl6 hI h10 ⟨z137, z139, z141, z143, z145, z147, z149, v156, z151, z152, z153, rfl, h138, h140, h142, h144, h146, ⟨by omega, by omega⟩, ⟨by omega, by omega⟩, trivial⟩
      have hfr : ∀ b, K b ∉ [6, 32] → F157 b = F b := by rw [hF158]; exact s_fr hfr h10 (by decide)
      have o159 : F157 a0 = .inr (1, [.ref z1, .ref z3, .ref z5, .ref z7, .ref z9, .ref z11, .int z13, .int z15, .int z16, .int z17, .int z19, .long z20]) := by rw [hF158]; exact th_ne (th_kd ha0 h10 (by decide)) o21
      have o160 : F157 z9 = .inr (5, [.ref z137, .ref z139, .ref z141, .ref z143, .ref z145, .int z147, .int z149, .int v156, .int z151, .int z152, .int z153]) := by rw [hF158]; exact th_up
      exact W.vret hx hb hr (fun t ht hW => ⟨⟨F157, rfl, ⟨trivial, trivial, hI, hfr⟩, by rw [ht]; exact hP, va_K.moved hW.alike hK⟩, hS.F ht⟩) hS.2.2 dX1_moveTop_27
  · intro g H locs hq
    obtain ⟨F9, ls, rfl, hl, hI, hP, hS, hfr, h161⟩ := hq
    obtain ⟨z162, z164, z166, z168, z170, z172, z174, z176, z177, z178, z180, z181, o182, h163, h165, h167, h169, h171, h173, h175, h179, -⟩ := h161
    refine lv_aload_n hx hb dX1_moveTop_109 rfl (lv_at hl 0 rfl) ?_
    refine th_get (D := (dC, dI)) (ci := 1) (v := .ref z172) (C := RX1) (T := TX1) (N := 12) hx hb hts inX1 hown hK hP (hLK _ ha0 (by decide)) o182 rfl 5 (by decide) (hts _ T_99) (fun _ h9 => h9) rfl dX1_moveTop_110 ?_
    refine lv_iconst (v := 0) hx hb dX1_moveTop_113 (by decide) ?_
    obtain ⟨f183, o184, h185⟩ := s_op23 hI h173
    refine th_iald hx hb hK hP (hLK _ h173 (by decide)) 0 o184 rfl (ax_in (by decide)) dX1_moveTop_114 ?_
    refine lv_topi (fun v186 ev186 => ?_)
    refine lv_bipush (v := 14) hx hb dX1_moveTop_115 (by decide) ?_
    refine lv_icmp_ne (tgt := 127) hx hb dX1_moveTop_117 (by decide) (fun c187 => ?_) (fun c187 => ?_)
    · have c187 := mt (ax_eq (n := 14) (by decide)).mpr c187
      exact K127 _ _ _ ⟨F9, _, rfl, lv_sub hl [0] rfl, hI, hP, hS, hfr, ⟨z162, z164, z166, z168, z170, z172, z174, z176, z177, z178, z180, z181, o182, h163, h165, h167, h169, h171, h173, ⟨by omega, by omega⟩, ⟨by omega, by omega⟩, trivial⟩⟩
    · have c187 := (ax_eq (n := 14) (by decide)).mp c187
      refine lv_aload_n hx hb dX1_moveTop_120 rfl (lv_at hl 0 rfl) ?_
      refine th_get (D := (dC, dI)) (ci := 1) (v := .ref z170) (C := RX1) (T := TX1) (N := 12) hx hb hts inX1 hown hK hP (hLK _ ha0 (by decide)) o182 rfl 4 (by decide) (hts _ T_94) (fun _ h9 => h9) rfl dX1_moveTop_121 ?_
      obtain ⟨z188, z190, z192, z194, z196, z198, z200, z201, z202, z203, z204, o206, h189, h191, h193, h195, h197, h199, h205, -⟩ := s_op6 hI h171
      refine va_callv (va_runV (As := []) (rest := []) ⟨hx, hb, hml, hown, hts⟩ (s_X5_yieldTop l dC dI H.size hLK D F9 z170 h171 hI) (cwV 0 hts (ax_gV T_140 T_141 T_142 T_19 T_139) rfl rfl rfl (by decide +kernel) ⟨Nat.le_of_ble_eq_true rfl, Nat.le_of_ble_eq_true rfl⟩) ⟨fun a U g mk q => ⟨q.1, s_pc rfl rfl q.2⟩, s_recv hK hP (hLK _ h171 (by decide)) (ci := 5) rfl o206, fun U hU hW => ⟨rfl, s_pw hU hW hP hK hD hN⟩⟩ rfl rfl hl.1 rfl (lv_room (Nat.le_of_ble_eq_true rfl)) dX1_moveTop_124 ⟨Nat.zero_le _, Nat.zero_le _⟩) hS (fun q _ h => h) (fun q h => h) (fun F207 t H1 locs ht hvm hw hB hz1 hk1 hS => ?_)
      obtain ⟨hP, hK1⟩ := hB
      rw [ht] at hP
      generalize H1 = H at hP hS ⊢
      obtain ⟨h208, h209, hI, hfr1⟩ := hw
      have o210 : F207 a0 = .inr (1, [.ref z162, .ref z164, .ref z166, .ref z168, .ref z170, .ref z172, .int z174, .int z176, .int z177, .int z178, .int z180, .long z181]) := (hfr1 _ (by rw [ha0]; decide)).trans o182
      have o211 : F207 z170 = .inr (5, [.ref z188, .ref z190, .ref z192, .ref z194, .ref z196, .int z198, .int z200, .int z201, .int z202, .int z203, .int z204]) := (hfr1 _ (by rw [h171]; decide)).trans o206
      have hfr : ∀ b, K b ∉ [6, 32] → F207 b = F b := fun b hb9 => (hfr1 b (fun q => hb9 (s_sub (by decide) q))).trans (hfr b hb9)
      exact K127 _ _ _ ⟨F207, _, rfl, lv_sub hl [0] rfl, hI, hP, hS, hfr, ⟨z162, z164, z166, z168, z170, z172, z174, z176, z177, z178, z180, z181, o210, h163, h165, h167, h169, h171, h173, ⟨by omega, by omega⟩, ⟨by omega, by omega⟩, trivial⟩⟩
  · intro g H locs hq
    obtain ⟨F9, ls, rfl, hl, hI, hP, hS, hfr, h212⟩ := hq
    obtain ⟨z213, z215, z217, z219, z221, z223, z225, z227, z228, z229, z231, z232, o233, h214, h216, h218, h220, h222, h224, h226, h230, -⟩ := h212
    refine lv_aload_n hx hb dX1_moveTop_127 rfl (lv_at hl 0 rfl) ?_
    refine th_get (D := (dC, dI)) (ci := 1) (v := .ref z221) (C := RX1) (T := TX1) (N := 12) hx hb hts inX1 hown hK hP (hLK _ ha0 (by decide)) o233 rfl 4 (by decide) (hts _ T_94) (fun _ h9 => h9) rfl dX1_moveTop_128 ?_
    refine lv_aload_n hx hb dX1_moveTop_131 rfl (lv_at hl 0 rfl) ?_
    refine th_get (D := (dC, dI)) (ci := 1) (v := .ref z217) (C := RX1) (T := TX1) (N := 12) hx hb hts inX1 hown hK hP (hLK _ ha0 (by decide)) o233 rfl 2 (by decide) (hts _ T_84) (fun _ h9 => h9) rfl dX1_moveTop_132 ?_
    obtain ⟨z234, z236, z238, z240, z242, z244, z245, o246, h235, h237, h239, h241, h243, -⟩ := s_op3 hI h218
    refine th_getN (D := (dC, dI)) (ci := 2) (v := .int z240) (C := RX2) (T := TX2) (N := 7) hx hb hts inX2 hown hK hP (hLK _ h218 (by decide)) o246 rfl 3 (by decide) (va_Nw.use rfl hN.2.2.2.2.2.2.2.2.2.2.2.2.2.2.2.2.2.1) (fun _ h9 => h9) rfl dX1_moveTop_135 ?_
    obtain ⟨z247, z249, z251, z253, z255, z257, z259, z260, z261, z262, z263, o265, h248, h250, h252, h254, h256, h258, h264, -⟩ := s_op6 hI h222
    refine va_callv (va_runV (As := [.int z240]) (rest := []) ⟨hx, hb, hml, hown, hts⟩ (s_X5_settle l dC dI H.size hLK D F9 z221 z240 h222 hI) (cwV 1 hts (ax_gV T_144 T_145 T_146 T_19 T_143) rfl rfl rfl (by decide +kernel) ⟨Nat.le_of_ble_eq_true rfl, Nat.le_of_ble_eq_true rfl⟩) ⟨fun a U g mk q => ⟨q.1, s_pc rfl rfl q.2⟩, s_recv hK hP (hLK _ h222 (by decide)) (ci := 5) rfl o265, fun U hU hW => ⟨rfl, s_pw hU hW hP hK hD hN⟩⟩ rfl rfl hl.1 rfl (lv_room (Nat.le_of_ble_eq_true rfl)) dX1_moveTop_138 ⟨Nat.zero_le _, Nat.zero_le _⟩) hS (fun q _ h => h) (fun q h => h) (fun F266 t H1 locs ht hvm hw hB hz1 hk1 hS => ?_)
    obtain ⟨hP, hK1⟩ := hB
    rw [ht] at hP
    generalize H1 = H at hP hS ⊢
    obtain ⟨h267, h268, hI, hfr1⟩ := hw
    have o269 : F266 a0 = .inr (1, [.ref z213, .ref z215, .ref z217, .ref z219, .ref z221, .ref z223, .int z225, .int z227, .int z228, .int z229, .int z231, .long z232]) := (hfr1 _ (by rw [ha0]; decide)).trans o233
    have o270 : F266 z217 = .inr (2, [.ref z234, .ref z236, .ref z238, .int z240, .int z242, .int z244, .int z245]) := (hfr1 _ (by rw [h218]; decide)).trans o246
    have hfr : ∀ b, K b ∉ [6, 32] → F266 b = F b := fun b hb9 => (hfr1 b (fun q => hb9 (s_sub (by decide) q))).trans (hfr b hb9)
    exact W.vret hx hb hr (fun t ht hW => ⟨⟨F266, rfl, ⟨trivial, trivial, hI, hfr⟩, by rw [ht]; exact hP, va_K.moved hW.alike hK⟩, hS.F ht⟩) hS.2.2 dX1_moveTop_141

set_option maxHeartbeats 4000000 in
set_option maxRecDepth 100000 in
theorem s_X1_foresee (l : Launch) (dC : Nat → ClassId) (dI : Nat → Nat → Nat) (sz : Nat) {L : List Nat} {K : Nat → Nat} {cs : Nat → ClassId} (hLK : ∀ a {k : Nat}, K a = k → k ≠ 0 → a ∈ L) (D : Nat) (F : Nat → va_E) (a0 : Nat) (a1 : Nat) (ha0 : K a0 = 2) (ha1 : K a1 = 5) (hI : s_I K cs D F) (hPG : s_PG K cs F) : Met l yX1_foresee (Cond.code yX1_foresee cX1_foresee 2 (some .boolean) :: T0) ({ frames := 1, cells := 0, slots := 0, locals := 23 }) (va_Pc [.ref a0, .ref a1] (s_W dC dI sz L F [(cs 0, .int), (cs 1, .byte), (cs 2, .long), (cs 3, .object RX5), (cs 4, .object RX4), (cs 5, .array .int), (cs 6, .char), (cs 7, .boolean)])) (va_Qi (fun (r : Int32) (G : Nat → va_E) => (0 ≤ r.toInt ∧ r.toInt ≤ 1) ∧ (True ∧ (¬ r = 0 → (∀ z0 z1 z2 z3 z4 z5 z6 z7 z8 z9 z10 z11 f g, G a0 = .inr (1, [.ref z0, .ref z1, .ref z2, .ref z3, .ref z4, .ref z5, .int z6, .int z7, .int z8, .int z9, .int z10, .long z11]) → G z0 = .inl (cs 0, 8, .inl f) → G z5 = .inl (cs 0, 7, .inl g) → ∀ i : Int32, 0 ≤ i.toInt → i.toInt < 8 → ¬ (z8 >>> (i &&& 31) &&& 1) = 0 → 9 ≤ (g 0).toInt → (g 0).toInt ≤ 11 → (f i.toNatClampNeg).toInt ≤ 31) ∧ (∀ z0 z1 z2 z3 z4 z5 z6 z7 z8 z9 z10 z11 g, G a0 = .inr (1, [.ref z0, .ref z1, .ref z2, .ref z3, .ref z4, .ref z5, .int z6, .int z7, .int z8, .int z9, .int z10, .long z11]) → G z5 = .inl (cs 0, 7, .inl g) → (g 0).toInt < 7 → 0 ≤ (g 1).toInt))) ∧ s_I K cs D G ∧ (∀ b, K b ∉ [2, 34, 35] → G b = F b) ∧ (¬ r = 0 → s_rd3 K G a0)) (fun (G : Nat → va_E) (t : State) => va_P (dC, dI) vwCl (va_pl L G) t.heap ∧ va_K (dC, dI) vwCl [(cs 0, .int), (cs 1, .byte), (cs 2, .long), (cs 3, .object RX5), (cs 4, .object RX4), (cs 5, .array .int), (cs 6, .char), (cs 7, .boolean)] t) (fun q => q ∈ L)) 0 0 (fun q => q ∈ L) := by
  refine Met.ofW (cc := cX1_foresee) (maxL := 2) (ret := (some .boolean)) (by decide) rfl ?_
  intro p e s m args below meth c s₁ B hml hv
  obtain ⟨rfl, hsz, hP, hK, hD, hN⟩ := hv
  have hx := B.exec
  have hb := B.bytes
  have hr := B.returns
  have hts : ∀ w ∈ T0, w.before _ s = true := fun w h => atoms_spec (ws := Cond.code yX1_foresee cX1_foresee 2 (some .boolean) :: T0) B.pre w (List.mem_cons_of_mem _ h)
  have hown : s.vm.findClass RX1 = some m.cls := findClass_of_methodNamed B.named
  have hlocks := B.notSynchronized
  have hS : va_S (fun q => q ∈ L) s.heap s.heap [] := va_S.rf
  have hfr : ∀ b, K b ∉ [2, 34, 35] → F b = F b := fun _ _ => rfl
  have hl := lv_entry ([.ref a0, .ref a1]) (n := 2) (Nat.le_of_ble_eq_true rfl)
  rw [lg_entry_eq]
  generalize (lg_sl ([.ref a0, .ref a1]) ++ List.replicate (2 - (lg_sl ([.ref a0, .ref a1])).length) Slot.unset).toArray = ls at hl ⊢
  have hl : lv_has ls 2 [(0, .ref a0), (1, .ref a1)] := hl
  have hI0 := hI
  refine s_gen hP hS (fun H locs hP hS => ?_)
  refine lv_aload_n hx hb dX1_foresee_0 rfl (lv_at hl 0 rfl) ?_
  refine lv_aload_n hx hb dX1_foresee_1 rfl (lv_at hl 1 rfl) ?_
  obtain ⟨z1, z3, z5, z7, z9, z11, z13, z15, z16, z17, z19, z20, o21, h2, h4, h6, h8, h10, h12, h14, h18, -⟩ := s_op2 hI ha0
  refine th_put (D := (dC, dI)) (ci := 1) (v := .ref a1) (ty := .object "LaneWarps$State") (C := RX1) (T := TX1) (N := 12) hx hb hts inX1 tyX1 tyX1_ok nmX1 hown hK hP hD hS (hLK _ ha0 (by decide)) o21 rfl 3 (by decide) (hts _ T_93) (fun _ h9 => h9) rfl (by decide +kernel) rfl rfl (Nat.le_of_ble_eq_true rfl) dX1_foresee_2 (fun H locs hP hS => ?_)
  have hP : va_P (dC, dI) vwCl (va_pl L (va_up F a0 (.inr (1, [.ref z1, .ref z3, .ref z5, .ref a1, va_rf z9, va_rf z11, .int z13, .int z15, .int z16, .int z17, .int z19, .long z20])))) H := hP
  obtain ⟨F22, hF23⟩ : ∃ G : Nat → va_E, G = va_up F a0 (.inr (1, [.ref z1, .ref z3, .ref z5, .ref a1, va_rf z9, va_rf z11, .int z13, .int z15, .int z16, .int z17, .int z19, .long z20])) := ⟨_, rfl⟩
  rw [← hF23] at hP
  have hI : s_I K cs D F22 := by rw [hF23]; exact s_cl2 hI ha0 ⟨z1, z3, z5, some a1, z9, z11, z13, z15, z16, z17, z19, z20, rfl, h2, h4, h6, (fun q e => by cases e; exact ha1), h10, h12, ⟨by omega, by omega⟩, ⟨by omega, by omega⟩, trivial⟩
  have hfr : ∀ b, K b ∉ [2, 34, 35] → F22 b = F b := by rw [hF23]; exact s_fr hfr ha0 (by decide)
  have o24 : F22 a0 = .inr (1, [.ref z1, .ref z3, .ref z5, .ref a1, va_rf z9, va_rf z11, .int z13, .int z15, .int z16, .int z17, .int z19, .long z20]) := by rw [hF23]; exact th_up
  refine lv_aload_n hx hb dX1_foresee_5 rfl (lv_at hl 0 rfl) ?_
  refine va_calli (va_runV (As := []) (rest := []) ⟨hx, hb, hml, hown, hts⟩ (s_X1_pickWarp l dC dI H.size hLK D F22 a0 ha0 hI ⟨z1, z3, z5, a1, z9, z11, z13, z15, z16, z17, z19, z20, o24, h2, h4, h6, ha1, h10, h12, ⟨by omega, by omega⟩, ⟨by omega, by omega⟩, trivial⟩) (cwV 0 hts (ax_gV T_222 T_223 T_224 T_88 T_221) rfl rfl rfl (by decide +kernel) ⟨Nat.le_of_ble_eq_true rfl, Nat.le_of_ble_eq_true rfl⟩) ⟨fun a U g mk q => ⟨q.1, s_pc rfl rfl q.2⟩, s_recv hK hP (hLK _ ha0 (by decide)) (ci := 1) rfl o24, fun U hU hW => ⟨rfl, s_pw hU hW hP hK hD hN⟩⟩ rfl rfl hl.1 rfl (lv_room (Nat.le_of_ble_eq_true rfl)) dX1_foresee_6 ⟨Nat.zero_le _, Nat.zero_le _⟩) hS (fun q _ h => h) (fun q h => h) (fun r25 F26 t H1 locs ht hvm hw hB hz1 hk1 hS => ?_)
  obtain ⟨hP, hK1⟩ := hB
  rw [ht] at hP
  generalize H1 = H at hP hS ⊢
  obtain ⟨h27, h28, hI, hfr1, h29⟩ := hw
  have hfr : ∀ b, K b ∉ [2, 34, 35] → F26 b = F b := fun b hb9 => (hfr1 b (fun q => hb9 (s_sub (by decide) q))).trans (hfr b hb9)
  refine lv_if_ne (tgt := 14) hx hb dX1_foresee_9 (by decide) (fun c30 => ?_) (fun c30 => ?_)
  · have c30 := mt (ax_eq (n := 0) (by decide)).mpr c30
    obtain ⟨z31, z33, z35, z37, z39, z41, z43, z45, z46, z47, z49, z50, o51, h32, h34, h36, h38, h40, h42, h44, h48, -⟩ := h29 (fun q => c30 (by rw [q]; decide))
    refine lv_aload_n hx hb dX1_foresee_14 rfl (lv_at hl 0 rfl) ?_
    refine va_callv (va_runV (As := []) (rest := []) ⟨hx, hb, hml, hown, hts⟩ (s_X1_pickLanes l dC dI H.size hLK D F26 a0 ha0 hI ⟨z31, z33, z35, z37, z39, z41, z43, z45, z46, z47, z49, z50, o51, h32, h34, h36, h38, h40, h42, ⟨by omega, by omega⟩, ⟨by omega, by omega⟩, trivial⟩) (cwV 0 hts (ax_gV T_226 T_227 T_228 T_88 T_225) rfl rfl rfl (by decide +kernel) ⟨Nat.le_of_ble_eq_true rfl, Nat.le_of_ble_eq_true rfl⟩) ⟨fun a U g mk q => ⟨q.1, s_pc rfl rfl q.2⟩, s_recv hK hP (hLK _ ha0 (by decide)) (ci := 1) rfl o51, fun U hU hW => ⟨rfl, s_pw hU hW hP hK hD hN⟩⟩ rfl rfl hl.1 rfl (lv_room (Nat.le_of_ble_eq_true rfl)) dX1_foresee_15 ⟨Nat.zero_le _, Nat.zero_le _⟩) hS (fun q _ h => h) (fun q h => h) (fun F52 t H1 locs ht hvm hw hB hz1 hk1 hS => ?_)
    obtain ⟨hP, hK1⟩ := hB
    rw [ht] at hP
    generalize H1 = H at hP hS ⊢
    obtain ⟨h53, h54, hI, hfr1, h55⟩ := hw
    have hfr : ∀ b, K b ∉ [2, 34, 35] → F52 b = F b := fun b hb9 => (hfr1 b (fun q => hb9 (s_sub (by decide) q))).trans (hfr b hb9)
    obtain ⟨z56, z58, z60, z62, z64, z66, z68, z70, z71, z72, z74, z75, o76, h57, h59, h61, h63, h65, h67, h69, h73, -⟩ := h55
    refine lv_aload_n hx hb dX1_foresee_18 rfl (lv_at hl 0 rfl) ?_
    refine th_get (D := (dC, dI)) (ci := 1) (v := .int z70) (C := RX1) (T := TX1) (N := 12) hx hb hts inX1 hown hK hP (hLK _ ha0 (by decide)) o76 rfl 7 (by decide) (hts _ T_118) (fun _ h9 => h9) rfl dX1_foresee_19 ?_
    refine lv_if_lt (tgt := 39) hx hb dX1_foresee_22 (by decide) (fun c77 => ?_) (fun c77 => ?_)
    · have c77 := (ax_lt (n := 0) (by decide)).mp c77
      refine lv_iconst (v := 0) hx hb dX1_foresee_39 (by decide) ?_
      exact W.zret (v := 0) (ty := .boolean) hx hb hr (by decide) (fun t ht hW => ⟨⟨0, F52, rfl, ⟨(by decide), ⟨trivial, (fun q => absurd (by decide) q)⟩, hI, hfr, (fun q => absurd (by decide) q)⟩, by rw [ht]; exact hP, va_K.moved hW.alike hK⟩, hS.F ht⟩) hS.2.2 dX1_foresee_40
    · have c77 := mt (ax_lt (n := 0) (by decide)).mpr c77
      refine lv_aload_n hx hb dX1_foresee_25 rfl (lv_at hl 0 rfl) ?_
      refine th_get (D := (dC, dI)) (ci := 1) (v := .int z70) (C := RX1) (T := TX1) (N := 12) hx hb hts inX1 hown hK hP (hLK _ ha0 (by decide)) o76 rfl 7 (by decide) (hts _ T_118) (fun _ h9 => h9) rfl dX1_foresee_26 ?_
      refine lv_aload_n hx hb dX1_foresee_29 rfl (lv_at hl 0 rfl) ?_
      refine th_get (D := (dC, dI)) (ci := 1) (v := .ref z60) (C := RX1) (T := TX1) (N := 12) hx hb hts inX1 hown hK hP (hLK _ ha0 (by decide)) o76 rfl 2 (by decide) (hts _ T_84) (fun _ h9 => h9) rfl dX1_foresee_30 ?_
      obtain ⟨z78, z80, z82, z84, z86, z88, z89, o90, h79, h81, h83, h85, h87, -⟩ := s_op3 hI h61
      refine th_getN (D := (dC, dI)) (ci := 2) (v := .int z84) (C := RX2) (T := TX2) (N := 7) hx hb hts inX2 hown hK hP (hLK _ h61 (by decide)) o90 rfl 3 (by decide) (va_Nw.use rfl hN.2.2.2.2.2.2.2.2.2.2.2.2.2.2.2.2.2.1) (fun _ h9 => h9) rfl dX1_foresee_33 ?_
      refine lv_icmp_lt (tgt := 41) hx hb dX1_foresee_36 (by decide) (fun c91 => ?_) (fun c91 => ?_)
      · have c91 := Int32.lt_iff_toInt_lt.mp c91
        refine lv_aload_n hx hb dX1_foresee_41 rfl (lv_at hl 0 rfl) ?_
        refine lv_aload_n hx hb dX1_foresee_42 rfl (lv_at hl 0 rfl) ?_
        refine th_get (D := (dC, dI)) (ci := 1) (v := .ref z60) (C := RX1) (T := TX1) (N := 12) hx hb hts inX1 hown hK hP (hLK _ ha0 (by decide)) o76 rfl 2 (by decide) (hts _ T_84) (fun _ h9 => h9) rfl dX1_foresee_43 ?_
        refine th_getN (D := (dC, dI)) (ci := 2) (v := .ref z78) (C := RX2) (T := TX2) (N := 7) hx hb hts inX2 hown hK hP (hLK _ h61 (by decide)) o90 rfl 0 (by decide) (va_Nw.use rfl hN.2.2.2.2.2.2.2.2.2.2.2.2.2.2.2.2.2.2.2.2.2.2.2.2.2.2.2.2.2.2.2.2.2.2.2.2.2.2.2.2.2.2.2.2.2.2.1) (fun _ h9 => h9) rfl dX1_foresee_46 ?_
        refine lv_aload_n hx hb dX1_foresee_49 rfl (lv_at hl 0 rfl) ?_
        refine th_get (D := (dC, dI)) (ci := 1) (v := .int z70) (C := RX1) (T := TX1) (N := 12) hx hb hts inX1 hown hK hP (hLK _ ha0 (by decide)) o76 rfl 7 (by decide) (hts _ T_118) (fun _ h9 => h9) rfl dX1_foresee_50 ?_
        obtain ⟨f92, o93, h94⟩ := s_op22 hI h79
        obtain ⟨z95, o97, h96⟩ := h94 (z70 : Int32).toNatClampNeg (th_cl ⟨by omega, by omega⟩)
        refine th_aaldA hx hb hK hP (hLK _ h79 (by decide)) 5 o93 rfl (th_in ⟨by omega, by omega⟩) o97 dX1_foresee_53 ?_
        obtain ⟨f98, o99, h100⟩ := s_op23 hI h96
        have hrow : (f98 0).toInt < 7 → 0 ≤ (f98 1).toInt := s_PGt hI0 hfr (by decide) hPG _ h61 _ _ _ _ (z70 : Int32).toNatClampNeg _ _ o90 rfl o93 (th_cl ⟨by omega, by omega⟩) (th_cln (by omega) (by omega)) o97 o99
        refine th_put (D := (dC, dI)) (ci := 1) (v := .ref z95) (ty := .array .int) (C := RX1) (T := TX1) (N := 12) hx hb hts inX1 tyX1 tyX1_ok nmX1 hown hK hP hD hS (hLK _ ha0 (by decide)) o76 rfl 5 (by decide) (hts _ T_99) (fun _ h9 => h9) rfl (by decide +kernel) rfl rfl (Nat.le_of_ble_eq_true rfl) dX1_foresee_54 (fun H locs hP hS => ?_)
        have hP : va_P (dC, dI) vwCl (va_pl L (va_up F52 a0 (.inr (1, [.ref z56, .ref z58, .ref z60, .ref z62, .ref z64, .ref z95, .int z68, .int z70, .int z71, .int z72, .int z74, .long z75])))) H := hP
        obtain ⟨F101, hF102⟩ : ∃ G : Nat → va_E, G = va_up F52 a0 (.inr (1, [.ref z56, .ref z58, .ref z60, .ref z62, .ref z64, .ref z95, .int z68, .int z70, .int z71, .int z72, .int z74, .long z75])) := ⟨_, rfl⟩
        rw [← hF102] at hP
        have hI : s_I K cs D F101 := by rw [hF102]; exact s_cl2 hI ha0 ⟨z56, z58, z60, some z62, some z64, some z95, z68, z70, z71, z72, z74, z75, rfl, h57, h59, h61, (fun q e => by cases e; exact h63), (fun q e => by cases e; exact h65), (fun q e => by cases e; exact h96), ⟨by omega, by omega⟩, ⟨by omega, by omega⟩, trivial⟩
        have hfr : ∀ b, K b ∉ [2, 34, 35] → F101 b = F b := by rw [hF102]; exact s_fr hfr ha0 (by decide)
        have o103 : F101 z60 = .inr (2, [.ref z78, .ref z80, .ref z82, .int z84, .int z86, .int z88, .int z89]) := by rw [hF102]; exact th_ne (th_kd h61 ha0 (by decide)) o90
        have o104 : F101 z95 = .inl (cs 0, 7, .inl f98) := by rw [hF102]; exact th_ne (th_kd h96 ha0 (by decide)) o99
        have o105 : F101 a0 = .inr (1, [.ref z56, .ref z58, .ref z60, .ref z62, .ref z64, .ref z95, .int z68, .int z70, .int z71, .int z72, .int z74, .long z75]) := by rw [hF102]; exact th_up
        refine lv_aload_n hx hb dX1_foresee_57 rfl (lv_at hl 0 rfl) ?_
        refine va_callv (va_runV (As := []) (rest := []) ⟨hx, hb, hml, hown, hts⟩ (s_X1_measure l dC dI H.size hLK D F101 a0 ha0 hI ⟨z56, z58, z60, z62, z64, z95, z68, z70, z71, z72, z74, z75, o105, h57, h59, h61, h63, h65, h96, ⟨by omega, by omega⟩, ⟨by omega, by omega⟩, trivial⟩) (cwV 0 hts (ax_gV T_230 T_231 T_232 T_88 T_229) rfl rfl rfl (by decide +kernel) ⟨Nat.le_of_ble_eq_true rfl, Nat.le_of_ble_eq_true rfl⟩) ⟨fun a U g mk q => ⟨q.1, s_pc rfl rfl q.2⟩, s_recv hK hP (hLK _ ha0 (by decide)) (ci := 1) rfl o105, fun U hU hW => ⟨rfl, s_pw hU hW hP hK hD hN⟩⟩ rfl rfl hl.1 rfl (lv_room (Nat.le_of_ble_eq_true rfl)) dX1_foresee_58 ⟨Nat.zero_le _, Nat.zero_le _⟩) hS (fun q _ h => h) (fun q h => h) (fun F106 t H1 locs ht hvm hw hB hz1 hk1 hS => ?_)
        obtain ⟨hP, hK1⟩ := hB
        rw [ht] at hP
        generalize H1 = H at hP hS ⊢
        obtain ⟨h107, h108, hI, hfr1⟩ := hw
        have o109 : F106 z60 = .inr (2, [.ref z78, .ref z80, .ref z82, .int z84, .int z86, .int z88, .int z89]) := (hfr1 _ (by rw [h61]; decide)).trans o103
        have o110 : F106 z95 = .inl (cs 0, 7, .inl f98) := (hfr1 _ (by rw [h96]; decide)).trans o104
        have hfr : ∀ b, K b ∉ [2, 34, 35] → F106 b = F b := fun b hb9 => (hfr1 b (fun q => hb9 (s_sub (by decide) q))).trans (hfr b hb9)
        obtain ⟨h108, h111⟩ := h108
        have h111 : ((∀ vs, F101 a0 = .inr (1, vs) → ∃ w, F106 a0 = .inr (1, vs.set 10 (.int w))) ∧ ∀ z0 z1 z2 z3 z4 z5 z6 z7 z8 z9 z10 z11 f g, F106 a0 = .inr (1, [.ref z0, .ref z1, .ref z2, .ref z3, .ref z4, .ref z5, .int z6, .int z7, .int z8, .int z9, .int z10, .long z11]) → F106 z0 = .inl (cs 0, 8, .inl f) → F106 z5 = .inl (cs 0, 7, .inl g) → ∀ i : Int32, 0 ≤ i.toInt → i.toInt < 8 → ¬ (z8 >>> (i &&& 31) &&& 1) = 0 → 9 ≤ (g 0).toInt → (g 0).toInt ≤ 11 → (f i.toNatClampNeg).toInt ≤ 31) := h111
        obtain ⟨h114, h111⟩ := h111
        obtain ⟨z112, o113⟩ := h114 _ o105
        have o113 : F106 a0 = .inr (1, [.ref z56, .ref z58, .ref z60, .ref z62, .ref z64, .ref z95, .int z68, .int z70, .int z71, .int z72, .int z112, .long z75]) := o113
        refine lv_iconst (v := 1) hx hb dX1_foresee_61 (by decide) ?_
        exact W.zret (v := 1) (ty := .boolean) hx hb hr (by decide) (fun t ht hW => ⟨⟨1, F106, rfl, ⟨(by decide), ⟨trivial, (fun _ => ⟨h111, fun z0 z1 z2 z3 z4 z5 z6 z7 z8 z9 z10 z11 g q1 q3 => by rw [o113] at q1; cases q1; rw [o110] at q3; cases q3; exact hrow⟩)⟩, hI, hfr, (fun _ => ⟨z56, z58, z60, z62, z64, z95, z68, z70, z71, z72, z112, z75, o113, h57, h59, h61, h63, h65, h96, ⟨by omega, by omega⟩, ⟨by omega, by omega⟩, trivial⟩)⟩, by rw [ht]; exact hP, va_K.moved hW.alike hK⟩, hS.F ht⟩) hS.2.2 dX1_foresee_62
      · have c91 := mt Int32.lt_iff_toInt_lt.mpr c91
        refine lv_iconst (v := 0) hx hb dX1_foresee_39 (by decide) ?_
        exact W.zret (v := 0) (ty := .boolean) hx hb hr (by decide) (fun t ht hW => ⟨⟨0, F52, rfl, ⟨(by decide), ⟨trivial, (fun q => absurd (by decide) q)⟩, hI, hfr, (fun q => absurd (by decide) q)⟩, by rw [ht]; exact hP, va_K.moved hW.alike hK⟩, hS.F ht⟩) hS.2.2 dX1_foresee_40
  · have c30 := (ax_eq (n := 0) (by decide)).mp c30
    refine lv_iconst (v := 0) hx hb dX1_foresee_12 (by decide) ?_
    exact W.zret (v := 0) (ty := .boolean) hx hb hr (by decide) (fun t ht hW => ⟨⟨0, F26, rfl, ⟨(by decide), ⟨trivial, (fun q => absurd (by decide) q)⟩, hI, hfr, (fun q => absurd (by decide) q)⟩, by rw [ht]; exact hP, va_K.moved hW.alike hK⟩, hS.F ht⟩) hS.2.2 dX1_foresee_13

