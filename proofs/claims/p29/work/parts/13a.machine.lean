set_option maxHeartbeats 4000000 in
set_option maxRecDepth 100000 in
theorem s_X1_take (l : Launch) (dC : Nat → ClassId) (dI : Nat → Nat → Nat) (sz : Nat) {L : List Nat} {K : Nat → Nat} {cs : Nat → ClassId} (hLK : ∀ a {k : Nat}, K a = k → k ≠ 0 → a ∈ L) (D : Nat) (F : Nat → va_E) (a0 : Nat) (a1 : Nat) (ha0 : K a0 = 2) (ha1 : K a1 = 3) (hI : s_I K cs D F) : Met l yX1_take (Cond.code yX1_take cX1_take 2 none :: T0) ({ frames := 0, cells := 0, slots := 0, locals := 0 }) (va_Pc [.ref a0, .ref a1] (s_W dC dI sz L F [(cs 0, .int), (cs 1, .byte), (cs 2, .long), (cs 3, .object RX5), (cs 4, .object RX4), (cs 5, .array .int), (cs 6, .char), (cs 7, .boolean)])) (va_Qv (fun (G : Nat → va_E) => True ∧ True ∧ s_I K cs D G ∧ ∀ b, K b ∉ [2] → G b = F b) (fun (G : Nat → va_E) (t : State) => va_P (dC, dI) vwCl (va_pl L G) t.heap ∧ va_K (dC, dI) vwCl [(cs 0, .int), (cs 1, .byte), (cs 2, .long), (cs 3, .object RX5), (cs 4, .object RX4), (cs 5, .array .int), (cs 6, .char), (cs 7, .boolean)] t) (fun q => q ∈ L)) 0 0 (fun q => q ∈ L) := by
  refine Met.ofW (cc := cX1_take) (maxL := 2) (ret := none) (by decide) rfl ?_
  intro p e s m args below meth c s₁ B hml hv
  obtain ⟨rfl, hsz, hP, hK, hD, hN⟩ := hv
  have hx := B.exec
  have hb := B.bytes
  have hr := B.returns
  have hts : ∀ w ∈ T0, w.before _ s = true := fun w h => atoms_spec (ws := Cond.code yX1_take cX1_take 2 none :: T0) B.pre w (List.mem_cons_of_mem _ h)
  have hown : s.vm.findClass RX1 = some m.cls := findClass_of_methodNamed B.named
  have hlocks := B.notSynchronized
  have hS : va_S (fun q => q ∈ L) s.heap s.heap [] := va_S.rf
  have hfr : ∀ b, K b ∉ [2] → F b = F b := fun _ _ => rfl
  have hl := lv_entry ([.ref a0, .ref a1]) (n := 2) (Nat.le_of_ble_eq_true rfl)
  rw [lg_entry_eq]
  generalize (lg_sl ([.ref a0, .ref a1]) ++ List.replicate (2 - (lg_sl ([.ref a0, .ref a1])).length) Slot.unset).toArray = ls at hl ⊢
  have hl : lv_has ls 2 [(0, .ref a0), (1, .ref a1)] := hl
  refine s_gen hP hS (fun H locs hP hS => ?_)
  refine lv_aload_n hx hb dX1_take_0 rfl (lv_at hl 0 rfl) ?_
  refine lv_aload_n hx hb dX1_take_1 rfl (lv_at hl 1 rfl) ?_
  obtain ⟨z1, z3, z5, z7, z9, z11, z13, z15, z16, z17, z19, z20, o21, h2, h4, h6, h8, h10, h12, h14, h18, -⟩ := s_op2 hI ha0
  refine th_put (D := (dC, dI)) (ci := 1) (v := .ref a1) (ty := .object "LaneWarps$Program") (C := RX1) (T := TX1) (N := 12) hx hb hts inX1 tyX1 tyX1_ok nmX1 hown hK hP hD hS (hLK _ ha0 (by decide)) o21 rfl 2 (by decide) (hts _ T_121) (fun _ h9 => h9) rfl (by decide +kernel) rfl rfl (Nat.le_of_ble_eq_true rfl) dX1_take_2 (fun H locs hP hS => ?_)
  have hP : va_P (dC, dI) vwCl (va_pl L (va_up F a0 (.inr (1, [.ref z1, .ref z3, .ref a1, va_rf z7, va_rf z9, va_rf z11, .int z13, .int z15, .int z16, .int z17, .int z19, .long z20])))) H := hP
  obtain ⟨F22, hF23⟩ : ∃ G : Nat → va_E, G = va_up F a0 (.inr (1, [.ref z1, .ref z3, .ref a1, va_rf z7, va_rf z9, va_rf z11, .int z13, .int z15, .int z16, .int z17, .int z19, .long z20])) := ⟨_, rfl⟩
  rw [← hF23] at hP
  have hI : s_I K cs D F22 := by rw [hF23]; exact s_cl2 hI ha0 ⟨z1, z3, a1, z7, z9, z11, z13, z15, z16, z17, z19, z20, rfl, h2, h4, ha1, h8, h10, h12, ⟨by omega, by omega⟩, ⟨by omega, by omega⟩, trivial⟩
  have hfr : ∀ b, K b ∉ [2] → F22 b = F b := by rw [hF23]; exact s_fr hfr ha0 (by decide)
  have o24 : F22 a0 = .inr (1, [.ref z1, .ref z3, .ref a1, va_rf z7, va_rf z9, va_rf z11, .int z13, .int z15, .int z16, .int z17, .int z19, .long z20]) := by rw [hF23]; exact th_up
  exact W.vret hx hb hr (fun t ht hW => ⟨⟨F22, rfl, ⟨trivial, trivial, hI, hfr⟩, by rw [ht]; exact hP, va_K.moved hW.alike hK⟩, hS.F ht⟩) hS.2.2 dX1_take_5

set_option maxHeartbeats 4000000 in
set_option maxRecDepth 100000 in
theorem s_X1_goesNow (l : Launch) (dC : Nat → ClassId) (dI : Nat → Nat → Nat) (sz : Nat) {L : List Nat} {K : Nat → Nat} {cs : Nat → ClassId} (hLK : ∀ a {k : Nat}, K a = k → k ≠ 0 → a ∈ L) (D : Nat) (F : Nat → va_E) (a0 : Nat) (x1 : Int32) (ha0 : K a0 = 2) (hI : s_I K cs D F) : Met l yX1_goesNow (Cond.code yX1_goesNow cX1_goesNow 2 (some .boolean) :: T0) ({ frames := 0, cells := 0, slots := 0, locals := 0 }) (va_Pc [.ref a0, .int x1] (s_W dC dI sz L F [(cs 0, .int), (cs 1, .byte), (cs 2, .long), (cs 3, .object RX5), (cs 4, .object RX4), (cs 5, .array .int), (cs 6, .char), (cs 7, .boolean)])) (va_Qi (fun (r : Int32) (G : Nat → va_E) => (0 ≤ r.toInt ∧ r.toInt ≤ 1) ∧ (True ∧ (∀ vs z, F a0 = .inr (1, vs) → vs[8]? = some (.int z) → (r = 0 ↔ (z >>> (x1 &&& 31) &&& 1) = 0))) ∧ s_I K cs D G ∧ ∀ b, K b ∉ ([] : List Nat) → G b = F b) (fun (G : Nat → va_E) (t : State) => va_P (dC, dI) vwCl (va_pl L G) t.heap ∧ va_K (dC, dI) vwCl [(cs 0, .int), (cs 1, .byte), (cs 2, .long), (cs 3, .object RX5), (cs 4, .object RX4), (cs 5, .array .int), (cs 6, .char), (cs 7, .boolean)] t) (fun q => q ∈ L)) 0 0 (fun q => q ∈ L) := by
  refine Met.ofW (cc := cX1_goesNow) (maxL := 2) (ret := (some .boolean)) (by decide) rfl ?_
  intro p e s m args below meth c s₁ B hml hv
  obtain ⟨rfl, hsz, hP, hK, hD, hN⟩ := hv
  have hx := B.exec
  have hb := B.bytes
  have hr := B.returns
  have hts : ∀ w ∈ T0, w.before _ s = true := fun w h => atoms_spec (ws := Cond.code yX1_goesNow cX1_goesNow 2 (some .boolean) :: T0) B.pre w (List.mem_cons_of_mem _ h)
  have hown : s.vm.findClass RX1 = some m.cls := findClass_of_methodNamed B.named
  have hlocks := B.notSynchronized
  have hS : va_S (fun q => q ∈ L) s.heap s.heap [] := va_S.rf
  have hfr : ∀ b, K b ∉ ([] : List Nat) → F b = F b := fun _ _ => rfl
  have hl := lv_entry ([.ref a0, .int x1]) (n := 2) (Nat.le_of_ble_eq_true rfl)
  rw [lg_entry_eq]
  generalize (lg_sl ([.ref a0, .int x1]) ++ List.replicate (2 - (lg_sl ([.ref a0, .int x1])).length) Slot.unset).toArray = ls at hl ⊢
  have hl : lv_has ls 2 [(0, .ref a0), (1, .int x1)] := hl
  refine s_gen hP hS (fun H locs hP hS => ?_)
  refine lv_aload_n hx hb dX1_goesNow_0 rfl (lv_at hl 0 rfl) ?_
  obtain ⟨z1, z3, z5, z7, z9, z11, z13, z15, z16, z17, z19, z20, o21, h2, h4, h6, h8, h10, h12, h14, h18, -⟩ := s_op2 hI ha0
  refine th_get (D := (dC, dI)) (ci := 1) (v := .int z16) (C := RX1) (T := TX1) (N := 12) hx hb hts inX1 hown hK hP (hLK _ ha0 (by decide)) o21 rfl 8 (by decide) (hts _ T_645) (fun _ h9 => h9) rfl dX1_goesNow_1 ?_
  refine lv_iload_n hx hb dX1_goesNow_4 rfl (lv_at hl 1 rfl) ?_
  refine lv_ishr hx hb dX1_goesNow_5 ?_
  refine lv_topi (fun v22 ev22 => ?_)
  refine lv_iconst (v := 1) hx hb dX1_goesNow_6 (by decide) ?_
  refine lv_iand hx hb dX1_goesNow_7 ?_
  refine lv_topi (fun v23 ev23 => ?_)
  have qv23 : 0 ≤ v23.toInt ∧ v23.toInt ≤ 1 := by rw [ev23]; exact th_and 1 (by decide) (by decide)
  refine lv_if_eq (tgt := 15) hx hb dX1_goesNow_8 (by decide) (fun c24 => ?_) (fun c24 => ?_)
  · have c24 := (ax_eq (n := 0) (by decide)).mp c24
    have g_bit : (z16 >>> (x1 &&& 31) &&& 1) = 0 := by rw [← ev22, ← ev23]; exact Int32.toInt_inj.mp (by rw [c24]; decide)
    refine lv_iconst (v := 0) hx hb dX1_goesNow_15 (by decide) ?_
    exact W.zret (v := 0) (ty := .boolean) hx hb hr (by decide) (fun t ht hW => ⟨⟨0, F, rfl, ⟨(by decide), ⟨trivial, (fun vs z q q2 => by rw [o21] at q; cases q; cases q2; exact ⟨fun _ => g_bit, fun _ => rfl⟩)⟩, hI, hfr⟩, by rw [ht]; exact hP, va_K.moved hW.alike hK⟩, hS.F ht⟩) hS.2.2 dX1_goesNow_16
  · have c24 := mt (ax_eq (n := 0) (by decide)).mpr c24
    have g_bit : ¬ (z16 >>> (x1 &&& 31) &&& 1) = 0 := by intro q9; apply c24; rw [ev23, ev22, q9]; decide
    refine lv_iconst (v := 1) hx hb dX1_goesNow_11 (by decide) ?_
    refine lv_goto (tgt := 16) hx hb dX1_goesNow_12 (by decide) ?_
    exact W.zret (v := 1) (ty := .boolean) hx hb hr (by decide) (fun t ht hW => ⟨⟨1, F, rfl, ⟨(by decide), ⟨trivial, (fun vs z q q2 => by rw [o21] at q; cases q; cases q2; exact ⟨fun q9 => absurd q9 (by decide), fun q9 => absurd q9 g_bit⟩)⟩, hI, hfr⟩, by rw [ht]; exact hP, va_K.moved hW.alike hK⟩, hS.F ht⟩) hS.2.2 dX1_goesNow_16

set_option maxHeartbeats 4000000 in
set_option maxRecDepth 100000 in
theorem s_X1_segments (l : Launch) (dC : Nat → ClassId) (dI : Nat → Nat → Nat) (sz : Nat) {L : List Nat} {K : Nat → Nat} {cs : Nat → ClassId} (hLK : ∀ a {k : Nat}, K a = k → k ≠ 0 → a ∈ L) (D : Nat) (F : Nat → va_E) (a0 : Nat) (ha0 : K a0 = 2) (hI : s_I K cs D F) : Met l yX1_segments (Cond.code yX1_segments cX1_segments 3 (some .int) :: T0) ({ frames := 1, cells := 0, slots := 0, locals := 21 }) (va_Pc [.ref a0] (s_W dC dI sz L F [(cs 0, .int), (cs 1, .byte), (cs 2, .long), (cs 3, .object RX5), (cs 4, .object RX4), (cs 5, .array .int), (cs 6, .char), (cs 7, .boolean)])) (va_Qi (fun (r : Int32) (G : Nat → va_E) => (0 ≤ r.toInt ∧ r.toInt ≤ 63) ∧ True ∧ s_I K cs D G ∧ ∀ b, K b ∉ ([] : List Nat) → G b = F b) (fun (G : Nat → va_E) (t : State) => va_P (dC, dI) vwCl (va_pl L G) t.heap ∧ va_K (dC, dI) vwCl [(cs 0, .int), (cs 1, .byte), (cs 2, .long), (cs 3, .object RX5), (cs 4, .object RX4), (cs 5, .array .int), (cs 6, .char), (cs 7, .boolean)] t) (fun q => q ∈ L)) 0 0 (fun q => q ∈ L) := by
  refine Met.ofW (cc := cX1_segments) (maxL := 3) (ret := (some .int)) (by decide) rfl ?_
  intro p e s m args below meth c s₁ B hml hv
  obtain ⟨rfl, hsz, hP, hK, hD, hN⟩ := hv
  have hx := B.exec
  have hb := B.bytes
  have hr := B.returns
  have hts : ∀ w ∈ T0, w.before _ s = true := fun w h => atoms_spec (ws := Cond.code yX1_segments cX1_segments 3 (some .int) :: T0) B.pre w (List.mem_cons_of_mem _ h)
  have hown : s.vm.findClass RX1 = some m.cls := findClass_of_methodNamed B.named
  have hlocks := B.notSynchronized
  have hS : va_S (fun q => q ∈ L) s.heap s.heap [] := va_S.rf
  have hfr : ∀ b, K b ∉ ([] : List Nat) → F b = F b := fun _ _ => rfl
  have hl := lv_entry ([.ref a0]) (n := 3) (Nat.le_of_ble_eq_true rfl)
  rw [lg_entry_eq]
  generalize (lg_sl ([.ref a0]) ++ List.replicate (3 - (lg_sl ([.ref a0])).length) Slot.unset).toArray = ls at hl ⊢
  have hl : lv_has ls 3 [(0, .ref a0)] := hl
  refine s_gen hP hS (fun H locs hP hS => ?_)
  refine lv_iconst (v := 0) hx hb dX1_segments_0 (by decide) ?_
  refine lv_istore_n (lv' := [(1, .int 0), (0, .ref a0)]) hx hb dX1_segments_1 rfl hl (by decide) rfl (fun ls hl => ?_)
  refine lv_iconst (v := 0) hx hb dX1_segments_2 (by decide) ?_
  refine lv_istore_n (lv' := [(2, .int 0), (1, .int 0), (0, .ref a0)]) hx hb dX1_segments_3 rfl hl (by decide) rfl (fun ls hl => ?_)
  refine th_loop (fun n g H locs => ∃ (G : Nat → va_E) (ls : Array Slot) (w1 : Int32) (w2 : Int32), g = F0 m 4 ls [] ∧ lv_has ls 3 [(0, .ref a0), (1, .int w1), (2, .int w2)] ∧ s_I K cs D G ∧ va_P (dC, dI) vwCl (va_pl L G) H ∧ va_S (fun q => q ∈ L) s.heap H locs ∧ (∀ b, K b ∉ ([] : List Nat) → G b = F b) ∧ True ∧ (0 ≤ w2.toInt ∧ w2.toInt ≤ 8) ∧ n = (9 - w2.toInt).toNat) _ ⟨F, _, 0, 0, rfl, lv_sub hl [2, 1, 0] rfl, hI, hP, hS, hfr, trivial, (by decide), rfl⟩ (fun n ih4 g H locs hq => ?_)
  obtain ⟨F9, ls, w1, w2, rfl, hl, hI, hP, hS, hfr, h3, h4, hn⟩ := hq
  have hn_4 := hn
  obtain ⟨n_4, hn9_4⟩ : ∃ q, q = n := ⟨_, rfl⟩
  refine th_join (fun g H locs => ∃ (G : Nat → va_E) (ls : Array Slot) (w5 : Int32), g = F0 m 32 ls [] ∧ lv_has ls 3 [(0, .ref a0), (1, .int w5), (2, .int w2)] ∧ s_I K cs D G ∧ va_P (dC, dI) vwCl (va_pl L G) H ∧ va_S (fun q => q ∈ L) s.heap H locs ∧ (∀ b, K b ∉ ([] : List Nat) → G b = F b) ∧ True ∧ (0 ≤ w2.toInt ∧ w2.toInt ≤ 7)) (fun K32 => ?_) ?_
  · refine lv_iload_n hx hb dX1_segments_4 rfl (lv_at hl 2 rfl) ?_
    refine lv_bipush (v := 8) hx hb dX1_segments_5 (by decide) ?_
    refine lv_icmp_ge (tgt := 38) hx hb dX1_segments_7 (by decide) (fun c6 => ?_) (fun c6 => ?_)
    · have c6 := (ax_ge (n := 8) (by decide)).mp c6
      refine lv_iload_n hx hb dX1_segments_38 rfl (lv_at hl 1 rfl) ?_
      refine va_calli (va_runS (As := [.int w1]) (rest := []) ⟨hx, hb, hml, hown, hts⟩ (s_J6_bitCount_0f7a4 l dC dI H.size hLK D F9 w1 hI) ⟨callB_of 1 hts (ax_gT T_653) rfl rfl rfl (hts _ T_652) (hts _ T_651) (by decide +kernel) ⟨Nat.le_of_ble_eq_true rfl, Nat.le_of_ble_eq_true rfl⟩, hts _ T_654⟩ ⟨fun a U g mk q => ⟨q.1, s_pc rfl rfl q.2⟩, fun U hU hW => ⟨rfl, s_pw hU hW hP hK hD hN⟩⟩ rfl rfl hl.1 rfl (lv_room (Nat.le_of_ble_eq_true rfl)) dX1_segments_39 ⟨Nat.zero_le _, Nat.zero_le _⟩) hS (fun q _ h => h) (fun q h => h) (fun r7 F8 t H1 locs ht hvm hw hB hz1 hk1 hS => ?_)
      obtain ⟨hP, hK1⟩ := hB
      rw [ht] at hP
      generalize H1 = H at hP hS ⊢
      obtain ⟨h9, h10, hI, hfr1⟩ := hw
      have hfr : ∀ b, K b ∉ ([] : List Nat) → F8 b = F b := fun b hb9 => (hfr1 b (fun q => hb9 (s_sub (by decide) q))).trans (hfr b hb9)
      exact W.iret (v := r7) hx hb hr (fun t ht hW => ⟨⟨r7, F8, rfl, ⟨⟨by omega, by omega⟩, trivial, hI, hfr⟩, by rw [ht]; exact hP, va_K.moved hW.alike hK⟩, hS.F ht⟩) hS.2.2 dX1_segments_42
    · have c6 := mt (ax_ge (n := 8) (by decide)).mpr c6
      refine lv_aload_n hx hb dX1_segments_10 rfl (lv_at hl 0 rfl) ?_
      refine lv_iload_n hx hb dX1_segments_11 rfl (lv_at hl 2 rfl) ?_
      obtain ⟨z11, z13, z15, z17, z19, z21, z23, z25, z26, z27, z29, z30, o31, h12, h14, h16, h18, h20, h22, h24, h28, -⟩ := s_op2 hI ha0
      refine va_calli (va_runV (As := [.int w2]) (rest := []) ⟨hx, hb, hml, hown, hts⟩ (s_X1_goesNow l dC dI H.size hLK D F9 a0 w2 ha0 hI) (cwV 1 hts (ax_gV T_637 T_639 T_640 T_137 T_638) rfl rfl rfl (by decide +kernel) ⟨Nat.le_of_ble_eq_true rfl, Nat.le_of_ble_eq_true rfl⟩) ⟨fun a U g mk q => ⟨q.1, s_pc rfl rfl q.2⟩, s_recv hK hP (hLK _ ha0 (by decide)) (ci := 1) rfl o31, fun U hU hW => ⟨rfl, s_pw hU hW hP hK hD hN⟩⟩ rfl rfl hl.1 rfl (lv_room (Nat.le_of_ble_eq_true rfl)) dX1_segments_12 ⟨Nat.zero_le _, Nat.zero_le _⟩) hS (fun q _ h => h) (fun q h => h) (fun r32 F33 t H1 locs ht hvm hw hB hz1 hk1 hS => ?_)
      obtain ⟨hP, hK1⟩ := hB
      rw [ht] at hP
      generalize H1 = H at hP hS ⊢
      obtain ⟨h34, h35, hI, hfr1⟩ := hw
      have o36 : F33 a0 = .inr (1, [.ref z11, .ref z13, .ref z15, va_rf z17, va_rf z19, va_rf z21, .int z23, .int z25, .int z26, .int z27, .int z29, .long z30]) := (hfr1 _ (by rw [ha0]; decide)).trans o31
      have hfr : ∀ b, K b ∉ ([] : List Nat) → F33 b = F b := fun b hb9 => (hfr1 b (fun q => hb9 (s_sub (by decide) q))).trans (hfr b hb9)
      obtain ⟨h35, h37⟩ := h35
      have h37 : (∀ vs z, F9 a0 = .inr (1, vs) → vs[8]? = some (.int z) → (r32 = 0 ↔ (z >>> (w2 &&& 31) &&& 1) = 0)) := h37
      refine lv_if_eq (tgt := 32) hx hb dX1_segments_15 (by decide) (fun c38 => ?_) (fun c38 => ?_)
      · have c38 := (ax_eq (n := 0) (by decide)).mp c38
        exact K32 _ _ _ ⟨F33, _, w1, rfl, lv_sub hl [0, 1, 2] rfl, hI, hP, hS, hfr, trivial, ⟨by omega, by omega⟩⟩
      · have c38 := mt (ax_eq (n := 0) (by decide)).mpr c38
        refine lv_iload_n hx hb dX1_segments_18 rfl (lv_at hl 1 rfl) ?_
        refine lv_iconst (v := 1) hx hb dX1_segments_19 (by decide) ?_
        refine lv_aload_n hx hb dX1_segments_20 rfl (lv_at hl 0 rfl) ?_
        refine th_get (D := (dC, dI)) (ci := 1) (v := .ref z11) (C := RX1) (T := TX1) (N := 12) hx hb hts inX1 hown hK hP (hLK _ ha0 (by decide)) o36 rfl 0 (by decide) (hts _ T_119) (fun _ h9 => h9) rfl dX1_segments_21 ?_
        refine lv_iload_n hx hb dX1_segments_24 rfl (lv_at hl 2 rfl) ?_
        obtain ⟨f39, o40, h41⟩ := s_op34 hI h12
        refine th_iald hx hb hK hP (hLK _ h12 (by decide)) 0 o40 rfl (th_in ⟨by omega, by omega⟩) dX1_segments_25 ?_
        refine lv_topi (fun v42 ev42 => ?_)
        have qv42 : 0 ≤ v42.toInt ∧ v42.toInt ≤ 63 := by rw [ev42]; exact h41 _ (th_cl ⟨by omega, by omega⟩)
        refine lv_bipush (v := 8) hx hb dX1_segments_26 (by decide) ?_
        refine lv_idiv hx hb dX1_segments_28 (by decide) ?_
        refine lv_topi (fun v43 ev43 => ?_)
        have qv43 : v43.toInt = v42.toInt / 8 := by rw [ev43]; exact th_div rfl (by decide) (by omega) (by decide)
        refine lv_ishl hx hb dX1_segments_29 ?_
        refine lv_topi (fun v44 ev44 => ?_)
        refine lv_ior hx hb dX1_segments_30 ?_
        refine lv_topi (fun v45 ev45 => ?_)
        refine lv_istore_n (lv' := [(1, .int v45), (0, .ref a0), (2, .int w2)]) hx hb dX1_segments_31 rfl hl (by decide) rfl (fun ls hl => ?_)
        exact K32 _ _ _ ⟨F33, _, v45, rfl, lv_sub hl [1, 0, 2] rfl, hI, hP, hS, hfr, trivial, ⟨by omega, by omega⟩⟩
  · intro g H locs hq
    obtain ⟨F9, ls, w5, rfl, hl, hI, hP, hS, hfr, h46, h47⟩ := hq
    obtain ⟨v48, ev48⟩ : ∃ y : Int32, w2 + 1 = y := ⟨_, rfl⟩
    have qv48 : v48.toInt = w2.toInt + 1 := by rw [← ev48]; exact th_add rfl (by decide) ⟨by omega, by omega⟩
    refine lv_iinc (v := v48) (lv' := [(2, .int v48), (0, .ref a0), (1, .int w5)]) hx hb dX1_segments_32 hl (k := 2) rfl ev48 (by decide) rfl (fun ls hl => ?_)
    refine lv_goto (tgt := 4) hx hb dX1_segments_35 (by decide) ?_
    exact ih4 _ _ _ _ (by omega) ⟨F9, _, w5, v48, rfl, lv_sub hl [1, 2, 0] rfl, hI, hP, hS, hfr, trivial, ⟨by omega, by omega⟩, rfl⟩

set_option maxHeartbeats 4000000 in
set_option maxRecDepth 100000 in
theorem s_X1_pickWarp (l : Launch) (dC : Nat → ClassId) (dI : Nat → Nat → Nat) (sz : Nat) {L : List Nat} {K : Nat → Nat} {cs : Nat → ClassId} (hLK : ∀ a {k : Nat}, K a = k → k ≠ 0 → a ∈ L) (D : Nat) (F : Nat → va_E) (a0 : Nat) (ha0 : K a0 = 2) (hI : s_I K cs D F) (hR : s_rd1 K F a0) : Met l yX1_pickWarp (Cond.code yX1_pickWarp cX1_pickWarp 4 (some .boolean) :: T0) ({ frames := 2, cells := 0, slots := 0, locals := 43 }) (va_Pc [.ref a0] (s_W dC dI sz L F [(cs 0, .int), (cs 1, .byte), (cs 2, .long), (cs 3, .object RX5), (cs 4, .object RX4), (cs 5, .array .int), (cs 6, .char), (cs 7, .boolean)])) (va_Qi (fun (r : Int32) (G : Nat → va_E) => (0 ≤ r.toInt ∧ r.toInt ≤ 1) ∧ True ∧ s_I K cs D G ∧ (∀ b, K b ∉ [2] → G b = F b) ∧ (¬ r = 0 → s_rd2 K G a0)) (fun (G : Nat → va_E) (t : State) => va_P (dC, dI) vwCl (va_pl L G) t.heap ∧ va_K (dC, dI) vwCl [(cs 0, .int), (cs 1, .byte), (cs 2, .long), (cs 3, .object RX5), (cs 4, .object RX4), (cs 5, .array .int), (cs 6, .char), (cs 7, .boolean)] t) (fun q => q ∈ L)) 0 0 (fun q => q ∈ L) := by
  refine Met.ofW (cc := cX1_pickWarp) (maxL := 4) (ret := (some .boolean)) (by decide) rfl ?_
  intro p e s m args below meth c s₁ B hml hv
  obtain ⟨rfl, hsz, hP, hK, hD, hN⟩ := hv
  have hx := B.exec
  have hb := B.bytes
  have hr := B.returns
  have hts : ∀ w ∈ T0, w.before _ s = true := fun w h => atoms_spec (ws := Cond.code yX1_pickWarp cX1_pickWarp 4 (some .boolean) :: T0) B.pre w (List.mem_cons_of_mem _ h)
  have hown : s.vm.findClass RX1 = some m.cls := findClass_of_methodNamed B.named
  have hlocks := B.notSynchronized
  have hS : va_S (fun q => q ∈ L) s.heap s.heap [] := va_S.rf
  have hfr : ∀ b, K b ∉ [2] → F b = F b := fun _ _ => rfl
  have hl := lv_entry ([.ref a0]) (n := 4) (Nat.le_of_ble_eq_true rfl)
  rw [lg_entry_eq]
  generalize (lg_sl ([.ref a0]) ++ List.replicate (4 - (lg_sl ([.ref a0])).length) Slot.unset).toArray = ls at hl ⊢
  have hl : lv_has ls 4 [(0, .ref a0)] := hl
  refine s_gen hP hS (fun H locs hP hS => ?_)
  obtain ⟨z1, z3, z5, z7, z9, z11, z13, z15, z16, z17, z19, z20, o21, h2, h4, h6, h8, h10, h12, h14, h18, -⟩ := hR
  refine th_join (fun g H locs => ∃ (G : Nat → va_E) (ls : Array Slot) (w22 : Int32), g = F0 m 24 ls [.int w22] ∧ lv_has ls 4 [(0, .ref a0)] ∧ s_I K cs D G ∧ va_P (dC, dI) vwCl (va_pl L G) H ∧ va_S (fun q => q ∈ L) s.heap H locs ∧ (∀ b, K b ∉ [2] → G b = F b) ∧ (0 ≤ w22.toInt ∧ w22.toInt ≤ 4) ∧ s_rd1 K G a0) (fun K24 => ?_) ?_
  · refine lv_aload_n hx hb dX1_pickWarp_0 rfl (lv_at hl 0 rfl) ?_
    refine th_get (D := (dC, dI)) (ci := 1) (v := .ref z7) (C := RX1) (T := TX1) (N := 12) hx hb hts inX1 hown hK hP (hLK _ ha0 (by decide)) o21 rfl 3 (by decide) (hts _ T_611) (fun _ h9 => h9) rfl dX1_pickWarp_1 ?_
    obtain ⟨z23, z25, z27, z29, z31, z33, z35, z37, z39, z40, z41, z43, z44, z46, z47, o49, h24, h26, h28, h30, h32, h34, h36, h38, h42, h45, h48, -⟩ := s_op5 hI h8
    refine th_getN (D := (dC, dI)) (ci := 4) (v := .int z40) (C := RX4) (T := TX4) (N := 15) hx hb hts inX4 hown hK hP (hLK _ h8 (by decide)) o49 rfl 9 (by decide) (va_Nw.use rfl (ax_n35 hN)) (fun _ h9 => h9) rfl dX1_pickWarp_4 ?_
    refine lv_iconst (v := 1) hx hb dX1_pickWarp_7 (by decide) ?_
    refine lv_icmp_ne (tgt := 23) hx hb dX1_pickWarp_8 (by decide) (fun c50 => ?_) (fun c50 => ?_)
    · have c50 := mt (ax_eq (n := 1) (by decide)).mpr c50
      refine lv_iconst (v := 0) hx hb dX1_pickWarp_23 (by decide) ?_
      exact K24 _ _ _ ⟨F, _, 0, rfl, lv_sub hl [0] rfl, hI, hP, hS, hfr, (by decide), ⟨z1, z3, z5, z7, z9, z11, z13, z15, z16, z17, z19, z20, o21, h2, h4, h6, h8, h10, h12, ⟨by omega, by omega⟩, ⟨by omega, by omega⟩, trivial⟩⟩
    · have c50 := (ax_eq (n := 1) (by decide)).mp c50
      refine lv_aload_n hx hb dX1_pickWarp_11 rfl (lv_at hl 0 rfl) ?_
      refine th_get (D := (dC, dI)) (ci := 1) (v := .ref z7) (C := RX1) (T := TX1) (N := 12) hx hb hts inX1 hown hK hP (hLK _ ha0 (by decide)) o21 rfl 3 (by decide) (hts _ T_611) (fun _ h9 => h9) rfl dX1_pickWarp_12 ?_
      refine th_getN (D := (dC, dI)) (ci := 4) (v := .int z47) (C := RX4) (T := TX4) (N := 15) hx hb hts inX4 hown hK hP (hLK _ h8 (by decide)) o49 rfl 14 (by decide) (va_Nw.use rfl (ax_n27 hN)) (fun _ h9 => h9) rfl dX1_pickWarp_15 ?_
      refine lv_iconst (v := 1) hx hb dX1_pickWarp_18 (by decide) ?_
      refine lv_iadd hx hb dX1_pickWarp_19 ?_
      refine lv_topi (fun v51 ev51 => ?_)
      have qv51 : v51.toInt = z47.toInt + 1 := by rw [ev51]; exact th_add rfl (by decide) ⟨by omega, by omega⟩
      refine lv_goto (tgt := 24) hx hb dX1_pickWarp_20 (by decide) ?_
      exact K24 _ _ _ ⟨F, _, v51, rfl, lv_sub hl [0] rfl, hI, hP, hS, hfr, ⟨by omega, by omega⟩, ⟨z1, z3, z5, z7, z9, z11, z13, z15, z16, z17, z19, z20, o21, h2, h4, h6, h8, h10, h12, ⟨by omega, by omega⟩, ⟨by omega, by omega⟩, trivial⟩⟩
  · intro g H locs hq
    obtain ⟨F9, ls, w22, rfl, hl, hI, hP, hS, hfr, h52, h53⟩ := hq
    obtain ⟨z54, z56, z58, z60, z62, z64, z66, z68, z69, z70, z72, z73, o74, h55, h57, h59, h61, h63, h65, h67, h71, -⟩ := h53
    refine lv_istore_n (lv' := [(1, .int w22), (0, .ref a0)]) hx hb dX1_pickWarp_24 rfl hl (by decide) rfl (fun ls hl => ?_)
    refine lv_iconst (v := 0) hx hb dX1_pickWarp_25 (by decide) ?_
    refine lv_istore_n (lv' := [(2, .int 0), (1, .int w22), (0, .ref a0)]) hx hb dX1_pickWarp_26 rfl hl (by decide) rfl (fun ls hl => ?_)
    refine th_loop (fun n g H locs => ∃ (G : Nat → va_E) (ls : Array Slot) (w75 : Int32), g = F0 m 27 ls [] ∧ lv_has ls 4 [(0, .ref a0), (1, .int w22), (2, .int w75)] ∧ s_I K cs D G ∧ va_P (dC, dI) vwCl (va_pl L G) H ∧ va_S (fun q => q ∈ L) s.heap H locs ∧ (∀ b, K b ∉ [2] → G b = F b) ∧ (0 ≤ w75.toInt ∧ w75.toInt ≤ 4) ∧ (0 ≤ w22.toInt ∧ w22.toInt ≤ 4) ∧ s_rd1 K G a0 ∧ n = (5 - w75.toInt).toNat) _ ⟨F9, _, 0, rfl, lv_sub hl [2, 1, 0] rfl, hI, hP, hS, hfr, (by decide), ⟨by omega, by omega⟩, ⟨z54, z56, z58, z60, z62, z64, z66, z68, z69, z70, z72, z73, o74, h55, h57, h59, h61, h63, h65, ⟨by omega, by omega⟩, ⟨by omega, by omega⟩, trivial⟩, rfl⟩ (fun n ih27 g H locs hq => ?_)
    obtain ⟨F9, ls, w75, rfl, hl, hI, hP, hS, hfr, h76, h77, h78, hn⟩ := hq
    obtain ⟨z79, z81, z83, z85, z87, z89, z91, z93, z94, z95, z97, z98, o99, h80, h82, h84, h86, h88, h90, h92, h96, -⟩ := h78
    have hn_27 := hn
    obtain ⟨n_27, hn9_27⟩ : ∃ q, q = n := ⟨_, rfl⟩
    refine lv_iload_n hx hb dX1_pickWarp_27 rfl (lv_at hl 2 rfl) ?_
    refine lv_aload_n hx hb dX1_pickWarp_28 rfl (lv_at hl 0 rfl) ?_
    refine th_get (D := (dC, dI)) (ci := 1) (v := .ref z85) (C := RX1) (T := TX1) (N := 12) hx hb hts inX1 hown hK hP (hLK _ ha0 (by decide)) o99 rfl 3 (by decide) (hts _ T_611) (fun _ h9 => h9) rfl dX1_pickWarp_29 ?_
    obtain ⟨z100, z102, z104, z106, z108, z110, z112, z114, z116, z117, z118, z120, z121, z123, z124, o126, h101, h103, h105, h107, h109, h111, h113, h115, h119, h122, h125, -⟩ := s_op5 hI h86
    refine th_getN (D := (dC, dI)) (ci := 4) (v := .int z114) (C := RX4) (T := TX4) (N := 15) hx hb hts inX4 hown hK hP (hLK _ h86 (by decide)) o126 rfl 7 (by decide) (va_Nw.use rfl (ax_n36 hN)) (fun _ h9 => h9) rfl dX1_pickWarp_32 ?_
    refine lv_icmp_ge (tgt := 87) hx hb dX1_pickWarp_35 (by decide) (fun c127 => ?_) (fun c127 => ?_)
    · have c127 := Int32.le_iff_toInt_le.mp c127
      refine lv_iconst (v := 0) hx hb dX1_pickWarp_87 (by decide) ?_
      exact W.zret (v := 0) (ty := .boolean) hx hb hr (by decide) (fun t ht hW => ⟨⟨0, F9, rfl, ⟨(by decide), trivial, hI, hfr, (fun q => absurd (by decide) q)⟩, by rw [ht]; exact hP, va_K.moved hW.alike hK⟩, hS.F ht⟩) hS.2.2 dX1_pickWarp_88
    · have c127 := mt Int32.le_iff_toInt_le.mpr c127
      refine lv_iload_n hx hb dX1_pickWarp_38 rfl (lv_at hl 1 rfl) ?_
      refine lv_iload_n hx hb dX1_pickWarp_39 rfl (lv_at hl 2 rfl) ?_
      refine lv_iadd hx hb dX1_pickWarp_40 ?_
      refine lv_topi (fun v128 ev128 => ?_)
      have qv128 : v128.toInt = w22.toInt + w75.toInt := by rw [ev128]; exact th_add rfl rfl ⟨by omega, by omega⟩
      refine lv_aload_n hx hb dX1_pickWarp_41 rfl (lv_at hl 0 rfl) ?_
      refine th_get (D := (dC, dI)) (ci := 1) (v := .ref z85) (C := RX1) (T := TX1) (N := 12) hx hb hts inX1 hown hK hP (hLK _ ha0 (by decide)) o99 rfl 3 (by decide) (hts _ T_611) (fun _ h9 => h9) rfl dX1_pickWarp_42 ?_
      refine th_getN (D := (dC, dI)) (ci := 4) (v := .int z114) (C := RX4) (T := TX4) (N := 15) hx hb hts inX4 hown hK hP (hLK _ h86 (by decide)) o126 rfl 7 (by decide) (va_Nw.use rfl (ax_n36 hN)) (fun _ h9 => h9) rfl dX1_pickWarp_45 ?_
      refine lv_irem hx hb dX1_pickWarp_48 (fun q => by have q2 := Int32.toInt_inj.mpr q; have q3 : (0 : Int32).toInt = 0 := (by decide); omega) ?_
      refine lv_topi (fun v129 ev129 => ?_)
      have qv129 : 0 ≤ v129.toInt ∧ v129.toInt < z114.toInt := by rw [ev129]; exact th_remV (by omega) (by omega)
      refine lv_istore_n (lv' := [(3, .int v129), (0, .ref a0), (1, .int w22), (2, .int w75)]) hx hb dX1_pickWarp_49 rfl hl (by decide) rfl (fun ls hl => ?_)
      refine lv_aload_n hx hb dX1_pickWarp_50 rfl (lv_at hl 1 rfl) ?_
      refine th_get (D := (dC, dI)) (ci := 1) (v := .ref z85) (C := RX1) (T := TX1) (N := 12) hx hb hts inX1 hown hK hP (hLK _ ha0 (by decide)) o99 rfl 3 (by decide) (hts _ T_611) (fun _ h9 => h9) rfl dX1_pickWarp_51 ?_
      refine lv_iload_n hx hb dX1_pickWarp_54 rfl (lv_at hl 0 rfl) ?_
      refine va_calli (va_runV (As := [.int v129]) (rest := []) ⟨hx, hb, hml, hown, hts⟩ (s_X4_canGo l dC dI H.size hLK D F9 z85 v129 h86 (⟨by omega, by omega⟩) hI) (cwV 1 hts (ax_gV T_697 T_699 T_700 T_142 T_698) rfl rfl rfl (by decide +kernel) ⟨Nat.le_of_ble_eq_true rfl, Nat.le_of_ble_eq_true rfl⟩) ⟨fun a U g mk q => ⟨q.1, s_pc rfl rfl q.2⟩, s_recv hK hP (hLK _ h86 (by decide)) (ci := 4) rfl o126, fun U hU hW => ⟨rfl, s_pw hU hW hP hK hD hN⟩⟩ rfl rfl hl.1 rfl (lv_room (Nat.le_of_ble_eq_true rfl)) dX1_pickWarp_55 ⟨Nat.zero_le _, Nat.zero_le _⟩) hS (fun q _ h => h) (fun q h => h) (fun r130 F131 t H1 locs ht hvm hw hB hz1 hk1 hS => ?_)
      obtain ⟨hP, hK1⟩ := hB
      rw [ht] at hP
      generalize H1 = H at hP hS ⊢
      obtain ⟨h132, h133, hI, hfr1⟩ := hw
      have o134 : F131 a0 = .inr (1, [.ref z79, .ref z81, .ref z83, .ref z85, va_rf z87, va_rf z89, .int z91, .int z93, .int z94, .int z95, .int z97, .long z98]) := (hfr1 _ (by rw [ha0]; decide)).trans o99
      have o135 : F131 z85 = .inr (4, [.ref z100, .ref z102, .ref z104, .ref z106, .ref z108, .ref z110, .ref z112, .int z114, .int z116, .int z117, .int z118, .int z120, .int z121, .int z123, .int z124]) := (hfr1 _ (by rw [h86]; decide)).trans o126
      have hfr : ∀ b, K b ∉ [2] → F131 b = F b := fun b hb9 => (hfr1 b (fun q => hb9 (s_sub (by decide) q))).trans (hfr b hb9)
      refine lv_if_eq (tgt := 81) hx hb dX1_pickWarp_58 (by decide) (fun c136 => ?_) (fun c136 => ?_)
      · have c136 := (ax_eq (n := 0) (by decide)).mp c136
        obtain ⟨v137, ev137⟩ : ∃ y : Int32, w75 + 1 = y := ⟨_, rfl⟩
        have qv137 : v137.toInt = w75.toInt + 1 := by rw [← ev137]; exact th_add rfl (by decide) ⟨by omega, by omega⟩
        refine lv_iinc (v := v137) (lv' := [(2, .int v137), (3, .int v129), (0, .ref a0), (1, .int w22)]) hx hb dX1_pickWarp_81 hl (k := 3) rfl ev137 (by decide) rfl (fun ls hl => ?_)
        refine lv_goto (tgt := 27) hx hb dX1_pickWarp_84 (by decide) ?_
        exact ih27 _ _ _ _ (by omega) ⟨F131, _, v137, rfl, lv_sub hl [2, 3, 0] rfl, hI, hP, hS, hfr, ⟨by omega, by omega⟩, ⟨by omega, by omega⟩, ⟨z79, z81, z83, z85, z87, z89, z91, z93, z94, z95, z97, z98, o134, h80, h82, h84, h86, h88, h90, ⟨by omega, by omega⟩, ⟨by omega, by omega⟩, trivial⟩, rfl⟩
      · have c136 := mt (ax_eq (n := 0) (by decide)).mpr c136
        refine lv_aload_n hx hb dX1_pickWarp_61 rfl (lv_at hl 1 rfl) ?_
        refine lv_iload_n hx hb dX1_pickWarp_62 rfl (lv_at hl 0 rfl) ?_
        refine th_put (D := (dC, dI)) (ci := 1) (v := .int v129) (ty := .int) (C := RX1) (T := TX1) (N := 12) hx hb hts inX1 tyX1 tyX1_ok nmX1 hown hK hP hD hS (hLK _ ha0 (by decide)) o134 rfl 6 (by decide) (hts _ T_618) (fun _ h9 => h9) rfl (by decide +kernel) rfl rfl (Nat.le_of_ble_eq_true rfl) dX1_pickWarp_63 (fun H locs hP hS => ?_)
        have hP : va_P (dC, dI) vwCl (va_pl L (va_up F131 a0 (.inr (1, [.ref z79, .ref z81, .ref z83, .ref z85, va_rf z87, va_rf z89, .int v129, .int z93, .int z94, .int z95, .int z97, .long z98])))) H := hP
        obtain ⟨F138, hF139⟩ : ∃ G : Nat → va_E, G = va_up F131 a0 (.inr (1, [.ref z79, .ref z81, .ref z83, .ref z85, va_rf z87, va_rf z89, .int v129, .int z93, .int z94, .int z95, .int z97, .long z98])) := ⟨_, rfl⟩
        rw [← hF139] at hP
        have hI : s_I K cs D F138 := by rw [hF139]; exact s_cl2 hI ha0 ⟨z79, z81, z83, some z85, z87, z89, v129, z93, z94, z95, z97, z98, rfl, h80, h82, h84, (fun q e => by cases e; exact h86), h88, h90, ⟨by omega, by omega⟩, ⟨by omega, by omega⟩, trivial⟩
        have hfr : ∀ b, K b ∉ [2] → F138 b = F b := by rw [hF139]; exact s_fr hfr ha0 (by decide)
        have o140 : F138 z85 = .inr (4, [.ref z100, .ref z102, .ref z104, .ref z106, .ref z108, .ref z110, .ref z112, .int z114, .int z116, .int z117, .int z118, .int z120, .int z121, .int z123, .int z124]) := by rw [hF139]; exact th_ne (th_kd h86 ha0 (by decide)) o135
        have o141 : F138 a0 = .inr (1, [.ref z79, .ref z81, .ref z83, .ref z85, va_rf z87, va_rf z89, .int v129, .int z93, .int z94, .int z95, .int z97, .long z98]) := by rw [hF139]; exact th_up
        refine lv_aload_n hx hb dX1_pickWarp_66 rfl (lv_at hl 1 rfl) ?_
        refine lv_aload_n hx hb dX1_pickWarp_67 rfl (lv_at hl 1 rfl) ?_
        refine th_get (D := (dC, dI)) (ci := 1) (v := .ref z85) (C := RX1) (T := TX1) (N := 12) hx hb hts inX1 hown hK hP (hLK _ ha0 (by decide)) o141 rfl 3 (by decide) (hts _ T_611) (fun _ h9 => h9) rfl dX1_pickWarp_68 ?_
        refine th_getN (D := (dC, dI)) (ci := 4) (v := .ref z100) (C := RX4) (T := TX4) (N := 15) hx hb hts inX4 hown hK hP (hLK _ h86 (by decide)) o140 rfl 0 (by decide) (va_Nw.use rfl (ax_n37 hN)) (fun _ h9 => h9) rfl dX1_pickWarp_71 ?_
        refine lv_iload_n hx hb dX1_pickWarp_74 rfl (lv_at hl 0 rfl) ?_
        obtain ⟨f142, o143, h144⟩ := s_op26 hI h101
        obtain ⟨z145, o147, h146⟩ := h144 (v129 : Int32).toNatClampNeg (th_cl ⟨by omega, by omega⟩)
        refine th_aald hx hb hK hP (hLK _ h101 (by decide)) 3 o143 rfl (th_in ⟨by omega, by omega⟩) o147 dX1_pickWarp_75 ?_
        refine th_put (D := (dC, dI)) (ci := 1) (v := .ref z145) (ty := .object "LaneWarps$Warp") (C := RX1) (T := TX1) (N := 12) hx hb hts inX1 tyX1 tyX1_ok nmX1 hown hK hP hD hS (hLK _ ha0 (by decide)) o141 rfl 4 (by decide) (hts _ T_612) (fun _ h9 => h9) rfl (by decide +kernel) rfl rfl (Nat.le_of_ble_eq_true rfl) dX1_pickWarp_76 (fun H locs hP hS => ?_)
        have hP : va_P (dC, dI) vwCl (va_pl L (va_up F138 a0 (.inr (1, [.ref z79, .ref z81, .ref z83, .ref z85, .ref z145, va_rf z89, .int v129, .int z93, .int z94, .int z95, .int z97, .long z98])))) H := hP
        obtain ⟨F148, hF149⟩ : ∃ G : Nat → va_E, G = va_up F138 a0 (.inr (1, [.ref z79, .ref z81, .ref z83, .ref z85, .ref z145, va_rf z89, .int v129, .int z93, .int z94, .int z95, .int z97, .long z98])) := ⟨_, rfl⟩
        rw [← hF149] at hP
        have hI : s_I K cs D F148 := by rw [hF149]; exact s_cl2 hI ha0 ⟨z79, z81, z83, some z85, some z145, z89, v129, z93, z94, z95, z97, z98, rfl, h80, h82, h84, (fun q e => by cases e; exact h86), (fun q e => by cases e; exact h146), h90, ⟨by omega, by omega⟩, ⟨by omega, by omega⟩, trivial⟩
        have hfr : ∀ b, K b ∉ [2] → F148 b = F b := by rw [hF149]; exact s_fr hfr ha0 (by decide)
        have o150 : F148 z85 = .inr (4, [.ref z100, .ref z102, .ref z104, .ref z106, .ref z108, .ref z110, .ref z112, .int z114, .int z116, .int z117, .int z118, .int z120, .int z121, .int z123, .int z124]) := by rw [hF149]; exact th_ne (th_kd h86 ha0 (by decide)) o140
        have o151 : F148 a0 = .inr (1, [.ref z79, .ref z81, .ref z83, .ref z85, .ref z145, va_rf z89, .int v129, .int z93, .int z94, .int z95, .int z97, .long z98]) := by rw [hF149]; exact th_up
        refine lv_iconst (v := 1) hx hb dX1_pickWarp_79 (by decide) ?_
        exact W.zret (v := 1) (ty := .boolean) hx hb hr (by decide) (fun t ht hW => ⟨⟨1, F148, rfl, ⟨(by decide), trivial, hI, hfr, (fun _ => ⟨z79, z81, z83, z85, z145, z89, v129, z93, z94, z95, z97, z98, o151, h80, h82, h84, h86, h146, h90, ⟨by omega, by omega⟩, ⟨by omega, by omega⟩, trivial⟩)⟩, by rw [ht]; exact hP, va_K.moved hW.alike hK⟩, hS.F ht⟩) hS.2.2 dX1_pickWarp_80

set_option maxHeartbeats 4000000 in
set_option maxRecDepth 100000 in
theorem s_X1_pickLanes (l : Launch) (dC : Nat → ClassId) (dI : Nat → Nat → Nat) (sz : Nat) {L : List Nat} {K : Nat → Nat} {cs : Nat → ClassId} (hLK : ∀ a {k : Nat}, K a = k → k ≠ 0 → a ∈ L) (D : Nat) (F : Nat → va_E) (a0 : Nat) (ha0 : K a0 = 2) (hI : s_I K cs D F) (hR : s_rd2 K F a0) : Met l yX1_pickLanes (Cond.code yX1_pickLanes cX1_pickLanes 3 none :: T0) ({ frames := 1, cells := 0, slots := 0, locals := 22 }) (va_Pc [.ref a0] (s_W dC dI sz L F [(cs 0, .int), (cs 1, .byte), (cs 2, .long), (cs 3, .object RX5), (cs 4, .object RX4), (cs 5, .array .int), (cs 6, .char), (cs 7, .boolean)])) (va_Qv (fun (G : Nat → va_E) => True ∧ True ∧ s_I K cs D G ∧ (∀ b, K b ∉ [2] → G b = F b) ∧ s_rd2 K G a0) (fun (G : Nat → va_E) (t : State) => va_P (dC, dI) vwCl (va_pl L G) t.heap ∧ va_K (dC, dI) vwCl [(cs 0, .int), (cs 1, .byte), (cs 2, .long), (cs 3, .object RX5), (cs 4, .object RX4), (cs 5, .array .int), (cs 6, .char), (cs 7, .boolean)] t) (fun q => q ∈ L)) 0 0 (fun q => q ∈ L) := by
  refine Met.ofW (cc := cX1_pickLanes) (maxL := 3) (ret := none) (by decide) rfl ?_
  intro p e s m args below meth c s₁ B hml hv
  obtain ⟨rfl, hsz, hP, hK, hD, hN⟩ := hv
  have hx := B.exec
  have hb := B.bytes
  have hr := B.returns
  have hts : ∀ w ∈ T0, w.before _ s = true := fun w h => atoms_spec (ws := Cond.code yX1_pickLanes cX1_pickLanes 3 none :: T0) B.pre w (List.mem_cons_of_mem _ h)
  have hown : s.vm.findClass RX1 = some m.cls := findClass_of_methodNamed B.named
  have hlocks := B.notSynchronized
  have hS : va_S (fun q => q ∈ L) s.heap s.heap [] := va_S.rf
  have hfr : ∀ b, K b ∉ [2] → F b = F b := fun _ _ => rfl
  have hl := lv_entry ([.ref a0]) (n := 3) (Nat.le_of_ble_eq_true rfl)
  rw [lg_entry_eq]
  generalize (lg_sl ([.ref a0]) ++ List.replicate (3 - (lg_sl ([.ref a0])).length) Slot.unset).toArray = ls at hl ⊢
  have hl : lv_has ls 3 [(0, .ref a0)] := hl
  refine s_gen hP hS (fun H locs hP hS => ?_)
  obtain ⟨z1, z3, z5, z7, z9, z11, z13, z15, z16, z17, z19, z20, o21, h2, h4, h6, h8, h10, h12, h14, h18, -⟩ := hR
  refine th_join (fun g H locs => ∃ (G : Nat → va_E) (ls : Array Slot) (w22 : Int32), g = F0 m 105 ls [] ∧ lv_has ls 3 [(0, .ref a0), (1, .int w22)] ∧ s_I K cs D G ∧ va_P (dC, dI) vwCl (va_pl L G) H ∧ va_S (fun q => q ∈ L) s.heap H locs ∧ (∀ b, K b ∉ [2] → G b = F b) ∧ True ∧ s_rd2 K G a0) (fun K105 => ?_) ?_
  · refine lv_aload_n hx hb dX1_pickLanes_0 rfl (lv_at hl 0 rfl) ?_
    refine th_get (D := (dC, dI)) (ci := 1) (v := .ref z9) (C := RX1) (T := TX1) (N := 12) hx hb hts inX1 hown hK hP (hLK _ ha0 (by decide)) o21 rfl 4 (by decide) (hts _ T_612) (fun _ h9 => h9) rfl dX1_pickLanes_1 ?_
    refine lv_aload_n hx hb dX1_pickLanes_4 rfl (lv_at hl 0 rfl) ?_
    refine th_get (D := (dC, dI)) (ci := 1) (v := .ref z7) (C := RX1) (T := TX1) (N := 12) hx hb hts inX1 hown hK hP (hLK _ ha0 (by decide)) o21 rfl 3 (by decide) (hts _ T_611) (fun _ h9 => h9) rfl dX1_pickLanes_5 ?_
    obtain ⟨z23, z25, z27, z29, z31, z33, z35, z37, z39, z40, z41, z43, z44, z46, z47, o49, h24, h26, h28, h30, h32, h34, h36, h38, h42, h45, h48, -⟩ := s_op5 hI h8
    refine th_getN (D := (dC, dI)) (ci := 4) (v := .int z39) (C := RX4) (T := TX4) (N := 15) hx hb hts inX4 hown hK hP (hLK _ h8 (by decide)) o49 rfl 8 (by decide) (va_Nw.use rfl (ax_n31 hN)) (fun _ h9 => h9) rfl dX1_pickLanes_8 ?_
    obtain ⟨z50, z52, z54, z56, z58, z60, z62, z63, z64, z65, z66, o68, h51, h53, h55, h57, h59, h61, h67, -⟩ := s_op6 hI h10
    refine va_calli (va_runV (As := [.int z39]) (rest := []) ⟨hx, hb, hml, hown, hts⟩ (s_X5_movable l dC dI H.size hLK D F z9 z39 h10 hI) (cwV 1 hts (ax_gV T_693 T_695 T_696 T_116 T_694) rfl rfl rfl (by decide +kernel) ⟨Nat.le_of_ble_eq_true rfl, Nat.le_of_ble_eq_true rfl⟩) ⟨fun a U g mk q => ⟨q.1, s_pc rfl rfl q.2⟩, s_recv hK hP (hLK _ h10 (by decide)) (ci := 5) rfl o68, fun U hU hW => ⟨rfl, s_pw hU hW hP hK hD hN⟩⟩ rfl rfl hl.1 rfl (lv_room (Nat.le_of_ble_eq_true rfl)) dX1_pickLanes_11 ⟨Nat.zero_le _, Nat.zero_le _⟩) hS (fun q _ h => h) (fun q h => h) (fun r69 F70 t H1 locs ht hvm hw hB hz1 hk1 hS => ?_)
    obtain ⟨hP, hK1⟩ := hB
    rw [ht] at hP
    generalize H1 = H at hP hS ⊢
    obtain ⟨h71, h72, hI, hfr1⟩ := hw
    have o73 : F70 a0 = .inr (1, [.ref z1, .ref z3, .ref z5, .ref z7, .ref z9, va_rf z11, .int z13, .int z15, .int z16, .int z17, .int z19, .long z20]) := (hfr1 _ (by rw [ha0]; decide)).trans o21
    have o74 : F70 z7 = .inr (4, [.ref z23, .ref z25, .ref z27, .ref z29, .ref z31, .ref z33, .ref z35, .int z37, .int z39, .int z40, .int z41, .int z43, .int z44, .int z46, .int z47]) := (hfr1 _ (by rw [h8]; decide)).trans o49
    have o75 : F70 z9 = .inr (5, [.ref z50, .ref z52, .ref z54, .ref z56, .ref z58, .int z60, .int z62, .int z63, .int z64, .int z65, .int z66]) := (hfr1 _ (by rw [h10]; decide)).trans o68
    have hfr : ∀ b, K b ∉ [2] → F70 b = F b := fun b hb9 => (hfr1 b (fun q => hb9 (s_sub (by decide) q))).trans (hfr b hb9)
    refine lv_istore_n (lv' := [(1, .int r69), (0, .ref a0)]) hx hb dX1_pickLanes_14 rfl hl (by decide) rfl (fun ls hl => ?_)
    refine lv_aload_n hx hb dX1_pickLanes_15 rfl (lv_at hl 1 rfl) ?_
    refine th_get (D := (dC, dI)) (ci := 1) (v := .ref z7) (C := RX1) (T := TX1) (N := 12) hx hb hts inX1 hown hK hP (hLK _ ha0 (by decide)) o73 rfl 3 (by decide) (hts _ T_611) (fun _ h9 => h9) rfl dX1_pickLanes_16 ?_
    refine th_getN (D := (dC, dI)) (ci := 4) (v := .int z39) (C := RX4) (T := TX4) (N := 15) hx hb hts inX4 hown hK hP (hLK _ h8 (by decide)) o74 rfl 8 (by decide) (va_Nw.use rfl (ax_n31 hN)) (fun _ h9 => h9) rfl dX1_pickLanes_19 ?_
    refine lv_if_ne (tgt := 56) hx hb dX1_pickLanes_22 (by decide) (fun c76 => ?_) (fun c76 => ?_)
    · have c76 := mt (ax_eq (n := 0) (by decide)).mpr c76
      refine lv_aload_n hx hb dX1_pickLanes_56 rfl (lv_at hl 1 rfl) ?_
      refine lv_aload_n hx hb dX1_pickLanes_57 rfl (lv_at hl 1 rfl) ?_
      refine th_get (D := (dC, dI)) (ci := 1) (v := .ref z9) (C := RX1) (T := TX1) (N := 12) hx hb hts inX1 hown hK hP (hLK _ ha0 (by decide)) o73 rfl 4 (by decide) (hts _ T_612) (fun _ h9 => h9) rfl dX1_pickLanes_58 ?_
      refine th_getN (D := (dC, dI)) (ci := 5) (v := .int z66) (C := RX5) (T := TX5) (N := 11) hx hb hts inX5 hown hK hP (hLK _ h10 (by decide)) o75 rfl 10 (by decide) (va_Nw.use rfl (ax_n29 hN)) (fun _ h9 => h9) rfl dX1_pickLanes_61 ?_
      refine th_put (D := (dC, dI)) (ci := 1) (v := .int z66) (ty := .int) (C := RX1) (T := TX1) (N := 12) hx hb hts inX1 tyX1 tyX1_ok nmX1 hown hK hP hD hS (hLK _ ha0 (by decide)) o73 rfl 9 (by decide) (hts _ T_664) (fun _ h9 => h9) rfl (by decide +kernel) rfl rfl (Nat.le_of_ble_eq_true rfl) dX1_pickLanes_64 (fun H locs hP hS => ?_)
      have hP : va_P (dC, dI) vwCl (va_pl L (va_up F70 a0 (.inr (1, [.ref z1, .ref z3, .ref z5, .ref z7, .ref z9, va_rf z11, .int z13, .int z15, .int z16, .int z66, .int z19, .long z20])))) H := hP
      obtain ⟨F77, hF78⟩ : ∃ G : Nat → va_E, G = va_up F70 a0 (.inr (1, [.ref z1, .ref z3, .ref z5, .ref z7, .ref z9, va_rf z11, .int z13, .int z15, .int z16, .int z66, .int z19, .long z20])) := ⟨_, rfl⟩
      rw [← hF78] at hP
      have hI : s_I K cs D F77 := by rw [hF78]; exact s_cl2 hI ha0 ⟨z1, z3, z5, some z7, some z9, z11, z13, z15, z16, z66, z19, z20, rfl, h2, h4, h6, (fun q e => by cases e; exact h8), (fun q e => by cases e; exact h10), h12, ⟨by omega, by omega⟩, ⟨by omega, by omega⟩, trivial⟩
      have hfr : ∀ b, K b ∉ [2] → F77 b = F b := by rw [hF78]; exact s_fr hfr ha0 (by decide)
      have o79 : F77 z7 = .inr (4, [.ref z23, .ref z25, .ref z27, .ref z29, .ref z31, .ref z33, .ref z35, .int z37, .int z39, .int z40, .int z41, .int z43, .int z44, .int z46, .int z47]) := by rw [hF78]; exact th_ne (th_kd h8 ha0 (by decide)) o74
      have o80 : F77 z9 = .inr (5, [.ref z50, .ref z52, .ref z54, .ref z56, .ref z58, .int z60, .int z62, .int z63, .int z64, .int z65, .int z66]) := by rw [hF78]; exact th_ne (th_kd h10 ha0 (by decide)) o75
      have o81 : F77 a0 = .inr (1, [.ref z1, .ref z3, .ref z5, .ref z7, .ref z9, va_rf z11, .int z13, .int z15, .int z16, .int z66, .int z19, .long z20]) := by rw [hF78]; exact th_up
      refine lv_iconst (v := 0) hx hb dX1_pickLanes_67 (by decide) ?_
      refine lv_istore_n (lv' := [(2, .int 0), (1, .int r69), (0, .ref a0)]) hx hb dX1_pickLanes_68 rfl hl (by decide) rfl (fun ls hl => ?_)
      refine th_loop (fun n g H locs => ∃ (G : Nat → va_E) (ls : Array Slot) (w82 : Int32), g = F0 m 69 ls [] ∧ lv_has ls 3 [(0, .ref a0), (1, .int r69), (2, .int w82)] ∧ s_I K cs D G ∧ va_P (dC, dI) vwCl (va_pl L G) H ∧ va_S (fun q => q ∈ L) s.heap H locs ∧ (∀ b, K b ∉ [2] → G b = F b) ∧ (0 ≤ w82.toInt ∧ w82.toInt ≤ 8) ∧ s_rd2 K G a0 ∧ n = (9 - w82.toInt).toNat) _ ⟨F77, _, 0, rfl, lv_sub hl [2, 1, 0] rfl, hI, hP, hS, hfr, (by decide), ⟨z1, z3, z5, z7, z9, z11, z13, z15, z16, z66, z19, z20, o81, h2, h4, h6, h8, h10, h12, ⟨by omega, by omega⟩, ⟨by omega, by omega⟩, trivial⟩, rfl⟩ (fun n ih69 g H locs hq => ?_)
      obtain ⟨F9, ls, w82, rfl, hl, hI, hP, hS, hfr, h83, h84, hn⟩ := hq
      obtain ⟨z85, z87, z89, z91, z93, z95, z97, z99, z100, z101, z103, z104, o105, h86, h88, h90, h92, h94, h96, h98, h102, -⟩ := h84
      have hn_69 := hn
      obtain ⟨n_69, hn9_69⟩ : ∃ q, q = n := ⟨_, rfl⟩
      refine lv_iload_n hx hb dX1_pickLanes_69 rfl (lv_at hl 2 rfl) ?_
      refine lv_bipush (v := 8) hx hb dX1_pickLanes_70 (by decide) ?_
      refine lv_icmp_ge (tgt := 105) hx hb dX1_pickLanes_72 (by decide) (fun c106 => ?_) (fun c106 => ?_)
      · have c106 := (ax_ge (n := 8) (by decide)).mp c106
        exact K105 _ _ _ ⟨F9, _, r69, rfl, lv_sub hl [0, 1] rfl, hI, hP, hS, hfr, trivial, ⟨z85, z87, z89, z91, z93, z95, z97, z99, z100, z101, z103, z104, o105, h86, h88, h90, h92, h94, h96, ⟨by omega, by omega⟩, ⟨by omega, by omega⟩, trivial⟩⟩
      · have c106 := mt (ax_ge (n := 8) (by decide)).mpr c106
        refine lv_iload_n hx hb dX1_pickLanes_75 rfl (lv_at hl 1 rfl) ?_
        refine lv_aload_n hx hb dX1_pickLanes_76 rfl (lv_at hl 0 rfl) ?_
        refine th_get (D := (dC, dI)) (ci := 1) (v := .int z101) (C := RX1) (T := TX1) (N := 12) hx hb hts inX1 hown hK hP (hLK _ ha0 (by decide)) o105 rfl 9 (by decide) (hts _ T_664) (fun _ h9 => h9) rfl dX1_pickLanes_77 ?_
        refine lv_ishr hx hb dX1_pickLanes_80 ?_
        refine lv_topi (fun v107 ev107 => ?_)
        refine lv_iconst (v := 1) hx hb dX1_pickLanes_81 (by decide) ?_
        refine lv_iand hx hb dX1_pickLanes_82 ?_
        refine lv_topi (fun v108 ev108 => ?_)
        have qv108 : 0 ≤ v108.toInt ∧ v108.toInt ≤ 1 := by rw [ev108]; exact th_and 1 (by decide) (by decide)
        refine lv_if_ne (tgt := 105) hx hb dX1_pickLanes_83 (by decide) (fun c109 => ?_) (fun c109 => ?_)
        · have c109 := mt (ax_eq (n := 0) (by decide)).mpr c109
          exact K105 _ _ _ ⟨F9, _, r69, rfl, lv_sub hl [0, 1] rfl, hI, hP, hS, hfr, trivial, ⟨z85, z87, z89, z91, z93, z95, z97, z99, z100, z101, z103, z104, o105, h86, h88, h90, h92, h94, h96, ⟨by omega, by omega⟩, ⟨by omega, by omega⟩, trivial⟩⟩
        · have c109 := (ax_eq (n := 0) (by decide)).mp c109
          refine lv_aload_n hx hb dX1_pickLanes_86 rfl (lv_at hl 0 rfl) ?_
          refine lv_aload_n hx hb dX1_pickLanes_87 rfl (lv_at hl 0 rfl) ?_
          refine th_get (D := (dC, dI)) (ci := 1) (v := .int z101) (C := RX1) (T := TX1) (N := 12) hx hb hts inX1 hown hK hP (hLK _ ha0 (by decide)) o105 rfl 9 (by decide) (hts _ T_664) (fun _ h9 => h9) rfl dX1_pickLanes_88 ?_
          refine lv_iconst (v := 1) hx hb dX1_pickLanes_91 (by decide) ?_
          refine lv_iadd hx hb dX1_pickLanes_92 ?_
          refine lv_topi (fun v110 ev110 => ?_)
          have qv110 : v110.toInt = z101.toInt + 1 := by rw [ev110]; exact th_add rfl (by decide) ⟨by omega, by omega⟩
          refine lv_bipush (v := 8) hx hb dX1_pickLanes_93 (by decide) ?_
          refine lv_irem hx hb dX1_pickLanes_95 (by decide) ?_
          refine lv_topi (fun v111 ev111 => ?_)
          have qv111 : v111.toInt = v110.toInt % 8 := by rw [ev111]; exact th_rem rfl (by decide) (by omega) (by decide)
          refine th_put (D := (dC, dI)) (ci := 1) (v := .int v111) (ty := .int) (C := RX1) (T := TX1) (N := 12) hx hb hts inX1 tyX1 tyX1_ok nmX1 hown hK hP hD hS (hLK _ ha0 (by decide)) o105 rfl 9 (by decide) (hts _ T_664) (fun _ h9 => h9) rfl (by decide +kernel) rfl rfl (Nat.le_of_ble_eq_true rfl) dX1_pickLanes_96 (fun H locs hP hS => ?_)
          have hP : va_P (dC, dI) vwCl (va_pl L (va_up F9 a0 (.inr (1, [.ref z85, .ref z87, .ref z89, .ref z91, .ref z93, va_rf z95, .int z97, .int z99, .int z100, .int v111, .int z103, .long z104])))) H := hP
          obtain ⟨F112, hF113⟩ : ∃ G : Nat → va_E, G = va_up F9 a0 (.inr (1, [.ref z85, .ref z87, .ref z89, .ref z91, .ref z93, va_rf z95, .int z97, .int z99, .int z100, .int v111, .int z103, .long z104])) := ⟨_, rfl⟩
          rw [← hF113] at hP
          have hI : s_I K cs D F112 := by rw [hF113]; exact s_cl2 hI ha0 ⟨z85, z87, z89, some z91, some z93, z95, z97, z99, z100, v111, z103, z104, rfl, h86, h88, h90, (fun q e => by cases e; exact h92), (fun q e => by cases e; exact h94), h96, ⟨by omega, by omega⟩, ⟨by omega, by omega⟩, trivial⟩
          have hfr : ∀ b, K b ∉ [2] → F112 b = F b := by rw [hF113]; exact s_fr hfr ha0 (by decide)
          have o114 : F112 a0 = .inr (1, [.ref z85, .ref z87, .ref z89, .ref z91, .ref z93, va_rf z95, .int z97, .int z99, .int z100, .int v111, .int z103, .long z104]) := by rw [hF113]; exact th_up
          obtain ⟨v115, ev115⟩ : ∃ y : Int32, w82 + 1 = y := ⟨_, rfl⟩
          have qv115 : v115.toInt = w82.toInt + 1 := by rw [← ev115]; exact th_add rfl (by decide) ⟨by omega, by omega⟩
          refine lv_iinc (v := v115) (lv' := [(2, .int v115), (0, .ref a0), (1, .int r69)]) hx hb dX1_pickLanes_99 hl (k := 2) rfl ev115 (by decide) rfl (fun ls hl => ?_)
          refine lv_goto (tgt := 69) hx hb dX1_pickLanes_102 (by decide) ?_
          exact ih69 _ _ _ _ (by omega) ⟨F112, _, v115, rfl, lv_sub hl [1, 2, 0] rfl, hI, hP, hS, hfr, ⟨by omega, by omega⟩, ⟨z85, z87, z89, z91, z93, z95, z97, z99, z100, v111, z103, z104, o114, h86, h88, h90, h92, h94, h96, ⟨by omega, by omega⟩, ⟨by omega, by omega⟩, trivial⟩, rfl⟩
    · have c76 := (ax_eq (n := 0) (by decide)).mp c76
      refine lv_aload_n hx hb dX1_pickLanes_25 rfl (lv_at hl 1 rfl) ?_
      refine lv_iload_n hx hb dX1_pickLanes_26 rfl (lv_at hl 0 rfl) ?_
      refine th_put (D := (dC, dI)) (ci := 1) (v := .int r69) (ty := .int) (C := RX1) (T := TX1) (N := 12) hx hb hts inX1 tyX1 tyX1_ok nmX1 hown hK hP hD hS (hLK _ ha0 (by decide)) o73 rfl 8 (by decide) (hts _ T_645) (fun _ h9 => h9) rfl (by decide +kernel) rfl rfl (Nat.le_of_ble_eq_true rfl) dX1_pickLanes_27 (fun H locs hP hS => ?_)
      have hP : va_P (dC, dI) vwCl (va_pl L (va_up F70 a0 (.inr (1, [.ref z1, .ref z3, .ref z5, .ref z7, .ref z9, va_rf z11, .int z13, .int z15, .int r69, .int z17, .int z19, .long z20])))) H := hP
      obtain ⟨F116, hF117⟩ : ∃ G : Nat → va_E, G = va_up F70 a0 (.inr (1, [.ref z1, .ref z3, .ref z5, .ref z7, .ref z9, va_rf z11, .int z13, .int z15, .int r69, .int z17, .int z19, .long z20])) := ⟨_, rfl⟩
      rw [← hF117] at hP
      have hI : s_I K cs D F116 := by rw [hF117]; exact s_cl2 hI ha0 ⟨z1, z3, z5, some z7, some z9, z11, z13, z15, r69, z17, z19, z20, rfl, h2, h4, h6, (fun q e => by cases e; exact h8), (fun q e => by cases e; exact h10), h12, ⟨by omega, by omega⟩, ⟨by omega, by omega⟩, trivial⟩
      have hfr : ∀ b, K b ∉ [2] → F116 b = F b := by rw [hF117]; exact s_fr hfr ha0 (by decide)
      have o118 : F116 z7 = .inr (4, [.ref z23, .ref z25, .ref z27, .ref z29, .ref z31, .ref z33, .ref z35, .int z37, .int z39, .int z40, .int z41, .int z43, .int z44, .int z46, .int z47]) := by rw [hF117]; exact th_ne (th_kd h8 ha0 (by decide)) o74
      have o119 : F116 z9 = .inr (5, [.ref z50, .ref z52, .ref z54, .ref z56, .ref z58, .int z60, .int z62, .int z63, .int z64, .int z65, .int z66]) := by rw [hF117]; exact th_ne (th_kd h10 ha0 (by decide)) o75
      have o120 : F116 a0 = .inr (1, [.ref z1, .ref z3, .ref z5, .ref z7, .ref z9, va_rf z11, .int z13, .int z15, .int r69, .int z17, .int z19, .long z20]) := by rw [hF117]; exact th_up
      refine lv_aload_n hx hb dX1_pickLanes_30 rfl (lv_at hl 1 rfl) ?_
      refine lv_aload_n hx hb dX1_pickLanes_31 rfl (lv_at hl 1 rfl) ?_
      refine th_get (D := (dC, dI)) (ci := 1) (v := .ref z9) (C := RX1) (T := TX1) (N := 12) hx hb hts inX1 hown hK hP (hLK _ ha0 (by decide)) o120 rfl 4 (by decide) (hts _ T_612) (fun _ h9 => h9) rfl dX1_pickLanes_32 ?_
      refine th_getN (D := (dC, dI)) (ci := 5) (v := .ref z54) (C := RX5) (T := TX5) (N := 11) hx hb hts inX5 hown hK hP (hLK _ h10 (by decide)) o119 rfl 2 (by decide) (va_Nw.use rfl (ax_n32 hN)) (fun _ h9 => h9) rfl dX1_pickLanes_35 ?_
      refine lv_aload_n hx hb dX1_pickLanes_38 rfl (lv_at hl 1 rfl) ?_
      refine th_get (D := (dC, dI)) (ci := 1) (v := .ref z9) (C := RX1) (T := TX1) (N := 12) hx hb hts inX1 hown hK hP (hLK _ ha0 (by decide)) o120 rfl 4 (by decide) (hts _ T_612) (fun _ h9 => h9) rfl dX1_pickLanes_39 ?_
      refine th_getN (D := (dC, dI)) (ci := 5) (v := .int z60) (C := RX5) (T := TX5) (N := 11) hx hb hts inX5 hown hK hP (hLK _ h10 (by decide)) o119 rfl 5 (by decide) (va_Nw.use rfl (ax_n33 hN)) (fun _ h9 => h9) rfl dX1_pickLanes_42 ?_
      refine lv_iconst (v := 1) hx hb dX1_pickLanes_45 (by decide) ?_
      refine lv_isub hx hb dX1_pickLanes_46 ?_
      refine lv_topi (fun v121 ev121 => ?_)
      have qv121 : v121.toInt = z60.toInt - 1 := by rw [ev121]; exact th_sub rfl (by decide) ⟨by omega, by omega⟩
      refine lv_iconst (v := 0) hx hb dX1_pickLanes_47 (by decide) ?_
      refine va_mmax hx hb (by rw [hml]; exact hl.1.symm) hown (hts _ T_608) (hts _ T_609) (hts _ T_237) (hts _ T_610) (Nat.le_of_ble_eq_true rfl) (Nat.le_of_ble_eq_true rfl) (Nat.zero_le _) (Nat.zero_le _) dX1_pickLanes_48 ?_
      refine lv_topi (fun v122 ev122 => ?_)
      have qv122 := th_mmax (a := v121.toInt) (b := 0) ev122 rfl (by decide)
      obtain ⟨f123, o124, h125⟩ := s_op32 hI h55
      refine th_iald hx hb hK hP (hLK _ h55 (by decide)) 0 o124 rfl (th_in ⟨by omega, by omega⟩) dX1_pickLanes_51 ?_
      refine lv_topi (fun v126 ev126 => ?_)
      refine th_put (D := (dC, dI)) (ci := 1) (v := .int v126) (ty := .int) (C := RX1) (T := TX1) (N := 12) hx hb hts inX1 tyX1 tyX1_ok nmX1 hown hK hP hD hS (hLK _ ha0 (by decide)) o120 rfl 7 (by decide) (hts _ T_632) (fun _ h9 => h9) rfl (by decide +kernel) rfl rfl (Nat.le_of_ble_eq_true rfl) dX1_pickLanes_52 (fun H locs hP hS => ?_)
      have hP : va_P (dC, dI) vwCl (va_pl L (va_up F116 a0 (.inr (1, [.ref z1, .ref z3, .ref z5, .ref z7, .ref z9, va_rf z11, .int z13, .int v126, .int r69, .int z17, .int z19, .long z20])))) H := hP
      obtain ⟨F127, hF128⟩ : ∃ G : Nat → va_E, G = va_up F116 a0 (.inr (1, [.ref z1, .ref z3, .ref z5, .ref z7, .ref z9, va_rf z11, .int z13, .int v126, .int r69, .int z17, .int z19, .long z20])) := ⟨_, rfl⟩
      rw [← hF128] at hP
      have hI : s_I K cs D F127 := by rw [hF128]; exact s_cl2 hI ha0 ⟨z1, z3, z5, some z7, some z9, z11, z13, v126, r69, z17, z19, z20, rfl, h2, h4, h6, (fun q e => by cases e; exact h8), (fun q e => by cases e; exact h10), h12, ⟨by omega, by omega⟩, ⟨by omega, by omega⟩, trivial⟩
      have hfr : ∀ b, K b ∉ [2] → F127 b = F b := by rw [hF128]; exact s_fr hfr ha0 (by decide)
      have o129 : F127 z7 = .inr (4, [.ref z23, .ref z25, .ref z27, .ref z29, .ref z31, .ref z33, .ref z35, .int z37, .int z39, .int z40, .int z41, .int z43, .int z44, .int z46, .int z47]) := by rw [hF128]; exact th_ne (th_kd h8 ha0 (by decide)) o118
      have o130 : F127 z9 = .inr (5, [.ref z50, .ref z52, .ref z54, .ref z56, .ref z58, .int z60, .int z62, .int z63, .int z64, .int z65, .int z66]) := by rw [hF128]; exact th_ne (th_kd h10 ha0 (by decide)) o119
      have o131 : F127 a0 = .inr (1, [.ref z1, .ref z3, .ref z5, .ref z7, .ref z9, va_rf z11, .int z13, .int v126, .int r69, .int z17, .int z19, .long z20]) := by rw [hF128]; exact th_up
      exact W.vret hx hb hr (fun t ht hW => ⟨⟨F127, rfl, ⟨trivial, trivial, hI, hfr, ⟨z1, z3, z5, z7, z9, z11, z13, v126, r69, z17, z19, z20, o131, h2, h4, h6, h8, h10, h12, ⟨by omega, by omega⟩, ⟨by omega, by omega⟩, trivial⟩⟩, by rw [ht]; exact hP, va_K.moved hW.alike hK⟩, hS.F ht⟩) hS.2.2 dX1_pickLanes_55
  · intro g H locs hq
    obtain ⟨F9, ls, w22, rfl, hl, hI, hP, hS, hfr, h132, h133⟩ := hq
    obtain ⟨z134, z136, z138, z140, z142, z144, z146, z148, z149, z150, z152, z153, o154, h135, h137, h139, h141, h143, h145, h147, h151, -⟩ := h133
    refine lv_aload_n hx hb dX1_pickLanes_105 rfl (lv_at hl 0 rfl) ?_
    refine lv_aload_n hx hb dX1_pickLanes_106 rfl (lv_at hl 0 rfl) ?_
    refine th_get (D := (dC, dI)) (ci := 1) (v := .ref z142) (C := RX1) (T := TX1) (N := 12) hx hb hts inX1 hown hK hP (hLK _ ha0 (by decide)) o154 rfl 4 (by decide) (hts _ T_612) (fun _ h9 => h9) rfl dX1_pickLanes_107 ?_
    obtain ⟨z155, z157, z159, z161, z163, z165, z167, z168, z169, z170, z171, o173, h156, h158, h160, h162, h164, h166, h172, -⟩ := s_op6 hI h143
    refine th_getN (D := (dC, dI)) (ci := 5) (v := .ref z157) (C := RX5) (T := TX5) (N := 11) hx hb hts inX5 hown hK hP (hLK _ h143 (by decide)) o173 rfl 1 (by decide) (va_Nw.use rfl (ax_n34 hN)) (fun _ h9 => h9) rfl dX1_pickLanes_110 ?_
    refine lv_aload_n hx hb dX1_pickLanes_113 rfl (lv_at hl 0 rfl) ?_
    refine th_get (D := (dC, dI)) (ci := 1) (v := .int z150) (C := RX1) (T := TX1) (N := 12) hx hb hts inX1 hown hK hP (hLK _ ha0 (by decide)) o154 rfl 9 (by decide) (hts _ T_664) (fun _ h9 => h9) rfl dX1_pickLanes_114 ?_
    obtain ⟨f174, o175, h176⟩ := s_op31 hI h158
    refine th_iald hx hb hK hP (hLK _ h158 (by decide)) 0 o175 rfl (th_in ⟨by omega, by omega⟩) dX1_pickLanes_117 ?_
    refine lv_topi (fun v177 ev177 => ?_)
    refine th_put (D := (dC, dI)) (ci := 1) (v := .int v177) (ty := .int) (C := RX1) (T := TX1) (N := 12) hx hb hts inX1 tyX1 tyX1_ok nmX1 hown hK hP hD hS (hLK _ ha0 (by decide)) o154 rfl 7 (by decide) (hts _ T_632) (fun _ h9 => h9) rfl (by decide +kernel) rfl rfl (Nat.le_of_ble_eq_true rfl) dX1_pickLanes_118 (fun H locs hP hS => ?_)
    have hP : va_P (dC, dI) vwCl (va_pl L (va_up F9 a0 (.inr (1, [.ref z134, .ref z136, .ref z138, .ref z140, .ref z142, va_rf z144, .int z146, .int v177, .int z149, .int z150, .int z152, .long z153])))) H := hP
    obtain ⟨F178, hF179⟩ : ∃ G : Nat → va_E, G = va_up F9 a0 (.inr (1, [.ref z134, .ref z136, .ref z138, .ref z140, .ref z142, va_rf z144, .int z146, .int v177, .int z149, .int z150, .int z152, .long z153])) := ⟨_, rfl⟩
    rw [← hF179] at hP
    have hI : s_I K cs D F178 := by rw [hF179]; exact s_cl2 hI ha0 ⟨z134, z136, z138, some z140, some z142, z144, z146, v177, z149, z150, z152, z153, rfl, h135, h137, h139, (fun q e => by cases e; exact h141), (fun q e => by cases e; exact h143), h145, ⟨by omega, by omega⟩, ⟨by omega, by omega⟩, trivial⟩
    have hfr : ∀ b, K b ∉ [2] → F178 b = F b := by rw [hF179]; exact s_fr hfr ha0 (by decide)
    have o180 : F178 z142 = .inr (5, [.ref z155, .ref z157, .ref z159, .ref z161, .ref z163, .int z165, .int z167, .int z168, .int z169, .int z170, .int z171]) := by rw [hF179]; exact th_ne (th_kd h143 ha0 (by decide)) o173
    have o181 : F178 a0 = .inr (1, [.ref z134, .ref z136, .ref z138, .ref z140, .ref z142, va_rf z144, .int z146, .int v177, .int z149, .int z150, .int z152, .long z153]) := by rw [hF179]; exact th_up
    refine lv_aload_n hx hb dX1_pickLanes_121 rfl (lv_at hl 0 rfl) ?_
    refine lv_iconst (v := 0) hx hb dX1_pickLanes_122 (by decide) ?_
    refine th_put (D := (dC, dI)) (ci := 1) (v := .int 0) (ty := .int) (C := RX1) (T := TX1) (N := 12) hx hb hts inX1 tyX1 tyX1_ok nmX1 hown hK hP hD hS (hLK _ ha0 (by decide)) o181 rfl 8 (by decide) (hts _ T_645) (fun _ h9 => h9) rfl (by decide +kernel) rfl rfl (Nat.le_of_ble_eq_true rfl) dX1_pickLanes_123 (fun H locs hP hS => ?_)
    have hP : va_P (dC, dI) vwCl (va_pl L (va_up F178 a0 (.inr (1, [.ref z134, .ref z136, .ref z138, .ref z140, .ref z142, va_rf z144, .int z146, .int v177, .int 0, .int z150, .int z152, .long z153])))) H := hP
    obtain ⟨F182, hF183⟩ : ∃ G : Nat → va_E, G = va_up F178 a0 (.inr (1, [.ref z134, .ref z136, .ref z138, .ref z140, .ref z142, va_rf z144, .int z146, .int v177, .int 0, .int z150, .int z152, .long z153])) := ⟨_, rfl⟩
    rw [← hF183] at hP
    have hI : s_I K cs D F182 := by rw [hF183]; exact s_cl2 hI ha0 ⟨z134, z136, z138, some z140, some z142, z144, z146, v177, 0, z150, z152, z153, rfl, h135, h137, h139, (fun q e => by cases e; exact h141), (fun q e => by cases e; exact h143), h145, ⟨by omega, by omega⟩, ⟨by omega, by omega⟩, trivial⟩
    have hfr : ∀ b, K b ∉ [2] → F182 b = F b := by rw [hF183]; exact s_fr hfr ha0 (by decide)
    have o184 : F182 z142 = .inr (5, [.ref z155, .ref z157, .ref z159, .ref z161, .ref z163, .int z165, .int z167, .int z168, .int z169, .int z170, .int z171]) := by rw [hF183]; exact th_ne (th_kd h143 ha0 (by decide)) o180
    have o185 : F182 a0 = .inr (1, [.ref z134, .ref z136, .ref z138, .ref z140, .ref z142, va_rf z144, .int z146, .int v177, .int 0, .int z150, .int z152, .long z153]) := by rw [hF183]; exact th_up
    refine lv_iconst (v := 0) hx hb dX1_pickLanes_126 (by decide) ?_
    refine lv_istore_n (lv' := [(2, .int 0), (0, .ref a0), (1, .int w22)]) hx hb dX1_pickLanes_127 rfl hl (by decide) rfl (fun ls hl => ?_)
    refine th_loop (fun n g H locs => ∃ (G : Nat → va_E) (ls : Array Slot) (w186 : Int32), g = F0 m 128 ls [] ∧ lv_has ls 3 [(0, .ref a0), (1, .int w22), (2, .int w186)] ∧ s_I K cs D G ∧ va_P (dC, dI) vwCl (va_pl L G) H ∧ va_S (fun q => q ∈ L) s.heap H locs ∧ (∀ b, K b ∉ [2] → G b = F b) ∧ (0 ≤ w186.toInt ∧ w186.toInt ≤ 8) ∧ s_rd2 K G a0 ∧ n = (9 - w186.toInt).toNat) _ ⟨F182, _, 0, rfl, lv_sub hl [1, 2, 0] rfl, hI, hP, hS, hfr, (by decide), ⟨z134, z136, z138, z140, z142, z144, z146, v177, 0, z150, z152, z153, o185, h135, h137, h139, h141, h143, h145, ⟨by omega, by omega⟩, ⟨by omega, by omega⟩, trivial⟩, rfl⟩ (fun n ih128 g H locs hq => ?_)
    obtain ⟨F9, ls, w186, rfl, hl, hI, hP, hS, hfr, h187, h188, hn⟩ := hq
    obtain ⟨z189, z191, z193, z195, z197, z199, z201, z203, z204, z205, z207, z208, o209, h190, h192, h194, h196, h198, h200, h202, h206, -⟩ := h188
    have hn_128 := hn
    obtain ⟨n_128, hn9_128⟩ : ∃ q, q = n := ⟨_, rfl⟩
    refine th_join (fun g H locs => ∃ (G : Nat → va_E) (ls : Array Slot), g = F0 m 170 ls [] ∧ lv_has ls 3 [(0, .ref a0), (1, .int w22), (2, .int w186)] ∧ s_I K cs D G ∧ va_P (dC, dI) vwCl (va_pl L G) H ∧ va_S (fun q => q ∈ L) s.heap H locs ∧ (∀ b, K b ∉ [2] → G b = F b) ∧ (0 ≤ w186.toInt ∧ w186.toInt ≤ 7) ∧ s_rd2 K G a0) (fun K170 => ?_) ?_
    · refine lv_iload_n hx hb dX1_pickLanes_128 rfl (lv_at hl 2 rfl) ?_
      refine lv_bipush (v := 8) hx hb dX1_pickLanes_129 (by decide) ?_
      refine lv_icmp_ge (tgt := 176) hx hb dX1_pickLanes_131 (by decide) (fun c210 => ?_) (fun c210 => ?_)
      · have c210 := (ax_ge (n := 8) (by decide)).mp c210
        exact W.vret hx hb hr (fun t ht hW => ⟨⟨F9, rfl, ⟨trivial, trivial, hI, hfr, ⟨z189, z191, z193, z195, z197, z199, z201, z203, z204, z205, z207, z208, o209, h190, h192, h194, h196, h198, h200, ⟨by omega, by omega⟩, ⟨by omega, by omega⟩, trivial⟩⟩, by rw [ht]; exact hP, va_K.moved hW.alike hK⟩, hS.F ht⟩) hS.2.2 dX1_pickLanes_176
      · have c210 := mt (ax_ge (n := 8) (by decide)).mpr c210
        refine lv_iload_n hx hb dX1_pickLanes_134 rfl (lv_at hl 1 rfl) ?_
        refine lv_iload_n hx hb dX1_pickLanes_135 rfl (lv_at hl 2 rfl) ?_
        refine lv_ishr hx hb dX1_pickLanes_136 ?_
        refine lv_topi (fun v211 ev211 => ?_)
        refine lv_iconst (v := 1) hx hb dX1_pickLanes_137 (by decide) ?_
        refine lv_iand hx hb dX1_pickLanes_138 ?_
        refine lv_topi (fun v212 ev212 => ?_)
        have qv212 : 0 ≤ v212.toInt ∧ v212.toInt ≤ 1 := by rw [ev212]; exact th_and 1 (by decide) (by decide)
        refine lv_if_eq (tgt := 170) hx hb dX1_pickLanes_139 (by decide) (fun c213 => ?_) (fun c213 => ?_)
        · have c213 := (ax_eq (n := 0) (by decide)).mp c213
          exact K170 _ _ _ ⟨F9, _, rfl, lv_sub hl [0, 1, 2] rfl, hI, hP, hS, hfr, ⟨by omega, by omega⟩, ⟨z189, z191, z193, z195, z197, z199, z201, z203, z204, z205, z207, z208, o209, h190, h192, h194, h196, h198, h200, ⟨by omega, by omega⟩, ⟨by omega, by omega⟩, trivial⟩⟩
        · have c213 := mt (ax_eq (n := 0) (by decide)).mpr c213
          refine lv_aload_n hx hb dX1_pickLanes_142 rfl (lv_at hl 0 rfl) ?_
          refine th_get (D := (dC, dI)) (ci := 1) (v := .ref z197) (C := RX1) (T := TX1) (N := 12) hx hb hts inX1 hown hK hP (hLK _ ha0 (by decide)) o209 rfl 4 (by decide) (hts _ T_612) (fun _ h9 => h9) rfl dX1_pickLanes_143 ?_
          obtain ⟨z214, z216, z218, z220, z222, z224, z226, z227, z228, z229, z230, o232, h215, h217, h219, h221, h223, h225, h231, -⟩ := s_op6 hI h198
          refine th_getN (D := (dC, dI)) (ci := 5) (v := .ref z216) (C := RX5) (T := TX5) (N := 11) hx hb hts inX5 hown hK hP (hLK _ h198 (by decide)) o232 rfl 1 (by decide) (va_Nw.use rfl (ax_n34 hN)) (fun _ h9 => h9) rfl dX1_pickLanes_146 ?_
          refine lv_iload_n hx hb dX1_pickLanes_149 rfl (lv_at hl 2 rfl) ?_
          obtain ⟨f233, o234, h235⟩ := s_op31 hI h217
          refine th_iald hx hb hK hP (hLK _ h217 (by decide)) 0 o234 rfl (th_in ⟨by omega, by omega⟩) dX1_pickLanes_150 ?_
          refine lv_topi (fun v236 ev236 => ?_)
          refine lv_aload_n hx hb dX1_pickLanes_151 rfl (lv_at hl 0 rfl) ?_
          refine th_get (D := (dC, dI)) (ci := 1) (v := .int z203) (C := RX1) (T := TX1) (N := 12) hx hb hts inX1 hown hK hP (hLK _ ha0 (by decide)) o209 rfl 7 (by decide) (hts _ T_632) (fun _ h9 => h9) rfl dX1_pickLanes_152 ?_
          refine lv_icmp_ne (tgt := 170) hx hb dX1_pickLanes_155 (by decide) (fun c237 => ?_) (fun c237 => ?_)
          · have c237 := mt Int32.toInt_inj.symm.mpr c237
            exact K170 _ _ _ ⟨F9, _, rfl, lv_sub hl [0, 1, 2] rfl, hI, hP, hS, hfr, ⟨by omega, by omega⟩, ⟨z189, z191, z193, z195, z197, z199, z201, z203, z204, z205, z207, z208, o209, h190, h192, h194, h196, h198, h200, ⟨by omega, by omega⟩, ⟨by omega, by omega⟩, trivial⟩⟩
          · have c237 := Int32.toInt_inj.symm.mp c237
            refine lv_aload_n hx hb dX1_pickLanes_158 rfl (lv_at hl 0 rfl) ?_
            refine lv_dup hx hb dX1_pickLanes_159 rfl ?_
            refine th_get (D := (dC, dI)) (ci := 1) (v := .int z204) (C := RX1) (T := TX1) (N := 12) hx hb hts inX1 hown hK hP (hLK _ ha0 (by decide)) o209 rfl 8 (by decide) (hts _ T_645) (fun _ h9 => h9) rfl dX1_pickLanes_160 ?_
            refine lv_iconst (v := 1) hx hb dX1_pickLanes_163 (by decide) ?_
            refine lv_iload_n hx hb dX1_pickLanes_164 rfl (lv_at hl 2 rfl) ?_
            refine lv_ishl hx hb dX1_pickLanes_165 ?_
            refine lv_topi (fun v238 ev238 => ?_)
            refine lv_ior hx hb dX1_pickLanes_166 ?_
            refine lv_topi (fun v239 ev239 => ?_)
            refine th_put (D := (dC, dI)) (ci := 1) (v := .int v239) (ty := .int) (C := RX1) (T := TX1) (N := 12) hx hb hts inX1 tyX1 tyX1_ok nmX1 hown hK hP hD hS (hLK _ ha0 (by decide)) o209 rfl 8 (by decide) (hts _ T_645) (fun _ h9 => h9) rfl (by decide +kernel) rfl rfl (Nat.le_of_ble_eq_true rfl) dX1_pickLanes_167 (fun H locs hP hS => ?_)
            have hP : va_P (dC, dI) vwCl (va_pl L (va_up F9 a0 (.inr (1, [.ref z189, .ref z191, .ref z193, .ref z195, .ref z197, va_rf z199, .int z201, .int z203, .int v239, .int z205, .int z207, .long z208])))) H := hP
            obtain ⟨F240, hF241⟩ : ∃ G : Nat → va_E, G = va_up F9 a0 (.inr (1, [.ref z189, .ref z191, .ref z193, .ref z195, .ref z197, va_rf z199, .int z201, .int z203, .int v239, .int z205, .int z207, .long z208])) := ⟨_, rfl⟩
            rw [← hF241] at hP
            have hI : s_I K cs D F240 := by rw [hF241]; exact s_cl2 hI ha0 ⟨z189, z191, z193, some z195, some z197, z199, z201, z203, v239, z205, z207, z208, rfl, h190, h192, h194, (fun q e => by cases e; exact h196), (fun q e => by cases e; exact h198), h200, ⟨by omega, by omega⟩, ⟨by omega, by omega⟩, trivial⟩
            have hfr : ∀ b, K b ∉ [2] → F240 b = F b := by rw [hF241]; exact s_fr hfr ha0 (by decide)
            have o242 : F240 z197 = .inr (5, [.ref z214, .ref z216, .ref z218, .ref z220, .ref z222, .int z224, .int z226, .int z227, .int z228, .int z229, .int z230]) := by rw [hF241]; exact th_ne (th_kd h198 ha0 (by decide)) o232
            have o243 : F240 a0 = .inr (1, [.ref z189, .ref z191, .ref z193, .ref z195, .ref z197, va_rf z199, .int z201, .int z203, .int v239, .int z205, .int z207, .long z208]) := by rw [hF241]; exact th_up
            exact K170 _ _ _ ⟨F240, _, rfl, lv_sub hl [0, 1, 2] rfl, hI, hP, hS, hfr, ⟨by omega, by omega⟩, ⟨z189, z191, z193, z195, z197, z199, z201, z203, v239, z205, z207, z208, o243, h190, h192, h194, h196, h198, h200, ⟨by omega, by omega⟩, ⟨by omega, by omega⟩, trivial⟩⟩
    · intro g H locs hq
      obtain ⟨F9, ls, rfl, hl, hI, hP, hS, hfr, h244, h245⟩ := hq
      obtain ⟨z246, z248, z250, z252, z254, z256, z258, z260, z261, z262, z264, z265, o266, h247, h249, h251, h253, h255, h257, h259, h263, -⟩ := h245
      obtain ⟨v267, ev267⟩ : ∃ y : Int32, w186 + 1 = y := ⟨_, rfl⟩
      have qv267 : v267.toInt = w186.toInt + 1 := by rw [← ev267]; exact th_add rfl (by decide) ⟨by omega, by omega⟩
      refine lv_iinc (v := v267) (lv' := [(2, .int v267), (0, .ref a0), (1, .int w22)]) hx hb dX1_pickLanes_170 hl (k := 2) rfl ev267 (by decide) rfl (fun ls hl => ?_)
      refine lv_goto (tgt := 128) hx hb dX1_pickLanes_173 (by decide) ?_
      exact ih128 _ _ _ _ (by omega) ⟨F9, _, v267, rfl, lv_sub hl [1, 2, 0] rfl, hI, hP, hS, hfr, ⟨by omega, by omega⟩, ⟨z246, z248, z250, z252, z254, z256, z258, z260, z261, z262, z264, z265, o266, h247, h249, h251, h253, h255, h257, ⟨by omega, by omega⟩, ⟨by omega, by omega⟩, trivial⟩, rfl⟩

set_option maxHeartbeats 4000000 in
set_option maxRecDepth 100000 in
theorem s_X1_valueOf (l : Launch) (dC : Nat → ClassId) (dI : Nat → Nat → Nat) (sz : Nat) {L : List Nat} {K : Nat → Nat} {cs : Nat → ClassId} (hLK : ∀ a {k : Nat}, K a = k → k ≠ 0 → a ∈ L) (D : Nat) (F : Nat → va_E) (a0 : Nat) (x1 : Int32) (x2 : Int32) (ha0 : K a0 = 2) (hx2 : 0 ≤ x2.toInt ∧ x2.toInt ≤ 7) (hI : s_I K cs D F) (hR : s_rd3 K F a0) : Met l yX1_valueOf (Cond.code yX1_valueOf cX1_valueOf 3 (some .int) :: T0) ({ frames := 0, cells := 0, slots := 0, locals := 0 }) (va_Pc [.ref a0, .int x1, .int x2] (s_W dC dI sz L F [(cs 0, .int), (cs 1, .byte), (cs 2, .long), (cs 3, .object RX5), (cs 4, .object RX4), (cs 5, .array .int), (cs 6, .char), (cs 7, .boolean)])) (va_Qi (fun (r : Int32) (G : Nat → va_E) => True ∧ True ∧ s_I K cs D G ∧ ∀ b, K b ∉ ([] : List Nat) → G b = F b) (fun (G : Nat → va_E) (t : State) => va_P (dC, dI) vwCl (va_pl L G) t.heap ∧ va_K (dC, dI) vwCl [(cs 0, .int), (cs 1, .byte), (cs 2, .long), (cs 3, .object RX5), (cs 4, .object RX4), (cs 5, .array .int), (cs 6, .char), (cs 7, .boolean)] t) (fun q => q ∈ L)) 0 0 (fun q => q ∈ L) := by
  refine Met.ofW (cc := cX1_valueOf) (maxL := 3) (ret := (some .int)) (by decide) rfl ?_
  intro p e s m args below meth c s₁ B hml hv
  obtain ⟨rfl, hsz, hP, hK, hD, hN⟩ := hv
  have hx := B.exec
  have hb := B.bytes
  have hr := B.returns
  have hts : ∀ w ∈ T0, w.before _ s = true := fun w h => atoms_spec (ws := Cond.code yX1_valueOf cX1_valueOf 3 (some .int) :: T0) B.pre w (List.mem_cons_of_mem _ h)
  have hown : s.vm.findClass RX1 = some m.cls := findClass_of_methodNamed B.named
  have hlocks := B.notSynchronized
  have hS : va_S (fun q => q ∈ L) s.heap s.heap [] := va_S.rf
  have hfr : ∀ b, K b ∉ ([] : List Nat) → F b = F b := fun _ _ => rfl
  have hl := lv_entry ([.ref a0, .int x1, .int x2]) (n := 3) (Nat.le_of_ble_eq_true rfl)
  rw [lg_entry_eq]
  generalize (lg_sl ([.ref a0, .int x1, .int x2]) ++ List.replicate (3 - (lg_sl ([.ref a0, .int x1, .int x2])).length) Slot.unset).toArray = ls at hl ⊢
  have hl : lv_has ls 3 [(0, .ref a0), (1, .int x1), (2, .int x2)] := hl
  refine s_gen hP hS (fun H locs hP hS => ?_)
  obtain ⟨z1, z3, z5, z7, z9, z11, z13, z15, z16, z17, z19, z20, o21, h2, h4, h6, h8, h10, h12, h14, h18, -⟩ := hR
  refine lv_iload_n hx hb dX1_valueOf_0 rfl (lv_at hl 1 rfl) ?_
  refine lv_if_lt (tgt := 8) hx hb dX1_valueOf_1 (by decide) (fun c22 => ?_) (fun c22 => ?_)
  · have c22 := (ax_lt (n := 0) (by decide)).mp c22
    refine lv_aload_n hx hb dX1_valueOf_8 rfl (lv_at hl 0 rfl) ?_
    refine th_get (D := (dC, dI)) (ci := 1) (v := .ref z9) (C := RX1) (T := TX1) (N := 12) hx hb hts inX1 hown hK hP (hLK _ ha0 (by decide)) o21 rfl 4 (by decide) (hts _ T_612) (fun _ h9 => h9) rfl dX1_valueOf_9 ?_
    obtain ⟨z23, z25, z27, z29, z31, z33, z35, z36, z37, z38, z39, o41, h24, h26, h28, h30, h32, h34, h40, -⟩ := s_op6 hI h10
    refine th_getN (D := (dC, dI)) (ci := 5) (v := .ref z23) (C := RX5) (T := TX5) (N := 11) hx hb hts inX5 hown hK hP (hLK _ h10 (by decide)) o41 rfl 0 (by decide) (va_Nw.use rfl (ax_n20 hN)) (fun _ h9 => h9) rfl dX1_valueOf_12 ?_
    refine lv_iload_n hx hb dX1_valueOf_15 rfl (lv_at hl 2 rfl) ?_
    refine lv_iconst (v := 4) hx hb dX1_valueOf_16 (by decide) ?_
    refine lv_imul hx hb dX1_valueOf_17 ?_
    refine lv_topi (fun v42 ev42 => ?_)
    have qv42 : v42.toInt = x2.toInt * 4 := by rw [ev42]; exact th_mul rfl (by decide) ⟨by omega, by omega⟩
    refine lv_iconst (v := (-1)) hx hb dX1_valueOf_18 (by decide) ?_
    refine lv_iload_n hx hb dX1_valueOf_19 rfl (lv_at hl 1 rfl) ?_
    refine lv_isub hx hb dX1_valueOf_20 ?_
    refine lv_topi (fun v43 ev43 => ?_)
    have qv43 : v43.toInt = -1 - x1.toInt := by rw [ev43]; exact th_sub (by decide) rfl (by have q8 := th_lo x1; have q9 := th_hi x1; exact ⟨by omega, by omega⟩)
    refine lv_iconst (v := 3) hx hb dX1_valueOf_21 (by decide) ?_
    refine lv_iand hx hb dX1_valueOf_22 ?_
    refine lv_topi (fun v44 ev44 => ?_)
    have qv44 : 0 ≤ v44.toInt ∧ v44.toInt ≤ 3 := by rw [ev44]; exact th_and 2 (by decide) (by decide)
    refine lv_iadd hx hb dX1_valueOf_23 ?_
    refine lv_topi (fun v45 ev45 => ?_)
    have qv45 : v45.toInt = v42.toInt + v44.toInt := by rw [ev45]; exact th_add rfl rfl ⟨by omega, by omega⟩
    obtain ⟨f46, o47, h48⟩ := s_op30 hI h24
    refine th_iald hx hb hK hP (hLK _ h24 (by decide)) 0 o47 rfl (th_in ⟨by omega, by omega⟩) dX1_valueOf_24 ?_
    refine lv_topi (fun v49 ev49 => ?_)
    exact W.iret (v := v49) hx hb hr (fun t ht hW => ⟨⟨v49, F, rfl, ⟨trivial, trivial, hI, hfr⟩, by rw [ht]; exact hP, va_K.moved hW.alike hK⟩, hS.F ht⟩) hS.2.2 dX1_valueOf_25
  · have c22 := mt (ax_lt (n := 0) (by decide)).mpr c22
    refine lv_iload_n hx hb dX1_valueOf_4 rfl (lv_at hl 1 rfl) ?_
    refine lv_goto (tgt := 25) hx hb dX1_valueOf_5 (by decide) ?_
    exact W.iret (v := x1) hx hb hr (fun t ht hW => ⟨⟨x1, F, rfl, ⟨trivial, trivial, hI, hfr⟩, by rw [ht]; exact hP, va_K.moved hW.alike hK⟩, hS.F ht⟩) hS.2.2 dX1_valueOf_25

