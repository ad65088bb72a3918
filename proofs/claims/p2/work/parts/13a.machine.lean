set_option maxHeartbeats 4000000 in
set_option maxRecDepth 100000 in
theorem s_X1_take (l : Launch) (dC : Nat → ClassId) (dI : Nat → Nat → Nat) (sz : Nat) {L : List Nat} {K : Nat → Nat} {cs : Nat → ClassId} (hLK : ∀ a {k : Nat}, K a = k → k ≠ 0 → a ∈ L) (D : Nat) (F : Nat → va_E) (a0 : Nat) (a1 : Nat) (ha0 : K a0 = 2) (ha1 : K a1 = 3) (hI : s_I K cs D F) : Met l yX1_take (Cond.code yX1_take cX1_take 2 none :: T0) ({ frames := 0, cells := 0, slots := 0, locals := 0 }) (va_Pc [.ref a0, .ref a1] (s_W dC dI sz L F [(cs 0, .int), (cs 1, .byte), (cs 2, .long), (cs 3, .object RX5), (cs 4, .object RX4), (cs 5, .array .int), (cs 6, .char), (cs 7, .boolean)])) (va_Qv (fun (G : Nat → va_E) => True ∧ True ∧ s_I K cs D G ∧ ∀ b, K b ∉ [2] → G b = F b) (fun (G : Nat → va_E) (t : State) => va_P (dC, dI) vwCl (va_pl L G) t.heap ∧ va_K (dC, dI) vwCl [(cs 0, .int), (cs 1, .byte), (cs 2, .long), (cs 3, .object RX5), (cs 4, .object RX4), (cs 5, .array .int), (cs 6, .char), (cs 7, .boolean)] t) (fun q => q ∈ L)) 0 0 (fun q => q ∈ L) := by
  refine Met.ofW (cc := cX1_take) (maxL := 2) (ret := none) (by decide) rfl ?_
  intro p e s m args below meth c s₁ B hml hv
  obtain ⟨rfl, hsz, hP, hK, hD, hN⟩ := hv
  have hx := B.exec
  have hb := B.bytes
  have hr := B.returns
  have hts : ∀ w ∈ T0, w.before _ s = true := fun w h => atoms_spec (ws := Cond.code yX1_take cX1_take 2 none :: T0) B.pre w (List.mem_cons_of_mem _ h)
  have hown : s.vm.findClass RX1 = some m.cls := findClass_of_methodNamed B.named
  have hlocks := B.notSynchronized
  have hS : va_S (fun q => q ∈ L) s.heap s.heap [] := va_S.rf
  have hfr : ∀ b, K b ∉ [2] → F b = F b := fun _ _ => rfl
  have hl := lv_entry ([.ref a0, .ref a1]) (n := 2) (Nat.le_of_ble_eq_true rfl)
  rw [lg_entry_eq]
  generalize (lg_sl ([.ref a0, .ref a1]) ++ List.replicate (2 - (lg_sl ([.ref a0, .ref a1])).length) Slot.unset).toArray = ls at hl ⊢
  have hl : lv_has ls 2 [(0, .ref a0), (1, .ref a1)] := hl
  refine s_gen hP hS (fun H locs hP hS => ?_)
  refine lv_aload_n hx hb dX1_take_0 rfl (lv_at hl 0 rfl) ?_
  refine lv_aload_n hx hb dX1_take_1 rfl (lv_at hl 1 rfl) ?_
  obtain ⟨z1, z3, z5, z7, z9, z11, z12, z14, z15, z16, z18, z19, o20, h2, h4, h6, h8, h10, h13, h17, -⟩ := s_op2 hI ha0
  refine th_put (D := (dC, dI)) (ci := 1) (v := .ref a1) (ty := .object "LaneWarps$Program") (C := RX1) (T := TX1) (N := 12) hx hb hts inX1 tyX1 tyX1_ok nmX1 hown hK hP hD hS (hLK _ ha0 (by decide)) o20 rfl 2 (by decide) (hts _ T_121) (fun _ h9 => h9) rfl (by decide +kernel) rfl rfl (Nat.le_of_ble_eq_true rfl) dX1_take_2 (fun H locs hP hS => ?_)
  have hP : va_P (dC, dI) vwCl (va_pl L (va_up F a0 (.inr (1, [.ref z1, .ref z3, .ref a1, va_rf z7, va_rf z9, va_rf z11, .int z12, .int z14, .int z15, .int z16, .int z18, .long z19])))) H := hP
  obtain ⟨F21, hF22⟩ : ∃ G : Nat → va_E, G = va_up F a0 (.inr (1, [.ref z1, .ref z3, .ref a1, va_rf z7, va_rf z9, va_rf z11, .int z12, .int z14, .int z15, .int z16, .int z18, .long z19])) := ⟨_, rfl⟩
  rw [← hF22] at hP
  have hI : s_I K cs D F21 := by rw [hF22]; exact s_cl2 hI ha0 ⟨z1, z3, a1, z7, z9, z11, z12, z14, z15, z16, z18, z19, rfl, h2, h4, ha1, h8, h10, ⟨by omega, by omega⟩, ⟨by omega, by omega⟩, trivial⟩
  have hfr : ∀ b, K b ∉ [2] → F21 b = F b := by rw [hF22]; exact s_fr hfr ha0 (by decide)
  have o23 : F21 a0 = .inr (1, [.ref z1, .ref z3, .ref a1, va_rf z7, va_rf z9, va_rf z11, .int z12, .int z14, .int z15, .int z16, .int z18, .long z19]) := by rw [hF22]; exact th_up
  exact W.vret hx hb hr (fun t ht hW => ⟨⟨F21, rfl, ⟨trivial, trivial, hI, hfr⟩, by rw [ht]; exact hP, va_K.moved hW.alike hK⟩, hS.F ht⟩) hS.2.2 dX1_take_5

set_option maxHeartbeats 4000000 in
set_option maxRecDepth 100000 in
theorem s_X1_goesNow (l : Launch) (dC : Nat → ClassId) (dI : Nat → Nat → Nat) (sz : Nat) {L : List Nat} {K : Nat → Nat} {cs : Nat → ClassId} (hLK : ∀ a {k : Nat}, K a = k → k ≠ 0 → a ∈ L) (D : Nat) (F : Nat → va_E) (a0 : Nat) (x1 : Int32) (ha0 : K a0 = 2) (hI : s_I K cs D F) : Met l yX1_goesNow (Cond.code yX1_goesNow cX1_goesNow 2 (some .boolean) :: T0) ({ frames := 0, cells := 0, slots := 0, locals := 0 }) (va_Pc [.ref a0, .int x1] (s_W dC dI sz L F [(cs 0, .int), (cs 1, .byte), (cs 2, .long), (cs 3, .object RX5), (cs 4, .object RX4), (cs 5, .array .int), (cs 6, .char), (cs 7, .boolean)])) (va_Qi (fun (r : Int32) (G : Nat → va_E) => (0 ≤ r.toInt ∧ r.toInt ≤ 1) ∧ (True ∧ (∀ vs z, F a0 = .inr (1, vs) → vs[8]? = some (.int z) → (r = 0 ↔ (z >>> (x1 &&& 31) &&& 1) = 0))) ∧ s_I K cs D G ∧ ∀ b, K b ∉ ([] : List Nat) → G b = F b) (fun (G : Nat → va_E) (t : State) => va_P (dC, dI) vwCl (va_pl L G) t.heap ∧ va_K (dC, dI) vwCl [(cs 0, .int), (cs 1, .byte), (cs 2, .long), (cs 3, .object RX5), (cs 4, .object RX4), (cs 5, .array .int), (cs 6, .char), (cs 7, .boolean)] t) (fun q => q ∈ L)) 0 0 (fun q => q ∈ L) := by
  refine Met.ofW (cc := cX1_goesNow) (maxL := 2) (ret := (some .boolean)) (by decide) rfl ?_
  intro p e s m args below meth c s₁ B hml hv
  obtain ⟨rfl, hsz, hP, hK, hD, hN⟩ := hv
  have hx := B.exec
  have hb := B.bytes
  have hr := B.returns
  have hts : ∀ w ∈ T0, w.before _ s = true := fun w h => atoms_spec (ws := Cond.code yX1_goesNow cX1_goesNow 2 (some .boolean) :: T0) B.pre w (List.mem_cons_of_mem _ h)
  have hown : s.vm.findClass RX1 = some m.cls := findClass_of_methodNamed B.named
  have hlocks := B.notSynchronized
  have hS : va_S (fun q => q ∈ L) s.heap s.heap [] := va_S.rf
  have hfr : ∀ b, K b ∉ ([] : List Nat) → F b = F b := fun _ _ => rfl
  have hl := lv_entry ([.ref a0, .int x1]) (n := 2) (Nat.le_of_ble_eq_true rfl)
  rw [lg_entry_eq]
  generalize (lg_sl ([.ref a0, .int x1]) ++ List.replicate (2 - (lg_sl ([.ref a0, .int x1])).length) Slot.unset).toArray = ls at hl ⊢
  have hl : lv_has ls 2 [(0, .ref a0), (1, .int x1)] := hl
  refine s_gen hP hS (fun H locs hP hS => ?_)
  refine lv_aload_n hx hb dX1_goesNow_0 rfl (lv_at hl 0 rfl) ?_
  obtain ⟨z1, z3, z5, z7, z9, z11, z12, z14, z15, z16, z18, z19, o20, h2, h4, h6, h8, h10, h13, h17, -⟩ := s_op2 hI ha0
  refine th_get (D := (dC, dI)) (ci := 1) (v := .int z15) (C := RX1) (T := TX1) (N := 12) hx hb hts inX1 hown hK hP (hLK _ ha0 (by decide)) o20 rfl 8 (by decide) (hts _ T_645) (fun _ h9 => h9) rfl dX1_goesNow_1 ?_
  refine lv_iload_n hx hb dX1_goesNow_4 rfl (lv_at hl 1 rfl) ?_
  refine lv_ishr hx hb dX1_goesNow_5 ?_
  refine lv_topi (fun v21 ev21 => ?_)
  refine lv_iconst (v := 1) hx hb dX1_goesNow_6 (by decide) ?_
  refine lv_iand hx hb dX1_goesNow_7 ?_
  refine lv_topi (fun v22 ev22 => ?_)
  have qv22 : 0 ≤ v22.toInt ∧ v22.toInt ≤ 1 := by rw [ev22]; exact th_and 1 (by decide) (by decide)
  refine lv_if_eq (tgt := 15) hx hb dX1_goesNow_8 (by decide) (fun c23 => ?_) (fun c23 => ?_)
  · have c23 := (ax_eq (n := 0) (by decide)).mp c23
    have g_bit : (z15 >>> (x1 &&& 31) &&& 1) = 0 := by rw [← ev21, ← ev22]; exact Int32.toInt_inj.mp (by rw [c23]; decide)
    refine lv_iconst (v := 0) hx hb dX1_goesNow_15 (by decide) ?_
    exact W.zret (v := 0) (ty := .boolean) hx hb hr (by decide) (fun t ht hW => ⟨⟨0, F, rfl, ⟨(by decide), ⟨trivial, (fun vs z q q2 => by rw [o20] at q; cases q; cases q2; exact ⟨fun _ => g_bit, fun _ => rfl⟩)⟩, hI, hfr⟩, by rw [ht]; exact hP, va_K.moved hW.alike hK⟩, hS.F ht⟩) hS.2.2 dX1_goesNow_16
  · have c23 := mt (ax_eq (n := 0) (by decide)).mpr c23
    have g_bit : ¬ (z15 >>> (x1 &&& 31) &&& 1) = 0 := by intro q9; apply c23; rw [ev22, ev21, q9]; decide
    refine lv_iconst (v := 1) hx hb dX1_goesNow_11 (by decide) ?_
    refine lv_goto (tgt := 16) hx hb dX1_goesNow_12 (by decide) ?_
    exact W.zret (v := 1) (ty := .boolean) hx hb hr (by decide) (fun t ht hW => ⟨⟨1, F, rfl, ⟨(by decide), ⟨trivial, (fun vs z q q2 => by rw [o20] at q; cases q; cases q2; exact ⟨fun q9 => absurd q9 (by decide), fun q9 => absurd q9 g_bit⟩)⟩, hI, hfr⟩, by rw [ht]; exact hP, va_K.moved hW.alike hK⟩, hS.F ht⟩) hS.2.2 dX1_goesNow_16

set_option maxHeartbeats 4000000 in
set_option maxRecDepth 100000 in
theorem s_X1_segments (l : Launch) (dC : Nat → ClassId) (dI : Nat → Nat → Nat) (sz : Nat) {L : List Nat} {K : Nat → Nat} {cs : Nat → ClassId} (hLK : ∀ a {k : Nat}, K a = k → k ≠ 0 → a ∈ L) (D : Nat) (F : Nat → va_E) (a0 : Nat) (ha0 : K a0 = 2) (hI : s_I K cs D F) : Met l yX1_segments (Cond.code yX1_segments cX1_segments 3 (some .int) :: T0) ({ frames := 1, cells := 0, slots := 0, locals := 21 }) (va_Pc [.ref a0] (s_W dC dI sz L F [(cs 0, .int), (cs 1, .byte), (cs 2, .long), (cs 3, .object RX5), (cs 4, .object RX4), (cs 5, .array .int), (cs 6, .char), (cs 7, .boolean)])) (va_Qi (fun (r : Int32) (G : Nat → va_E) => (0 ≤ r.toInt ∧ r.toInt ≤ 63) ∧ True ∧ s_I K cs D G ∧ ∀ b, K b ∉ ([] : List Nat) → G b = F b) (fun (G : Nat → va_E) (t : State) => va_P (dC, dI) vwCl (va_pl L G) t.heap ∧ va_K (dC, dI) vwCl [(cs 0, .int), (cs 1, .byte), (cs 2, .long), (cs 3, .object RX5), (cs 4, .object RX4), (cs 5, .array .int), (cs 6, .char), (cs 7, .boolean)] t) (fun q => q ∈ L)) 0 0 (fun q => q ∈ L) := by
  refine Met.ofW (cc := cX1_segments) (maxL := 3) (ret := (some .int)) (by decide) rfl ?_
  intro p e s m args below meth c s₁ B hml hv
  obtain ⟨rfl, hsz, hP, hK, hD, hN⟩ := hv
  have hx := B.exec
  have hb := B.bytes
  have hr := B.returns
  have hts : ∀ w ∈ T0, w.before _ s = true := fun w h => atoms_spec (ws := Cond.code yX1_segments cX1_segments 3 (some .int) :: T0) B.pre w (List.mem_cons_of_mem _ h)
  have hown : s.vm.findClass RX1 = some m.cls := findClass_of_methodNamed B.named
  have hlocks := B.notSynchronized
  have hS : va_S (fun q => q ∈ L) s.heap s.heap [] := va_S.rf
  have hfr : ∀ b, K b ∉ ([] : List Nat) → F b = F b := fun _ _ => rfl
  have hl := lv_entry ([.ref a0]) (n := 3) (Nat.le_of_ble_eq_true rfl)
  rw [lg_entry_eq]
  generalize (lg_sl ([.ref a0]) ++ List.replicate (3 - (lg_sl ([.ref a0])).length) Slot.unset).toArray = ls at hl ⊢
  have hl : lv_has ls 3 [(0, .ref a0)] := hl
  refine s_gen hP hS (fun H locs hP hS => ?_)
  refine lv_iconst (v := 0) hx hb dX1_segments_0 (by decide) ?_
  refine lv_istore_n (lv' := [(1, .int 0), (0, .ref a0)]) hx hb dX1_segments_1 rfl hl (by decide) rfl (fun ls hl => ?_)
  refine lv_iconst (v := 0) hx hb dX1_segments_2 (by decide) ?_
  refine lv_istore_n (lv' := [(2, .int 0), (1, .int 0), (0, .ref a0)]) hx hb dX1_segments_3 rfl hl (by decide) rfl (fun ls hl => ?_)
  refine th_loop (fun n g H locs => ∃ (G : Nat → va_E) (ls : Array Slot) (w1 : Int32) (w2 : Int32), g = F0 m 4 ls [] ∧ lv_has ls 3 [(0, .ref a0), (1, .int w1), (2, .int w2)] ∧ s_I K cs D G ∧ va_P (dC, dI) vwCl (va_pl L G) H ∧ va_S (fun q => q ∈ L) s.heap H locs ∧ (∀ b, K b ∉ ([] : List Nat) → G b = F b) ∧ True ∧ (0 ≤ w2.toInt ∧ w2.toInt ≤ 8) ∧ n = (9 - w2.toInt).toNat) _ ⟨F, _, 0, 0, rfl, lv_sub hl [2, 1, 0] rfl, hI, hP, hS, hfr, trivial, (by decide), rfl⟩ (fun n ih4 g H locs hq => ?_)
  obtain ⟨F9, ls, w1, w2, rfl, hl, hI, hP, hS, hfr, h3, h4, hn⟩ := hq
  have hn_4 := hn
  obtain ⟨n_4, hn9_4⟩ : ∃ q, q = n := ⟨_, rfl⟩
  refine th_join (fun g H locs => ∃ (G : Nat → va_E) (ls : Array Slot) (w5 : Int32), g = F0 m 32 ls [] ∧ lv_has ls 3 [(0, .ref a0), (1, .int w5), (2, .int w2)] ∧ s_I K cs D G ∧ va_P (dC, dI) vwCl (va_pl L G) H ∧ va_S (fun q => q ∈ L) s.heap H locs ∧ (∀ b, K b ∉ ([] : List Nat) → G b = F b) ∧ True ∧ (0 ≤ w2.toInt ∧ w2.toInt ≤ 7)) (fun K32 => ?_) ?_
  · refine lv_iload_n hx hb dX1_segments_4 rfl (lv_at hl 2 rfl) ?_
    refine lv_bipush (v := 8) hx hb dX1_segments_5 (by decide) ?_
    refine lv_icmp_ge (tgt := 38) hx hb dX1_segments_7 (by decide) (fun c6 => ?_) (fun c6 => ?_)
    · have c6 := (ax_ge (n := 8) (by decide)).mp c6
      refine lv_iload_n hx hb dX1_segments_38 rfl (lv_at hl 1 rfl) ?_
      refine va_calli (va_runS (As := [.int w1]) (rest := []) ⟨hx, hb, hml, hown, hts⟩ (s_J6_bitCount_0f7a4 l dC dI H.size hLK D F9 w1 hI) ⟨callB_of 1 hts (ax_gT T_653) rfl rfl rfl (hts _ T_652) (hts _ T_651) (by decide +kernel) ⟨Nat.le_of_ble_eq_true rfl, Nat.le_of_ble_eq_true rfl⟩, hts _ T_654⟩ ⟨fun a U g mk q => ⟨q.1, s_pc (U := U) rfl rfl q.2⟩, fun U hU hW => ⟨rfl, s_pw hU hW hP hK hD hN⟩⟩ rfl rfl hl.1 rfl (lv_room (Nat.le_of_ble_eq_true rfl)) dX1_segments_39 ⟨Nat.zero_le _, Nat.zero_le _⟩) hS (fun q _ h => h) (fun q h => h) (fun r7 F8 t H1 locs ht hvm hw hB hz1 hk1 hS => ?_)
      obtain ⟨hP, hK1⟩ := hB
      rw [ht] at hP
      generalize H1 = H at hP hS ⊢
      clear hz1 hk1
      obtain ⟨h9, h10, hI, hfr1⟩ := hw
      have hfr : ∀ b, K b ∉ ([] : List Nat) → F8 b = F b := fun b hb9 => (hfr1 b (fun q => hb9 (s_sub (by decide) q))).trans (hfr b hb9)
      exact W.iret (v := r7) hx hb hr (fun t ht hW => ⟨⟨r7, F8, rfl, ⟨⟨by omega, by omega⟩, trivial, hI, hfr⟩, by rw [ht]; exact hP, va_K.moved hW.alike hK⟩, hS.F ht⟩) hS.2.2 dX1_segments_42
    · have c6 := mt (ax_ge (n := 8) (by decide)).mpr c6
      refine lv_aload_n hx hb dX1_segments_10 rfl (lv_at hl 0 rfl) ?_
      refine lv_iload_n hx hb dX1_segments_11 rfl (lv_at hl 2 rfl) ?_
      obtain ⟨z11, z13, z15, z17, z19, z21, z22, z24, z25, z26, z28, z29, o30, h12, h14, h16, h18, h20, h23, h27, -⟩ := s_op2 hI ha0
      refine va_calli (va_runV (As := [.int w2]) (rest := []) ⟨hx, hb, hml, hown, hts⟩ (s_X1_goesNow l dC dI H.size hLK D F9 a0 w2 ha0 hI) (cwV 1 hts (ax_gV T_637 T_639 T_640 T_137 T_638) rfl rfl rfl (by decide +kernel) ⟨Nat.le_of_ble_eq_true rfl, Nat.le_of_ble_eq_true rfl⟩) ⟨fun a U g mk q => ⟨q.1, s_pc (U := U) rfl rfl q.2⟩, s_recv hK hP (hLK _ ha0 (by decide)) (ci := 1) rfl o30, fun U hU hW => ⟨rfl, s_pw hU hW hP hK hD hN⟩⟩ rfl rfl hl.1 rfl (lv_room (Nat.le_of_ble_eq_true rfl)) dX1_segments_12 ⟨Nat.zero_le _, Nat.zero_le _⟩) hS (fun q _ h => h) (fun q h => h) (fun r31 F32 t H1 locs ht hvm hw hB hz1 hk1 hS => ?_)
      obtain ⟨hP, hK1⟩ := hB
      rw [ht] at hP
      generalize H1 = H at hP hS ⊢
      clear hz1 hk1
      obtain ⟨h33, h34, hI, hfr1⟩ := hw
      have o35 : F32 a0 = .inr (1, [.ref z11, .ref z13, .ref z15, va_rf z17, va_rf z19, va_rf z21, .int z22, .int z24, .int z25, .int z26, .int z28, .long z29]) := (hfr1 _ (by rw [ha0]; decide)).trans o30
      have hfr : ∀ b, K b ∉ ([] : List Nat) → F32 b = F b := fun b hb9 => (hfr1 b (fun q => hb9 (s_sub (by decide) q))).trans (hfr b hb9)
      obtain ⟨h34, h36⟩ := h34
      have h36 : (∀ vs z, F9 a0 = .inr (1, vs) → vs[8]? = some (.int z) → (r31 = 0 ↔ (z >>> (w2 &&& 31) &&& 1) = 0)) := h36
      refine lv_if_eq (tgt := 32) hx hb dX1_segments_15 (by decide) (fun c37 => ?_) (fun c37 => ?_)
      · have c37 := (ax_eq (n := 0) (by decide)).mp c37
        exact K32 _ _ _ ⟨F32, _, w1, rfl, lv_sub hl [0, 1, 2] rfl, hI, hP, hS, hfr, trivial, ⟨by omega, by omega⟩⟩
      · have c37 := mt (ax_eq (n := 0) (by decide)).mpr c37
        refine lv_iload_n hx hb dX1_segments_18 rfl (lv_at hl 1 rfl) ?_
        refine lv_iconst (v := 1) hx hb dX1_segments_19 (by decide) ?_
        refine lv_aload_n hx hb dX1_segments_20 rfl (lv_at hl 0 rfl) ?_
        refine th_get (D := (dC, dI)) (ci := 1) (v := .ref z11) (C := RX1) (T := TX1) (N := 12) hx hb hts inX1 hown hK hP (hLK _ ha0 (by decide)) o35 rfl 0 (by decide) (hts _ T_119) (fun _ h9 => h9) rfl dX1_segments_21 ?_
        refine lv_iload_n hx hb dX1_segments_24 rfl (lv_at hl 2 rfl) ?_
        obtain ⟨f38, o39, h40⟩ := s_op34 hI h12
        refine th_iald hx hb hK hP (hLK _ h12 (by decide)) 0 o39 rfl (th_in ⟨by omega, by omega⟩) dX1_segments_25 ?_
        refine lv_topi (fun v41 ev41 => ?_)
        have qv41 : 0 ≤ v41.toInt ∧ v41.toInt ≤ 63 := by rw [ev41]; exact h40 _ (th_cl ⟨by omega, by omega⟩)
        refine lv_bipush (v := 8) hx hb dX1_segments_26 (by decide) ?_
        refine lv_idiv hx hb dX1_segments_28 (by decide) ?_
        refine lv_topi (fun v42 ev42 => ?_)
        have qv42 : v42.toInt = v41.toInt / 8 := by rw [ev42]; exact th_div rfl (by decide) (by omega) (by decide)
        refine lv_ishl hx hb dX1_segments_29 ?_
        refine lv_topi (fun v43 ev43 => ?_)
        refine lv_ior hx hb dX1_segments_30 ?_
        refine lv_topi (fun v44 ev44 => ?_)
        refine lv_istore_n (lv' := [(1, .int v44), (0, .ref a0), (2, .int w2)]) hx hb dX1_segments_31 rfl hl (by decide) rfl (fun ls hl => ?_)
        exact K32 _ _ _ ⟨F32, _, v44, rfl, lv_sub hl [1, 0, 2] rfl, hI, hP, hS, hfr, trivial, ⟨by omega, by omega⟩⟩
  · intro g H locs hq
    obtain ⟨F9, ls, w5, rfl, hl, hI, hP, hS, hfr, h45, h46⟩ := hq
    obtain ⟨v47, ev47⟩ : ∃ y : Int32, w2 + 1 = y := ⟨_, rfl⟩
    have qv47 : v47.toInt = w2.toInt + 1 := by rw [← ev47]; exact th_add rfl (by decide) ⟨by omega, by omega⟩
    refine lv_iinc (v := v47) (lv' := [(2, .int v47), (0, .ref a0), (1, .int w5)]) hx hb dX1_segments_32 hl (k := 2) rfl ev47 (by decide) rfl (fun ls hl => ?_)
    refine lv_goto (tgt := 4) hx hb dX1_segments_35 (by decide) ?_
    exact ih4 _ _ _ _ (by omega) ⟨F9, _, w5, v47, rfl, lv_sub hl [1, 2, 0] rfl, hI, hP, hS, hfr, trivial, ⟨by omega, by omega⟩, rfl⟩

set_option maxHeartbeats 4000000 in
set_option maxRecDepth 100000 in
theorem s_X1_pickWarp (l : Launch) (dC : Nat → ClassId) (dI : Nat → Nat → Nat) (sz : Nat) {L : List Nat} {K : Nat → Nat} {cs : Nat → ClassId} (hLK : ∀ a {k : Nat}, K a = k → k ≠ 0 → a ∈ L) (D : Nat) (F : Nat → va_E) (a0 : Nat) (ha0 : K a0 = 2) (hI : s_I K cs D F) (hR : s_rd1 K F a0) : Met l yX1_pickWarp (Cond.code yX1_pickWarp cX1_pickWarp 4 (some .boolean) :: T0) ({ frames := 2, cells := 0, slots := 0, locals := 43 }) (va_Pc [.ref a0] (s_W dC dI sz L F [(cs 0, .int), (cs 1, .byte), (cs 2, .long), (cs 3, .object RX5), (cs 4, .object RX4), (cs 5, .array .int), (cs 6, .char), (cs 7, .boolean)])) (va_Qi (fun (r : Int32) (G : Nat → va_E) => (0 ≤ r.toInt ∧ r.toInt ≤ 1) ∧ True ∧ s_I K cs D G ∧ (∀ b, K b ∉ [2] → G b = F b) ∧ (¬ r = 0 → s_rd2 K G a0)) (fun (G : Nat → va_E) (t : State) => va_P (dC, dI) vwCl (va_pl L G) t.heap ∧ va_K (dC, dI) vwCl [(cs 0, .int), (cs 1, .byte), (cs 2, .long), (cs 3, .object RX5), (cs 4, .object RX4), (cs 5, .array .int), (cs 6, .char), (cs 7, .boolean)] t) (fun q => q ∈ L)) 0 0 (fun q => q ∈ L) := by
  refine Met.ofW (cc := cX1_pickWarp) (maxL := 4) (ret := (some .boolean)) (by decide) rfl ?_
  intro p e s m args below meth c s₁ B hml hv
  obtain ⟨rfl, hsz, hP, hK, hD, hN⟩ := hv
  have hx := B.exec
  have hb := B.bytes
  have hr := B.returns
  have hts : ∀ w ∈ T0, w.before _ s = true := fun w h => atoms_spec (ws := Cond.code yX1_pickWarp cX1_pickWarp 4 (some .boolean) :: T0) B.pre w (List.mem_cons_of_mem _ h)
  have hown : s.vm.findClass RX1 = some m.cls := findClass_of_methodNamed B.named
  have hlocks := B.notSynchronized
  have hS : va_S (fun q => q ∈ L) s.heap s.heap [] := va_S.rf
  have hfr : ∀ b, K b ∉ [2] → F b = F b := fun _ _ => rfl
  have hl := lv_entry ([.ref a0]) (n := 4) (Nat.le_of_ble_eq_true rfl)
  rw [lg_entry_eq]
  generalize (lg_sl ([.ref a0]) ++ List.replicate (4 - (lg_sl ([.ref a0])).length) Slot.unset).toArray = ls at hl ⊢
  have hl : lv_has ls 4 [(0, .ref a0)] := hl
  refine s_gen hP hS (fun H locs hP hS => ?_)
  obtain ⟨z1, z3, z5, z7, z9, z11, z12, z14, z15, z16, z18, z19, o20, h2, h4, h6, h8, h10, h13, h17, -⟩ := hR
  refine th_join (fun g H locs => ∃ (G : Nat → va_E) (ls : Array Slot) (w21 : Int32), g = F0 m 24 ls [.int w21] ∧ lv_has ls 4 [(0, .ref a0)] ∧ s_I K cs D G ∧ va_P (dC, dI) vwCl (va_pl L G) H ∧ va_S (fun q => q ∈ L) s.heap H locs ∧ (∀ b, K b ∉ [2] → G b = F b) ∧ (0 ≤ w21.toInt ∧ w21.toInt ≤ 4) ∧ s_rd1 K G a0) (fun K24 => ?_) ?_
  · refine lv_aload_n hx hb dX1_pickWarp_0 rfl (lv_at hl 0 rfl) ?_
    refine th_get (D := (dC, dI)) (ci := 1) (v := .ref z7) (C := RX1) (T := TX1) (N := 12) hx hb hts inX1 hown hK hP (hLK _ ha0 (by decide)) o20 rfl 3 (by decide) (hts _ T_611) (fun _ h9 => h9) rfl dX1_pickWarp_1 ?_
    obtain ⟨z22, z24, z26, z28, z30, z32, z34, z36, z38, z40, z42, z44, z45, z47, z48, o50, h23, h25, h27, h29, h31, h33, h35, h37, h39, h41, h43, h46, h49, -⟩ := s_op5 hI h8
    refine th_getN (D := (dC, dI)) (ci := 4) (v := .int z40) (C := RX4) (T := TX4) (N := 15) hx hb hts inX4 hown hK hP (hLK _ h8 (by decide)) o50 rfl 9 (by decide) (va_Nw.use rfl (ax_n35 hN)) (fun _ h9 => h9) rfl dX1_pickWarp_4 ?_
    refine lv_iconst (v := 1) hx hb dX1_pickWarp_7 (by decide) ?_
    refine lv_icmp_ne (tgt := 23) hx hb dX1_pickWarp_8 (by decide) (fun c51 => ?_) (fun c51 => ?_)
    · have c51 := mt (ax_eq (n := 1) (by decide)).mpr c51
      refine lv_iconst (v := 0) hx hb dX1_pickWarp_23 (by decide) ?_
      exact K24 _ _ _ ⟨F, _, 0, rfl, lv_sub hl [0] rfl, hI, hP, hS, hfr, (by decide), ⟨z1, z3, z5, z7, z9, z11, z12, z14, z15, z16, z18, z19, o20, h2, h4, h6, h8, h10, ⟨by omega, by omega⟩, ⟨by omega, by omega⟩, trivial⟩⟩
    · have c51 := (ax_eq (n := 1) (by decide)).mp c51
      refine lv_aload_n hx hb dX1_pickWarp_11 rfl (lv_at hl 0 rfl) ?_
      refine th_get (D := (dC, dI)) (ci := 1) (v := .ref z7) (C := RX1) (T := TX1) (N := 12) hx hb hts inX1 hown hK hP (hLK _ ha0 (by decide)) o20 rfl 3 (by decide) (hts _ T_611) (fun _ h9 => h9) rfl dX1_pickWarp_12 ?_
      refine th_getN (D := (dC, dI)) (ci := 4) (v := .int z48) (C := RX4) (T := TX4) (N := 15) hx hb hts inX4 hown hK hP (hLK _ h8 (by decide)) o50 rfl 14 (by decide) (va_Nw.use rfl (ax_n27 hN)) (fun _ h9 => h9) rfl dX1_pickWarp_15 ?_
      refine lv_iconst (v := 1) hx hb dX1_pickWarp_18 (by decide) ?_
      refine lv_iadd hx hb dX1_pickWarp_19 ?_
      refine lv_topi (fun v52 ev52 => ?_)
      have qv52 : v52.toInt = z48.toInt + 1 := by rw [ev52]; exact th_add rfl (by decide) ⟨by omega, by omega⟩
      refine lv_goto (tgt := 24) hx hb dX1_pickWarp_20 (by decide) ?_
      exact K24 _ _ _ ⟨F, _, v52, rfl, lv_sub hl [0] rfl, hI, hP, hS, hfr, ⟨by omega, by omega⟩, ⟨z1, z3, z5, z7, z9, z11, z12, z14, z15, z16, z18, z19, o20, h2, h4, h6, h8, h10, ⟨by omega, by omega⟩, ⟨by omega, by omega⟩, trivial⟩⟩
  · intro g H locs hq
    obtain ⟨F9, ls, w21, rfl, hl, hI, hP, hS, hfr, h53, h54⟩ := hq
    obtain ⟨z55, z57, z59, z61, z63, z65, z66, z68, z69, z70, z72, z73, o74, h56, h58, h60, h62, h64, h67, h71, -⟩ := h54
    refine lv_istore_n (lv' := [(1, .int w21), (0, .ref a0)]) hx hb dX1_pickWarp_24 rfl hl (by decide) rfl (fun ls hl => ?_)
    refine lv_iconst (v := 0) hx hb dX1_pickWarp_25 (by decide) ?_
    refine lv_istore_n (lv' := [(2, .int 0), (1, .int w21), (0, .ref a0)]) hx hb dX1_pickWarp_26 rfl hl (by decide) rfl (fun ls hl => ?_)
    refine th_loop (fun n g H locs => ∃ (G : Nat → va_E) (ls : Array Slot) (w75 : Int32), g = F0 m 27 ls [] ∧ lv_has ls 4 [(0, .ref a0), (1, .int w21), (2, .int w75)] ∧ s_I K cs D G ∧ va_P (dC, dI) vwCl (va_pl L G) H ∧ va_S (fun q => q ∈ L) s.heap H locs ∧ (∀ b, K b ∉ [2] → G b = F b) ∧ (0 ≤ w75.toInt ∧ w75.toInt ≤ 4) ∧ (0 ≤ w21.toInt ∧ w21.toInt ≤ 4) ∧ s_rd1 K G a0 ∧ n = (5 - w75.toInt).toNat) _ ⟨F9, _, 0, rfl, lv_sub hl [2, 1, 0] rfl, hI, hP, hS, hfr, (by decide), ⟨by omega, by omega⟩, ⟨z55, z57, z59, z61, z63, z65, z66, z68, z69, z70, z72, z73, o74, h56, h58, h60, h62, h64, ⟨by omega, by omega⟩, ⟨by omega, by omega⟩, trivial⟩, rfl⟩ (fun n ih27 g H locs hq => ?_)
    obtain ⟨F9, ls, w75, rfl, hl, hI, hP, hS, hfr, h76, h77, h78, hn⟩ := hq
    obtain ⟨z79, z81, z83, z85, z87, z89, z90, z92, z93, z94, z96, z97, o98, h80, h82, h84, h86, h88, h91, h95, -⟩ := h78
    have hn_27 := hn
    obtain ⟨n_27, hn9_27⟩ : ∃ q, q = n := ⟨_, rfl⟩
    refine lv_iload_n hx hb dX1_pickWarp_27 rfl (lv_at hl 2 rfl) ?_
    refine lv_aload_n hx hb dX1_pickWarp_28 rfl (lv_at hl 0 rfl) ?_
    refine th_get (D := (dC, dI)) (ci := 1) (v := .ref z85) (C := RX1) (T := TX1) (N := 12) hx hb hts inX1 hown hK hP (hLK _ ha0 (by decide)) o98 rfl 3 (by decide) (hts _ T_611) (fun _ h9 => h9) rfl dX1_pickWarp_29 ?_
    obtain ⟨z99, z101, z103, z105, z107, z109, z111, z113, z115, z117, z119, z121, z122, z124, z125, o127, h100, h102, h104, h106, h108, h110, h112, h114, h116, h118, h120, h123, h126, -⟩ := s_op5 hI h86
    refine th_getN (D := (dC, dI)) (ci := 4) (v := .int z113) (C := RX4) (T := TX4) (N := 15) hx hb hts inX4 hown hK hP (hLK _ h86 (by decide)) o127 rfl 7 (by decide) (va_Nw.use rfl (ax_n36 hN)) (fun _ h9 => h9) rfl dX1_pickWarp_32 ?_
    refine lv_icmp_ge (tgt := 87) hx hb dX1_pickWarp_35 (by decide) (fun c128 => ?_) (fun c128 => ?_)
    · have c128 := Int32.le_iff_toInt_le.mp c128
      refine lv_iconst (v := 0) hx hb dX1_pickWarp_87 (by decide) ?_
      exact W.zret (v := 0) (ty := .boolean) hx hb hr (by decide) (fun t ht hW => ⟨⟨0, F9, rfl, ⟨(by decide), trivial, hI, hfr, (fun q => absurd (by decide) q)⟩, by rw [ht]; exact hP, va_K.moved hW.alike hK⟩, hS.F ht⟩) hS.2.2 dX1_pickWarp_88
    · have c128 := mt Int32.le_iff_toInt_le.mpr c128
      refine lv_iload_n hx hb dX1_pickWarp_38 rfl (lv_at hl 1 rfl) ?_
      refine lv_iload_n hx hb dX1_pickWarp_39 rfl (lv_at hl 2 rfl) ?_
      refine lv_iadd hx hb dX1_pickWarp_40 ?_
      refine lv_topi (fun v129 ev129 => ?_)
      have qv129 : v129.toInt = w21.toInt + w75.toInt := by rw [ev129]; exact th_add rfl rfl ⟨by omega, by omega⟩
      refine lv_aload_n hx hb dX1_pickWarp_41 rfl (lv_at hl 0 rfl) ?_
      refine th_get (D := (dC, dI)) (ci := 1) (v := .ref z85) (C := RX1) (T := TX1) (N := 12) hx hb hts inX1 hown hK hP (hLK _ ha0 (by decide)) o98 rfl 3 (by decide) (hts _ T_611) (fun _ h9 => h9) rfl dX1_pickWarp_42 ?_
      refine th_getN (D := (dC, dI)) (ci := 4) (v := .int z113) (C := RX4) (T := TX4) (N := 15) hx hb hts inX4 hown hK hP (hLK _ h86 (by decide)) o127 rfl 7 (by decide) (va_Nw.use rfl (ax_n36 hN)) (fun _ h9 => h9) rfl dX1_pickWarp_45 ?_
      refine lv_irem hx hb dX1_pickWarp_48 (fun q => by have q2 := Int32.toInt_inj.mpr q; have q3 : (0 : Int32).toInt = 0 := (by decide); omega) ?_
      refine lv_topi (fun v130 ev130 => ?_)
      have qv130 : 0 ≤ v130.toInt ∧ v130.toInt < z113.toInt := by rw [ev130]; exact th_remV (by omega) (by omega)
      refine lv_istore_n (lv' := [(3, .int v130), (0, .ref a0), (1, .int w21), (2, .int w75)]) hx hb dX1_pickWarp_49 rfl hl (by decide) rfl (fun ls hl => ?_)
      refine lv_aload_n hx hb dX1_pickWarp_50 rfl (lv_at hl 1 rfl) ?_
      refine th_get (D := (dC, dI)) (ci := 1) (v := .ref z85) (C := RX1) (T := TX1) (N := 12) hx hb hts inX1 hown hK hP (hLK _ ha0 (by decide)) o98 rfl 3 (by decide) (hts _ T_611) (fun _ h9 => h9) rfl dX1_pickWarp_51 ?_
      refine lv_iload_n hx hb dX1_pickWarp_54 rfl (lv_at hl 0 rfl) ?_
      refine va_calli (va_runV (As := [.int v130]) (rest := []) ⟨hx, hb, hml, hown, hts⟩ (s_X4_canGo l dC dI H.size hLK D F9 z85 v130 h86 (⟨by omega, by omega⟩) hI) (cwV 1 hts (ax_gV T_697 T_699 T_700 T_142 T_698) rfl rfl rfl (by decide +kernel) ⟨Nat.le_of_ble_eq_true rfl, Nat.le_of_ble_eq_true rfl⟩) ⟨fun a U g mk q => ⟨q.1, s_pc (U := U) rfl rfl q.2⟩, s_recv hK hP (hLK _ h86 (by decide)) (ci := 4) rfl o127, fun U hU hW => ⟨rfl, s_pw hU hW hP hK hD hN⟩⟩ rfl rfl hl.1 rfl (lv_room (Nat.le_of_ble_eq_true rfl)) dX1_pickWarp_55 ⟨Nat.zero_le _, Nat.zero_le _⟩) hS (fun q _ h => h) (fun q h => h) (fun r131 F132 t H1 locs ht hvm hw hB hz1 hk1 hS => ?_)
      obtain ⟨hP, hK1⟩ := hB
      rw [ht] at hP
      generalize H1 = H at hP hS ⊢
      clear hz1 hk1
      obtain ⟨h133, h134, hI, hfr1⟩ := hw
      have o135 : F132 a0 = .inr (1, [.ref z79, .ref z81, .ref z83, .ref z85, va_rf z87, va_rf z89, .int z90, .int z92, .int z93, .int z94, .int z96, .long z97]) := (hfr1 _ (by rw [ha0]; decide)).trans o98
      have o136 : F132 z85 = .inr (4, [.ref z99, .ref z101, .ref z103, .ref z105, .ref z107, .ref z109, .ref z111, .int z113, .int z115, .int z117, .int z119, .int z121, .int z122, .int z124, .int z125]) := (hfr1 _ (by rw [h86]; decide)).trans o127
      have hfr : ∀ b, K b ∉ [2] → F132 b = F b := fun b hb9 => (hfr1 b (fun q => hb9 (s_sub (by decide) q))).trans (hfr b hb9)
      refine lv_if_eq (tgt := 81) hx hb dX1_pickWarp_58 (by decide) (fun c137 => ?_) (fun c137 => ?_)
      · have c137 := (ax_eq (n := 0) (by decide)).mp c137
        obtain ⟨v138, ev138⟩ : ∃ y : Int32, w75 + 1 = y := ⟨_, rfl⟩
        have qv138 : v138.toInt = w75.toInt + 1 := by rw [← ev138]; exact th_add rfl (by decide) ⟨by omega, by omega⟩
        refine lv_iinc (v := v138) (lv' := [(2, .int v138), (3, .int v130), (0, .ref a0), (1, .int w21)]) hx hb dX1_pickWarp_81 hl (k := 3) rfl ev138 (by decide) rfl (fun ls hl => ?_)
        refine lv_goto (tgt := 27) hx hb dX1_pickWarp_84 (by decide) ?_
        exact ih27 _ _ _ _ (by omega) ⟨F132, _, v138, rfl, lv_sub hl [2, 3, 0] rfl, hI, hP, hS, hfr, ⟨by omega, by omega⟩, ⟨by omega, by omega⟩, ⟨z79, z81, z83, z85, z87, z89, z90, z92, z93, z94, z96, z97, o135, h80, h82, h84, h86, h88, ⟨by omega, by omega⟩, ⟨by omega, by omega⟩, trivial⟩, rfl⟩
      · have c137 := mt (ax_eq (n := 0) (by decide)).mpr c137
        refine lv_aload_n hx hb dX1_pickWarp_61 rfl (lv_at hl 1 rfl) ?_
        refine lv_iload_n hx hb dX1_pickWarp_62 rfl (lv_at hl 0 rfl) ?_
        refine th_put (D := (dC, dI)) (ci := 1) (v := .int v130) (ty := .int) (C := RX1) (T := TX1) (N := 12) hx hb hts inX1 tyX1 tyX1_ok nmX1 hown hK hP hD hS (hLK _ ha0 (by decide)) o135 rfl 6 (by decide) (hts _ T_618) (fun _ h9 => h9) rfl (by decide +kernel) rfl rfl (Nat.le_of_ble_eq_true rfl) dX1_pickWarp_63 (fun H locs hP hS => ?_)
        have hP : va_P (dC, dI) vwCl (va_pl L (va_up F132 a0 (.inr (1, [.ref z79, .ref z81, .ref z83, .ref z85, va_rf z87, va_rf z89, .int v130, .int z92, .int z93, .int z94, .int z96, .long z97])))) H := hP
        obtain ⟨F139, hF140⟩ : ∃ G : Nat → va_E, G = va_up F132 a0 (.inr (1, [.ref z79, .ref z81, .ref z83, .ref z85, va_rf z87, va_rf z89, .int v130, .int z92, .int z93, .int z94, .int z96, .long z97])) := ⟨_, rfl⟩
        rw [← hF140] at hP
        have hI : s_I K cs D F139 := by rw [hF140]; exact s_cl2 hI ha0 ⟨z79, z81, z83, some z85, z87, z89, v130, z92, z93, z94, z96, z97, rfl, h80, h82, h84, (fun q e => by cases e; exact h86), h88, ⟨by omega, by omega⟩, ⟨by omega, by omega⟩, trivial⟩
        have hfr : ∀ b, K b ∉ [2] → F139 b = F b := by rw [hF140]; exact s_fr hfr ha0 (by decide)
        have o141 : F139 z85 = .inr (4, [.ref z99, .ref z101, .ref z103, .ref z105, .ref z107, .ref z109, .ref z111, .int z113, .int z115, .int z117, .int z119, .int z121, .int z122, .int z124, .int z125]) := by rw [hF140]; exact th_ne (th_kd h86 ha0 (by decide)) o136
        have o142 : F139 a0 = .inr (1, [.ref z79, .ref z81, .ref z83, .ref z85, va_rf z87, va_rf z89, .int v130, .int z92, .int z93, .int z94, .int z96, .long z97]) := by rw [hF140]; exact th_up
        refine lv_aload_n hx hb dX1_pickWarp_66 rfl (lv_at hl 1 rfl) ?_
        refine lv_aload_n hx hb dX1_pickWarp_67 rfl (lv_at hl 1 rfl) ?_
        refine th_get (D := (dC, dI)) (ci := 1) (v := .ref z85) (C := RX1) (T := TX1) (N := 12) hx hb hts inX1 hown hK hP (hLK _ ha0 (by decide)) o142 rfl 3 (by decide) (hts _ T_611) (fun _ h9 => h9) rfl dX1_pickWarp_68 ?_
        refine th_getN (D := (dC, dI)) (ci := 4) (v := .ref z99) (C := RX4) (T := TX4) (N := 15) hx hb hts inX4 hown hK hP (hLK _ h86 (by decide)) o141 rfl 0 (by decide) (va_Nw.use rfl (ax_n37 hN)) (fun _ h9 => h9) rfl dX1_pickWarp_71 ?_
        refine lv_iload_n hx hb dX1_pickWarp_74 rfl (lv_at hl 0 rfl) ?_
        obtain ⟨f143, o144, h145⟩ := s_op26 hI h100
        obtain ⟨z146, o148, h147⟩ := h145 (v130 : Int32).toNatClampNeg (th_cl ⟨by omega, by omega⟩)
        refine th_aald hx hb hK hP (hLK _ h100 (by decide)) 3 o144 rfl (th_in ⟨by omega, by omega⟩) o148 dX1_pickWarp_75 ?_
        refine th_put (D := (dC, dI)) (ci := 1) (v := .ref z146) (ty := .object "LaneWarps$Warp") (C := RX1) (T := TX1) (N := 12) hx hb hts inX1 tyX1 tyX1_ok nmX1 hown hK hP hD hS (hLK _ ha0 (by decide)) o142 rfl 4 (by decide) (hts _ T_612) (fun _ h9 => h9) rfl (by decide +kernel) rfl rfl (Nat.le_of_ble_eq_true rfl) dX1_pickWarp_76 (fun H locs hP hS => ?_)
        have hP : va_P (dC, dI) vwCl (va_pl L (va_up F139 a0 (.inr (1, [.ref z79, .ref z81, .ref z83, .ref z85, .ref z146, va_rf z89, .int v130, .int z92, .int z93, .int z94, .int z96, .long z97])))) H := hP
        obtain ⟨F149, hF150⟩ : ∃ G : Nat → va_E, G = va_up F139 a0 (.inr (1, [.ref z79, .ref z81, .ref z83, .ref z85, .ref z146, va_rf z89, .int v130, .int z92, .int z93, .int z94, .int z96, .long z97])) := ⟨_, rfl⟩
        rw [← hF150] at hP
        have hI : s_I K cs D F149 := by rw [hF150]; exact s_cl2 hI ha0 ⟨z79, z81, z83, some z85, some z146, z89, v130, z92, z93, z94, z96, z97, rfl, h80, h82, h84, (fun q e => by cases e; exact h86), (fun q e => by cases e; exact h147), ⟨by omega, by omega⟩, ⟨by omega, by omega⟩, trivial⟩
        have hfr : ∀ b, K b ∉ [2] → F149 b = F b := by rw [hF150]; exact s_fr hfr ha0 (by decide)
        have o151 : F149 z85 = .inr (4, [.ref z99, .ref z101, .ref z103, .ref z105, .ref z107, .ref z109, .ref z111, .int z113, .int z115, .int z117, .int z119, .int z121, .int z122, .int z124, .int z125]) := by rw [hF150]; exact th_ne (th_kd h86 ha0 (by decide)) o141
        have o152 : F149 a0 = .inr (1, [.ref z79, .ref z81, .ref z83, .ref z85, .ref z146, va_rf z89, .int v130, .int z92, .int z93, .int z94, .int z96, .long z97]) := by rw [hF150]; exact th_up
        refine lv_iconst (v := 1) hx hb dX1_pickWarp_79 (by decide) ?_
        exact W.zret (v := 1) (ty := .boolean) hx hb hr (by decide) (fun t ht hW => ⟨⟨1, F149, rfl, ⟨(by decide), trivial, hI, hfr, (fun _ => ⟨z79, z81, z83, z85, z146, z89, v130, z92, z93, z94, z96, z97, o152, h80, h82, h84, h86, h147, ⟨by omega, by omega⟩, ⟨by omega, by omega⟩, trivial⟩)⟩, by rw [ht]; exact hP, va_K.moved hW.alike hK⟩, hS.F ht⟩) hS.2.2 dX1_pickWarp_80

set_option maxHeartbeats 4000000 in
set_option maxRecDepth 100000 in
theorem s_X1_pickLanes (l : Launch) (dC : Nat → ClassId) (dI : Nat → Nat → Nat) (sz : Nat) {L : List Nat} {K : Nat → Nat} {cs : Nat → ClassId} (hLK : ∀ a {k : Nat}, K a = k → k ≠ 0 → a ∈ L) (D : Nat) (F : Nat → va_E) (a0 : Nat) (ha0 : K a0 = 2) (hI : s_I K cs D F) (hR : s_rd2 K F a0) : Met l yX1_pickLanes (Cond.code yX1_pickLanes cX1_pickLanes 3 none :: T0) ({ frames := 1, cells := 0, slots := 0, locals := 22 }) (va_Pc [.ref a0] (s_W dC dI sz L F [(cs 0, .int), (cs 1, .byte), (cs 2, .long), (cs 3, .object RX5), (cs 4, .object RX4), (cs 5, .array .int), (cs 6, .char), (cs 7, .boolean)])) (va_Qv (fun (G : Nat → va_E) => True ∧ True ∧ s_I K cs D G ∧ (∀ b, K b ∉ [2] → G b = F b) ∧ s_rd2 K G a0) (fun (G : Nat → va_E) (t : State) => va_P (dC, dI) vwCl (va_pl L G) t.heap ∧ va_K (dC, dI) vwCl [(cs 0, .int), (cs 1, .byte), (cs 2, .long), (cs 3, .object RX5), (cs 4, .object RX4), (cs 5, .array .int), (cs 6, .char), (cs 7, .boolean)] t) (fun q => q ∈ L)) 0 0 (fun q => q ∈ L) := by
  refine Met.ofW (cc := cX1_pickLanes) (maxL := 3) (ret := none) (by decide) rfl ?_
  intro p e s m args below meth c s₁ B hml hv
  obtain ⟨rfl, hsz, hP, hK, hD, hN⟩ := hv
  have hx := B.exec
  have hb := B.bytes
  have hr := B.returns
  have hts : ∀ w ∈ T0, w.before _ s = true := fun w h => atoms_spec (ws := Cond.code yX1_pickLanes cX1_pickLanes 3 none :: T0) B.pre w (List.mem_cons_of_mem _ h)
  have hown : s.vm.findClass RX1 = some m.cls := findClass_of_methodNamed B.named
  have hlocks := B.notSynchronized
  have hS : va_S (fun q => q ∈ L) s.heap s.heap [] := va_S.rf
  have hfr : ∀ b, K b ∉ [2] → F b = F b := fun _ _ => rfl
  have hl := lv_entry ([.ref a0]) (n := 3) (Nat.le_of_ble_eq_true rfl)
  rw [lg_entry_eq]
  generalize (lg_sl ([.ref a0]) ++ List.replicate (3 - (lg_sl ([.ref a0])).length) Slot.unset).toArray = ls at hl ⊢
  have hl : lv_has ls 3 [(0, .ref a0)] := hl
  refine s_gen hP hS (fun H locs hP hS => ?_)
  obtain ⟨z1, z3, z5, z7, z9, z11, z12, z14, z15, z16, z18, z19, o20, h2, h4, h6, h8, h10, h13, h17, -⟩ := hR
  refine th_join (fun g H locs => ∃ (G : Nat → va_E) (ls : Array Slot) (w21 : Int32), g = F0 m 105 ls [] ∧ lv_has ls 3 [(0, .ref a0), (1, .int w21)] ∧ s_I K cs D G ∧ va_P (dC, dI) vwCl (va_pl L G) H ∧ va_S (fun q => q ∈ L) s.heap H locs ∧ (∀ b, K b ∉ [2] → G b = F b) ∧ True ∧ s_rd2 K G a0) (fun K105 => ?_) ?_
  · refine lv_aload_n hx hb dX1_pickLanes_0 rfl (lv_at hl 0 rfl) ?_
    refine th_get (D := (dC, dI)) (ci := 1) (v := .ref z9) (C := RX1) (T := TX1) (N := 12) hx hb hts inX1 hown hK hP (hLK _ ha0 (by decide)) o20 rfl 4 (by decide) (hts _ T_612) (fun _ h9 => h9) rfl dX1_pickLanes_1 ?_
    refine lv_aload_n hx hb dX1_pickLanes_4 rfl (lv_at hl 0 rfl) ?_
    refine th_get (D := (dC, dI)) (ci := 1) (v := .ref z7) (C := RX1) (T := TX1) (N := 12) hx hb hts inX1 hown hK hP (hLK _ ha0 (by decide)) o20 rfl 3 (by decide) (hts _ T_611) (fun _ h9 => h9) rfl dX1_pickLanes_5 ?_
    obtain ⟨z22, z24, z26, z28, z30, z32, z34, z36, z38, z40, z42, z44, z45, z47, z48, o50, h23, h25, h27, h29, h31, h33, h35, h37, h39, h41, h43, h46, h49, -⟩ := s_op5 hI h8
    refine th_getN (D := (dC, dI)) (ci := 4) (v := .int z38) (C := RX4) (T := TX4) (N := 15) hx hb hts inX4 hown hK hP (hLK _ h8 (by decide)) o50 rfl 8 (by decide) (va_Nw.use rfl (ax_n31 hN)) (fun _ h9 => h9) rfl dX1_pickLanes_8 ?_
    obtain ⟨z51, z53, z55, z57, z59, z61, z63, z64, z65, z66, z67, o69, h52, h54, h56, h58, h60, h62, h68, -⟩ := s_op6 hI h10
    refine va_calli (va_runV (As := [.int z38]) (rest := []) ⟨hx, hb, hml, hown, hts⟩ (s_X5_movable l dC dI H.size hLK D F z9 z38 h10 hI) (cwV 1 hts (ax_gV T_693 T_695 T_696 T_116 T_694) rfl rfl rfl (by decide +kernel) ⟨Nat.le_of_ble_eq_true rfl, Nat.le_of_ble_eq_true rfl⟩) ⟨fun a U g mk q => ⟨q.1, s_pc (U := U) rfl rfl q.2⟩, s_recv hK hP (hLK _ h10 (by decide)) (ci := 5) rfl o69, fun U hU hW => ⟨rfl, s_pw hU hW hP hK hD hN⟩⟩ rfl rfl hl.1 rfl (lv_room (Nat.le_of_ble_eq_true rfl)) dX1_pickLanes_11 ⟨Nat.zero_le _, Nat.zero_le _⟩) hS (fun q _ h => h) (fun q h => h) (fun r70 F71 t H1 locs ht hvm hw hB hz1 hk1 hS => ?_)
    obtain ⟨hP, hK1⟩ := hB
    rw [ht] at hP
    generalize H1 = H at hP hS ⊢
    clear hz1 hk1
    obtain ⟨h72, h73, hI, hfr1⟩ := hw
    have o74 : F71 a0 = .inr (1, [.ref z1, .ref z3, .ref z5, .ref z7, .ref z9, va_rf z11, .int z12, .int z14, .int z15, .int z16, .int z18, .long z19]) := (hfr1 _ (by rw [ha0]; decide)).trans o20
    have o75 : F71 z7 = .inr (4, [.ref z22, .ref z24, .ref z26, .ref z28, .ref z30, .ref z32, .ref z34, .int z36, .int z38, .int z40, .int z42, .int z44, .int z45, .int z47, .int z48]) := (hfr1 _ (by rw [h8]; decide)).trans o50
    have o76 : F71 z9 = .inr (5, [.ref z51, .ref z53, .ref z55, .ref z57, .ref z59, .int z61, .int z63, .int z64, .int z65, .int z66, .int z67]) := (hfr1 _ (by rw [h10]; decide)).trans o69
    have hfr : ∀ b, K b ∉ [2] → F71 b = F b := fun b hb9 => (hfr1 b (fun q => hb9 (s_sub (by decide) q))).trans (hfr b hb9)
    refine lv_istore_n (lv' := [(1, .int r70), (0, .ref a0)]) hx hb dX1_pickLanes_14 rfl hl (by decide) rfl (fun ls hl => ?_)
    refine lv_aload_n hx hb dX1_pickLanes_15 rfl (lv_at hl 1 rfl) ?_
    refine th_get (D := (dC, dI)) (ci := 1) (v := .ref z7) (C := RX1) (T := TX1) (N := 12) hx hb hts inX1 hown hK hP (hLK _ ha0 (by decide)) o74 rfl 3 (by decide) (hts _ T_611) (fun _ h9 => h9) rfl dX1_pickLanes_16 ?_
    refine th_getN (D := (dC, dI)) (ci := 4) (v := .int z38) (C := RX4) (T := TX4) (N := 15) hx hb hts inX4 hown hK hP (hLK _ h8 (by decide)) o75 rfl 8 (by decide) (va_Nw.use rfl (ax_n31 hN)) (fun _ h9 => h9) rfl dX1_pickLanes_19 ?_
    refine lv_if_ne (tgt := 56) hx hb dX1_pickLanes_22 (by decide) (fun c77 => ?_) (fun c77 => ?_)
    · have c77 := mt (ax_eq (n := 0) (by decide)).mpr c77
      refine lv_aload_n hx hb dX1_pickLanes_56 rfl (lv_at hl 1 rfl) ?_
      refine lv_aload_n hx hb dX1_pickLanes_57 rfl (lv_at hl 1 rfl) ?_
      refine th_get (D := (dC, dI)) (ci := 1) (v := .ref z9) (C := RX1) (T := TX1) (N := 12) hx hb hts inX1 hown hK hP (hLK _ ha0 (by decide)) o74 rfl 4 (by decide) (hts _ T_612) (fun _ h9 => h9) rfl dX1_pickLanes_58 ?_
      refine th_getN (D := (dC, dI)) (ci := 5) (v := .int z67) (C := RX5) (T := TX5) (N := 11) hx hb hts inX5 hown hK hP (hLK _ h10 (by decide)) o76 rfl 10 (by decide) (va_Nw.use rfl (ax_n29 hN)) (fun _ h9 => h9) rfl dX1_pickLanes_61 ?_
      refine th_put (D := (dC, dI)) (ci := 1) (v := .int z67) (ty := .int) (C := RX1) (T := TX1) (N := 12) hx hb hts inX1 tyX1 tyX1_ok nmX1 hown hK hP hD hS (hLK _ ha0 (by decide)) o74 rfl 9 (by decide) (hts _ T_664) (fun _ h9 => h9) rfl (by decide +kernel) rfl rfl (Nat.le_of_ble_eq_true rfl) dX1_pickLanes_64 (fun H locs hP hS => ?_)
      have hP : va_P (dC, dI) vwCl (va_pl L (va_up F71 a0 (.inr (1, [.ref z1, .ref z3, .ref z5, .ref z7, .ref z9, va_rf z11, .int z12, .int z14, .int z15, .int z67, .int z18, .long z19])))) H := hP
      obtain ⟨F78, hF79⟩ : ∃ G : Nat → va_E, G = va_up F71 a0 (.inr (1, [.ref z1, .ref z3, .ref z5, .ref z7, .ref z9, va_rf z11, .int z12, .int z14, .int z15, .int z67, .int z18, .long z19])) := ⟨_, rfl⟩
      rw [← hF79] at hP
      have hI : s_I K cs D F78 := by rw [hF79]; exact s_cl2 hI ha0 ⟨z1, z3, z5, some z7, some z9, z11, z12, z14, z15, z67, z18, z19, rfl, h2, h4, h6, (fun q e => by cases e; exact h8), (fun q e => by cases e; exact h10), ⟨by omega, by omega⟩, ⟨by omega, by omega⟩, trivial⟩
      have hfr : ∀ b, K b ∉ [2] → F78 b = F b := by rw [hF79]; exact s_fr hfr ha0 (by decide)
      have o80 : F78 z7 = .inr (4, [.ref z22, .ref z24, .ref z26, .ref z28, .ref z30, .ref z32, .ref z34, .int z36, .int z38, .int z40, .int z42, .int z44, .int z45, .int z47, .int z48]) := by rw [hF79]; exact th_ne (th_kd h8 ha0 (by decide)) o75
      have o81 : F78 z9 = .inr (5, [.ref z51, .ref z53, .ref z55, .ref z57, .ref z59, .int z61, .int z63, .int z64, .int z65, .int z66, .int z67]) := by rw [hF79]; exact th_ne (th_kd h10 ha0 (by decide)) o76
      have o82 : F78 a0 = .inr (1, [.ref z1, .ref z3, .ref z5, .ref z7, .ref z9, va_rf z11, .int z12, .int z14, .int z15, .int z67, .int z18, .long z19]) := by rw [hF79]; exact th_up
      refine lv_iconst (v := 0) hx hb dX1_pickLanes_67 (by decide) ?_
      refine lv_istore_n (lv' := [(2, .int 0), (1, .int r70), (0, .ref a0)]) hx hb dX1_pickLanes_68 rfl hl (by decide) rfl (fun ls hl => ?_)
      refine th_loop (fun n g H locs => ∃ (G : Nat → va_E) (ls : Array Slot) (w83 : Int32), g = F0 m 69 ls [] ∧ lv_has ls 3 [(0, .ref a0), (1, .int r70), (2, .int w83)] ∧ s_I K cs D G ∧ va_P (dC, dI) vwCl (va_pl L G) H ∧ va_S (fun q => q ∈ L) s.heap H locs ∧ (∀ b, K b ∉ [2] → G b = F b) ∧ (0 ≤ w83.toInt ∧ w83.toInt ≤ 8) ∧ s_rd2 K G a0 ∧ n = (9 - w83.toInt).toNat) _ ⟨F78, _, 0, rfl, lv_sub hl [2, 1, 0] rfl, hI, hP, hS, hfr, (by decide), ⟨z1, z3, z5, z7, z9, z11, z12, z14, z15, z67, z18, z19, o82, h2, h4, h6, h8, h10, ⟨by omega, by omega⟩, ⟨by omega, by omega⟩, trivial⟩, rfl⟩ (fun n ih69 g H locs hq => ?_)
      obtain ⟨F9, ls, w83, rfl, hl, hI, hP, hS, hfr, h84, h85, hn⟩ := hq
      obtain ⟨z86, z88, z90, z92, z94, z96, z97, z99, z100, z101, z103, z104, o105, h87, h89, h91, h93, h95, h98, h102, -⟩ := h85
      have hn_69 := hn
      obtain ⟨n_69, hn9_69⟩ : ∃ q, q = n := ⟨_, rfl⟩
      refine lv_iload_n hx hb dX1_pickLanes_69 rfl (lv_at hl 2 rfl) ?_
      refine lv_bipush (v := 8) hx hb dX1_pickLanes_70 (by decide) ?_
      refine lv_icmp_ge (tgt := 105) hx hb dX1_pickLanes_72 (by decide) (fun c106 => ?_) (fun c106 => ?_)
      · have c106 := (ax_ge (n := 8) (by decide)).mp c106
        exact K105 _ _ _ ⟨F9, _, r70, rfl, lv_sub hl [0, 1] rfl, hI, hP, hS, hfr, trivial, ⟨z86, z88, z90, z92, z94, z96, z97, z99, z100, z101, z103, z104, o105, h87, h89, h91, h93, h95, ⟨by omega, by omega⟩, ⟨by omega, by omega⟩, trivial⟩⟩
      · have c106 := mt (ax_ge (n := 8) (by decide)).mpr c106
        refine lv_iload_n hx hb dX1_pickLanes_75 rfl (lv_at hl 1 rfl) ?_
        refine lv_aload_n hx hb dX1_pickLanes_76 rfl (lv_at hl 0 rfl) ?_
        refine th_get (D := (dC, dI)) (ci := 1) (v := .int z101) (C := RX1) (T := TX1) (N := 12) hx hb hts inX1 hown hK hP (hLK _ ha0 (by decide)) o105 rfl 9 (by decide) (hts _ T_664) (fun _ h9 => h9) rfl dX1_pickLanes_77 ?_
        refine lv_ishr hx hb dX1_pickLanes_80 ?_
        refine lv_topi (fun v107 ev107 => ?_)
        refine lv_iconst (v := 1) hx hb dX1_pickLanes_81 (by decide) ?_
        refine lv_iand hx hb dX1_pickLanes_82 ?_
        refine lv_topi (fun v108 ev108 => ?_)
        have qv108 : 0 ≤ v108.toInt ∧ v108.toInt ≤ 1 := by rw [ev108]; exact th_and 1 (by decide) (by decide)
        refine lv_if_ne (tgt := 105) hx hb dX1_pickLanes_83 (by decide) (fun c109 => ?_) (fun c109 => ?_)
        · have c109 := mt (ax_eq (n := 0) (by decide)).mpr c109
          exact K105 _ _ _ ⟨F9, _, r70, rfl, lv_sub hl [0, 1] rfl, hI, hP, hS, hfr, trivial, ⟨z86, z88, z90, z92, z94, z96, z97, z99, z100, z101, z103, z104, o105, h87, h89, h91, h93, h95, ⟨by omega, by omega⟩, ⟨by omega, by omega⟩, trivial⟩⟩
        · have c109 := (ax_eq (n := 0) (by decide)).mp c109
          refine lv_aload_n hx hb dX1_pickLanes_86 rfl (lv_at hl 0 rfl) ?_
          refine lv_aload_n hx hb dX1_pickLanes_87 rfl (lv_at hl 0 rfl) ?_
          refine th_get (D := (dC, dI)) (ci := 1) (v := .int z101) (C := RX1) (T := TX1) (N := 12) hx hb hts inX1 hown hK hP (hLK _ ha0 (by decide)) o105 rfl 9 (by decide) (hts _ T_664) (fun _ h9 => h9) rfl dX1_pickLanes_88 ?_
          refine lv_iconst (v := 1) hx hb dX1_pickLanes_91 (by decide) ?_
          refine lv_iadd hx hb dX1_pickLanes_92 ?_
          refine lv_topi (fun v110 ev110 => ?_)
          have qv110 : v110.toInt = z101.toInt + 1 := by rw [ev110]; exact th_add rfl (by decide) ⟨by omega, by omega⟩
          refine lv_bipush (v := 8) hx hb dX1_pickLanes_93 (by decide) ?_
          refine lv_irem hx hb dX1_pickLanes_95 (by decide) ?_
          refine lv_topi (fun v111 ev111 => ?_)
          have qv111 : v111.toInt = v110.toInt % 8 := by rw [ev111]; exact th_rem rfl (by decide) (by omega) (by decide)
          refine th_put (D := (dC, dI)) (ci := 1) (v := .int v111) (ty := .int) (C := RX1) (T := TX1) (N := 12) hx hb hts inX1 tyX1 tyX1_ok nmX1 hown hK hP hD hS (hLK _ ha0 (by decide)) o105 rfl 9 (by decide) (hts _ T_664) (fun _ h9 => h9) rfl (by decide +kernel) rfl rfl (Nat.le_of_ble_eq_true rfl) dX1_pickLanes_96 (fun H locs hP hS => ?_)
          have hP : va_P (dC, dI) vwCl (va_pl L (va_up F9 a0 (.inr (1, [.ref z86, .ref z88, .ref z90, .ref z92, .ref z94, va_rf z96, .int z97, .int z99, .int z100, .int v111, .int z103, .long z104])))) H := hP
          obtain ⟨F112, hF113⟩ : ∃ G : Nat → va_E, G = va_up F9 a0 (.inr (1, [.ref z86, .ref z88, .ref z90, .ref z92, .ref z94, va_rf z96, .int z97, .int z99, .int z100, .int v111, .int z103, .long z104])) := ⟨_, rfl⟩
          rw [← hF113] at hP
          have hI : s_I K cs D F112 := by rw [hF113]; exact s_cl2 hI ha0 ⟨z86, z88, z90, some z92, some z94, z96, z97, z99, z100, v111, z103, z104, rfl, h87, h89, h91, (fun q e => by cases e; exact h93), (fun q e => by cases e; exact h95), ⟨by omega, by omega⟩, ⟨by omega, by omega⟩, trivial⟩
          have hfr : ∀ b, K b ∉ [2] → F112 b = F b := by rw [hF113]; exact s_fr hfr ha0 (by decide)
          have o114 : F112 a0 = .inr (1, [.ref z86, .ref z88, .ref z90, .ref z92, .ref z94, va_rf z96, .int z97, .int z99, .int z100, .int v111, .int z103, .long z104]) := by rw [hF113]; exact th_up
          obtain ⟨v115, ev115⟩ : ∃ y : Int32, w83 + 1 = y := ⟨_, rfl⟩
          have qv115 : v115.toInt = w83.toInt + 1 := by rw [← ev115]; exact th_add rfl (by decide) ⟨by omega, by omega⟩
          refine lv_iinc (v := v115) (lv' := [(2, .int v115), (0, .ref a0), (1, .int r70)]) hx hb dX1_pickLanes_99 hl (k := 2) rfl ev115 (by decide) rfl (fun ls hl => ?_)
          refine lv_goto (tgt := 69) hx hb dX1_pickLanes_102 (by decide) ?_
          exact ih69 _ _ _ _ (by omega) ⟨F112, _, v115, rfl, lv_sub hl [1, 2, 0] rfl, hI, hP, hS, hfr, ⟨by omega, by omega⟩, ⟨z86, z88, z90, z92, z94, z96, z97, z99, z100, v111, z103, z104, o114, h87, h89, h91, h93, h95, ⟨by omega, by omega⟩, ⟨by omega, by omega⟩, trivial⟩, rfl⟩
    · have c77 := (ax_eq (n := 0) (by decide)).mp c77
      refine lv_aload_n hx hb dX1_pickLanes_25 rfl (lv_at hl 1 rfl) ?_
      refine lv_iload_n hx hb dX1_pickLanes_26 rfl (lv_at hl 0 rfl) ?_
      refine th_put (D := (dC, dI)) (ci := 1) (v := .int r70) (ty := .int) (C := RX1) (T := TX1) (N := 12) hx hb hts inX1 tyX1 tyX1_ok nmX1 hown hK hP hD hS (hLK _ ha0 (by decide)) o74 rfl 8 (by decide) (hts _ T_645) (fun _ h9 => h9) rfl (by decide +kernel) rfl rfl (Nat.le_of_ble_eq_true rfl) dX1_pickLanes_27 (fun H locs hP hS => ?_)
      have hP : va_P (dC, dI) vwCl (va_pl L (va_up F71 a0 (.inr (1, [.ref z1, .ref z3, .ref z5, .ref z7, .ref z9, va_rf z11, .int z12, .int z14, .int r70, .int z16, .int z18, .long z19])))) H := hP
      obtain ⟨F116, hF117⟩ : ∃ G : Nat → va_E, G = va_up F71 a0 (.inr (1, [.ref z1, .ref z3, .ref z5, .ref z7, .ref z9, va_rf z11, .int z12, .int z14, .int r70, .int z16, .int z18, .long z19])) := ⟨_, rfl⟩
      rw [← hF117] at hP
      have hI : s_I K cs D F116 := by rw [hF117]; exact s_cl2 hI ha0 ⟨z1, z3, z5, some z7, some z9, z11, z12, z14, r70, z16, z18, z19, rfl, h2, h4, h6, (fun q e => by cases e; exact h8), (fun q e => by cases e; exact h10), ⟨by omega, by omega⟩, ⟨by omega, by omega⟩, trivial⟩
      have hfr : ∀ b, K b ∉ [2] → F116 b = F b := by rw [hF117]; exact s_fr hfr ha0 (by decide)
      have o118 : F116 z7 = .inr (4, [.ref z22, .ref z24, .ref z26, .ref z28, .ref z30, .ref z32, .ref z34, .int z36, .int z38, .int z40, .int z42, .int z44, .int z45, .int z47, .int z48]) := by rw [hF117]; exact th_ne (th_kd h8 ha0 (by decide)) o75
      have o119 : F116 z9 = .inr (5, [.ref z51, .ref z53, .ref z55, .ref z57, .ref z59, .int z61, .int z63, .int z64, .int z65, .int z66, .int z67]) := by rw [hF117]; exact th_ne (th_kd h10 ha0 (by decide)) o76
      have o120 : F116 a0 = .inr (1, [.ref z1, .ref z3, .ref z5, .ref z7, .ref z9, va_rf z11, .int z12, .int z14, .int r70, .int z16, .int z18, .long z19]) := by rw [hF117]; exact th_up
      refine lv_aload_n hx hb dX1_pickLanes_30 rfl (lv_at hl 1 rfl) ?_
      refine lv_aload_n hx hb dX1_pickLanes_31 rfl (lv_at hl 1 rfl) ?_
      refine th_get (D := (dC, dI)) (ci := 1) (v := .ref z9) (C := RX1) (T := TX1) (N := 12) hx hb hts inX1 hown hK hP (hLK _ ha0 (by decide)) o120 rfl 4 (by decide) (hts _ T_612) (fun _ h9 => h9) rfl dX1_pickLanes_32 ?_
      refine th_getN (D := (dC, dI)) (ci := 5) (v := .ref z55) (C := RX5) (T := TX5) (N := 11) hx hb hts inX5 hown hK hP (hLK _ h10 (by decide)) o119 rfl 2 (by decide) (va_Nw.use rfl (ax_n32 hN)) (fun _ h9 => h9) rfl dX1_pickLanes_35 ?_
      refine lv_aload_n hx hb dX1_pickLanes_38 rfl (lv_at hl 1 rfl) ?_
      refine th_get (D := (dC, dI)) (ci := 1) (v := .ref z9) (C := RX1) (T := TX1) (N := 12) hx hb hts inX1 hown hK hP (hLK _ ha0 (by decide)) o120 rfl 4 (by decide) (hts _ T_612) (fun _ h9 => h9) rfl dX1_pickLanes_39 ?_
      refine th_getN (D := (dC, dI)) (ci := 5) (v := .int z61) (C := RX5) (T := TX5) (N := 11) hx hb hts inX5 hown hK hP (hLK _ h10 (by decide)) o119 rfl 5 (by decide) (va_Nw.use rfl (ax_n33 hN)) (fun _ h9 => h9) rfl dX1_pickLanes_42 ?_
      refine lv_iconst (v := 1) hx hb dX1_pickLanes_45 (by decide) ?_
      refine lv_isub hx hb dX1_pickLanes_46 ?_
      refine lv_topi (fun v121 ev121 => ?_)
      have qv121 : v121.toInt = z61.toInt - 1 := by rw [ev121]; exact th_sub rfl (by decide) ⟨by omega, by omega⟩
      refine lv_iconst (v := 0) hx hb dX1_pickLanes_47 (by decide) ?_
      refine va_mmax hx hb (by rw [hml]; exact hl.1.symm) hown (hts _ T_608) (hts _ T_609) (hts _ T_237) (hts _ T_610) (Nat.le_of_ble_eq_true rfl) (Nat.le_of_ble_eq_true rfl) (Nat.zero_le _) (Nat.zero_le _) dX1_pickLanes_48 ?_
      refine lv_topi (fun v122 ev122 => ?_)
      have qv122 := th_mmax (a := v121.toInt) (b := 0) ev122 rfl (by decide)
      obtain ⟨f123, o124, h125⟩ := s_op32 hI h56
      refine th_iald hx hb hK hP (hLK _ h56 (by decide)) 0 o124 rfl (th_in ⟨by omega, by omega⟩) dX1_pickLanes_51 ?_
      refine lv_topi (fun v126 ev126 => ?_)
      refine th_put (D := (dC, dI)) (ci := 1) (v := .int v126) (ty := .int) (C := RX1) (T := TX1) (N := 12) hx hb hts inX1 tyX1 tyX1_ok nmX1 hown hK hP hD hS (hLK _ ha0 (by decide)) o120 rfl 7 (by decide) (hts _ T_632) (fun _ h9 => h9) rfl (by decide +kernel) rfl rfl (Nat.le_of_ble_eq_true rfl) dX1_pickLanes_52 (fun H locs hP hS => ?_)
      have hP : va_P (dC, dI) vwCl (va_pl L (va_up F116 a0 (.inr (1, [.ref z1, .ref z3, .ref z5, .ref z7, .ref z9, va_rf z11, .int z12, .int v126, .int r70, .int z16, .int z18, .long z19])))) H := hP
      obtain ⟨F127, hF128⟩ : ∃ G : Nat → va_E, G = va_up F116 a0 (.inr (1, [.ref z1, .ref z3, .ref z5, .ref z7, .ref z9, va_rf z11, .int z12, .int v126, .int r70, .int z16, .int z18, .long z19])) := ⟨_, rfl⟩
      rw [← hF128] at hP
      have hI : s_I K cs D F127 := by rw [hF128]; exact s_cl2 hI ha0 ⟨z1, z3, z5, some z7, some z9, z11, z12, v126, r70, z16, z18, z19, rfl, h2, h4, h6, (fun q e => by cases e; exact h8), (fun q e => by cases e; exact h10), ⟨by omega, by omega⟩, ⟨by omega, by omega⟩, trivial⟩
      have hfr : ∀ b, K b ∉ [2] → F127 b = F b := by rw [hF128]; exact s_fr hfr ha0 (by decide)
      have o129 : F127 z7 = .inr (4, [.ref z22, .ref z24, .ref z26, .ref z28, .ref z30, .ref z32, .ref z34, .int z36, .int z38, .int z40, .int z42, .int z44, .int z45, .int z47, .int z48]) := by rw [hF128]; exact th_ne (th_kd h8 ha0 (by decide)) o118
      have o130 : F127 z9 = .inr (5, [.ref z51, .ref z53, .ref z55, .ref z57, .ref z59, .int z61, .int z63, .int z64, .int z65, .int z66, .int z67]) := by rw [hF128]; exact th_ne (th_kd h10 ha0 (by decide)) o119
      have o131 : F127 a0 = .inr (1, [.ref z1, .ref z3, .ref z5, .ref z7, .ref z9, va_rf z11, .int z12, .int v126, .int r70, .int z16, .int z18, .long z19]) := by rw [hF128]; exact th_up
      exact W.vret hx hb hr (fun t ht hW => ⟨⟨F127, rfl, ⟨trivial, trivial, hI, hfr, ⟨z1, z3, z5, z7, z9, z11, z12, v126, r70, z16, z18, z19, o131, h2, h4, h6, h8, h10, ⟨by omega, by omega⟩, ⟨by omega, by omega⟩, trivial⟩⟩, by rw [ht]; exact hP, va_K.moved hW.alike hK⟩, hS.F ht⟩) hS.2.2 dX1_pickLanes_55
  · intro g H locs hq
    obtain ⟨F9, ls, w21, rfl, hl, hI, hP, hS, hfr, h132, h133⟩ := hq
    obtain ⟨z134, z136, z138, z140, z142, z144, z145, z147, z148, z149, z151, z152, o153, h135, h137, h139, h141, h143, h146, h150, -⟩ := h133
    refine lv_aload_n hx hb dX1_pickLanes_105 rfl (lv_at hl 0 rfl) ?_
    refine lv_aload_n hx hb dX1_pickLanes_106 rfl (lv_at hl 0 rfl) ?_
    refine th_get (D := (dC, dI)) (ci := 1) (v := .ref z142) (C := RX1) (T := TX1) (N := 12) hx hb hts inX1 hown hK hP (hLK _ ha0 (by decide)) o153 rfl 4 (by decide) (hts _ T_612) (fun _ h9 => h9) rfl dX1_pickLanes_107 ?_
    obtain ⟨z154, z156, z158, z160, z162, z164, z166, z167, z168, z169, z170, o172, h155, h157, h159, h161, h163, h165, h171, -⟩ := s_op6 hI h143
    refine th_getN (D := (dC, dI)) (ci := 5) (v := .ref z156) (C := RX5) (T := TX5) (N := 11) hx hb hts inX5 hown hK hP (hLK _ h143 (by decide)) o172 rfl 1 (by decide) (va_Nw.use rfl (ax_n34 hN)) (fun _ h9 => h9) rfl dX1_pickLanes_110 ?_
    refine lv_aload_n hx hb dX1_pickLanes_113 rfl (lv_at hl 0 rfl) ?_
    refine th_get (D := (dC, dI)) (ci := 1) (v := .int z149) (C := RX1) (T := TX1) (N := 12) hx hb hts inX1 hown hK hP (hLK _ ha0 (by decide)) o153 rfl 9 (by decide) (hts _ T_664) (fun _ h9 => h9) rfl dX1_pickLanes_114 ?_
    obtain ⟨f173, o174, h175⟩ := s_op31 hI h157
    refine th_iald hx hb hK hP (hLK _ h157 (by decide)) 0 o174 rfl (th_in ⟨by omega, by omega⟩) dX1_pickLanes_117 ?_
    refine lv_topi (fun v176 ev176 => ?_)
    refine th_put (D := (dC, dI)) (ci := 1) (v := .int v176) (ty := .int) (C := RX1) (T := TX1) (N := 12) hx hb hts inX1 tyX1 tyX1_ok nmX1 hown hK hP hD hS (hLK _ ha0 (by decide)) o153 rfl 7 (by decide) (hts _ T_632) (fun _ h9 => h9) rfl (by decide +kernel) rfl rfl (Nat.le_of_ble_eq_true rfl) dX1_pickLanes_118 (fun H locs hP hS => ?_)
    have hP : va_P (dC, dI) vwCl (va_pl L (va_up F9 a0 (.inr (1, [.ref z134, .ref z136, .ref z138, .ref z140, .ref z142, va_rf z144, .int z145, .int v176, .int z148, .int z149, .int z151, .long z152])))) H := hP
    obtain ⟨F177, hF178⟩ : ∃ G : Nat → va_E, G = va_up F9 a0 (.inr (1, [.ref z134, .ref z136, .ref z138, .ref z140, .ref z142, va_rf z144, .int z145, .int v176, .int z148, .int z149, .int z151, .long z152])) := ⟨_, rfl⟩
    rw [← hF178] at hP
    have hI : s_I K cs D F177 := by rw [hF178]; exact s_cl2 hI ha0 ⟨z134, z136, z138, some z140, some z142, z144, z145, v176, z148, z149, z151, z152, rfl, h135, h137, h139, (fun q e => by cases e; exact h141), (fun q e => by cases e; exact h143), ⟨by omega, by omega⟩, ⟨by omega, by omega⟩, trivial⟩
    have hfr : ∀ b, K b ∉ [2] → F177 b = F b := by rw [hF178]; exact s_fr hfr ha0 (by decide)
    have o179 : F177 z142 = .inr (5, [.ref z154, .ref z156, .ref z158, .ref z160, .ref z162, .int z164, .int z166, .int z167, .int z168, .int z169, .int z170]) := by rw [hF178]; exact th_ne (th_kd h143 ha0 (by decide)) o172
    have o180 : F177 a0 = .inr (1, [.ref z134, .ref z136, .ref z138, .ref z140, .ref z142, va_rf z144, .int z145, .int v176, .int z148, .int z149, .int z151, .long z152]) := by rw [hF178]; exact th_up
    refine lv_aload_n hx hb dX1_pickLanes_121 rfl (lv_at hl 0 rfl) ?_
    refine lv_iconst (v := 0) hx hb dX1_pickLanes_122 (by decide) ?_
    refine th_put (D := (dC, dI)) (ci := 1) (v := .int 0) (ty := .int) (C := RX1) (T := TX1) (N := 12) hx hb hts inX1 tyX1 tyX1_ok nmX1 hown hK hP hD hS (hLK _ ha0 (by decide)) o180 rfl 8 (by decide) (hts _ T_645) (fun _ h9 => h9) rfl (by decide +kernel) rfl rfl (Nat.le_of_ble_eq_true rfl) dX1_pickLanes_123 (fun H locs hP hS => ?_)
    have hP : va_P (dC, dI) vwCl (va_pl L (va_up F177 a0 (.inr (1, [.ref z134, .ref z136, .ref z138, .ref z140, .ref z142, va_rf z144, .int z145, .int v176, .int 0, .int z149, .int z151, .long z152])))) H := hP
    obtain ⟨F181, hF182⟩ : ∃ G : Nat → va_E, G = va_up F177 a0 (.inr (1, [.ref z134, .ref z136, .ref z138, .ref z140, .ref z142, va_rf z144, .int z145, .int v176, .int 0, .int z149, .int z151, .long z152])) := ⟨_, rfl⟩
    rw [← hF182] at hP
    have hI : s_I K cs D F181 := by rw [hF182]; exact s_cl2 hI ha0 ⟨z134, z136, z138, some z140, some z142, z144, z145, v176, 0, z149, z151, z152, rfl, h135, h137, h139, (fun q e => by cases e; exact h141), (fun q e => by cases e; exact h143), ⟨by omega, by omega⟩, ⟨by omega, by omega⟩, trivial⟩
    have hfr : ∀ b, K b ∉ [2] → F181 b = F b := by rw [hF182]; exact s_fr hfr ha0 (by decide)
    have o183 : F181 z142 = .inr (5, [.ref z154, .ref z156, .ref z158, .ref z160, .ref z162, .int z164, .int z166, .int z167, .int z168, .int z169, .int z170]) := by rw [hF182]; exact th_ne (th_kd h143 ha0 (by decide)) o179
    have o184 : F181 a0 = .inr (1, [.ref z134, .ref z136, .ref z138, .ref z140, .ref z142, va_rf z144, .int z145, .int v176, .int 0, .int z149, .int z151, .long z152]) := by rw [hF182]; exact th_up
    refine lv_iconst (v := 0) hx hb dX1_pickLanes_126 (by decide) ?_
    refine lv_istore_n (lv' := [(2, .int 0), (0, .ref a0), (1, .int w21)]) hx hb dX1_pickLanes_127 rfl hl (by decide) rfl (fun ls hl => ?_)
    refine th_loop (fun n g H locs => ∃ (G : Nat → va_E) (ls : Array Slot) (w185 : Int32), g = F0 m 128 ls [] ∧ lv_has ls 3 [(0, .ref a0), (1, .int w21), (2, .int w185)] ∧ s_I K cs D G ∧ va_P (dC, dI) vwCl (va_pl L G) H ∧ va_S (fun q => q ∈ L) s.heap H locs ∧ (∀ b, K b ∉ [2] → G b = F b) ∧ (0 ≤ w185.toInt ∧ w185.toInt ≤ 8) ∧ s_rd2 K G a0 ∧ n = (9 - w185.toInt).toNat) _ ⟨F181, _, 0, rfl, lv_sub hl [1, 2, 0] rfl, hI, hP, hS, hfr, (by decide), ⟨z134, z136, z138, z140, z142, z144, z145, v176, 0, z149, z151, z152, o184, h135, h137, h139, h141, h143, ⟨by omega, by omega⟩, ⟨by omega, by omega⟩, trivial⟩, rfl⟩ (fun n ih128 g H locs hq => ?_)
    obtain ⟨F9, ls, w185, rfl, hl, hI, hP, hS, hfr, h186, h187, hn⟩ := hq
    obtain ⟨z188, z190, z192, z194, z196, z198, z199, z201, z202, z203, z205, z206, o207, h189, h191, h193, h195, h197, h200, h204, -⟩ := h187
    have hn_128 := hn
    obtain ⟨n_128, hn9_128⟩ : ∃ q, q = n := ⟨_, rfl⟩
    refine th_join (fun g H locs => ∃ (G : Nat → va_E) (ls : Array Slot), g = F0 m 170 ls [] ∧ lv_has ls 3 [(0, .ref a0), (1, .int w21), (2, .int w185)] ∧ s_I K cs D G ∧ va_P (dC, dI) vwCl (va_pl L G) H ∧ va_S (fun q => q ∈ L) s.heap H locs ∧ (∀ b, K b ∉ [2] → G b = F b) ∧ (0 ≤ w185.toInt ∧ w185.toInt ≤ 7) ∧ s_rd2 K G a0) (fun K170 => ?_) ?_
    · refine lv_iload_n hx hb dX1_pickLanes_128 rfl (lv_at hl 2 rfl) ?_
      refine lv_bipush (v := 8) hx hb dX1_pickLanes_129 (by decide) ?_
      refine lv_icmp_ge (tgt := 176) hx hb dX1_pickLanes_131 (by decide) (fun c208 => ?_) (fun c208 => ?_)
      · have c208 := (ax_ge (n := 8) (by decide)).mp c208
        exact W.vret hx hb hr (fun t ht hW => ⟨⟨F9, rfl, ⟨trivial, trivial, hI, hfr, ⟨z188, z190, z192, z194, z196, z198, z199, z201, z202, z203, z205, z206, o207, h189, h191, h193, h195, h197, ⟨by omega, by omega⟩, ⟨by omega, by omega⟩, trivial⟩⟩, by rw [ht]; exact hP, va_K.moved hW.alike hK⟩, hS.F ht⟩) hS.2.2 dX1_pickLanes_176
      · have c208 := mt (ax_ge (n := 8) (by decide)).mpr c208
        refine lv_iload_n hx hb dX1_pickLanes_134 rfl (lv_at hl 1 rfl) ?_
        refine lv_iload_n hx hb dX1_pickLanes_135 rfl (lv_at hl 2 rfl) ?_
        refine lv_ishr hx hb dX1_pickLanes_136 ?_
        refine lv_topi (fun v209 ev209 => ?_)
        refine lv_iconst (v := 1) hx hb dX1_pickLanes_137 (by decide) ?_
        refine lv_iand hx hb dX1_pickLanes_138 ?_
        refine lv_topi (fun v210 ev210 => ?_)
        have qv210 : 0 ≤ v210.toInt ∧ v210.toInt ≤ 1 := by rw [ev210]; exact th_and 1 (by decide) (by decide)
        refine lv_if_eq (tgt := 170) hx hb dX1_pickLanes_139 (by decide) (fun c211 => ?_) (fun c211 => ?_)
        · have c211 := (ax_eq (n := 0) (by decide)).mp c211
          exact K170 _ _ _ ⟨F9, _, rfl, lv_sub hl [0, 1, 2] rfl, hI, hP, hS, hfr, ⟨by omega, by omega⟩, ⟨z188, z190, z192, z194, z196, z198, z199, z201, z202, z203, z205, z206, o207, h189, h191, h193, h195, h197, ⟨by omega, by omega⟩, ⟨by omega, by omega⟩, trivial⟩⟩
        · have c211 := mt (ax_eq (n := 0) (by decide)).mpr c211
          refine lv_aload_n hx hb dX1_pickLanes_142 rfl (lv_at hl 0 rfl) ?_
          refine th_get (D := (dC, dI)) (ci := 1) (v := .ref z196) (C := RX1) (T := TX1) (N := 12) hx hb hts inX1 hown hK hP (hLK _ ha0 (by decide)) o207 rfl 4 (by decide) (hts _ T_612) (fun _ h9 => h9) rfl dX1_pickLanes_143 ?_
          obtain ⟨z212, z214, z216, z218, z220, z222, z224, z225, z226, z227, z228, o230, h213, h215, h217, h219, h221, h223, h229, -⟩ := s_op6 hI h197
          refine th_getN (D := (dC, dI)) (ci := 5) (v := .ref z214) (C := RX5) (T := TX5) (N := 11) hx hb hts inX5 hown hK hP (hLK _ h197 (by decide)) o230 rfl 1 (by decide) (va_Nw.use rfl (ax_n34 hN)) (fun _ h9 => h9) rfl dX1_pickLanes_146 ?_
          refine lv_iload_n hx hb dX1_pickLanes_149 rfl (lv_at hl 2 rfl) ?_
          obtain ⟨f231, o232, h233⟩ := s_op31 hI h215
          refine th_iald hx hb hK hP (hLK _ h215 (by decide)) 0 o232 rfl (th_in ⟨by omega, by omega⟩) dX1_pickLanes_150 ?_
          refine lv_topi (fun v234 ev234 => ?_)
          refine lv_aload_n hx hb dX1_pickLanes_151 rfl (lv_at hl 0 rfl) ?_
          refine th_get (D := (dC, dI)) (ci := 1) (v := .int z201) (C := RX1) (T := TX1) (N := 12) hx hb hts inX1 hown hK hP (hLK _ ha0 (by decide)) o207 rfl 7 (by decide) (hts _ T_632) (fun _ h9 => h9) rfl dX1_pickLanes_152 ?_
          refine lv_icmp_ne (tgt := 170) hx hb dX1_pickLanes_155 (by decide) (fun c235 => ?_) (fun c235 => ?_)
          · have c235 := mt Int32.toInt_inj.symm.mpr c235
            exact K170 _ _ _ ⟨F9, _, rfl, lv_sub hl [0, 1, 2] rfl, hI, hP, hS, hfr, ⟨by omega, by omega⟩, ⟨z188, z190, z192, z194, z196, z198, z199, z201, z202, z203, z205, z206, o207, h189, h191, h193, h195, h197, ⟨by omega, by omega⟩, ⟨by omega, by omega⟩, trivial⟩⟩
          · have c235 := Int32.toInt_inj.symm.mp c235
            refine lv_aload_n hx hb dX1_pickLanes_158 rfl (lv_at hl 0 rfl) ?_
            refine lv_dup hx hb dX1_pickLanes_159 rfl ?_
            refine th_get (D := (dC, dI)) (ci := 1) (v := .int z202) (C := RX1) (T := TX1) (N := 12) hx hb hts inX1 hown hK hP (hLK _ ha0 (by decide)) o207 rfl 8 (by decide) (hts _ T_645) (fun _ h9 => h9) rfl dX1_pickLanes_160 ?_
            refine lv_iconst (v := 1) hx hb dX1_pickLanes_163 (by decide) ?_
            refine lv_iload_n hx hb dX1_pickLanes_164 rfl (lv_at hl 2 rfl) ?_
            refine lv_ishl hx hb dX1_pickLanes_165 ?_
            refine lv_topi (fun v236 ev236 => ?_)
            refine lv_ior hx hb dX1_pickLanes_166 ?_
            refine lv_topi (fun v237 ev237 => ?_)
            refine th_put (D := (dC, dI)) (ci := 1) (v := .int v237) (ty := .int) (C := RX1) (T := TX1) (N := 12) hx hb hts inX1 tyX1 tyX1_ok nmX1 hown hK hP hD hS (hLK _ ha0 (by decide)) o207 rfl 8 (by decide) (hts _ T_645) (fun _ h9 => h9) rfl (by decide +kernel) rfl rfl (Nat.le_of_ble_eq_true rfl) dX1_pickLanes_167 (fun H locs hP hS => ?_)
            have hP : va_P (dC, dI) vwCl (va_pl L (va_up F9 a0 (.inr (1, [.ref z188, .ref z190, .ref z192, .ref z194, .ref z196, va_rf z198, .int z199, .int z201, .int v237, .int z203, .int z205, .long z206])))) H := hP
            obtain ⟨F238, hF239⟩ : ∃ G : Nat → va_E, G = va_up F9 a0 (.inr (1, [.ref z188, .ref z190, .ref z192, .ref z194, .ref z196, va_rf z198, .int z199, .int z201, .int v237, .int z203, .int z205, .long z206])) := ⟨_, rfl⟩
            rw [← hF239] at hP
            have hI : s_I K cs D F238 := by rw [hF239]; exact s_cl2 hI ha0 ⟨z188, z190, z192, some z194, some z196, z198, z199, z201, v237, z203, z205, z206, rfl, h189, h191, h193, (fun q e => by cases e; exact h195), (fun q e => by cases e; exact h197), ⟨by omega, by omega⟩, ⟨by omega, by omega⟩, trivial⟩
            have hfr : ∀ b, K b ∉ [2] → F238 b = F b := by rw [hF239]; exact s_fr hfr ha0 (by decide)
            have o240 : F238 z196 = .inr (5, [.ref z212, .ref z214, .ref z216, .ref z218, .ref z220, .int z222, .int z224, .int z225, .int z226, .int z227, .int z228]) := by rw [hF239]; exact th_ne (th_kd h197 ha0 (by decide)) o230
            have o241 : F238 a0 = .inr (1, [.ref z188, .ref z190, .ref z192, .ref z194, .ref z196, va_rf z198, .int z199, .int z201, .int v237, .int z203, .int z205, .long z206]) := by rw [hF239]; exact th_up
            exact K170 _ _ _ ⟨F238, _, rfl, lv_sub hl [0, 1, 2] rfl, hI, hP, hS, hfr, ⟨by omega, by omega⟩, ⟨z188, z190, z192, z194, z196, z198, z199, z201, v237, z203, z205, z206, o241, h189, h191, h193, h195, h197, ⟨by omega, by omega⟩, ⟨by omega, by omega⟩, trivial⟩⟩
    · intro g H locs hq
      obtain ⟨F9, ls, rfl, hl, hI, hP, hS, hfr, h242, h243⟩ := hq
      obtain ⟨z244, z246, z248, z250, z252, z254, z255, z257, z258, z259, z261, z262, o263, h245, h247, h249, h251, h253, h256, h260, -⟩ := h243
      obtain ⟨v264, ev264⟩ : ∃ y : Int32, w185 + 1 = y := ⟨_, rfl⟩
      have qv264 : v264.toInt = w185.toInt + 1 := by rw [← ev264]; exact th_add rfl (by decide) ⟨by omega, by omega⟩
      refine lv_iinc (v := v264) (lv' := [(2, .int v264), (0, .ref a0), (1, .int w21)]) hx hb dX1_pickLanes_170 hl (k := 2) rfl ev264 (by decide) rfl (fun ls hl => ?_)
      refine lv_goto (tgt := 128) hx hb dX1_pickLanes_173 (by decide) ?_
      exact ih128 _ _ _ _ (by omega) ⟨F9, _, v264, rfl, lv_sub hl [1, 2, 0] rfl, hI, hP, hS, hfr, ⟨by omega, by omega⟩, ⟨z244, z246, z248, z250, z252, z254, z255, z257, z258, z259, z261, z262, o263, h245, h247, h249, h251, h253, ⟨by omega, by omega⟩, ⟨by omega, by omega⟩, trivial⟩, rfl⟩

set_option maxHeartbeats 4000000 in
set_option maxRecDepth 100000 in
theorem s_X1_valueOf (l : Launch) (dC : Nat → ClassId) (dI : Nat → Nat → Nat) (sz : Nat) {L : List Nat} {K : Nat → Nat} {cs : Nat → ClassId} (hLK : ∀ a {k : Nat}, K a = k → k ≠ 0 → a ∈ L) (D : Nat) (F : Nat → va_E) (a0 : Nat) (x1 : Int32) (x2 : Int32) (ha0 : K a0 = 2) (hx2 : 0 ≤ x2.toInt ∧ x2.toInt ≤ 7) (hI : s_I K cs D F) (hR : s_rd3 K F a0) : Met l yX1_valueOf (Cond.code yX1_valueOf cX1_valueOf 3 (some .int) :: T0) ({ frames := 0, cells := 0, slots := 0, locals := 0 }) (va_Pc [.ref a0, .int x1, .int x2] (s_W dC dI sz L F [(cs 0, .int), (cs 1, .byte), (cs 2, .long), (cs 3, .object RX5), (cs 4, .object RX4), (cs 5, .array .int), (cs 6, .char), (cs 7, .boolean)])) (va_Qi (fun (r : Int32) (G : Nat → va_E) => True ∧ True ∧ s_I K cs D G ∧ ∀ b, K b ∉ ([] : List Nat) → G b = F b) (fun (G : Nat → va_E) (t : State) => va_P (dC, dI) vwCl (va_pl L G) t.heap ∧ va_K (dC, dI) vwCl [(cs 0, .int), (cs 1, .byte), (cs 2, .long), (cs 3, .object RX5), (cs 4, .object RX4), (cs 5, .array .int), (cs 6, .char), (cs 7, .boolean)] t) (fun q => q ∈ L)) 0 0 (fun q => q ∈ L) := by
  refine Met.ofW (cc := cX1_valueOf) (maxL := 3) (ret := (some .int)) (by decide) rfl ?_
  intro p e s m args below meth c s₁ B hml hv
  obtain ⟨rfl, hsz, hP, hK, hD, hN⟩ := hv
  have hx := B.exec
  have hb := B.bytes
  have hr := B.returns
  have hts : ∀ w ∈ T0, w.before _ s = true := fun w h => atoms_spec (ws := Cond.code yX1_valueOf cX1_valueOf 3 (some .int) :: T0) B.pre w (List.mem_cons_of_mem _ h)
  have hown : s.vm.findClass RX1 = some m.cls := findClass_of_methodNamed B.named
  have hlocks := B.notSynchronized
  have hS : va_S (fun q => q ∈ L) s.heap s.heap [] := va_S.rf
  have hfr : ∀ b, K b ∉ ([] : List Nat) → F b = F b := fun _ _ => rfl
  have hl := lv_entry ([.ref a0, .int x1, .int x2]) (n := 3) (Nat.le_of_ble_eq_true rfl)
  rw [lg_entry_eq]
  generalize (lg_sl ([.ref a0, .int x1, .int x2]) ++ List.replicate (3 - (lg_sl ([.ref a0, .int x1, .int x2])).length) Slot.unset).toArray = ls at hl ⊢
  have hl : lv_has ls 3 [(0, .ref a0), (1, .int x1), (2, .int x2)] := hl
  refine s_gen hP hS (fun H locs hP hS => ?_)
  obtain ⟨z1, z3, z5, z7, z9, z11, z13, z15, z16, z17, z19, z20, o21, h2, h4, h6, h8, h10, h12, h14, h18, -⟩ := hR
  refine lv_iload_n hx hb dX1_valueOf_0 rfl (lv_at hl 1 rfl) ?_
  refine lv_if_lt (tgt := 8) hx hb dX1_valueOf_1 (by decide) (fun c22 => ?_) (fun c22 => ?_)
  · have c22 := (ax_lt (n := 0) (by decide)).mp c22
    refine lv_aload_n hx hb dX1_valueOf_8 rfl (lv_at hl 0 rfl) ?_
    refine th_get (D := (dC, dI)) (ci := 1) (v := .ref z9) (C := RX1) (T := TX1) (N := 12) hx hb hts inX1 hown hK hP (hLK _ ha0 (by decide)) o21 rfl 4 (by decide) (hts _ T_612) (fun _ h9 => h9) rfl dX1_valueOf_9 ?_
    obtain ⟨z23, z25, z27, z29, z31, z33, z35, z36, z37, z38, z39, o41, h24, h26, h28, h30, h32, h34, h40, -⟩ := s_op6 hI h10
    refine th_getN (D := (dC, dI)) (ci := 5) (v := .ref z23) (C := RX5) (T := TX5) (N := 11) hx hb hts inX5 hown hK hP (hLK _ h10 (by decide)) o41 rfl 0 (by decide) (va_Nw.use rfl (ax_n20 hN)) (fun _ h9 => h9) rfl dX1_valueOf_12 ?_
    refine lv_iload_n hx hb dX1_valueOf_15 rfl (lv_at hl 2 rfl) ?_
    refine lv_iconst (v := 4) hx hb dX1_valueOf_16 (by decide) ?_
    refine lv_imul hx hb dX1_valueOf_17 ?_
    refine lv_topi (fun v42 ev42 => ?_)
    have qv42 : v42.toInt = x2.toInt * 4 := by rw [ev42]; exact th_mul rfl (by decide) ⟨by omega, by omega⟩
    refine lv_iconst (v := (-1)) hx hb dX1_valueOf_18 (by decide) ?_
    refine lv_iload_n hx hb dX1_valueOf_19 rfl (lv_at hl 1 rfl) ?_
    refine lv_isub hx hb dX1_valueOf_20 ?_
    refine lv_topi (fun v43 ev43 => ?_)
    have qv43 : v43.toInt = -1 - x1.toInt := by rw [ev43]; exact th_sub (by decide) rfl (by have q8 := th_lo x1; have q9 := th_hi x1; exact ⟨by omega, by omega⟩)
    refine lv_iconst (v := 3) hx hb dX1_valueOf_21 (by decide) ?_
    refine lv_iand hx hb dX1_valueOf_22 ?_
    refine lv_topi (fun v44 ev44 => ?_)
    have qv44 : 0 ≤ v44.toInt ∧ v44.toInt ≤ 3 := by rw [ev44]; exact th_and 2 (by decide) (by decide)
    refine lv_iadd hx hb dX1_valueOf_23 ?_
    refine lv_topi (fun v45 ev45 => ?_)
    have qv45 : v45.toInt = v42.toInt + v44.toInt := by rw [ev45]; exact th_add rfl rfl ⟨by omega, by omega⟩
    obtain ⟨f46, o47, h48⟩ := s_op30 hI h24
    refine th_iald hx hb hK hP (hLK _ h24 (by decide)) 0 o47 rfl (th_in ⟨by omega, by omega⟩) dX1_valueOf_24 ?_
    refine lv_topi (fun v49 ev49 => ?_)
    exact W.iret (v := v49) hx hb hr (fun t ht hW => ⟨⟨v49, F, rfl, ⟨trivial, trivial, hI, hfr⟩, by rw [ht]; exact hP, va_K.moved hW.alike hK⟩, hS.F ht⟩) hS.2.2 dX1_valueOf_25
  · have c22 := mt (ax_lt (n := 0) (by decide)).mpr c22
    refine lv_iload_n hx hb dX1_valueOf_4 rfl (lv_at hl 1 rfl) ?_
    refine lv_goto (tgt := 25) hx hb dX1_valueOf_5 (by decide) ?_
    exact W.iret (v := x1) hx hb hr (fun t ht hW => ⟨⟨x1, F, rfl, ⟨trivial, trivial, hI, hfr⟩, by rw [ht]; exact hP, va_K.moved hW.alike hK⟩, hS.F ht⟩) hS.2.2 dX1_valueOf_25

