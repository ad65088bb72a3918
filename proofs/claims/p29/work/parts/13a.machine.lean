set_option maxHeartbeats 4000000 in
set_option maxRecDepth 100000 in
theorem s_X1_take (l : Launch) (dC : Nat → ClassId) (dI : Nat → Nat → Nat) (sz : Nat) {L : List Nat} {K : Nat → Nat} {cs : Nat → ClassId} (hLK : ∀ a {k : Nat}, K a = k → k ≠ 0 → a ∈ L) (D : Nat) (F : Nat → va_E) (a0 : Nat) (a1 : Nat) (ha0 : K a0 = 2) (ha1 : K a1 = 3) (hI : s_I K cs D F) : Met l yX1_take (Cond.code yX1_take cX1_take 2 none :: T0) ({ frames := 0, cells := 0, slots := 0, locals := 0 }) (va_Pc [.ref a0, .ref a1] (s_W dC dI sz L F [(cs 0, .int), (cs 1, .byte), (cs 2, .long), (cs 3, .object RX5), (cs 4, .object RX4), (cs 5, .array .int), (cs 6, .char), (cs 7, .boolean)])) (va_Qv (fun (G : Nat → va_E) => True ∧ True ∧ s_I K cs D G ∧ ∀ b, K b ∉ [2] → G b = F b) (fun (G : Nat → va_E) (t : State) => va_P (dC, dI) vwCl (va_pl L G) t.heap ∧ va_K (dC, dI) vwCl [(cs 0, .int), (cs 1, .byte), (cs 2, .long), (cs 3, .object RX5), (cs 4, .object RX4), (cs 5, .array .int), (cs 6, .char), (cs 7, .boolean)] t) (fun q => q ∈ L)) 0 0 (fun q => q ∈ L) := by
  refine Met.ofW (cc := cX1_take) (maxL := 2) (ret := none) (by decide) rfl ?_
  intro p e s m args below meth c s₁ B hml hv
  obtain ⟨rfl, hsz, hP, hK, hD, hN⟩ := hv
  have hx := B.exec
  have hb := B.bytes
  have hr := B.returns
  have hts : ∀ w ∈ T0, w.before _ s = true := fun w h => atoms_spec (ws := Cond.code yX1_take cX1_take 2 none :: T0) B.pre w (List.mem_cons_of_mem _ h)
  have hown : s.vm.findClass RX1 = some m.cls := findClass_of_methodNamed B.named
  have hlocks := B.notSynchronized
  have hS : va_S (fun q => q ∈ L) s.heap s.heap [] := va_S.rf
  have hfr : ∀ b, K b ∉ [2] → F b = F b := fun _ _ => rfl
  have hl := lv_entry ([.ref a0, .ref a1]) (n := 2) (Nat.le_of_ble_eq_true rfl)
  rw [lg_entry_eq]
  generalize (lg_sl ([.ref a0, .ref a1]) ++ List.replicate (2 - (lg_sl ([.ref a0, .ref a1])).length) Slot.unset).toArray = ls at hl ⊢
  have hl : lv_has ls 2 [(0, .ref a0), (1, .ref a1)] := hl
  refine s_gen hP hS (fun H locs hP hS => ?_)
  refine lv_aload_n hx hb dX1_take_0 rfl (lv_at hl 0 rfl) ?_
  refine lv_aload_n hx hb dX1_take_1 rfl (lv_at hl 1 rfl) ?_
  obtain ⟨z1, z3, z5, z7, z9, z11, z12, z14, z15, z16, z18, z19, o20, h2, h4, h6, h8, h10, h13, h17, -⟩ := s_op2 hI ha0
  refine th_put (D := (dC, dI)) (ci := 1) (v := .ref a1) (ty := .object "LaneWarps$Program") (C := RX1) (T := TX1) (N := 12) hx hb hts inX1 tyX1 tyX1_ok nmX1 hown hK hP hD hS (hLK _ ha0 (by decide)) o20 rfl 2 (by decide) (hts _ T_121) (fun _ h9 => h9) rfl (by decide +kernel) rfl rfl (Nat.le_of_ble_eq_true rfl) dX1_take_2 (fun H locs hP hS => ?_)
  have hP : va_P (dC, dI) vwCl (va_pl L (va_up F a0 (.inr (1, [.ref z1, .ref z3, .ref a1, va_rf z7, va_rf z9, va_rf z11, .int z12, .int z14, .int z15, .int z16, .int z18, .long z19])))) H := hP
  obtain ⟨F21, hF22⟩ : ∃ G : Nat → va_E, G = va_up F a0 (.inr (1, [.ref z1, .ref z3, .ref a1, va_rf z7, va_rf z9, va_rf z11, .int z12, .int z14, .int z15, .int z16, .int z18, .long z19])) := ⟨_, rfl⟩
  rw [← hF22] at hP
  have hI : s_I K cs D F21 := by rw [hF22]; exact s_cl2 hI ha0 ⟨z1, z3, a1, z7, z9, z11, z12, z14, z15, z16, z18, z19, rfl, h2, h4, ha1, h8, h10, ⟨by omega, by omega⟩, ⟨by omega, by omega⟩, trivial⟩
  have hfr : ∀ b, K b ∉ [2] → F21 b = F b := by rw [hF22]; exact s_fr hfr ha0 (by decide)
  have o23 : F21 a0 = .inr (1, [.ref z1, .ref z3, .ref a1, va_rf z7, va_rf z9, va_rf z11, .int z12, .int z14, .int z15, .int z16, .int z18, .long z19]) := by rw [hF22]; exact th_up
  exact W.vret hx hb hr (fun t ht hW => ⟨⟨F21, rfl, ⟨trivial, trivial, hI, hfr⟩, by rw [ht]; exact hP, va_K.moved hW.alike hK⟩, hS.F ht⟩) hS.2.2 dX1_take_5

set_option maxHeartbeats 4000000 in
set_option maxRecDepth 100000 in
theorem s_X1_goesNow (l : Launch) (dC : Nat → ClassId) (dI : Nat → Nat → Nat) (sz : Nat) {L : List Nat} {K : Nat → Nat} {cs : Nat → ClassId} (hLK : ∀ a {k : Nat}, K a = k → k ≠ 0 → a ∈ L) (D : Nat) (F : Nat → va_E) (a0 : Nat) (x1 : Int32) (ha0 : K a0 = 2) (hI : s_I K cs D F) : Met l yX1_goesNow (Cond.code yX1_goesNow cX1_goesNow 2 (some .boolean) :: T0) ({ frames := 0, cells := 0, slots := 0, locals := 0 }) (va_Pc [.ref a0, .int x1] (s_W dC dI sz L F [(cs 0, .int), (cs 1, .byte), (cs 2, .long), (cs 3, .object RX5), (cs 4, .object RX4), (cs 5, .array .int), (cs 6, .char), (cs 7, .boolean)])) (va_Qi (fun (r : Int32) (G : Nat → va_E) => (0 ≤ r.toInt ∧ r.toInt ≤ 1) ∧ (True ∧ (∀ vs z, F a0 = .inr (1, vs) → vs[8]? = some (.int z) → (r = 0 ↔ (z >>> (x1 &&& 31) &&& 1) = 0))) ∧ s_I K cs D G ∧ ∀ b, K b ∉ ([] : List Nat) → G b = F b) (fun (G : Nat → va_E) (t : State) => va_P (dC, dI) vwCl (va_pl L G) t.heap ∧ va_K (dC, dI) vwCl [(cs 0, .int), (cs 1, .byte), (cs 2, .long), (cs 3, .object RX5), (cs 4, .object RX4), (cs 5, .array .int), (cs 6, .char), (cs 7, .boolean)] t) (fun q => q ∈ L)) 0 0 (fun q => q ∈ L) := by
  refine Met.ofW (cc := cX1_goesNow) (maxL := 2) (ret := (some .boolean)) (by decide) rfl ?_
  intro p e s m args below meth c s₁ B hml hv
  obtain ⟨rfl, hsz, hP, hK, hD, hN⟩ := hv
  have hx := B.exec
  have hb := B.bytes
  have hr := B.returns
  have hts : ∀ w ∈ T0, w.before _ s = true := fun w h => atoms_spec (ws := Cond.code yX1_goesNow cX1_goesNow 2 (some .boolean) :: T0) B.pre w (List.mem_cons_of_mem _ h)
  have hown : s.vm.findClass RX1 = some m.cls := findClass_of_methodNamed B.named
  have hlocks := B.notSynchronized
  have hS : va_S (fun q => q ∈ L) s.heap s.heap [] := va_S.rf
  have hfr : ∀ b, K b ∉ ([] : List Nat) → F b = F b := fun _ _ => rfl
  have hl := lv_entry ([.ref a0, .int x1]) (n := 2) (Nat.le_of_ble_eq_true rfl)
  rw [lg_entry_eq]
  generalize (lg_sl ([.ref a0, .int x1]) ++ List.replicate (2 - (lg_sl ([.ref a0, .int x1])).length) Slot.unset).toArray = ls at hl ⊢
  have hl : lv_has ls 2 [(0, .ref a0), (1, .int x1)] := hl
  refine s_gen hP hS (fun H locs hP hS => ?_)
  refine lv_aload_n hx hb dX1_goesNow_0 rfl (lv_at hl 0 rfl) ?_
  obtain ⟨z1, z3, z5, z7, z9, z11, z12, z14, z15, z16, z18, z19, o20, h2, h4, h6, h8, h10, h13, h17, -⟩ := s_op2 hI ha0
  refine th_get (D := (dC, dI)) (ci := 1) (v := .int z15) (C := RX1) (T := TX1) (N := 12) hx hb hts inX1 hown hK hP (hLK _ ha0 (by decide)) o20 rfl 8 (by decide) (hts _ T_645) (fun _ h9 => h9) rfl dX1_goesNow_1 ?_
  refine lv_iload_n hx hb dX1_goesNow_4 rfl (lv_at hl 1 rfl) ?_
  refine lv_ishr hx hb dX1_goesNow_5 ?_
  refine lv_topi (fun v21 ev21 => ?_)
  refine lv_iconst (v := 1) hx hb dX1_goesNow_6 (by decide) ?_
  refine lv_iand hx hb dX1_goesNow_7 ?_
  refine lv_topi (fun v22 ev22 => ?_)
  have qv22 : 0 ≤ v22.toInt ∧ v22.toInt ≤ 1 := by rw [ev22]; exact th_and 1 (by decide) (by decide)
  refine lv_if_eq (tgt := 15) hx hb dX1_goesNow_8 (by decide) (fun c23 => ?_) (fun c23 => ?_)
  · have c23 := (ax_eq (n := 0) (by decide)).mp c23
    have g_bit : (z15 >>> (x1 &&& 31) &&& 1) = 0 := by rw [← ev21, ← ev22]; exact Int32.toInt_inj.mp (by rw [c23]; decide)
    refine lv_iconst (v := 0) hx hb dX1_goesNow_15 (by decide) ?_
    exact W.zret (v := 0) (ty := .boolean) hx hb hr (by decide) (fun t ht hW => ⟨⟨0, F, rfl, ⟨(by decide), ⟨trivial, (fun vs z q q2 => by rw [o20] at q; cases q; cases q2; exact ⟨fun _ => g_bit, fun _ => rfl⟩)⟩, hI, hfr⟩, by rw [ht]; exact hP, va_K.moved hW.alike hK⟩, hS.F ht⟩) hS.2.2 dX1_goesNow_16
  · have c23 := mt (ax_eq (n := 0) (by decide)).mpr c23
    have g_bit : ¬ (z15 >>> (x1 &&& 31) &&& 1) = 0 := by intro q9; apply c23; rw [ev22, ev21, q9]; decide
    refine lv_iconst (v := 1) hx hb dX1_goesNow_11 (by decide) ?_
    refine lv_goto (tgt := 16) hx hb dX1_goesNow_12 (by decide) ?_
    exact W.zret (v := 1) (ty := .boolean) hx hb hr (by decide) (fun t ht hW => ⟨⟨1, F, rfl, ⟨(by decide), ⟨trivial, (fun vs z q q2 => by rw [o20] at q; cases q; cases q2; exact ⟨fun q9 => absurd q9 (by decide), fun q9 => absurd q9 g_bit⟩)⟩, hI, hfr⟩, by rw [ht]; exact hP, va_K.moved hW.alike hK⟩, hS.F ht⟩) hS.2.2 dX1_goesNow_16

set_option maxHeartbeats 4000000 in
set_option maxRecDepth 100000 in
theorem s_X1_segments (l : Launch) (dC : Nat → ClassId) (dI : Nat → Nat → Nat) (sz : Nat) {L : List Nat} {K : Nat → Nat} {cs : Nat → ClassId} (hLK : ∀ a {k : Nat}, K a = k → k ≠ 0 → a ∈ L) (D : Nat) (F : Nat → va_E) (a0 : Nat) (ha0 : K a0 = 2) (hI : s_I K cs D F) : Met l yX1_segments (Cond.code yX1_segments cX1_segments 3 (some .int) :: T0) ({ frames := 1, cells := 0, slots := 0, locals := 21 }) (va_Pc [.ref a0] (s_W dC dI sz L F [(cs 0, .int), (cs 1, .byte), (cs 2, .long), (cs 3, .object RX5), (cs 4, .object RX4), (cs 5, .array .int), (cs 6, .char), (cs 7, .boolean)])) (va_Qi (fun (r : Int32) (G : Nat → va_E) => (0 ≤ r.toInt ∧ r.toInt ≤ 63) ∧ True ∧ s_I K cs D G ∧ ∀ b, K b ∉ ([] : List Nat) → G b = F b) (fun (G : Nat → va_E) (t : State) => va_P (dC, dI) vwCl (va_pl L G) t.heap ∧ va_K (dC, dI) vwCl [(cs 0, .int), (cs 1, .byte), (cs 2, .long), (cs 3, .object RX5), (cs 4, .object RX4), (cs 5, .array .int), (cs 6, .char), (cs 7, .boolean)] t) (fun q => q ∈ L)) 0 0 (fun q => q ∈ L) := by
  refine Met.ofW (cc := cX1_segments) (maxL := 3) (ret := (some .int)) (by decide) rfl ?_
  intro p e s m args below meth c s₁ B hml hv
  obtain ⟨rfl, hsz, hP, hK, hD, hN⟩ := hv
  have hx := B.exec
  have hb := B.bytes
  have hr := B.returns
  have hts : ∀ w ∈ T0, w.before _ s = true := fun w h => atoms_spec (ws := Cond.code yX1_segments cX1_segments 3 (some .int) :: T0) B.pre w (List.mem_cons_of_mem _ h)
  have hown : s.vm.findClass RX1 = some m.cls := findClass_of_methodNamed B.named
  have hlocks := B.notSynchronized
  have hS : va_S (fun q => q ∈ L) s.heap s.heap [] := va_S.rf
  have hfr : ∀ b, K b ∉ ([] : List Nat) → F b = F b := fun _ _ => rfl
  have hl := lv_entry ([.ref a0]) (n := 3) (Nat.le_of_ble_eq_true rfl)
  rw [lg_entry_eq]
  generalize (lg_sl ([.ref a0]) ++ List.replicate (3 - (lg_sl ([.ref a0])).length) Slot.unset).toArray = ls at hl ⊢
  have hl : lv_has ls 3 [(0, .ref a0)] := hl
  refine s_gen hP hS (fun H locs hP hS => ?_)
  refine lv_iconst (v := 0) hx hb dX1_segments_0 (by decide) ?_
  refine lv_istore_n (lv' := [(1, .int 0), (0, .ref a0)]) hx hb dX1_segments_1 rfl hl (by decide) rfl (fun ls hl => ?_)
  refine lv_iconst (v := 0) hx hb dX1_segments_2 (by decide) ?_
  refine lv_istore_n (lv' := [(2, .int 0), (1, .int 0), (0, .ref a0)]) hx hb dX1_segments_3 rfl hl (by decide) rfl (fun ls hl => ?_)
  refine th_loop (fun n g H locs => ∃ (G : Nat → va_E) (ls : Array Slot) (w1 : Int32) (w2 : Int32), g = F0 m 4 ls [] ∧ lv_has ls 3 [(0, .ref a0), (1, .int w1), (2, .int w2)] ∧ s_I K cs D G ∧ va_P (dC, dI) vwCl (va_pl L G) H ∧ va_S (fun q => q ∈ L) s.heap H locs ∧ (∀ b, K b ∉ ([] : List Nat) → G b = F b) ∧ True ∧ (0 ≤ w2.toInt ∧ w2.toInt ≤ 8) ∧ n = (9 - w2.toInt).toNat) _ ⟨F, _, 0, 0, rfl, lv_sub hl [2, 1, 0] rfl, hI, hP, hS, hfr, trivial, (by decide), rfl⟩ (fun n ih4 g H locs hq => ?_)
  obtain ⟨F9, ls, w1, w2, rfl, hl, hI, hP, hS, hfr, h3, h4, hn⟩ := hq
  have hn_4 := hn
  obtain ⟨n_4, hn9_4⟩ : ∃ q, q = n := ⟨_, rfl⟩
  refine th_join (fun g H locs => ∃ (G : Nat → va_E) (ls : Array Slot) (w5 : Int32), g = F0 m 32 ls [] ∧ lv_has ls 3 [(0, .ref a0), (1, .int w5), (2, .int w2)] ∧ s_I K cs D G ∧ va_P (dC, dI) vwCl (va_pl L G) H ∧ va_S (fun q => q ∈ L) s.heap H locs ∧ (∀ b, K b ∉ ([] : List Nat) → G b = F b) ∧ True ∧ (0 ≤ w2.toInt ∧ w2.toInt ≤ 7)) (fun K32 => ?_) ?_
  · refine lv_iload_n hx hb dX1_segments_4 rfl (lv_at hl 2 rfl) ?_
    refine lv_bipush (v := 8) hx hb dX1_segments_5 (by decide) ?_
    refine lv_icmp_ge (tgt := 38) hx hb dX1_segments_7 (by decide) (fun c6 => ?_) (fun c6 => ?_)
    · have c6 := (ax_ge (n := 8) (by decide)).mp c6
      refine lv_iload_n hx hb dX1_segments_38 rfl (lv_at hl 1 rfl) ?_
      refine va_calli (va_runS (As := [.int w1]) (rest := []) ⟨hx, hb, hml, hown, hts⟩ (s_J6_bitCount_0f7a4 l dC dI H.size hLK D F9 w1 hI) ⟨callB_of 1 hts (ax_gT T_653) rfl rfl rfl (hts _ T_652) (hts _ T_651) (by decide +kernel) ⟨Nat.le_of_ble_eq_true rfl, Nat.le_of_ble_eq_true rfl⟩, hts _ T_654⟩ ⟨fun a U g mk q => ⟨q.1, s_pc (U := U) rfl rfl q.2⟩, fun U hU hW => ⟨rfl, s_pw hU hW hP hK hD hN⟩⟩ rfl rfl hl.1 rfl (lv_room (Nat.le_of_ble_eq_true rfl)) dX1_segments_39 ⟨Nat.zero_le _, Nat.zero_le _⟩) hS (fun q _ h => h) (fun q h => h) (fun r7 F8 t H1 locs ht hvm hw hB hz1 hk1 hS => ?_)
      obtain ⟨hP, hK1⟩ := hB
      rw [ht] at hP
      generalize H1 = H at hP hS ⊢
      clear hz1 hk1
      obtain ⟨h9, h10, hI, hfr1⟩ := hw
      have hfr : ∀ b, K b ∉ ([] : List Nat) → F8 b = F b := fun b hb9 => (hfr1 b (fun q => hb9 (s_sub (by decide) q))).trans (hfr b hb9)
      exact W.iret (v := r7) hx hb hr (fun t ht hW => ⟨⟨r7, F8, rfl, ⟨⟨by omega, by omega⟩, trivial, hI, hfr⟩, by rw [ht]; exact hP, va_K.moved hW.alike hK⟩, hS.F ht⟩) hS.2.2 dX1_segments_42
    · have c6 := mt (ax_ge (n := 8) (by decide)).mpr c6
      refine lv_aload_n hx hb dX1_segments_10 rfl (lv_at hl 0 rfl) ?_
      refine lv_iload_n hx hb dX1_segments_11 rfl (lv_at hl 2 rfl) ?_
      obtain ⟨z11, z13, z15, z17, z19, z21, z22, z24, z25, z26, z28, z29, o30, h12, h14, h16, h18, h20, h23, h27, -⟩ := s_op2 hI ha0
      refine va_calli (va_runV (As := [.int w2]) (rest := []) ⟨hx, hb, hml, hown, hts⟩ (s_X1_goesNow l dC dI H.size hLK D F9 a0 w2 ha0 hI) (cwV 1 hts (ax_gV T_637 T_639 T_640 T_137 T_638) rfl rfl rfl (by decide +kernel) ⟨Nat.le_of_ble_eq_true rfl, Nat.le_of_ble_eq_true rfl⟩) ⟨fun a U g mk q => ⟨q.1, s_pc (U := U) rfl rfl q.2⟩, s_recv hK hP (hLK _ ha0 (by decide)) (ci := 1) rfl o30, fun U hU hW => ⟨rfl, s_pw hU hW hP hK hD hN⟩⟩ rfl rfl hl.1 rfl (lv_room (Nat.le_of_ble_eq_true rfl)) dX1_segments_12 ⟨Nat.zero_le _, Nat.zero_le _⟩) hS (fun q _ h => h) (fun q h => h) (fun r31 F32 t H1 locs ht hvm hw hB hz1 hk1 hS => ?_)
      obtain ⟨hP, hK1⟩ := hB
      rw [ht] at hP
      generalize H1 = H at hP hS ⊢
      clear hz1 hk1
      obtain ⟨h33, h34, hI, hfr1⟩ := hw
      have o35 : F32 a0 = .inr (1, [.ref z11, .ref z13, .ref z15, va_rf z17, va_rf z19, va_rf z21, .int z22, .int z24, .int z25, .int z26, .int z28, .long z29]) := (hfr1 _ (by rw [ha0]; decide)).trans o30
      have hfr : ∀ b, K b ∉ ([] : List Nat) → F32 b = F b := fun b hb9 => (hfr1 b (fun q => hb9 (s_sub (by decide) q))).trans (hfr b hb9)
      obtain ⟨h34, h36⟩ := h34
      have h36 : (∀ vs z, F9 a0 = .inr (1, vs) → vs[8]? = some (.int z) → (r31 = 0 ↔ (z >>> (w2 &&& 31) &&& 1) = 0)) := h36
      refine lv_if_eq (tgt := 32) hx hb dX1_segments_15 (by decide) (fun c37 => ?_) (fun c37 => ?_)
      · have c37 := (ax_eq (n := 0) (by decide)).mp c37
        exact K32 _ _ _ ⟨F32, _, w1, rfl, lv_sub hl [0, 1, 2] rfl, hI, hP, hS, hfr, trivial, ⟨by omega, by omega⟩⟩
      · have c37 := mt (ax_eq (n := 0) (by decide)).mpr c37
        refine lv_iload_n hx hb dX1_segments_18 rfl (lv_at hl 1 rfl) ?_
        refine lv_iconst (v := 1) hx hb dX1_segments_19 (by decide) ?_
        refine lv_aload_n hx hb dX1_segments_20 rfl (lv_at hl 0 rfl) ?_
        refine th_get (D := (dC, dI)) (ci := 1) (v := .ref z11) (C := RX1) (T := TX1) (N := 12) hx hb hts inX1 hown hK hP (hLK _ ha0 (by decide)) o35 rfl 0 (by decide) (hts _ T_119) (fun _ h9 => h9) rfl dX1_segments_21 ?_
        refine lv_iload_n hx hb dX1_segments_24 rfl (lv_at hl 2 rfl) ?_
        obtain ⟨f38, o39, h40⟩ := s_op34 hI h12
        refine th_iald hx hb hK hP (hLK _ h12 (by decide)) 0 o39 rfl (th_in ⟨by omega, by omega⟩) dX1_segments_25 ?_
        refine lv_topi (fun v41 ev41 => ?_)
        have qv41 : 0 ≤ v41.toInt ∧ v41.toInt ≤ 63 := by rw [ev41]; exact h40 _ (th_cl ⟨by omega, by omega⟩)
        refine lv_bipush (v := 8) hx hb dX1_segments_26 (by decide) ?_
        refine lv_idiv hx hb dX1_segments_28 (by decide) ?_
        refine lv_topi (fun v42 ev42 => ?_)
        have qv42 : v42.toInt = v41.toInt / 8 := by rw [ev42]; exact th_div rfl (by decide) (by omega) (by decide)
        refine lv_ishl hx hb dX1_segments_29 ?_
        refine lv_topi (fun v43 ev43 => ?_)
        refine lv_ior hx hb dX1_segments_30 ?_
        refine lv_topi (fun v44 ev44 => ?_)
        refine lv_istore_n (lv' := [(1, .int v44), (0, .ref a0), (2, .int w2)]) hx hb dX1_segments_31 rfl hl (by decide) rfl (fun ls hl => ?_)
        exact K32 _ _ _ ⟨F32, _, v44, rfl, lv_sub hl [1, 0, 2] rfl, hI, hP, hS, hfr, trivial, ⟨by omega, by omega⟩⟩
  · intro g H locs hq
    obtain ⟨F9, ls, w5, rfl, hl, hI, hP, hS, hfr, h45, h46⟩ := hq
    obtain ⟨v47, ev47⟩ : ∃ y : Int32, w2 + 1 = y := ⟨_, rfl⟩
    have qv47 : v47.toInt = w2.toInt + 1 := by rw [← ev47]; exact th_add rfl (by decide) ⟨by omega, by omega⟩
    refine lv_iinc (v := v47) (lv' := [(2, .int v47), (0, .ref a0), (1, .int w5)]) hx hb dX1_segments_32 hl (k := 2) rfl ev47 (by decide) rfl (fun ls hl => ?_)
    refine lv_goto (tgt := 4) hx hb dX1_segments_35 (by decide) ?_
    exact ih4 _ _ _ _ (by omega) ⟨F9, _, w5, v47, rfl, lv_sub hl [1, 2, 0] rfl, hI, hP, hS, hfr, trivial, ⟨by omega, by omega⟩, rfl⟩

set_option maxHeartbeats 4000000 in
set_option maxRecDepth 100000 in
theorem s_X1_pickWarp (l : Launch) (dC : Nat → ClassId) (dI : Nat → Nat → Nat) (sz : Nat) {L : List Nat} {K : Nat → Nat} {cs : Nat → ClassId} (hLK : ∀ a {k : Nat}, K a = k → k ≠ 0 → a ∈ L) (D : Nat) (F : Nat → va_E) (a0 : Nat) (ha0 : K a0 = 2) (hI : s_I K cs D F) (hR : s_rd1 K F a0) : Met l yX1_pickWarp (Cond.code yX1_pickWarp cX1_pickWarp 4 (some .boolean) :: T0) ({ frames := 2, cells := 0, slots := 0, locals := 43 }) (va_Pc [.ref a0] (s_W dC dI sz L F [(cs 0, .int), (cs 1, .byte), (cs 2, .long), (cs 3, .object RX5), (cs 4, .object RX4), (cs 5, .array .int), (cs 6, .char), (cs 7, .boolean)])) (va_Qi (fun (r : Int32) (G : Nat → va_E) => (0 ≤ r.toInt ∧ r.toInt ≤ 1) ∧ True ∧ s_I K cs D G ∧ (∀ b, K b ∉ [2] → G b = F b) ∧ (¬ r = 0 → s_rd2 K G a0)) (fun (G : Nat → va_E) (t : State) => va_P (dC, dI) vwCl (va_pl L G) t.heap ∧ va_K (dC, dI) vwCl [(cs 0, .int), (cs 1, .byte), (cs 2, .long), (cs 3, .object RX5), (cs 4, .object RX4), (cs 5, .array .int), (cs 6, .char), (cs 7, .boolean)] t) (fun q => q ∈ L)) 0 0 (fun q => q ∈ L) := by
  refine Met.ofW (cc := cX1_pickWarp) (maxL := 4) (ret := (some .boolean)) (by decide) rfl ?_
  intro p e s m args below meth c s₁ B hml hv
  obtain ⟨rfl, hsz, hP, hK, hD, hN⟩ := hv
  have hx := B.exec
  have hb := B.bytes
  have hr := B.returns
  have hts : ∀ w ∈ T0, w.before _ s = true := fun w h => atoms_spec (ws := Cond.code yX1_pickWarp cX1_pickWarp 4 (some .boolean) :: T0) B.pre w (List.mem_cons_of_mem _ h)
  have hown : s.vm.findClass RX1 = some m.cls := findClass_of_methodNamed B.named
  have hlocks := B.notSynchronized
  have hS : va_S (fun q => q ∈ L) s.heap s.heap [] := va_S.rf
  have hfr : ∀ b, K b ∉ [2] → F b = F b := fun _ _ => rfl
  have hl := lv_entry ([.ref a0]) (n := 4) (Nat.le_of_ble_eq_true rfl)
  rw [lg_entry_eq]
  generalize (lg_sl ([.ref a0]) ++ List.replicate (4 - (lg_sl ([.ref a0])).length) Slot.unset).toArray = ls at hl ⊢
  have hl : lv_has ls 4 [(0, .ref a0)] := hl
  refine s_gen hP hS (fun H locs hP hS => ?_)
  obtain ⟨z1, z3, z5, z7, z9, z11, z12, z14, z15, z16, z18, z19, o20, h2, h4, h6, h8, h10, h13, h17, -⟩ := hR
  refine th_join (fun g H locs => ∃ (G : Nat → va_E) (ls : Array Slot) (w21 : Int32), g = F0 m 24 ls [.int w21] ∧ lv_has ls 4 [(0, .ref a0)] ∧ s_I K cs D G ∧ va_P (dC, dI) vwCl (va_pl L G) H ∧ va_S (fun q => q ∈ L) s.heap H locs ∧ (∀ b, K b ∉ [2] → G b = F b) ∧ (0 ≤ w21.toInt ∧ w21.toInt ≤ 4) ∧ s_rd1 K G a0) (fun K24 => ?_) ?_
  · refine lv_aload_n hx hb dX1_pickWarp_0 rfl (lv_at hl 0 rfl) ?_
    refine th_get (D := (dC, dI)) (ci := 1) (v := .ref z7) (C := RX1) (T := TX1) (N := 12) hx hb hts inX1 hown hK hP (hLK _ ha0 (by decide)) o20 rfl 3 (by decide) (hts _ T_611) (fun _ h9 => h9) rfl dX1_pickWarp_1 ?_
    obtain ⟨z22, z24, z26, z28, z30, z32, z34, z36, z38, z39, z40, z42, z43, z45, z46, o48, h23, h25, h27, h29, h31, h33, h35, h37, h41, h44, h47, -⟩ := s_op5 hI h8
    refine th_getN (D := (dC, dI)) (ci := 4) (v := .int z39) (C := RX4) (T := TX4) (N := 15) hx hb hts inX4 hown hK hP (hLK _ h8 (by decide)) o48 rfl 9 (by decide) (va_Nw.use rfl (ax_n35 hN)) (fun _ h9 => h9) rfl dX1_pickWarp_4 ?_
    refine lv_iconst (v := 1) hx hb dX1_pickWarp_7 (by decide) ?_
    refine lv_icmp_ne (tgt := 23) hx hb dX1_pickWarp_8 (by decide) (fun c49 => ?_) (fun c49 => ?_)
    · have c49 := mt (ax_eq (n := 1) (by decide)).mpr c49
      refine lv_iconst (v := 0) hx hb dX1_pickWarp_23 (by decide) ?_
      exact K24 _ _ _ ⟨F, _, 0, rfl, lv_sub hl [0] rfl, hI, hP, hS, hfr, (by decide), ⟨z1, z3, z5, z7, z9, z11, z12, z14, z15, z16, z18, z19, o20, h2, h4, h6, h8, h10, ⟨by omega, by omega⟩, ⟨by omega, by omega⟩, trivial⟩⟩
    · have c49 := (ax_eq (n := 1) (by decide)).mp c49
      refine lv_aload_n hx hb dX1_pickWarp_11 rfl (lv_at hl 0 rfl) ?_
      refine th_get (D := (dC, dI)) (ci := 1) (v := .ref z7) (C := RX1) (T := TX1) (N := 12) hx hb hts inX1 hown hK hP (hLK _ ha0 (by decide)) o20 rfl 3 (by decide) (hts _ T_611) (fun _ h9 => h9) rfl dX1_pickWarp_12 ?_
      refine th_getN (D := (dC, dI)) (ci := 4) (v := .int z46) (C := RX4) (T := TX4) (N := 15) hx hb hts inX4 hown hK hP (hLK _ h8 (by decide)) o48 rfl 14 (by decide) (va_Nw.use rfl (ax_n27 hN)) (fun _ h9 => h9) rfl dX1_pickWarp_15 ?_
      refine lv_iconst (v := 1) hx hb dX1_pickWarp_18 (by decide) ?_
      refine lv_iadd hx hb dX1_pickWarp_19 ?_
      refine lv_topi (fun v50 ev50 => ?_)
      have qv50 : v50.toInt = z46.toInt + 1 := by rw [ev50]; exact th_add rfl (by decide) ⟨by omega, by omega⟩
      refine lv_goto (tgt := 24) hx hb dX1_pickWarp_20 (by decide) ?_
      exact K24 _ _ _ ⟨F, _, v50, rfl, lv_sub hl [0] rfl, hI, hP, hS, hfr, ⟨by omega, by omega⟩, ⟨z1, z3, z5, z7, z9, z11, z12, z14, z15, z16, z18, z19, o20, h2, h4, h6, h8, h10, ⟨by omega, by omega⟩, ⟨by omega, by omega⟩, trivial⟩⟩
  · intro g H locs hq
    obtain ⟨F9, ls, w21, rfl, hl, hI, hP, hS, hfr, h51, h52⟩ := hq
    obtain ⟨z53, z55, z57, z59, z61, z63, z64, z66, z67, z68, z70, z71, o72, h54, h56, h58, h60, h62, h65, h69, -⟩ := h52
    refine lv_istore_n (lv' := [(1, .int w21), (0, .ref a0)]) hx hb dX1_pickWarp_24 rfl hl (by decide) rfl (fun ls hl => ?_)
    refine lv_iconst (v := 0) hx hb dX1_pickWarp_25 (by decide) ?_
    refine lv_istore_n (lv' := [(2, .int 0), (1, .int w21), (0, .ref a0)]) hx hb dX1_pickWarp_26 rfl hl (by decide) rfl (fun ls hl => ?_)
    refine th_loop (fun n g H locs => ∃ (G : Nat → va_E) (ls : Array Slot) (w73 : Int32), g = F0 m 27 ls [] ∧ lv_has ls 4 [(0, .ref a0), (1, .int w21), (2, .int w73)] ∧ s_I K cs D G ∧ va_P (dC, dI) vwCl (va_pl L G) H ∧ va_S (fun q => q ∈ L) s.heap H locs ∧ (∀ b, K b ∉ [2] → G b = F b) ∧ (0 ≤ w73.toInt ∧ w73.toInt ≤ 4) ∧ (0 ≤ w21.toInt ∧ w21.toInt ≤ 4) ∧ s_rd1 K G a0 ∧ n = (5 - w73.toInt).toNat) _ ⟨F9, _, 0, rfl, lv_sub hl [2, 1, 0] rfl, hI, hP, hS, hfr, (by decide), ⟨by omega, by omega⟩, ⟨z53, z55, z57, z59, z61, z63, z64, z66, z67, z68, z70, z71, o72, h54, h56, h58, h60, h62, ⟨by omega, by omega⟩, ⟨by omega, by omega⟩, trivial⟩, rfl⟩ (fun n ih27 g H locs hq => ?_)
    obtain ⟨F9, ls, w73, rfl, hl, hI, hP, hS, hfr, h74, h75, h76, hn⟩ := hq
    obtain ⟨z77, z79, z81, z83, z85, z87, z88, z90, z91, z92, z94, z95, o96, h78, h80, h82, h84, h86, h89, h93, -⟩ := h76
    have hn_27 := hn
    obtain ⟨n_27, hn9_27⟩ : ∃ q, q = n := ⟨_, rfl⟩
    refine lv_iload_n hx hb dX1_pickWarp_27 rfl (lv_at hl 2 rfl) ?_
    refine lv_aload_n hx hb dX1_pickWarp_28 rfl (lv_at hl 0 rfl) ?_
    refine th_get (D := (dC, dI)) (ci := 1) (v := .ref z83) (C := RX1) (T := TX1) (N := 12) hx hb hts inX1 hown hK hP (hLK _ ha0 (by decide)) o96 rfl 3 (by decide) (hts _ T_611) (fun _ h9 => h9) rfl dX1_pickWarp_29 ?_
    obtain ⟨z97, z99, z101, z103, z105, z107, z109, z111, z113, z114, z115, z117, z118, z120, z121, o123, h98, h100, h102, h104, h106, h108, h110, h112, h116, h119, h122, -⟩ := s_op5 hI h84
    refine th_getN (D := (dC, dI)) (ci := 4) (v := .int z111) (C := RX4) (T := TX4) (N := 15) hx hb hts inX4 hown hK hP (hLK _ h84 (by decide)) o123 rfl 7 (by decide) (va_Nw.use rfl (ax_n36 hN)) (fun _ h9 => h9) rfl dX1_pickWarp_32 ?_
    refine lv_icmp_ge (tgt := 87) hx hb dX1_pickWarp_35 (by decide) (fun c124 => ?_) (fun c124 => ?_)
    · have c124 := Int32.le_iff_toInt_le.mp c124
      refine lv_iconst (v := 0) hx hb dX1_pickWarp_87 (by decide) ?_
      exact W.zret (v := 0) (ty := .boolean) hx hb hr (by decide) (fun t ht hW => ⟨⟨0, F9, rfl, ⟨(by decide), trivial, hI, hfr, (fun q => absurd (by decide) q)⟩, by rw [ht]; exact hP, va_K.moved hW.alike hK⟩, hS.F ht⟩) hS.2.2 dX1_pickWarp_88
    · have c124 := mt Int32.le_iff_toInt_le.mpr c124
      refine lv_iload_n hx hb dX1_pickWarp_38 rfl (lv_at hl 1 rfl) ?_
      refine lv_iload_n hx hb dX1_pickWarp_39 rfl (lv_at hl 2 rfl) ?_
      refine lv_iadd hx hb dX1_pickWarp_40 ?_
      refine lv_topi (fun v125 ev125 => ?_)
      have qv125 : v125.toInt = w21.toInt + w73.toInt := by rw [ev125]; exact th_add rfl rfl ⟨by omega, by omega⟩
      refine lv_aload_n hx hb dX1_pickWarp_41 rfl (lv_at hl 0 rfl) ?_
      refine th_get (D := (dC, dI)) (ci := 1) (v := .ref z83) (C := RX1) (T := TX1) (N := 12) hx hb hts inX1 hown hK hP (hLK _ ha0 (by decide)) o96 rfl 3 (by decide) (hts _ T_611) (fun _ h9 => h9) rfl dX1_pickWarp_42 ?_
      refine th_getN (D := (dC, dI)) (ci := 4) (v := .int z111) (C := RX4) (T := TX4) (N := 15) hx hb hts inX4 hown hK hP (hLK _ h84 (by decide)) o123 rfl 7 (by decide) (va_Nw.use rfl (ax_n36 hN)) (fun _ h9 => h9) rfl dX1_pickWarp_45 ?_
      refine lv_irem hx hb dX1_pickWarp_48 (fun q => by have q2 := Int32.toInt_inj.mpr q; have q3 : (0 : Int32).toInt = 0 := (by decide); omega) ?_
      refine lv_topi (fun v126 ev126 => ?_)
      have qv126 : 0 ≤ v126.toInt ∧ v126.toInt < z111.toInt := by rw [ev126]; exact th_remV (by omega) (by omega)
      refine lv_istore_n (lv' := [(3, .int v126), (0, .ref a0), (1, .int w21), (2, .int w73)]) hx hb dX1_pickWarp_49 rfl hl (by decide) rfl (fun ls hl => ?_)
      refine lv_aload_n hx hb dX1_pickWarp_50 rfl (lv_at hl 1 rfl) ?_
      refine th_get (D := (dC, dI)) (ci := 1) (v := .ref z83) (C := RX1) (T := TX1) (N := 12) hx hb hts inX1 hown hK hP (hLK _ ha0 (by decide)) o96 rfl 3 (by decide) (hts _ T_611) (fun _ h9 => h9) rfl dX1_pickWarp_51 ?_
      refine lv_iload_n hx hb dX1_pickWarp_54 rfl (lv_at hl 0 rfl) ?_
      refine va_calli (va_runV (As := [.int v126]) (rest := []) ⟨hx, hb, hml, hown, hts⟩ (s_X4_canGo l dC dI H.size hLK D F9 z83 v126 h84 (⟨by omega, by omega⟩) hI) (cwV 1 hts (ax_gV T_697 T_699 T_700 T_142 T_698) rfl rfl rfl (by decide +kernel) ⟨Nat.le_of_ble_eq_true rfl, Nat.le_of_ble_eq_true rfl⟩) ⟨fun a U g mk q => ⟨q.1, s_pc (U := U) rfl rfl q.2⟩, s_recv hK hP (hLK _ h84 (by decide)) (ci := 4) rfl o123, fun U hU hW => ⟨rfl, s_pw hU hW hP hK hD hN⟩⟩ rfl rfl hl.1 rfl (lv_room (Nat.le_of_ble_eq_true rfl)) dX1_pickWarp_55 ⟨Nat.zero_le _, Nat.zero_le _⟩) hS (fun q _ h => h) (fun q h => h) (fun r127 F128 t H1 locs ht hvm hw hB hz1 hk1 hS => ?_)
      obtain ⟨hP, hK1⟩ := hB
      rw [ht] at hP
      generalize H1 = H at hP hS ⊢
      clear hz1 hk1
      obtain ⟨h129, h130, hI, hfr1⟩ := hw
      have o131 : F128 a0 = .inr (1, [.ref z77, .ref z79, .ref z81, .ref z83, va_rf z85, va_rf z87, .int z88, .int z90, .int z91, .int z92, .int z94, .long z95]) := (hfr1 _ (by rw [ha0]; decide)).trans o96
      have o132 : F128 z83 = .inr (4, [.ref z97, .ref z99, .ref z101, .ref z103, .ref z105, .ref z107, .ref z109, .int z111, .int z113, .int z114, .int z115, .int z117, .int z118, .int z120, .int z121]) := (hfr1 _ (by rw [h84]; decide)).trans o123
      have hfr : ∀ b, K b ∉ [2] → F128 b = F b := fun b hb9 => (hfr1 b (fun q => hb9 (s_sub (by decide) q))).trans (hfr b hb9)
      refine lv_if_eq (tgt := 81) hx hb dX1_pickWarp_58 (by decide) (fun c133 => ?_) (fun c133 => ?_)
      · have c133 := (ax_eq (n := 0) (by decide)).mp c133
        obtain ⟨v134, ev134⟩ : ∃ y : Int32, w73 + 1 = y := ⟨_, rfl⟩
        have qv134 : v134.toInt = w73.toInt + 1 := by rw [← ev134]; exact th_add rfl (by decide) ⟨by omega, by omega⟩
        refine lv_iinc (v := v134) (lv' := [(2, .int v134), (3, .int v126), (0, .ref a0), (1, .int w21)]) hx hb dX1_pickWarp_81 hl (k := 3) rfl ev134 (by decide) rfl (fun ls hl => ?_)
        refine lv_goto (tgt := 27) hx hb dX1_pickWarp_84 (by decide) ?_
        exact ih27 _ _ _ _ (by omega) ⟨F128, _, v134, rfl, lv_sub hl [2, 3, 0] rfl, hI, hP, hS, hfr, ⟨by omega, by omega⟩, ⟨by omega, by omega⟩, ⟨z77, z79, z81, z83, z85, z87, z88, z90, z91, z92, z94, z95, o131, h78, h80, h82, h84, h86, ⟨by omega, by omega⟩, ⟨by omega, by omega⟩, trivial⟩, rfl⟩
      · have c133 := mt (ax_eq (n := 0) (by decide)).mpr c133
        refine lv_aload_n hx hb dX1_pickWarp_61 rfl (lv_at hl 1 rfl) ?_
        refine lv_iload_n hx hb dX1_pickWarp_62 rfl (lv_at hl 0 rfl) ?_
        refine th_put (D := (dC, dI)) (ci := 1) (v := .int v126) (ty := .int) (C := RX1) (T := TX1) (N := 12) hx hb hts inX1 tyX1 tyX1_ok nmX1 hown hK hP hD hS (hLK _ ha0 (by decide)) o131 rfl 6 (by decide) (hts _ T_618) (fun _ h9 => h9) rfl (by decide +kernel) rfl rfl (Nat.le_of_ble_eq_true rfl) dX1_pickWarp_63 (fun H locs hP hS => ?_)
        have hP : va_P (dC, dI) vwCl (va_pl L (va_up F128 a0 (.inr (1, [.ref z77, .ref z79, .ref z81, .ref z83, va_rf z85, va_rf z87, .int v126, .int z90, .int z91, .int z92, .int z94, .long z95])))) H := hP
        obtain ⟨F135, hF136⟩ : ∃ G : Nat → va_E, G = va_up F128 a0 (.inr (1, [.ref z77, .ref z79, .ref z81, .ref z83, va_rf z85, va_rf z87, .int v126, .int z90, .int z91, .int z92, .int z94, .long z95])) := ⟨_, rfl⟩
        rw [← hF136] at hP
        have hI : s_I K cs D F135 := by rw [hF136]; exact s_cl2 hI ha0 ⟨z77, z79, z81, some z83, z85, z87, v126, z90, z91, z92, z94, z95, rfl, h78, h80, h82, (fun q e => by cases e; exact h84), h86, ⟨by omega, by omega⟩, ⟨by omega, by omega⟩, trivial⟩
        have hfr : ∀ b, K b ∉ [2] → F135 b = F b := by rw [hF136]; exact s_fr hfr ha0 (by decide)
        have o137 : F135 z83 = .inr (4, [.ref z97, .ref z99, .ref z101, .ref z103, .ref z105, .ref z107, .ref z109, .int z111, .int z113, .int z114, .int z115, .int z117, .int z118, .int z120, .int z121]) := by rw [hF136]; exact th_ne (th_kd h84 ha0 (by decide)) o132
        have o138 : F135 a0 = .inr (1, [.ref z77, .ref z79, .ref z81, .ref z83, va_rf z85, va_rf z87, .int v126, .int z90, .int z91, .int z92, .int z94, .long z95]) := by rw [hF136]; exact th_up
        refine lv_aload_n hx hb dX1_pickWarp_66 rfl (lv_at hl 1 rfl) ?_
        refine lv_aload_n hx hb dX1_pickWarp_67 rfl (lv_at hl 1 rfl) ?_
        refine th_get (D := (dC, dI)) (ci := 1) (v := .ref z83) (C := RX1) (T := TX1) (N := 12) hx hb hts inX1 hown hK hP (hLK _ ha0 (by decide)) o138 rfl 3 (by decide) (hts _ T_611) (fun _ h9 => h9) rfl dX1_pickWarp_68 ?_
        refine th_getN (D := (dC, dI)) (ci := 4) (v := .ref z97) (C := RX4) (T := TX4) (N := 15) hx hb hts inX4 hown hK hP (hLK _ h84 (by decide)) o137 rfl 0 (by decide) (va_Nw.use rfl (ax_n37 hN)) (fun _ h9 => h9) rfl dX1_pickWarp_71 ?_
        refine lv_iload_n hx hb dX1_pickWarp_74 rfl (lv_at hl 0 rfl) ?_
        obtain ⟨f139, o140, h141⟩ := s_op26 hI h98
        obtain ⟨z142, o144, h143⟩ := h141 (v126 : Int32).toNatClampNeg (th_cl ⟨by omega, by omega⟩)
        refine th_aald hx hb hK hP (hLK _ h98 (by decide)) 3 o140 rfl (th_in ⟨by omega, by omega⟩) o144 dX1_pickWarp_75 ?_
        refine th_put (D := (dC, dI)) (ci := 1) (v := .ref z142) (ty := .object "LaneWarps$Warp") (C := RX1) (T := TX1) (N := 12) hx hb hts inX1 tyX1 tyX1_ok nmX1 hown hK hP hD hS (hLK _ ha0 (by decide)) o138 rfl 4 (by decide) (hts _ T_612) (fun _ h9 => h9) rfl (by decide +kernel) rfl rfl (Nat.le_of_ble_eq_true rfl) dX1_pickWarp_76 (fun H locs hP hS => ?_)
        have hP : va_P (dC, dI) vwCl (va_pl L (va_up F135 a0 (.inr (1, [.ref z77, .ref z79, .ref z81, .ref z83, .ref z142, va_rf z87, .int v126, .int z90, .int z91, .int z92, .int z94, .long z95])))) H := hP
        obtain ⟨F145, hF146⟩ : ∃ G : Nat → va_E, G = va_up F135 a0 (.inr (1, [.ref z77, .ref z79, .ref z81, .ref z83, .ref z142, va_rf z87, .int v126, .int z90, .int z91, .int z92, .int z94, .long z95])) := ⟨_, rfl⟩
        rw [← hF146] at hP
        have hI : s_I K cs D F145 := by rw [hF146]; exact s_cl2 hI ha0 ⟨z77, z79, z81, some z83, some z142, z87, v126, z90, z91, z92, z94, z95, rfl, h78, h80, h82, (fun q e => by cases e; exact h84), (fun q e => by cases e; exact h143), ⟨by omega, by omega⟩, ⟨by omega, by omega⟩, trivial⟩
        have hfr : ∀ b, K b ∉ [2] → F145 b = F b := by rw [hF146]; exact s_fr hfr ha0 (by decide)
        have o147 : F145 z83 = .inr (4, [.ref z97, .ref z99, .ref z101, .ref z103, .ref z105, .ref z107, .ref z109, .int z111, .int z113, .int z114, .int z115, .int z117, .int z118, .int z120, .int z121]) := by rw [hF146]; exact th_ne (th_kd h84 ha0 (by decide)) o137
        have o148 : F145 a0 = .inr (1, [.ref z77, .ref z79, .ref z81, .ref z83, .ref z142, va_rf z87, .int v126, .int z90, .int z91, .int z92, .int z94, .long z95]) := by rw [hF146]; exact th_up
        refine lv_iconst (v := 1) hx hb dX1_pickWarp_79 (by decide) ?_
        exact W.zret (v := 1) (ty := .boolean) hx hb hr (by decide) (fun t ht hW => ⟨⟨1, F145, rfl, ⟨(by decide), trivial, hI, hfr, (fun _ => ⟨z77, z79, z81, z83, z142, z87, v126, z90, z91, z92, z94, z95, o148, h78, h80, h82, h84, h143, ⟨by omega, by omega⟩, ⟨by omega, by omega⟩, trivial⟩)⟩, by rw [ht]; exact hP, va_K.moved hW.alike hK⟩, hS.F ht⟩) hS.2.2 dX1_pickWarp_80

set_option maxHeartbeats 4000000 in
set_option maxRecDepth 100000 in
theorem s_X1_pickLanes (l : Launch) (dC : Nat → ClassId) (dI : Nat → Nat → Nat) (sz : Nat) {L : List Nat} {K : Nat → Nat} {cs : Nat → ClassId} (hLK : ∀ a {k : Nat}, K a = k → k ≠ 0 → a ∈ L) (D : Nat) (F : Nat → va_E) (a0 : Nat) (ha0 : K a0 = 2) (hI : s_I K cs D F) (hR : s_rd2 K F a0) : Met l yX1_pickLanes (Cond.code yX1_pickLanes cX1_pickLanes 3 none :: T0) ({ frames := 1, cells := 0, slots := 0, locals := 22 }) (va_Pc [.ref a0] (s_W dC dI sz L F [(cs 0, .int), (cs 1, .byte), (cs 2, .long), (cs 3, .object RX5), (cs 4, .object RX4), (cs 5, .array .int), (cs 6, .char), (cs 7, .boolean)])) (va_Qv (fun (G : Nat → va_E) => True ∧ True ∧ s_I K cs D G ∧ (∀ b, K b ∉ [2] → G b = F b) ∧ s_rd2 K G a0) (fun (G : Nat → va_E) (t : State) => va_P (dC, dI) vwCl (va_pl L G) t.heap ∧ va_K (dC, dI) vwCl [(cs 0, .int), (cs 1, .byte), (cs 2, .long), (cs 3, .object RX5), (cs 4, .object RX4), (cs 5, .array .int), (cs 6, .char), (cs 7, .boolean)] t) (fun q => q ∈ L)) 0 0 (fun q => q ∈ L) := by
  refine Met.ofW (cc := cX1_pickLanes) (maxL := 3) (ret := none) (by decide) rfl ?_
  intro p e s m args below meth c s₁ B hml hv
  obtain ⟨rfl, hsz, hP, hK, hD, hN⟩ := hv
  have hx := B.exec
  have hb := B.bytes
  have hr := B.returns
  have hts : ∀ w ∈ T0, w.before _ s = true := fun w h => atoms_spec (ws := Cond.code yX1_pickLanes cX1_pickLanes 3 none :: T0) B.pre w (List.mem_cons_of_mem _ h)
  have hown : s.vm.findClass RX1 = some m.cls := findClass_of_methodNamed B.named
  have hlocks := B.notSynchronized
  have hS : va_S (fun q => q ∈ L) s.heap s.heap [] := va_S.rf
  have hfr : ∀ b, K b ∉ [2] → F b = F b := fun _ _ => rfl
  have hl := lv_entry ([.ref a0]) (n := 3) (Nat.le_of_ble_eq_true rfl)
  rw [lg_entry_eq]
  generalize (lg_sl ([.ref a0]) ++ List.replicate (3 - (lg_sl ([.ref a0])).length) Slot.unset).toArray = ls at hl ⊢
  have hl : lv_has ls 3 [(0, .ref a0)] := hl
  refine s_gen hP hS (fun H locs hP hS => ?_)
  obtain ⟨z1, z3, z5, z7, z9, z11, z12, z14, z15, z16, z18, z19, o20, h2, h4, h6, h8, h10, h13, h17, -⟩ := hR
  refine th_join (fun g H locs => ∃ (G : Nat → va_E) (ls : Array Slot) (w21 : Int32), g = F0 m 105 ls [] ∧ lv_has ls 3 [(0, .ref a0), (1, .int w21)] ∧ s_I K cs D G ∧ va_P (dC, dI) vwCl (va_pl L G) H ∧ va_S (fun q => q ∈ L) s.heap H locs ∧ (∀ b, K b ∉ [2] → G b = F b) ∧ True ∧ s_rd2 K G a0) (fun K105 => ?_) ?_
  · refine lv_aload_n hx hb dX1_pickLanes_0 rfl (lv_at hl 0 rfl) ?_
    refine th_get (D := (dC, dI)) (ci := 1) (v := .ref z9) (C := RX1) (T := TX1) (N := 12) hx hb hts inX1 hown hK hP (hLK _ ha0 (by decide)) o20 rfl 4 (by decide) (hts _ T_612) (fun _ h9 => h9) rfl dX1_pickLanes_1 ?_
    refine lv_aload_n hx hb dX1_pickLanes_4 rfl (lv_at hl 0 rfl) ?_
    refine th_get (D := (dC, dI)) (ci := 1) (v := .ref z7) (C := RX1) (T := TX1) (N := 12) hx hb hts inX1 hown hK hP (hLK _ ha0 (by decide)) o20 rfl 3 (by decide) (hts _ T_611) (fun _ h9 => h9) rfl dX1_pickLanes_5 ?_
    obtain ⟨z22, z24, z26, z28, z30, z32, z34, z36, z38, z39, z40, z42, z43, z45, z46, o48, h23, h25, h27, h29, h31, h33, h35, h37, h41, h44, h47, -⟩ := s_op5 hI h8
    refine th_getN (D := (dC, dI)) (ci := 4) (v := .int z38) (C := RX4) (T := TX4) (N := 15) hx hb hts inX4 hown hK hP (hLK _ h8 (by decide)) o48 rfl 8 (by decide) (va_Nw.use rfl (ax_n31 hN)) (fun _ h9 => h9) rfl dX1_pickLanes_8 ?_
    obtain ⟨z49, z51, z53, z55, z57, z59, z61, z62, z63, z64, z65, o67, h50, h52, h54, h56, h58, h60, h66, -⟩ := s_op6 hI h10
    refine va_calli (va_runV (As := [.int z38]) (rest := []) ⟨hx, hb, hml, hown, hts⟩ (s_X5_movable l dC dI H.size hLK D F z9 z38 h10 hI) (cwV 1 hts (ax_gV T_693 T_695 T_696 T_116 T_694) rfl rfl rfl (by decide +kernel) ⟨Nat.le_of_ble_eq_true rfl, Nat.le_of_ble_eq_true rfl⟩) ⟨fun a U g mk q => ⟨q.1, s_pc (U := U) rfl rfl q.2⟩, s_recv hK hP (hLK _ h10 (by decide)) (ci := 5) rfl o67, fun U hU hW => ⟨rfl, s_pw hU hW hP hK hD hN⟩⟩ rfl rfl hl.1 rfl (lv_room (Nat.le_of_ble_eq_true rfl)) dX1_pickLanes_11 ⟨Nat.zero_le _, Nat.zero_le _⟩) hS (fun q _ h => h) (fun q h => h) (fun r68 F69 t H1 locs ht hvm hw hB hz1 hk1 hS => ?_)
    obtain ⟨hP, hK1⟩ := hB
    rw [ht] at hP
    generalize H1 = H at hP hS ⊢
    clear hz1 hk1
    obtain ⟨h70, h71, hI, hfr1⟩ := hw
    have o72 : F69 a0 = .inr (1, [.ref z1, .ref z3, .ref z5, .ref z7, .ref z9, va_rf z11, .int z12, .int z14, .int z15, .int z16, .int z18, .long z19]) := (hfr1 _ (by rw [ha0]; decide)).trans o20
    have o73 : F69 z7 = .inr (4, [.ref z22, .ref z24, .ref z26, .ref z28, .ref z30, .ref z32, .ref z34, .int z36, .int z38, .int z39, .int z40, .int z42, .int z43, .int z45, .int z46]) := (hfr1 _ (by rw [h8]; decide)).trans o48
    have o74 : F69 z9 = .inr (5, [.ref z49, .ref z51, .ref z53, .ref z55, .ref z57, .int z59, .int z61, .int z62, .int z63, .int z64, .int z65]) := (hfr1 _ (by rw [h10]; decide)).trans o67
    have hfr : ∀ b, K b ∉ [2] → F69 b = F b := fun b hb9 => (hfr1 b (fun q => hb9 (s_sub (by decide) q))).trans (hfr b hb9)
    refine lv_istore_n (lv' := [(1, .int r68), (0, .ref a0)]) hx hb dX1_pickLanes_14 rfl hl (by decide) rfl (fun ls hl => ?_)
    refine lv_aload_n hx hb dX1_pickLanes_15 rfl (lv_at hl 1 rfl) ?_
    refine th_get (D := (dC, dI)) (ci := 1) (v := .ref z7) (C := RX1) (T := TX1) (N := 12) hx hb hts inX1 hown hK hP (hLK _ ha0 (by decide)) o72 rfl 3 (by decide) (hts _ T_611) (fun _ h9 => h9) rfl dX1_pickLanes_16 ?_
    refine th_getN (D := (dC, dI)) (ci := 4) (v := .int z38) (C := RX4) (T := TX4) (N := 15) hx hb hts inX4 hown hK hP (hLK _ h8 (by decide)) o73 rfl 8 (by decide) (va_Nw.use rfl (ax_n31 hN)) (fun _ h9 => h9) rfl dX1_pickLanes_19 ?_
    refine lv_if_ne (tgt := 56) hx hb dX1_pickLanes_22 (by decide) (fun c75 => ?_) (fun c75 => ?_)
    · have c75 := mt (ax_eq (n := 0) (by decide)).mpr c75
      refine lv_aload_n hx hb dX1_pickLanes_56 rfl (lv_at hl 1 rfl) ?_
      refine lv_aload_n hx hb dX1_pickLanes_57 rfl (lv_at hl 1 rfl) ?_
      refine th_get (D := (dC, dI)) (ci := 1) (v := .ref z9) (C := RX1) (T := TX1) (N := 12) hx hb hts inX1 hown hK hP (hLK _ ha0 (by decide)) o72 rfl 4 (by decide) (hts _ T_612) (fun _ h9 => h9) rfl dX1_pickLanes_58 ?_
      refine th_getN (D := (dC, dI)) (ci := 5) (v := .int z65) (C := RX5) (T := TX5) (N := 11) hx hb hts inX5 hown hK hP (hLK _ h10 (by decide)) o74 rfl 10 (by decide) (va_Nw.use rfl (ax_n29 hN)) (fun _ h9 => h9) rfl dX1_pickLanes_61 ?_
      refine th_put (D := (dC, dI)) (ci := 1) (v := .int z65) (ty := .int) (C := RX1) (T := TX1) (N := 12) hx hb hts inX1 tyX1 tyX1_ok nmX1 hown hK hP hD hS (hLK _ ha0 (by decide)) o72 rfl 9 (by decide) (hts _ T_664) (fun _ h9 => h9) rfl (by decide +kernel) rfl rfl (Nat.le_of_ble_eq_true rfl) dX1_pickLanes_64 (fun H locs hP hS => ?_)
      have hP : va_P (dC, dI) vwCl (va_pl L (va_up F69 a0 (.inr (1, [.ref z1, .ref z3, .ref z5, .ref z7, .ref z9, va_rf z11, .int z12, .int z14, .int z15, .int z65, .int z18, .long z19])))) H := hP
      obtain ⟨F76, hF77⟩ : ∃ G : Nat → va_E, G = va_up F69 a0 (.inr (1, [.ref z1, .ref z3, .ref z5, .ref z7, .ref z9, va_rf z11, .int z12, .int z14, .int z15, .int z65, .int z18, .long z19])) := ⟨_, rfl⟩
      rw [← hF77] at hP
      have hI : s_I K cs D F76 := by rw [hF77]; exact s_cl2 hI ha0 ⟨z1, z3, z5, some z7, some z9, z11, z12, z14, z15, z65, z18, z19, rfl, h2, h4, h6, (fun q e => by cases e; exact h8), (fun q e => by cases e; exact h10), ⟨by omega, by omega⟩, ⟨by omega, by omega⟩, trivial⟩
      have hfr : ∀ b, K b ∉ [2] → F76 b = F b := by rw [hF77]; exact s_fr hfr ha0 (by decide)
      have o78 : F76 z7 = .inr (4, [.ref z22, .ref z24, .ref z26, .ref z28, .ref z30, .ref z32, .ref z34, .int z36, .int z38, .int z39, .int z40, .int z42, .int z43, .int z45, .int z46]) := by rw [hF77]; exact th_ne (th_kd h8 ha0 (by decide)) o73
      have o79 : F76 z9 = .inr (5, [.ref z49, .ref z51, .ref z53, .ref z55, .ref z57, .int z59, .int z61, .int z62, .int z63, .int z64, .int z65]) := by rw [hF77]; exact th_ne (th_kd h10 ha0 (by decide)) o74
      have o80 : F76 a0 = .inr (1, [.ref z1, .ref z3, .ref z5, .ref z7, .ref z9, va_rf z11, .int z12, .int z14, .int z15, .int z65, .int z18, .long z19]) := by rw [hF77]; exact th_up
      refine lv_iconst (v := 0) hx hb dX1_pickLanes_67 (by decide) ?_
      refine lv_istore_n (lv' := [(2, .int 0), (1, .int r68), (0, .ref a0)]) hx hb dX1_pickLanes_68 rfl hl (by decide) rfl (fun ls hl => ?_)
      refine th_loop (fun n g H locs => ∃ (G : Nat → va_E) (ls : Array Slot) (w81 : Int32), g = F0 m 69 ls [] ∧ lv_has ls 3 [(0, .ref a0), (1, .int r68), (2, .int w81)] ∧ s_I K cs D G ∧ va_P (dC, dI) vwCl (va_pl L G) H ∧ va_S (fun q => q ∈ L) s.heap H locs ∧ (∀ b, K b ∉ [2] → G b = F b) ∧ (0 ≤ w81.toInt ∧ w81.toInt ≤ 8) ∧ s_rd2 K G a0 ∧ n = (9 - w81.toInt).toNat) _ ⟨F76, _, 0, rfl, lv_sub hl [2, 1, 0] rfl, hI, hP, hS, hfr, (by decide), ⟨z1, z3, z5, z7, z9, z11, z12, z14, z15, z65, z18, z19, o80, h2, h4, h6, h8, h10, ⟨by omega, by omega⟩, ⟨by omega, by omega⟩, trivial⟩, rfl⟩ (fun n ih69 g H locs hq => ?_)
      obtain ⟨F9, ls, w81, rfl, hl, hI, hP, hS, hfr, h82, h83, hn⟩ := hq
      obtain ⟨z84, z86, z88, z90, z92, z94, z95, z97, z98, z99, z101, z102, o103, h85, h87, h89, h91, h93, h96, h100, -⟩ := h83
      have hn_69 := hn
      obtain ⟨n_69, hn9_69⟩ : ∃ q, q = n := ⟨_, rfl⟩
      refine lv_iload_n hx hb dX1_pickLanes_69 rfl (lv_at hl 2 rfl) ?_
      refine lv_bipush (v := 8) hx hb dX1_pickLanes_70 (by decide) ?_
      refine lv_icmp_ge (tgt := 105) hx hb dX1_pickLanes_72 (by decide) (fun c104 => ?_) (fun c104 => ?_)
      · have c104 := (ax_ge (n := 8) (by decide)).mp c104
        exact K105 _ _ _ ⟨F9, _, r68, rfl, lv_sub hl [0, 1] rfl, hI, hP, hS, hfr, trivial, ⟨z84, z86, z88, z90, z92, z94, z95, z97, z98, z99, z101, z102, o103, h85, h87, h89, h91, h93, ⟨by omega, by omega⟩, ⟨by omega, by omega⟩, trivial⟩⟩
      · have c104 := mt (ax_ge (n := 8) (by decide)).mpr c104
        refine lv_iload_n hx hb dX1_pickLanes_75 rfl (lv_at hl 1 rfl) ?_
        refine lv_aload_n hx hb dX1_pickLanes_76 rfl (lv_at hl 0 rfl) ?_
        refine th_get (D := (dC, dI)) (ci := 1) (v := .int z99) (C := RX1) (T := TX1) (N := 12) hx hb hts inX1 hown hK hP (hLK _ ha0 (by decide)) o103 rfl 9 (by decide) (hts _ T_664) (fun _ h9 => h9) rfl dX1_pickLanes_77 ?_
        refine lv_ishr hx hb dX1_pickLanes_80 ?_
        refine lv_topi (fun v105 ev105 => ?_)
        refine lv_iconst (v := 1) hx hb dX1_pickLanes_81 (by decide) ?_
        refine lv_iand hx hb dX1_pickLanes_82 ?_
        refine lv_topi (fun v106 ev106 => ?_)
        have qv106 : 0 ≤ v106.toInt ∧ v106.toInt ≤ 1 := by rw [ev106]; exact th_and 1 (by decide) (by decide)
        refine lv_if_ne (tgt := 105) hx hb dX1_pickLanes_83 (by decide) (fun c107 => ?_) (fun c107 => ?_)
        · have c107 := mt (ax_eq (n := 0) (by decide)).mpr c107
          exact K105 _ _ _ ⟨F9, _, r68, rfl, lv_sub hl [0, 1] rfl, hI, hP, hS, hfr, trivial, ⟨z84, z86, z88, z90, z92, z94, z95, z97, z98, z99, z101, z102, o103, h85, h87, h89, h91, h93, ⟨by omega, by omega⟩, ⟨by omega, by omega⟩, trivial⟩⟩
        · have c107 := (ax_eq (n := 0) (by decide)).mp c107
          refine lv_aload_n hx hb dX1_pickLanes_86 rfl (lv_at hl 0 rfl) ?_
          refine lv_aload_n hx hb dX1_pickLanes_87 rfl (lv_at hl 0 rfl) ?_
          refine th_get (D := (dC, dI)) (ci := 1) (v := .int z99) (C := RX1) (T := TX1) (N := 12) hx hb hts inX1 hown hK hP (hLK _ ha0 (by decide)) o103 rfl 9 (by decide) (hts _ T_664) (fun _ h9 => h9) rfl dX1_pickLanes_88 ?_
          refine lv_iconst (v := 1) hx hb dX1_pickLanes_91 (by decide) ?_
          refine lv_iadd hx hb dX1_pickLanes_92 ?_
          refine lv_topi (fun v108 ev108 => ?_)
          have qv108 : v108.toInt = z99.toInt + 1 := by rw [ev108]; exact th_add rfl (by decide) ⟨by omega, by omega⟩
          refine lv_bipush (v := 8) hx hb dX1_pickLanes_93 (by decide) ?_
          refine lv_irem hx hb dX1_pickLanes_95 (by decide) ?_
          refine lv_topi (fun v109 ev109 => ?_)
          have qv109 : v109.toInt = v108.toInt % 8 := by rw [ev109]; exact th_rem rfl (by decide) (by omega) (by decide)
          refine th_put (D := (dC, dI)) (ci := 1) (v := .int v109) (ty := .int) (C := RX1) (T := TX1) (N := 12) hx hb hts inX1 tyX1 tyX1_ok nmX1 hown hK hP hD hS (hLK _ ha0 (by decide)) o103 rfl 9 (by decide) (hts _ T_664) (fun _ h9 => h9) rfl (by decide +kernel) rfl rfl (Nat.le_of_ble_eq_true rfl) dX1_pickLanes_96 (fun H locs hP hS => ?_)
          have hP : va_P (dC, dI) vwCl (va_pl L (va_up F9 a0 (.inr (1, [.ref z84, .ref z86, .ref z88, .ref z90, .ref z92, va_rf z94, .int z95, .int z97, .int z98, .int v109, .int z101, .long z102])))) H := hP
          obtain ⟨F110, hF111⟩ : ∃ G : Nat → va_E, G = va_up F9 a0 (.inr (1, [.ref z84, .ref z86, .ref z88, .ref z90, .ref z92, va_rf z94, .int z95, .int z97, .int z98, .int v109, .int z101, .long z102])) := ⟨_, rfl⟩
          rw [← hF111] at hP
          have hI : s_I K cs D F110 := by rw [hF111]; exact s_cl2 hI ha0 ⟨z84, z86, z88, some z90, some z92, z94, z95, z97, z98, v109, z101, z102, rfl, h85, h87, h89, (fun q e => by cases e; exact h91), (fun q e => by cases e; exact h93), ⟨by omega, by omega⟩, ⟨by omega, by omega⟩, trivial⟩
          have hfr : ∀ b, K b ∉ [2] → F110 b = F b := by rw [hF111]; exact s_fr hfr ha0 (by decide)
          have o112 : F110 a0 = .inr (1, [.ref z84, .ref z86, .ref z88, .ref z90, .ref z92, va_rf z94, .int z95, .int z97, .int z98, .int v109, .int z101, .long z102]) := by rw [hF111]; exact th_up
          obtain ⟨v113, ev113⟩ : ∃ y : Int32, w81 + 1 = y := ⟨_, rfl⟩
          have qv113 : v113.toInt = w81.toInt + 1 := by rw [← ev113]; exact th_add rfl (by decide) ⟨by omega, by omega⟩
          refine lv_iinc (v := v113) (lv' := [(2, .int v113), (0, .ref a0), (1, .int r68)]) hx hb dX1_pickLanes_99 hl (k := 2) rfl ev113 (by decide) rfl (fun ls hl => ?_)
          refine lv_goto (tgt := 69) hx hb dX1_pickLanes_102 (by decide) ?_
          exact ih69 _ _ _ _ (by omega) ⟨F110, _, v113, rfl, lv_sub hl [1, 2, 0] rfl, hI, hP, hS, hfr, ⟨by omega, by omega⟩, ⟨z84, z86, z88, z90, z92, z94, z95, z97, z98, v109, z101, z102, o112, h85, h87, h89, h91, h93, ⟨by omega, by omega⟩, ⟨by omega, by omega⟩, trivial⟩, rfl⟩
    · have c75 := (ax_eq (n := 0) (by decide)).mp c75
      refine lv_aload_n hx hb dX1_pickLanes_25 rfl (lv_at hl 1 rfl) ?_
      refine lv_iload_n hx hb dX1_pickLanes_26 rfl (lv_at hl 0 rfl) ?_
      refine th_put (D := (dC, dI)) (ci := 1) (v := .int r68) (ty := .int) (C := RX1) (T := TX1) (N := 12) hx hb hts inX1 tyX1 tyX1_ok nmX1 hown hK hP hD hS (hLK _ ha0 (by decide)) o72 rfl 8 (by decide) (hts _ T_645) (fun _ h9 => h9) rfl (by decide +kernel) rfl rfl (Nat.le_of_ble_eq_true rfl) dX1_pickLanes_27 (fun H locs hP hS => ?_)
      have hP : va_P (dC, dI) vwCl (va_pl L (va_up F69 a0 (.inr (1, [.ref z1, .ref z3, .ref z5, .ref z7, .ref z9, va_rf z11, .int z12, .int z14, .int r68, .int z16, .int z18, .long z19])))) H := hP
      obtain ⟨F114, hF115⟩ : ∃ G : Nat → va_E, G = va_up F69 a0 (.inr (1, [.ref z1, .ref z3, .ref z5, .ref z7, .ref z9, va_rf z11, .int z12, .int z14, .int r68, .int z16, .int z18, .long z19])) := ⟨_, rfl⟩
      rw [← hF115] at hP
      have hI : s_I K cs D F114 := by rw [hF115]; exact s_cl2 hI ha0 ⟨z1, z3, z5, some z7, some z9, z11, z12, z14, r68, z16, z18, z19, rfl, h2, h4, h6, (fun q e => by cases e; exact h8), (fun q e => by cases e; exact h10), ⟨by omega, by omega⟩, ⟨by omega, by omega⟩, trivial⟩
      have hfr : ∀ b, K b ∉ [2] → F114 b = F b := by rw [hF115]; exact s_fr hfr ha0 (by decide)
      have o116 : F114 z7 = .inr (4, [.ref z22, .ref z24, .ref z26, .ref z28, .ref z30, .ref z32, .ref z34, .int z36, .int z38, .int z39, .int z40, .int z42, .int z43, .int z45, .int z46]) := by rw [hF115]; exact th_ne (th_kd h8 ha0 (by decide)) o73
      have o117 : F114 z9 = .inr (5, [.ref z49, .ref z51, .ref z53, .ref z55, .ref z57, .int z59, .int z61, .int z62, .int z63, .int z64, .int z65]) := by rw [hF115]; exact th_ne (th_kd h10 ha0 (by decide)) o74
      have o118 : F114 a0 = .inr (1, [.ref z1, .ref z3, .ref z5, .ref z7, .ref z9, va_rf z11, .int z12, .int z14, .int r68, .int z16, .int z18, .long z19]) := by rw [hF115]; exact th_up
      refine lv_aload_n hx hb dX1_pickLanes_30 rfl (lv_at hl 1 rfl) ?_
      refine lv_aload_n hx hb dX1_pickLanes_31 rfl (lv_at hl 1 rfl) ?_
      refine th_get (D := (dC, dI)) (ci := 1) (v := .ref z9) (C := RX1) (T := TX1) (N := 12) hx hb hts inX1 hown hK hP (hLK _ ha0 (by decide)) o118 rfl 4 (by decide) (hts _ T_612) (fun _ h9 => h9) rfl dX1_pickLanes_32 ?_
      refine th_getN (D := (dC, dI)) (ci := 5) (v := .ref z53) (C := RX5) (T := TX5) (N := 11) hx hb hts inX5 hown hK hP (hLK _ h10 (by decide)) o117 rfl 2 (by decide) (va_Nw.use rfl (ax_n32 hN)) (fun _ h9 => h9) rfl dX1_pickLanes_35 ?_
      refine lv_aload_n hx hb dX1_pickLanes_38 rfl (lv_at hl 1 rfl) ?_
      refine th_get (D := (dC, dI)) (ci := 1) (v := .ref z9) (C := RX1) (T := TX1) (N := 12) hx hb hts inX1 hown hK hP (hLK _ ha0 (by decide)) o118 rfl 4 (by decide) (hts _ T_612) (fun _ h9 => h9) rfl dX1_pickLanes_39 ?_
      refine th_getN (D := (dC, dI)) (ci := 5) (v := .int z59) (C := RX5) (T := TX5) (N := 11) hx hb hts inX5 hown hK hP (hLK _ h10 (by decide)) o117 rfl 5 (by decide) (va_Nw.use rfl (ax_n33 hN)) (fun _ h9 => h9) rfl dX1_pickLanes_42 ?_
      refine lv_iconst (v := 1) hx hb dX1_pickLanes_45 (by decide) ?_
      refine lv_isub hx hb dX1_pickLanes_46 ?_
      refine lv_topi (fun v119 ev119 => ?_)
      have qv119 : v119.toInt = z59.toInt - 1 := by rw [ev119]; exact th_sub rfl (by decide) ⟨by omega, by omega⟩
      refine lv_iconst (v := 0) hx hb dX1_pickLanes_47 (by decide) ?_
      refine va_mmax hx hb (by rw [hml]; exact hl.1.symm) hown (hts _ T_608) (hts _ T_609) (hts _ T_237) (hts _ T_610) (Nat.le_of_ble_eq_true rfl) (Nat.le_of_ble_eq_true rfl) (Nat.zero_le _) (Nat.zero_le _) dX1_pickLanes_48 ?_
      refine lv_topi (fun v120 ev120 => ?_)
      have qv120 := th_mmax (a := v119.toInt) (b := 0) ev120 rfl (by decide)
      obtain ⟨f121, o122, h123⟩ := s_op32 hI h54
      refine th_iald hx hb hK hP (hLK _ h54 (by decide)) 0 o122 rfl (th_in ⟨by omega, by omega⟩) dX1_pickLanes_51 ?_
      refine lv_topi (fun v124 ev124 => ?_)
      refine th_put (D := (dC, dI)) (ci := 1) (v := .int v124) (ty := .int) (C := RX1) (T := TX1) (N := 12) hx hb hts inX1 tyX1 tyX1_ok nmX1 hown hK hP hD hS (hLK _ ha0 (by decide)) o118 rfl 7 (by decide) (hts _ T_632) (fun _ h9 => h9) rfl (by decide +kernel) rfl rfl (Nat.le_of_ble_eq_true rfl) dX1_pickLanes_52 (fun H locs hP hS => ?_)
      have hP : va_P (dC, dI) vwCl (va_pl L (va_up F114 a0 (.inr (1, [.ref z1, .ref z3, .ref z5, .ref z7, .ref z9, va_rf z11, .int z12, .int v124, .int r68, .int z16, .int z18, .long z19])))) H := hP
      obtain ⟨F125, hF126⟩ : ∃ G : Nat → va_E, G = va_up F114 a0 (.inr (1, [.ref z1, .ref z3, .ref z5, .ref z7, .ref z9, va_rf z11, .int z12, .int v124, .int r68, .int z16, .int z18, .long z19])) := ⟨_, rfl⟩
      rw [← hF126] at hP
      have hI : s_I K cs D F125 := by rw [hF126]; exact s_cl2 hI ha0 ⟨z1, z3, z5, some z7, some z9, z11, z12, v124, r68, z16, z18, z19, rfl, h2, h4, h6, (fun q e => by cases e; exact h8), (fun q e => by cases e; exact h10), ⟨by omega, by omega⟩, ⟨by omega, by omega⟩, trivial⟩
      have hfr : ∀ b, K b ∉ [2] → F125 b = F b := by rw [hF126]; exact s_fr hfr ha0 (by decide)
      have o127 : F125 z7 = .inr (4, [.ref z22, .ref z24, .ref z26, .ref z28, .ref z30, .ref z32, .ref z34, .int z36, .int z38, .int z39, .int z40, .int z42, .int z43, .int z45, .int z46]) := by rw [hF126]; exact th_ne (th_kd h8 ha0 (by decide)) o116
      have o128 : F125 z9 = .inr (5, [.ref z49, .ref z51, .ref z53, .ref z55, .ref z57, .int z59, .int z61, .int z62, .int z63, .int z64, .int z65]) := by rw [hF126]; exact th_ne (th_kd h10 ha0 (by decide)) o117
      have o129 : F125 a0 = .inr (1, [.ref z1, .ref z3, .ref z5, .ref z7, .ref z9, va_rf z11, .int z12, .int v124, .int r68, .int z16, .int z18, .long z19]) := by rw [hF126]; exact th_up
      exact W.vret hx hb hr (fun t ht hW => ⟨⟨F125, rfl, ⟨trivial, trivial, hI, hfr, ⟨z1, z3, z5, z7, z9, z11, z12, v124, r68, z16, z18, z19, o129, h2, h4, h6, h8, h10, ⟨by omega, by omega⟩, ⟨by omega, by omega⟩, trivial⟩⟩, by rw [ht]; exact hP, va_K.moved hW.alike hK⟩, hS.F ht⟩) hS.2.2 dX1_pickLanes_55
  · intro g H locs hq
    obtain ⟨F9, ls, w21, rfl, hl, hI, hP, hS, hfr, h130, h131⟩ := hq
    obtain ⟨z132, z134, z136, z138, z140, z142, z143, z145, z146, z147, z149, z150, o151, h133, h135, h137, h139, h141, h144, h148, -⟩ := h131
    refine lv_aload_n hx hb dX1_pickLanes_105 rfl (lv_at hl 0 rfl) ?_
    refine lv_aload_n hx hb dX1_pickLanes_106 rfl (lv_at hl 0 rfl) ?_
    refine th_get (D := (dC, dI)) (ci := 1) (v := .ref z140) (C := RX1) (T := TX1) (N := 12) hx hb hts inX1 hown hK hP (hLK _ ha0 (by decide)) o151 rfl 4 (by decide) (hts _ T_612) (fun _ h9 => h9) rfl dX1_pickLanes_107 ?_
    obtain ⟨z152, z154, z156, z158, z160, z162, z164, z165, z166, z167, z168, o170, h153, h155, h157, h159, h161, h163, h169, -⟩ := s_op6 hI h141
    refine th_getN (D := (dC, dI)) (ci := 5) (v := .ref z154) (C := RX5) (T := TX5) (N := 11) hx hb hts inX5 hown hK hP (hLK _ h141 (by decide)) o170 rfl 1 (by decide) (va_Nw.use rfl (ax_n34 hN)) (fun _ h9 => h9) rfl dX1_pickLanes_110 ?_
    refine lv_aload_n hx hb dX1_pickLanes_113 rfl (lv_at hl 0 rfl) ?_
    refine th_get (D := (dC, dI)) (ci := 1) (v := .int z147) (C := RX1) (T := TX1) (N := 12) hx hb hts inX1 hown hK hP (hLK _ ha0 (by decide)) o151 rfl 9 (by decide) (hts _ T_664) (fun _ h9 => h9) rfl dX1_pickLanes_114 ?_
    obtain ⟨f171, o172, h173⟩ := s_op31 hI h155
    refine th_iald hx hb hK hP (hLK _ h155 (by decide)) 0 o172 rfl (th_in ⟨by omega, by omega⟩) dX1_pickLanes_117 ?_
    refine lv_topi (fun v174 ev174 => ?_)
    refine th_put (D := (dC, dI)) (ci := 1) (v := .int v174) (ty := .int) (C := RX1) (T := TX1) (N := 12) hx hb hts inX1 tyX1 tyX1_ok nmX1 hown hK hP hD hS (hLK _ ha0 (by decide)) o151 rfl 7 (by decide) (hts _ T_632) (fun _ h9 => h9) rfl (by decide +kernel) rfl rfl (Nat.le_of_ble_eq_true rfl) dX1_pickLanes_118 (fun H locs hP hS => ?_)
    have hP : va_P (dC, dI) vwCl (va_pl L (va_up F9 a0 (.inr (1, [.ref z132, .ref z134, .ref z136, .ref z138, .ref z140, va_rf z142, .int z143, .int v174, .int z146, .int z147, .int z149, .long z150])))) H := hP
    obtain ⟨F175, hF176⟩ : ∃ G : Nat → va_E, G = va_up F9 a0 (.inr (1, [.ref z132, .ref z134, .ref z136, .ref z138, .ref z140, va_rf z142, .int z143, .int v174, .int z146, .int z147, .int z149, .long z150])) := ⟨_, rfl⟩
    rw [← hF176] at hP
    have hI : s_I K cs D F175 := by rw [hF176]; exact s_cl2 hI ha0 ⟨z132, z134, z136, some z138, some z140, z142, z143, v174, z146, z147, z149, z150, rfl, h133, h135, h137, (fun q e => by cases e; exact h139), (fun q e => by cases e; exact h141), ⟨by omega, by omega⟩, ⟨by omega, by omega⟩, trivial⟩
    have hfr : ∀ b, K b ∉ [2] → F175 b = F b := by rw [hF176]; exact s_fr hfr ha0 (by decide)
    have o177 : F175 z140 = .inr (5, [.ref z152, .ref z154, .ref z156, .ref z158, .ref z160, .int z162, .int z164, .int z165, .int z166, .int z167, .int z168]) := by rw [hF176]; exact th_ne (th_kd h141 ha0 (by decide)) o170
    have o178 : F175 a0 = .inr (1, [.ref z132, .ref z134, .ref z136, .ref z138, .ref z140, va_rf z142, .int z143, .int v174, .int z146, .int z147, .int z149, .long z150]) := by rw [hF176]; exact th_up
    refine lv_aload_n hx hb dX1_pickLanes_121 rfl (lv_at hl 0 rfl) ?_
    refine lv_iconst (v := 0) hx hb dX1_pickLanes_122 (by decide) ?_
    refine th_put (D := (dC, dI)) (ci := 1) (v := .int 0) (ty := .int) (C := RX1) (T := TX1) (N := 12) hx hb hts inX1 tyX1 tyX1_ok nmX1 hown hK hP hD hS (hLK _ ha0 (by decide)) o178 rfl 8 (by decide) (hts _ T_645) (fun _ h9 => h9) rfl (by decide +kernel) rfl rfl (Nat.le_of_ble_eq_true rfl) dX1_pickLanes_123 (fun H locs hP hS => ?_)
    have hP : va_P (dC, dI) vwCl (va_pl L (va_up F175 a0 (.inr (1, [.ref z132, .ref z134, .ref z136, .ref z138, .ref z140, va_rf z142, .int z143, .int v174, .int 0, .int z147, .int z149, .long z150])))) H := hP
    obtain ⟨F179, hF180⟩ : ∃ G : Nat → va_E, G = va_up F175 a0 (.inr (1, [.ref z132, .ref z134, .ref z136, .ref z138, .ref z140, va_rf z142, .int z143, .int v174, .int 0, .int z147, .int z149, .long z150])) := ⟨_, rfl⟩
    rw [← hF180] at hP
    have hI : s_I K cs D F179 := by rw [hF180]; exact s_cl2 hI ha0 ⟨z132, z134, z136, some z138, some z140, z142, z143, v174, 0, z147, z149, z150, rfl, h133, h135, h137, (fun q e => by cases e; exact h139), (fun q e => by cases e; exact h141), ⟨by omega, by omega⟩, ⟨by omega, by omega⟩, trivial⟩
    have hfr : ∀ b, K b ∉ [2] → F179 b = F b := by rw [hF180]; exact s_fr hfr ha0 (by decide)
    have o181 : F179 z140 = .inr (5, [.ref z152, .ref z154, .ref z156, .ref z158, .ref z160, .int z162, .int z164, .int z165, .int z166, .int z167, .int z168]) := by rw [hF180]; exact th_ne (th_kd h141 ha0 (by decide)) o177
    have o182 : F179 a0 = .inr (1, [.ref z132, .ref z134, .ref z136, .ref z138, .ref z140, va_rf z142, .int z143, .int v174, .int 0, .int z147, .int z149, .long z150]) := by rw [hF180]; exact th_up
    refine lv_iconst (v := 0) hx hb dX1_pickLanes_126 (by decide) ?_
    refine lv_istore_n (lv' := [(2, .int 0), (0, .ref a0), (1, .int w21)]) hx hb dX1_pickLanes_127 rfl hl (by decide) rfl (fun ls hl => ?_)
    refine th_loop (fun n g H locs => ∃ (G : Nat → va_E) (ls : Array Slot) (w183 : Int32), g = F0 m 128 ls [] ∧ lv_has ls 3 [(0, .ref a0), (1, .int w21), (2, .int w183)] ∧ s_I K cs D G ∧ va_P (dC, dI) vwCl (va_pl L G) H ∧ va_S (fun q => q ∈ L) s.heap H locs ∧ (∀ b, K b ∉ [2] → G b = F b) ∧ (0 ≤ w183.toInt ∧ w183.toInt ≤ 8) ∧ s_rd2 K G a0 ∧ n = (9 - w183.toInt).toNat) _ ⟨F179, _, 0, rfl, lv_sub hl [1, 2, 0] rfl, hI, hP, hS, hfr, (by decide), ⟨z132, z134, z136, z138, z140, z142, z143, v174, 0, z147, z149, z150, o182, h133, h135, h137, h139, h141, ⟨by omega, by omega⟩, ⟨by omega, by omega⟩, trivial⟩, rfl⟩ (fun n ih128 g H locs hq => ?_)
    obtain ⟨F9, ls, w183, rfl, hl, hI, hP, hS, hfr, h184, h185, hn⟩ := hq
    obtain ⟨z186, z188, z190, z192, z194, z196, z197, z199, z200, z201, z203, z204, o205, h187, h189, h191, h193, h195, h198, h202, -⟩ := h185
    have hn_128 := hn
    obtain ⟨n_128, hn9_128⟩ : ∃ q, q = n := ⟨_, rfl⟩
    refine th_join (fun g H locs => ∃ (G : Nat → va_E) (ls : Array Slot), g = F0 m 170 ls [] ∧ lv_has ls 3 [(0, .ref a0), (1, .int w21), (2, .int w183)] ∧ s_I K cs D G ∧ va_P (dC, dI) vwCl (va_pl L G) H ∧ va_S (fun q => q ∈ L) s.heap H locs ∧ (∀ b, K b ∉ [2] → G b = F b) ∧ (0 ≤ w183.toInt ∧ w183.toInt ≤ 7) ∧ s_rd2 K G a0) (fun K170 => ?_) ?_
    · refine lv_iload_n hx hb dX1_pickLanes_128 rfl (lv_at hl 2 rfl) ?_
      refine lv_bipush (v := 8) hx hb dX1_pickLanes_129 (by decide) ?_
      refine lv_icmp_ge (tgt := 176) hx hb dX1_pickLanes_131 (by decide) (fun c206 => ?_) (fun c206 => ?_)
      · have c206 := (ax_ge (n := 8) (by decide)).mp c206
        exact W.vret hx hb hr (fun t ht hW => ⟨⟨F9, rfl, ⟨trivial, trivial, hI, hfr, ⟨z186, z188, z190, z192, z194, z196, z197, z199, z200, z201, z203, z204, o205, h187, h189, h191, h193, h195, ⟨by omega, by omega⟩, ⟨by omega, by omega⟩, trivial⟩⟩, by rw [ht]; exact hP, va_K.moved hW.alike hK⟩, hS.F ht⟩) hS.2.2 dX1_pickLanes_176
      · have c206 := mt (ax_ge (n := 8) (by decide)).mpr c206
        refine lv_iload_n hx hb dX1_pickLanes_134 rfl (lv_at hl 1 rfl) ?_
        refine lv_iload_n hx hb dX1_pickLanes_135 rfl (lv_at hl 2 rfl) ?_
        refine lv_ishr hx hb dX1_pickLanes_136 ?_
        refine lv_topi (fun v207 ev207 => ?_)
        refine lv_iconst (v := 1) hx hb dX1_pickLanes_137 (by decide) ?_
        refine lv_iand hx hb dX1_pickLanes_138 ?_
        refine lv_topi (fun v208 ev208 => ?_)
        have qv208 : 0 ≤ v208.toInt ∧ v208.toInt ≤ 1 := by rw [ev208]; exact th_and 1 (by decide) (by decide)
        refine lv_if_eq (tgt := 170) hx hb dX1_pickLanes_139 (by decide) (fun c209 => ?_) (fun c209 => ?_)
        · have c209 := (ax_eq (n := 0) (by decide)).mp c209
          exact K170 _ _ _ ⟨F9, _, rfl, lv_sub hl [0, 1, 2] rfl, hI, hP, hS, hfr, ⟨by omega, by omega⟩, ⟨z186, z188, z190, z192, z194, z196, z197, z199, z200, z201, z203, z204, o205, h187, h189, h191, h193, h195, ⟨by omega, by omega⟩, ⟨by omega, by omega⟩, trivial⟩⟩
        · have c209 := mt (ax_eq (n := 0) (by decide)).mpr c209
          refine lv_aload_n hx hb dX1_pickLanes_142 rfl (lv_at hl 0 rfl) ?_
          refine th_get (D := (dC, dI)) (ci := 1) (v := .ref z194) (C := RX1) (T := TX1) (N := 12) hx hb hts inX1 hown hK hP (hLK _ ha0 (by decide)) o205 rfl 4 (by decide) (hts _ T_612) (fun _ h9 => h9) rfl dX1_pickLanes_143 ?_
          obtain ⟨z210, z212, z214, z216, z218, z220, z222, z223, z224, z225, z226, o228, h211, h213, h215, h217, h219, h221, h227, -⟩ := s_op6 hI h195
          refine th_getN (D := (dC, dI)) (ci := 5) (v := .ref z212) (C := RX5) (T := TX5) (N := 11) hx hb hts inX5 hown hK hP (hLK _ h195 (by decide)) o228 rfl 1 (by decide) (va_Nw.use rfl (ax_n34 hN)) (fun _ h9 => h9) rfl dX1_pickLanes_146 ?_
          refine lv_iload_n hx hb dX1_pickLanes_149 rfl (lv_at hl 2 rfl) ?_
          obtain ⟨f229, o230, h231⟩ := s_op31 hI h213
          refine th_iald hx hb hK hP (hLK _ h213 (by decide)) 0 o230 rfl (th_in ⟨by omega, by omega⟩) dX1_pickLanes_150 ?_
          refine lv_topi (fun v232 ev232 => ?_)
          refine lv_aload_n hx hb dX1_pickLanes_151 rfl (lv_at hl 0 rfl) ?_
          refine th_get (D := (dC, dI)) (ci := 1) (v := .int z199) (C := RX1) (T := TX1) (N := 12) hx hb hts inX1 hown hK hP (hLK _ ha0 (by decide)) o205 rfl 7 (by decide) (hts _ T_632) (fun _ h9 => h9) rfl dX1_pickLanes_152 ?_
          refine lv_icmp_ne (tgt := 170) hx hb dX1_pickLanes_155 (by decide) (fun c233 => ?_) (fun c233 => ?_)
          · have c233 := mt Int32.toInt_inj.symm.mpr c233
            exact K170 _ _ _ ⟨F9, _, rfl, lv_sub hl [0, 1, 2] rfl, hI, hP, hS, hfr, ⟨by omega, by omega⟩, ⟨z186, z188, z190, z192, z194, z196, z197, z199, z200, z201, z203, z204, o205, h187, h189, h191, h193, h195, ⟨by omega, by omega⟩, ⟨by omega, by omega⟩, trivial⟩⟩
          · have c233 := Int32.toInt_inj.symm.mp c233
            refine lv_aload_n hx hb dX1_pickLanes_158 rfl (lv_at hl 0 rfl) ?_
            refine lv_dup hx hb dX1_pickLanes_159 rfl ?_
            refine th_get (D := (dC, dI)) (ci := 1) (v := .int z200) (C := RX1) (T := TX1) (N := 12) hx hb hts inX1 hown hK hP (hLK _ ha0 (by decide)) o205 rfl 8 (by decide) (hts _ T_645) (fun _ h9 => h9) rfl dX1_pickLanes_160 ?_
            refine lv_iconst (v := 1) hx hb dX1_pickLanes_163 (by decide) ?_
            refine lv_iload_n hx hb dX1_pickLanes_164 rfl (lv_at hl 2 rfl) ?_
            refine lv_ishl hx hb dX1_pickLanes_165 ?_
            refine lv_topi (fun v234 ev234 => ?_)
            refine lv_ior hx hb dX1_pickLanes_166 ?_
            refine lv_topi (fun v235 ev235 => ?_)
            refine th_put (D := (dC, dI)) (ci := 1) (v := .int v235) (ty := .int) (C := RX1) (T := TX1) (N := 12) hx hb hts inX1 tyX1 tyX1_ok nmX1 hown hK hP hD hS (hLK _ ha0 (by decide)) o205 rfl 8 (by decide) (hts _ T_645) (fun _ h9 => h9) rfl (by decide +kernel) rfl rfl (Nat.le_of_ble_eq_true rfl) dX1_pickLanes_167 (fun H locs hP hS => ?_)
            have hP : va_P (dC, dI) vwCl (va_pl L (va_up F9 a0 (.inr (1, [.ref z186, .ref z188, .ref z190, .ref z192, .ref z194, va_rf z196, .int z197, .int z199, .int v235, .int z201, .int z203, .long z204])))) H := hP
            obtain ⟨F236, hF237⟩ : ∃ G : Nat → va_E, G = va_up F9 a0 (.inr (1, [.ref z186, .ref z188, .ref z190, .ref z192, .ref z194, va_rf z196, .int z197, .int z199, .int v235, .int z201, .int z203, .long z204])) := ⟨_, rfl⟩
            rw [← hF237] at hP
            have hI : s_I K cs D F236 := by rw [hF237]; exact s_cl2 hI ha0 ⟨z186, z188, z190, some z192, some z194, z196, z197, z199, v235, z201, z203, z204, rfl, h187, h189, h191, (fun q e => by cases e; exact h193), (fun q e => by cases e; exact h195), ⟨by omega, by omega⟩, ⟨by omega, by omega⟩, trivial⟩
            have hfr : ∀ b, K b ∉ [2] → F236 b = F b := by rw [hF237]; exact s_fr hfr ha0 (by decide)
            have o238 : F236 z194 = .inr (5, [.ref z210, .ref z212, .ref z214, .ref z216, .ref z218, .int z220, .int z222, .int z223, .int z224, .int z225, .int z226]) := by rw [hF237]; exact th_ne (th_kd h195 ha0 (by decide)) o228
            have o239 : F236 a0 = .inr (1, [.ref z186, .ref z188, .ref z190, .ref z192, .ref z194, va_rf z196, .int z197, .int z199, .int v235, .int z201, .int z203, .long z204]) := by rw [hF237]; exact th_up
            exact K170 _ _ _ ⟨F236, _, rfl, lv_sub hl [0, 1, 2] rfl, hI, hP, hS, hfr, ⟨by omega, by omega⟩, ⟨z186, z188, z190, z192, z194, z196, z197, z199, v235, z201, z203, z204, o239, h187, h189, h191, h193, h195, ⟨by omega, by omega⟩, ⟨by omega, by omega⟩, trivial⟩⟩
    · intro g H locs hq
      obtain ⟨F9, ls, rfl, hl, hI, hP, hS, hfr, h240, h241⟩ := hq
      obtain ⟨z242, z244, z246, z248, z250, z252, z253, z255, z256, z257, z259, z260, o261, h243, h245, h247, h249, h251, h254, h258, -⟩ := h241
      obtain ⟨v262, ev262⟩ : ∃ y : Int32, w183 + 1 = y := ⟨_, rfl⟩
      have qv262 : v262.toInt = w183.toInt + 1 := by rw [← ev262]; exact th_add rfl (by decide) ⟨by omega, by omega⟩
      refine lv_iinc (v := v262) (lv' := [(2, .int v262), (0, .ref a0), (1, .int w21)]) hx hb dX1_pickLanes_170 hl (k := 2) rfl ev262 (by decide) rfl (fun ls hl => ?_)
      refine lv_goto (tgt := 128) hx hb dX1_pickLanes_173 (by decide) ?_
      exact ih128 _ _ _ _ (by omega) ⟨F9, _, v262, rfl, lv_sub hl [1, 2, 0] rfl, hI, hP, hS, hfr, ⟨by omega, by omega⟩, ⟨z242, z244, z246, z248, z250, z252, z253, z255, z256, z257, z259, z260, o261, h243, h245, h247, h249, h251, ⟨by omega, by omega⟩, ⟨by omega, by omega⟩, trivial⟩, rfl⟩

set_option maxHeartbeats 4000000 in
set_option maxRecDepth 100000 in
theorem s_X1_valueOf (l : Launch) (dC : Nat → ClassId) (dI : Nat → Nat → Nat) (sz : Nat) {L : List Nat} {K : Nat → Nat} {cs : Nat → ClassId} (hLK : ∀ a {k : Nat}, K a = k → k ≠ 0 → a ∈ L) (D : Nat) (F : Nat → va_E) (a0 : Nat) (x1 : Int32) (x2 : Int32) (ha0 : K a0 = 2) (hx2 : 0 ≤ x2.toInt ∧ x2.toInt ≤ 7) (hI : s_I K cs D F) (hR : s_rd3 K F a0) : Met l yX1_valueOf (Cond.code yX1_valueOf cX1_valueOf 3 (some .int) :: T0) ({ frames := 0, cells := 0, slots := 0, locals := 0 }) (va_Pc [.ref a0, .int x1, .int x2] (s_W dC dI sz L F [(cs 0, .int), (cs 1, .byte), (cs 2, .long), (cs 3, .object RX5), (cs 4, .object RX4), (cs 5, .array .int), (cs 6, .char), (cs 7, .boolean)])) (va_Qi (fun (r : Int32) (G : Nat → va_E) => True ∧ True ∧ s_I K cs D G ∧ ∀ b, K b ∉ ([] : List Nat) → G b = F b) (fun (G : Nat → va_E) (t : State) => va_P (dC, dI) vwCl (va_pl L G) t.heap ∧ va_K (dC, dI) vwCl [(cs 0, .int), (cs 1, .byte), (cs 2, .long), (cs 3, .object RX5), (cs 4, .object RX4), (cs 5, .array .int), (cs 6, .char), (cs 7, .boolean)] t) (fun q => q ∈ L)) 0 0 (fun q => q ∈ L) := by
  refine Met.ofW (cc := cX1_valueOf) (maxL := 3) (ret := (some .int)) (by decide) rfl ?_
  intro p e s m args below meth c s₁ B hml hv
  obtain ⟨rfl, hsz, hP, hK, hD, hN⟩ := hv
  have hx := B.exec
  have hb := B.bytes
  have hr := B.returns
  have hts : ∀ w ∈ T0, w.before _ s = true := fun w h => atoms_spec (ws := Cond.code yX1_valueOf cX1_valueOf 3 (some .int) :: T0) B.pre w (List.mem_cons_of_mem _ h)
  have hown : s.vm.findClass RX1 = some m.cls := findClass_of_methodNamed B.named
  have hlocks := B.notSynchronized
  have hS : va_S (fun q => q ∈ L) s.heap s.heap [] := va_S.rf
  have hfr : ∀ b, K b ∉ ([] : List Nat) → F b = F b := fun _ _ => rfl
  have hl := lv_entry ([.ref a0, .int x1, .int x2]) (n := 3) (Nat.le_of_ble_eq_true rfl)
  rw [lg_entry_eq]
  generalize (lg_sl ([.ref a0, .int x1, .int x2]) ++ List.replicate (3 - (lg_sl ([.ref a0, .int x1, .int x2])).length) Slot.unset).toArray = ls at hl ⊢
  have hl : lv_has ls 3 [(0, .ref a0), (1, .int x1), (2, .int x2)] := hl
  refine s_gen hP hS (fun H locs hP hS => ?_)
  obtain ⟨z1, z3, z5, z7, z9, z11, z13, z15, z16, z17, z19, z20, o21, h2, h4, h6, h8, h10, h12, h14, h18, -⟩ := hR
  refine lv_iload_n hx hb dX1_valueOf_0 rfl (lv_at hl 1 rfl) ?_
  refine lv_if_lt (tgt := 8) hx hb dX1_valueOf_1 (by decide) (fun c22 => ?_) (fun c22 => ?_)
  · have c22 := (ax_lt (n := 0) (by decide)).mp c22
    refine lv_aload_n hx hb dX1_valueOf_8 rfl (lv_at hl 0 rfl) ?_
    refine th_get (D := (dC, dI)) (ci := 1) (v := .ref z9) (C := RX1) (T := TX1) (N := 12) hx hb hts inX1 hown hK hP (hLK _ ha0 (by decide)) o21 rfl 4 (by decide) (hts _ T_612) (fun _ h9 => h9) rfl dX1_valueOf_9 ?_
    obtain ⟨z23, z25, z27, z29, z31, z33, z35, z36, z37, z38, z39, o41, h24, h26, h28, h30, h32, h34, h40, -⟩ := s_op6 hI h10
    refine th_getN (D := (dC, dI)) (ci := 5) (v := .ref z23) (C := RX5) (T := TX5) (N := 11) hx hb hts inX5 hown hK hP (hLK _ h10 (by decide)) o41 rfl 0 (by decide) (va_Nw.use rfl (ax_n20 hN)) (fun _ h9 => h9) rfl dX1_valueOf_12 ?_
    refine lv_iload_n hx hb dX1_valueOf_15 rfl (lv_at hl 2 rfl) ?_
    refine lv_iconst (v := 4) hx hb dX1_valueOf_16 (by decide) ?_
    refine lv_imul hx hb dX1_valueOf_17 ?_
    refine lv_topi (fun v42 ev42 => ?_)
    have qv42 : v42.toInt = x2.toInt * 4 := by rw [ev42]; exact th_mul rfl (by decide) ⟨by omega, by omega⟩
    refine lv_iconst (v := (-1)) hx hb dX1_valueOf_18 (by decide) ?_
    refine lv_iload_n hx hb dX1_valueOf_19 rfl (lv_at hl 1 rfl) ?_
    refine lv_isub hx hb dX1_valueOf_20 ?_
    refine lv_topi (fun v43 ev43 => ?_)
    have qv43 : v43.toInt = -1 - x1.toInt := by rw [ev43]; exact th_sub (by decide) rfl (by have q8 := th_lo x1; have q9 := th_hi x1; exact ⟨by omega, by omega⟩)
    refine lv_iconst (v := 3) hx hb dX1_valueOf_21 (by decide) ?_
    refine lv_iand hx hb dX1_valueOf_22 ?_
    refine lv_topi (fun v44 ev44 => ?_)
    have qv44 : 0 ≤ v44.toInt ∧ v44.toInt ≤ 3 := by rw [ev44]; exact th_and 2 (by decide) (by decide)
    refine lv_iadd hx hb dX1_valueOf_23 ?_
    refine lv_topi (fun v45 ev45 => ?_)
    have qv45 : v45.toInt = v42.toInt + v44.toInt := by rw [ev45]; exact th_add rfl rfl ⟨by omega, by omega⟩
    obtain ⟨f46, o47, h48⟩ := s_op30 hI h24
    refine th_iald hx hb hK hP (hLK _ h24 (by decide)) 0 o47 rfl (th_in ⟨by omega, by omega⟩) dX1_valueOf_24 ?_
    refine lv_topi (fun v49 ev49 => ?_)
    exact W.iret (v := v49) hx hb hr (fun t ht hW => ⟨⟨v49, F, rfl, ⟨trivial, trivial, hI, hfr⟩, by rw [ht]; exact hP, va_K.moved hW.alike hK⟩, hS.F ht⟩) hS.2.2 dX1_valueOf_25
  · have c22 := mt (ax_lt (n := 0) (by decide)).mpr c22
    refine lv_iload_n hx hb dX1_valueOf_4 rfl (lv_at hl 1 rfl) ?_
    refine lv_goto (tgt := 25) hx hb dX1_valueOf_5 (by decide) ?_
    exact W.iret (v := x1) hx hb hr (fun t ht hW => ⟨⟨x1, F, rfl, ⟨trivial, trivial, hI, hfr⟩, by rw [ht]; exact hP, va_K.moved hW.alike hK⟩, hS.F ht⟩) hS.2.2 dX1_valueOf_25

