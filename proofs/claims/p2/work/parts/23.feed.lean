set_option maxHeartbeats 4000000 in
set_option maxRecDepth 100000 in
theorem s_X6_layBytes (l : Launch) (dC : Nat → ClassId) (dI : Nat → Nat → Nat) (sz : Nat) {L : List Nat} {K : Nat → Nat} {cs : Nat → ClassId} (hLK : ∀ a {k : Nat}, K a = k → k ≠ 0 → a ∈ L) (D : Nat) (F : Nat → va_E) (a0 : Nat) (x1 : Int32) (ha0 : K a0 = 7) (hI : s_I K cs D F) (hby : ∀ vs z, F a0 = .inr (6, vs) → vs[1]? = some (.int z) → z.toInt ≤ 1596) (hcz : cs 24 = 0) : Met l yX6_layBytes (Cond.code yX6_layBytes cX6_layBytes 3 none :: T0) ({ frames := 0, cells := 0, slots := 0, locals := 0 }) (va_Pc [.ref a0, .int x1] (s_W dC dI sz L F [(cs 0, .int), (cs 1, .byte), (cs 2, .long), (cs 3, .object RX5), (cs 4, .object RX4), (cs 5, .array .int), (cs 6, .char), (cs 7, .boolean)])) (va_Qv (fun (G : Nat → va_E) => True ∧ (True ∧ (∀ vs z, G a0 = .inr (6, vs) → vs[1]? = some (.int z) → ∀ vs0 z0, F a0 = .inr (6, vs0) → vs0[1]? = some (.int z0) → z.toInt = z0.toInt + 4)) ∧ s_I K cs D G ∧ ∀ b, K b ∉ [7, 20] → G b = F b) (fun (G : Nat → va_E) (t : State) => va_P (dC, dI) vwCl (va_pl L G) t.heap ∧ va_K (dC, dI) vwCl [(cs 0, .int), (cs 1, .byte), (cs 2, .long), (cs 3, .object RX5), (cs 4, .object RX4), (cs 5, .array .int), (cs 6, .char), (cs 7, .boolean)] t) (fun q => q ∈ L)) 0 0 (fun q => q ∈ L) := by
  refine Met.ofW (cc := cX6_layBytes) (maxL := 3) (ret := none) (by decide) rfl ?_
  intro p e s m args below meth c s₁ B hml hv
  obtain ⟨rfl, hsz, hP, hK, hD, hN⟩ := hv
  have hx := B.exec
  have hb := B.bytes
  have hr := B.returns
  have hts : ∀ w ∈ T0, w.before _ s = true := fun w h => atoms_spec (ws := Cond.code yX6_layBytes cX6_layBytes 3 none :: T0) B.pre w (List.mem_cons_of_mem _ h)
  have hown : s.vm.findClass RX6 = some m.cls := findClass_of_methodNamed B.named
  have hlocks := B.notSynchronized
  have hS : va_S (fun q => q ∈ L) s.heap s.heap [] := va_S.rf
  have hfr : ∀ b, K b ∉ [7, 20] → F b = F b := fun _ _ => rfl
  have hl := lv_entry ([.ref a0, .int x1]) (n := 3) (Nat.le_of_ble_eq_true rfl)
  rw [lg_entry_eq]
  generalize (lg_sl ([.ref a0, .int x1]) ++ List.replicate (3 - (lg_sl ([.ref a0, .int x1])).length) Slot.unset).toArray = ls at hl ⊢
  have hl : lv_has ls 3 [(0, .ref a0), (1, .int x1)] := hl
  refine s_gen hP hS (fun H locs hP hS => ?_)
  obtain ⟨z1, z3, z5, z7, z9, z11, z12, z14, z16, z18, z20, z22, z24, z26, o28, h2, h4, h6, h8, h10, h13, h15, h17, h19, h21, h23, h25, h27, -⟩ := s_op7 hI ha0
  have hby := hby _ _ o28 rfl
  refine lv_bipush (v := 24) hx hb dX6_layBytes_0 (by decide) ?_
  refine lv_istore_n (lv' := [(2, .int 24), (0, .ref a0), (1, .int x1)]) hx hb dX6_layBytes_2 rfl hl (by decide) rfl (fun ls hl => ?_)
  refine th_loop (fun n g H locs => ∃ (G : Nat → va_E) (ls : Array Slot) (w29 : Int32), g = F0 m 3 ls [] ∧ lv_has ls 3 [(0, .ref a0), (1, .int x1), (2, .int w29)] ∧ s_I K cs D G ∧ va_P (dC, dI) vwCl (va_pl L G) H ∧ va_S (fun q => q ∈ L) s.heap H locs ∧ (∀ b, K b ∉ [7, 20] → G b = F b) ∧ (-8 ≤ w29.toInt ∧ w29.toInt ≤ 24) ∧ (∀ vs z, G a0 = .inr (6, vs) → vs[1]? = some (.int z) → 8 * z.toInt = 8 * z3.toInt + 24 - w29.toInt) ∧ (w29.toInt % 8 = 0) ∧ n = (w29.toInt - -9).toNat) _ ⟨F, _, 24, rfl, lv_sub hl [1, 2, 0] rfl, hI, hP, hS, hfr, (by decide), (fun vs z q q2 => by rw [o28] at q; cases q; cases q2; first | omega | (have q8 : (24 : Int32).toInt = 24 := (by decide)); omega), (by first | omega | decide), rfl⟩ (fun n ih3 g H locs hq => ?_)
  obtain ⟨F9, ls, w29, rfl, hl, hI, hP, hS, hfr, h30, h31, h32, hn⟩ := hq
  obtain ⟨z33, z35, z37, z39, z41, z43, z44, z46, z48, z50, z52, z54, z56, z58, o60, h34, h36, h38, h40, h42, h45, h47, h49, h51, h53, h55, h57, h59, -⟩ := s_op7 hI ha0
  have h31 := h31 _ _ o60 rfl
  have hn_3 := hn
  obtain ⟨n_3, hn9_3⟩ : ∃ q, q = n := ⟨_, rfl⟩
  refine lv_iload_n hx hb dX6_layBytes_3 rfl (lv_at hl 2 rfl) ?_
  refine lv_if_lt (tgt := 36) hx hb dX6_layBytes_4 (by decide) (fun c61 => ?_) (fun c61 => ?_)
  · have c61 := (ax_lt (n := 0) (by decide)).mp c61
    exact W.vret hx hb hr (fun t ht hW => ⟨⟨F9, rfl, ⟨trivial, ⟨trivial, (fun vs z q q2 vs0 z0 q3 q4 => by rw [o60] at q; cases q; cases q2; rw [o28] at q3; cases q3; cases q4; omega)⟩, hI, hfr⟩, by rw [ht]; exact hP, va_K.moved hW.alike hK⟩, hS.F ht⟩) hS.2.2 dX6_layBytes_36
  · have c61 := mt (ax_lt (n := 0) (by decide)).mpr c61
    refine lv_aload_n hx hb dX6_layBytes_7 rfl (lv_at hl 0 rfl) ?_
    refine th_get (D := (dC, dI)) (ci := 6) (v := .ref z33) (C := RX6) (T := TX6) (N := 14) hx hb hts inX6 hown hK hP (hLK _ ha0 (by decide)) o60 rfl 0 (by decide) (hts _ T_160) (fun _ h9 => h9) rfl dX6_layBytes_8 ?_
    refine lv_aload_n hx hb dX6_layBytes_11 rfl (lv_at hl 0 rfl) ?_
    refine th_get (D := (dC, dI)) (ci := 6) (v := .int z35) (C := RX6) (T := TX6) (N := 14) hx hb hts inX6 hown hK hP (hLK _ ha0 (by decide)) o60 rfl 1 (by decide) (hts _ T_189) (fun _ h9 => h9) rfl dX6_layBytes_12 ?_
    refine lv_iload_n hx hb dX6_layBytes_15 rfl (lv_at hl 1 rfl) ?_
    refine lv_iload_n hx hb dX6_layBytes_16 rfl (lv_at hl 2 rfl) ?_
    refine lv_ishr hx hb dX6_layBytes_17 ?_
    refine lv_topi (fun v62 ev62 => ?_)
    refine lv_i2b hx hb dX6_layBytes_18 rfl ?_
    refine lv_topi (fun v63 ev63 => ?_)
    obtain ⟨f64, o65, h66⟩ := s_op20 hI h34
    refine th_bast hx hb hK hP hD hS (hLK _ h34 (by decide)) 1 o65 rfl (th_in ⟨by omega, by omega⟩) dX6_layBytes_19 (fun H locs hP hS => ?_)
    have hP : va_P (dC, dI) vwCl (va_pl L (va_up F9 z33 (.inl (cs 1, 1600, .inl (upd f64 (z35 : Int32).toNatClampNeg (vp_nar .byte v63)))))) H := hP
    obtain ⟨F67, hF68⟩ : ∃ G : Nat → va_E, G = va_up F9 z33 (.inl (cs 1, 1600, .inl (upd f64 (z35 : Int32).toNatClampNeg (vp_nar .byte v63)))) := ⟨_, rfl⟩
    rw [← hF68] at hP
    have hI : s_I K cs D F67 := by rw [hF68]; exact s_cl20 hI h34 ⟨_, rfl, trivial⟩
    have hfr : ∀ b, K b ∉ [7, 20] → F67 b = F b := by rw [hF68]; exact s_fr hfr h34 (by decide)
    have o69 : F67 a0 = .inr (6, [.ref z33, .int z35, .ref z37, .ref z39, .ref z41, .int z43, .ref z44, .ref z46, .int z48, .int z50, .ref z52, .ref z54, .ref z56, .long z58]) := by rw [hF68]; exact th_ne (th_kd ha0 h34 (by decide)) o60
    refine lv_aload_n hx hb dX6_layBytes_20 rfl (lv_at hl 0 rfl) ?_
    refine lv_dup hx hb dX6_layBytes_21 rfl ?_
    refine th_get (D := (dC, dI)) (ci := 6) (v := .int z35) (C := RX6) (T := TX6) (N := 14) hx hb hts inX6 hown hK hP (hLK _ ha0 (by decide)) o69 rfl 1 (by decide) (hts _ T_189) (fun _ h9 => h9) rfl dX6_layBytes_22 ?_
    refine lv_iconst (v := 1) hx hb dX6_layBytes_25 (by decide) ?_
    refine lv_iadd hx hb dX6_layBytes_26 ?_
    refine lv_topi (fun v70 ev70 => ?_)
    have qv70 : v70.toInt = z35.toInt + 1 := by rw [ev70]; exact th_add rfl (by decide) ⟨by omega, by omega⟩
    refine th_put (D := (dC, dI)) (ci := 6) (v := .int v70) (ty := .int) (C := RX6) (T := TX6) (N := 14) hx hb hts inX6 tyX6 tyX6_ok nmX6 hown hK hP hD hS (hLK _ ha0 (by decide)) o69 rfl 1 (by decide) (hts _ T_189) (fun _ h9 => h9) rfl (by decide +kernel) rfl rfl (Nat.le_of_ble_eq_true rfl) dX6_layBytes_27 (fun H locs hP hS => ?_)
    have h71 : (z52 = cs 20 ∧ z54 = cs 22) ∧ s_by cs v70 := ⟨h59.1, Or.inl hcz⟩
    have hP : va_P (dC, dI) vwCl (va_pl L (va_up F67 a0 (.inr (6, [.ref z33, .int v70, .ref z37, .ref z39, .ref z41, .int z43, .ref z44, .ref z46, .int z48, .int z50, .ref z52, .ref z54, .ref z56, .long z58])))) H := hP
    obtain ⟨F72, hF73⟩ : ∃ G : Nat → va_E, G = va_up F67 a0 (.inr (6, [.ref z33, .int v70, .ref z37, .ref z39, .ref z41, .int z43, .ref z44, .ref z46, .int z48, .int z50, .ref z52, .ref z54, .ref z56, .long z58])) := ⟨_, rfl⟩
    rw [← hF73] at hP
    have hI : s_I K cs D F72 := by rw [hF73]; exact s_cl7 hI ha0 ⟨z33, v70, z37, z39, z41, z43, z44, z46, z48, z50, z52, z54, z56, z58, rfl, h34, ⟨by omega, by omega⟩, h38, h40, h42, h45, h47, ⟨by omega, by omega⟩, ⟨by omega, by omega⟩, h53, h55, h57, h71, trivial⟩
    have hfr : ∀ b, K b ∉ [7, 20] → F72 b = F b := by rw [hF73]; exact s_fr hfr ha0 (by decide)
    have o74 : F72 a0 = .inr (6, [.ref z33, .int v70, .ref z37, .ref z39, .ref z41, .int z43, .ref z44, .ref z46, .int z48, .int z50, .ref z52, .ref z54, .ref z56, .long z58]) := by rw [hF73]; exact th_up
    obtain ⟨v75, ev75⟩ : ∃ y : Int32, w29 + (-8) = y := ⟨_, rfl⟩
    have qv75 : v75.toInt = w29.toInt + (-8) := by rw [← ev75]; exact th_add rfl (by decide) ⟨by omega, by omega⟩
    refine lv_iinc (v := v75) (lv' := [(2, .int v75), (0, .ref a0), (1, .int x1)]) hx hb dX6_layBytes_30 hl (k := 2) rfl ev75 (by decide) rfl (fun ls hl => ?_)
    refine lv_goto (tgt := 3) hx hb dX6_layBytes_33 (by decide) ?_
    exact ih3 _ _ _ _ (by omega) ⟨F72, _, v75, rfl, lv_sub hl [1, 2, 0] rfl, hI, hP, hS, hfr, ⟨by omega, by omega⟩, (fun vs z q q2 => by rw [o74] at q; cases q; cases q2; first | omega | (have q8 : (24 : Int32).toInt = 24 := (by decide)); omega), (by first | omega | decide), rfl⟩

set_option maxHeartbeats 4000000 in
set_option maxRecDepth 100000 in
theorem s_X6_feed (l : Launch) (dC : Nat → ClassId) (dI : Nat → Nat → Nat) (sz : Nat) {L : List Nat} {K : Nat → Nat} {cs : Nat → ClassId} (hLK : ∀ a {k : Nat}, K a = k → k ≠ 0 → a ∈ L) (D : Nat) (F : Nat → va_E) (a0 : Nat) (x1 : Int32) (x2 : Int32) (x3 : Int32) (x4 : Int32) (x5 : Int32) (ha0 : K a0 = 7) (hI : s_I K cs D F) (hcz : cs 24 = 0) : Met l yX6_feed (Cond.code yX6_feed cX6_feed 6 (some .int) :: T0) ({ frames := 1, cells := 0, slots := 0, locals := 22 }) (va_Pc [.ref a0, .int x1, .int x2, .int x3, .int x4, .int x5] (s_W dC dI sz L F [(cs 0, .int), (cs 1, .byte), (cs 2, .long), (cs 3, .object RX5), (cs 4, .object RX4), (cs 5, .array .int), (cs 6, .char), (cs 7, .boolean)])) (va_Qi (fun (r : Int32) (G : Nat → va_E) => (-1 ≤ r.toInt ∧ r.toInt ≤ 1600) ∧ (True ∧ (((y_fi F a0 1).toInt ≤ 1580 ∧ r.toInt = (y_fi F a0 1).toInt + 20 ∧ (y_fi G a0 1).toInt = (y_fi F a0 1).toInt + 20) ∨ (1580 < (y_fi F a0 1).toInt ∧ r.toInt = -1 ∧ (y_fi G a0 1).toInt = (y_fi F a0 1).toInt))) ∧ s_I K cs D G ∧ ∀ b, K b ∉ [7, 20, 39] → G b = F b) (fun (G : Nat → va_E) (t : State) => va_P (dC, dI) vwCl (va_pl L G) t.heap ∧ va_K (dC, dI) vwCl [(cs 0, .int), (cs 1, .byte), (cs 2, .long), (cs 3, .object RX5), (cs 4, .object RX4), (cs 5, .array .int), (cs 6, .char), (cs 7, .boolean)] t) (fun q => q ∈ L)) 0 0 (fun q => q ∈ L) := by
  refine Met.ofW (cc := cX6_feed) (maxL := 6) (ret := (some .int)) (by decide) rfl ?_
  intro p e s m args below meth c s₁ B hml hv
  obtain ⟨rfl, hsz, hP, hK, hD, hN⟩ := hv
  have hx := B.exec
  have hb := B.bytes
  have hr := B.returns
  have hts : ∀ w ∈ T0, w.before _ s = true := fun w h => atoms_spec (ws := Cond.code yX6_feed cX6_feed 6 (some .int) :: T0) B.pre w (List.mem_cons_of_mem _ h)
  have hown : s.vm.findClass RX6 = some m.cls := findClass_of_methodNamed B.named
  have hlocks := B.notSynchronized
  have hS : va_S (fun q => q ∈ L) s.heap s.heap [] := va_S.rf
  have hfr : ∀ b, K b ∉ [7, 20, 39] → F b = F b := fun _ _ => rfl
  have hl := lv_entry ([.ref a0, .int x1, .int x2, .int x3, .int x4, .int x5]) (n := 6) (Nat.le_of_ble_eq_true rfl)
  rw [lg_entry_eq]
  generalize (lg_sl ([.ref a0, .int x1, .int x2, .int x3, .int x4, .int x5]) ++ List.replicate (6 - (lg_sl ([.ref a0, .int x1, .int x2, .int x3, .int x4, .int x5])).length) Slot.unset).toArray = ls at hl ⊢
  have hl : lv_has ls 6 [(0, .ref a0), (1, .int x1), (2, .int x2), (3, .int x3), (4, .int x4), (5, .int x5)] := hl
  refine s_gen hP hS (fun H locs hP hS => ?_)
  obtain ⟨z1, z3, z5, z7, z9, z11, z12, z14, z16, z18, z20, z22, z24, z26, o28, h2, h4, h6, h8, h10, h13, h15, h17, h19, h21, h23, h25, h27, -⟩ := s_op7 hI ha0
  refine lv_aload_n hx hb dX6_feed_0 rfl (lv_at hl 0 rfl) ?_
  refine th_get (D := (dC, dI)) (ci := 6) (v := .int z3) (C := RX6) (T := TX6) (N := 14) hx hb hts inX6 hown hK hP (hLK _ ha0 (by decide)) o28 rfl 1 (by decide) (hts _ T_189) (fun _ h9 => h9) rfl dX6_feed_1 ?_
  refine lv_bipush (v := 20) hx hb dX6_feed_4 (by decide) ?_
  refine lv_iadd hx hb dX6_feed_6 ?_
  refine lv_topi (fun v29 ev29 => ?_)
  have qv29 : v29.toInt = z3.toInt + 20 := by rw [ev29]; exact th_add rfl (by decide) ⟨by omega, by omega⟩
  refine lv_sipush (v := 1600) hx hb dX6_feed_7 (by decide) ?_
  refine lv_icmp_le (tgt := 19) hx hb dX6_feed_10 (by decide) (fun c30 => ?_) (fun c30 => ?_)
  · have c30 := (ax_le (n := 1600) (by decide)).mp c30
    refine lv_aload_n hx hb dX6_feed_19 rfl (lv_at hl 0 rfl) ?_
    refine lv_iload_n hx hb dX6_feed_20 rfl (lv_at hl 1 rfl) ?_
    refine va_callv (va_runV (As := [.int x1]) (rest := []) ⟨hx, hb, hml, hown, hts⟩ (s_X6_layBytes l dC dI H.size hLK D F a0 x1 ha0 hI (fun vs z q q2 => by rw [o28] at q; cases q; cases q2; omega) hcz) (cwV 1 hts (ax_gV T_190 T_191 T_192 T_193 T_9) rfl rfl rfl (by decide +kernel) ⟨Nat.le_of_ble_eq_true rfl, Nat.le_of_ble_eq_true rfl⟩) ⟨fun a U g mk q => ⟨q.1, s_pc (U := U) rfl rfl q.2⟩, s_recv hK hP (hLK _ ha0 (by decide)) (ci := 6) rfl o28, fun U hU hW => ⟨rfl, s_pw hU hW hP hK hD hN⟩⟩ rfl rfl hl.1 rfl (lv_room (Nat.le_of_ble_eq_true rfl)) dX6_feed_21 ⟨Nat.zero_le _, Nat.zero_le _⟩) hS (fun q _ h => h) (fun q h => h) (fun F31 t H1 locs ht hvm hw hB hz1 hk1 hS => ?_)
    obtain ⟨hP, hK1⟩ := hB
    rw [ht] at hP
    generalize H1 = H at hP hS ⊢
    clear hz1 hk1
    obtain ⟨h32, h33, hI, hfr1⟩ := hw
    have hfr : ∀ b, K b ∉ [7, 20, 39] → F31 b = F b := fun b hb9 => (hfr1 b (fun q => hb9 (s_sub (by decide) q))).trans (hfr b hb9)
    obtain ⟨h33, h34⟩ := h33
    have h34 : (∀ vs z, F31 a0 = .inr (6, vs) → vs[1]? = some (.int z) → ∀ vs0 z0, F a0 = .inr (6, vs0) → vs0[1]? = some (.int z0) → z.toInt = z0.toInt + 4) := h34
    obtain ⟨z35, z37, z39, z41, z43, z45, z46, z48, z50, z52, z54, z56, z58, z60, o62, h36, h38, h40, h42, h44, h47, h49, h51, h53, h55, h57, h59, h61, -⟩ := s_op7 hI ha0
    have h63 := h34 _ _ o62 rfl _ _ o28 rfl
    refine lv_aload_n hx hb dX6_feed_24 rfl (lv_at hl 0 rfl) ?_
    refine lv_iload_n hx hb dX6_feed_25 rfl (lv_at hl 2 rfl) ?_
    refine va_callv (va_runV (As := [.int x2]) (rest := []) ⟨hx, hb, hml, hown, hts⟩ (s_X6_layBytes l dC dI H.size hLK D F31 a0 x2 ha0 hI (fun vs z q q2 => by rw [o62] at q; cases q; cases q2; omega) hcz) (cwV 1 hts (ax_gV T_190 T_191 T_192 T_193 T_9) rfl rfl rfl (by decide +kernel) ⟨Nat.le_of_ble_eq_true rfl, Nat.le_of_ble_eq_true rfl⟩) ⟨fun a U g mk q => ⟨q.1, s_pc (U := U) rfl rfl q.2⟩, s_recv hK hP (hLK _ ha0 (by decide)) (ci := 6) rfl o62, fun U hU hW => ⟨rfl, s_pw hU hW hP hK hD hN⟩⟩ rfl rfl hl.1 rfl (lv_room (Nat.le_of_ble_eq_true rfl)) dX6_feed_26 ⟨Nat.zero_le _, Nat.zero_le _⟩) hS (fun q _ h => h) (fun q h => h) (fun F64 t H1 locs ht hvm hw hB hz1 hk1 hS => ?_)
    obtain ⟨hP, hK1⟩ := hB
    rw [ht] at hP
    generalize H1 = H at hP hS ⊢
    clear hz1 hk1
    obtain ⟨h65, h66, hI, hfr1⟩ := hw
    have hfr : ∀ b, K b ∉ [7, 20, 39] → F64 b = F b := fun b hb9 => (hfr1 b (fun q => hb9 (s_sub (by decide) q))).trans (hfr b hb9)
    obtain ⟨h66, h67⟩ := h66
    have h67 : (∀ vs z, F64 a0 = .inr (6, vs) → vs[1]? = some (.int z) → ∀ vs0 z0, F31 a0 = .inr (6, vs0) → vs0[1]? = some (.int z0) → z.toInt = z0.toInt + 4) := h67
    obtain ⟨z68, z70, z72, z74, z76, z78, z79, z81, z83, z85, z87, z89, z91, z93, o95, h69, h71, h73, h75, h77, h80, h82, h84, h86, h88, h90, h92, h94, -⟩ := s_op7 hI ha0
    have h96 := h67 _ _ o95 rfl _ _ o62 rfl
    refine lv_aload_n hx hb dX6_feed_29 rfl (lv_at hl 0 rfl) ?_
    refine lv_iload_n hx hb dX6_feed_30 rfl (lv_at hl 3 rfl) ?_
    refine va_callv (va_runV (As := [.int x3]) (rest := []) ⟨hx, hb, hml, hown, hts⟩ (s_X6_layBytes l dC dI H.size hLK D F64 a0 x3 ha0 hI (fun vs z q q2 => by rw [o95] at q; cases q; cases q2; omega) hcz) (cwV 1 hts (ax_gV T_190 T_191 T_192 T_193 T_9) rfl rfl rfl (by decide +kernel) ⟨Nat.le_of_ble_eq_true rfl, Nat.le_of_ble_eq_true rfl⟩) ⟨fun a U g mk q => ⟨q.1, s_pc (U := U) rfl rfl q.2⟩, s_recv hK hP (hLK _ ha0 (by decide)) (ci := 6) rfl o95, fun U hU hW => ⟨rfl, s_pw hU hW hP hK hD hN⟩⟩ rfl rfl hl.1 rfl (lv_room (Nat.le_of_ble_eq_true rfl)) dX6_feed_31 ⟨Nat.zero_le _, Nat.zero_le _⟩) hS (fun q _ h => h) (fun q h => h) (fun F97 t H1 locs ht hvm hw hB hz1 hk1 hS => ?_)
    obtain ⟨hP, hK1⟩ := hB
    rw [ht] at hP
    generalize H1 = H at hP hS ⊢
    clear hz1 hk1
    obtain ⟨h98, h99, hI, hfr1⟩ := hw
    have hfr : ∀ b, K b ∉ [7, 20, 39] → F97 b = F b := fun b hb9 => (hfr1 b (fun q => hb9 (s_sub (by decide) q))).trans (hfr b hb9)
    obtain ⟨h99, h100⟩ := h99
    have h100 : (∀ vs z, F97 a0 = .inr (6, vs) → vs[1]? = some (.int z) → ∀ vs0 z0, F64 a0 = .inr (6, vs0) → vs0[1]? = some (.int z0) → z.toInt = z0.toInt + 4) := h100
    obtain ⟨z101, z103, z105, z107, z109, z111, z112, z114, z116, z118, z120, z122, z124, z126, o128, h102, h104, h106, h108, h110, h113, h115, h117, h119, h121, h123, h125, h127, -⟩ := s_op7 hI ha0
    have h129 := h100 _ _ o128 rfl _ _ o95 rfl
    refine lv_aload_n hx hb dX6_feed_34 rfl (lv_at hl 0 rfl) ?_
    refine lv_iload hx hb dX6_feed_35 (lv_at hl 4 rfl) ?_
    refine va_callv (va_runV (As := [.int x4]) (rest := []) ⟨hx, hb, hml, hown, hts⟩ (s_X6_layBytes l dC dI H.size hLK D F97 a0 x4 ha0 hI (fun vs z q q2 => by rw [o128] at q; cases q; cases q2; omega) hcz) (cwV 1 hts (ax_gV T_190 T_191 T_192 T_193 T_9) rfl rfl rfl (by decide +kernel) ⟨Nat.le_of_ble_eq_true rfl, Nat.le_of_ble_eq_true rfl⟩) ⟨fun a U g mk q => ⟨q.1, s_pc (U := U) rfl rfl q.2⟩, s_recv hK hP (hLK _ ha0 (by decide)) (ci := 6) rfl o128, fun U hU hW => ⟨rfl, s_pw hU hW hP hK hD hN⟩⟩ rfl rfl hl.1 rfl (lv_room (Nat.le_of_ble_eq_true rfl)) dX6_feed_37 ⟨Nat.zero_le _, Nat.zero_le _⟩) hS (fun q _ h => h) (fun q h => h) (fun F130 t H1 locs ht hvm hw hB hz1 hk1 hS => ?_)
    obtain ⟨hP, hK1⟩ := hB
    rw [ht] at hP
    generalize H1 = H at hP hS ⊢
    clear hz1 hk1
    obtain ⟨h131, h132, hI, hfr1⟩ := hw
    have hfr : ∀ b, K b ∉ [7, 20, 39] → F130 b = F b := fun b hb9 => (hfr1 b (fun q => hb9 (s_sub (by decide) q))).trans (hfr b hb9)
    obtain ⟨h132, h133⟩ := h132
    have h133 : (∀ vs z, F130 a0 = .inr (6, vs) → vs[1]? = some (.int z) → ∀ vs0 z0, F97 a0 = .inr (6, vs0) → vs0[1]? = some (.int z0) → z.toInt = z0.toInt + 4) := h133
    obtain ⟨z134, z136, z138, z140, z142, z144, z145, z147, z149, z151, z153, z155, z157, z159, o161, h135, h137, h139, h141, h143, h146, h148, h150, h152, h154, h156, h158, h160, -⟩ := s_op7 hI ha0
    have h162 := h133 _ _ o161 rfl _ _ o128 rfl
    refine lv_aload_n hx hb dX6_feed_40 rfl (lv_at hl 0 rfl) ?_
    refine lv_iload hx hb dX6_feed_41 (lv_at hl 5 rfl) ?_
    refine va_callv (va_runV (As := [.int x5]) (rest := []) ⟨hx, hb, hml, hown, hts⟩ (s_X6_layBytes l dC dI H.size hLK D F130 a0 x5 ha0 hI (fun vs z q q2 => by rw [o161] at q; cases q; cases q2; omega) hcz) (cwV 1 hts (ax_gV T_190 T_191 T_192 T_193 T_9) rfl rfl rfl (by decide +kernel) ⟨Nat.le_of_ble_eq_true rfl, Nat.le_of_ble_eq_true rfl⟩) ⟨fun a U g mk q => ⟨q.1, s_pc (U := U) rfl rfl q.2⟩, s_recv hK hP (hLK _ ha0 (by decide)) (ci := 6) rfl o161, fun U hU hW => ⟨rfl, s_pw hU hW hP hK hD hN⟩⟩ rfl rfl hl.1 rfl (lv_room (Nat.le_of_ble_eq_true rfl)) dX6_feed_43 ⟨Nat.zero_le _, Nat.zero_le _⟩) hS (fun q _ h => h) (fun q h => h) (fun F163 t H1 locs ht hvm hw hB hz1 hk1 hS => ?_)
    obtain ⟨hP, hK1⟩ := hB
    rw [ht] at hP
    generalize H1 = H at hP hS ⊢
    clear hz1 hk1
    obtain ⟨h164, h165, hI, hfr1⟩ := hw
    have hfr : ∀ b, K b ∉ [7, 20, 39] → F163 b = F b := fun b hb9 => (hfr1 b (fun q => hb9 (s_sub (by decide) q))).trans (hfr b hb9)
    obtain ⟨h165, h166⟩ := h165
    have h166 : (∀ vs z, F163 a0 = .inr (6, vs) → vs[1]? = some (.int z) → ∀ vs0 z0, F130 a0 = .inr (6, vs0) → vs0[1]? = some (.int z0) → z.toInt = z0.toInt + 4) := h166
    obtain ⟨z167, z169, z171, z173, z175, z177, z178, z180, z182, z184, z186, z188, z190, z192, o194, h168, h170, h172, h174, h176, h179, h181, h183, h185, h187, h189, h191, h193, -⟩ := s_op7 hI ha0
    have h195 := h166 _ _ o194 rfl _ _ o161 rfl
    refine lv_aload_n hx hb dX6_feed_46 rfl (lv_at hl 0 rfl) ?_
    refine th_get (D := (dC, dI)) (ci := 6) (v := .int z169) (C := RX6) (T := TX6) (N := 14) hx hb hts inX6 hown hK hP (hLK _ ha0 (by decide)) o194 rfl 1 (by decide) (hts _ T_189) (fun _ h9 => h9) rfl dX6_feed_47 ?_
    exact W.iret (v := z169) hx hb hr (fun t ht hW => ⟨⟨z169, F163, rfl, ⟨⟨by omega, by omega⟩, ⟨trivial, (by have q6 := congrArg Int32.toInt (y_fi6 o28); have q7 := congrArg Int32.toInt (y_fi6 o194); omega)⟩, hI, hfr⟩, by rw [ht]; exact hP, va_K.moved hW.alike hK⟩, hS.F ht⟩) hS.2.2 dX6_feed_50
  · have c30 := mt (ax_le (n := 1600) (by decide)).mpr c30
    refine lv_aload_n hx hb dX6_feed_13 rfl (lv_at hl 0 rfl) ?_
    refine lv_iconst (v := 0) hx hb dX6_feed_14 (by decide) ?_
    refine va_calli (va_runV (As := [.int 0]) (rest := []) ⟨hx, hb, hml, hown, hts⟩ (s_X6_refuse l dC dI H.size hLK D F a0 0 ha0 (by decide) hI) (cwV 1 hts (ax_gV T_194 T_195 T_196 T_193 T_10) rfl rfl rfl (by decide +kernel) ⟨Nat.le_of_ble_eq_true rfl, Nat.le_of_ble_eq_true rfl⟩) ⟨fun a U g mk q => ⟨q.1, s_pc (U := U) rfl rfl q.2⟩, s_recv hK hP (hLK _ ha0 (by decide)) (ci := 6) rfl o28, fun U hU hW => ⟨rfl, s_pw hU hW hP hK hD hN⟩⟩ rfl rfl hl.1 rfl (lv_room (Nat.le_of_ble_eq_true rfl)) dX6_feed_15 ⟨Nat.zero_le _, Nat.zero_le _⟩) hS (fun q _ h => h) (fun q h => h) (fun r196 F197 t H1 locs ht hvm hw hB hz1 hk1 hS => ?_)
    obtain ⟨hP, hK1⟩ := hB
    rw [ht] at hP
    generalize H1 = H at hP hS ⊢
    clear hz1 hk1
    obtain ⟨h198, h199, hI, hfr1⟩ := hw
    have o200 : F197 a0 = .inr (6, [.ref z1, .int z3, .ref z5, .ref z7, .ref z9, .int z11, .ref z12, .ref z14, .int z16, .int z18, .ref z20, .ref z22, .ref z24, .long z26]) := (hfr1 _ (by rw [ha0]; decide)).trans o28
    have hfr : ∀ b, K b ∉ [7, 20, 39] → F197 b = F b := fun b hb9 => (hfr1 b (fun q => hb9 (s_sub (by decide) q))).trans (hfr b hb9)
    exact W.iret (v := r196) hx hb hr (fun t ht hW => ⟨⟨r196, F197, rfl, ⟨⟨by omega, by omega⟩, ⟨trivial, (by have q6 := congrArg Int32.toInt (y_fi6 o28); have q7 := congrArg Int32.toInt (y_fi6 o200); omega)⟩, hI, hfr⟩, by rw [ht]; exact hP, va_K.moved hW.alike hK⟩, hS.F ht⟩) hS.2.2 dX6_feed_18

