set_option maxHeartbeats 4000000 in
set_option maxRecDepth 100000 in
theorem y_X7_count (l : Launch) (dC : Nat → ClassId) (dI : Nat → Nat → Nat) (sz : Nat) {L : List Nat} {cs : Nat → ClassId} (F : Nat → va_E) (x0 : Int32)  : Met l yX7_count (Cond.code yX7_count cX7_count 3 (some .int) :: T0) ({ frames := 0, cells := 0, slots := 0, locals := 0 }) (va_Pc [.int x0] (s_W dC dI sz L F [(cs 0, .int), (cs 1, .byte), (cs 2, .long), (cs 3, .object RX5), (cs 4, .object RX4), (cs 5, .array .int), (cs 6, .char), (cs 7, .boolean)])) (va_Qi (fun (r : Int32) (G : Nat → va_E) => True ∧ True ∧ G = F ∧ True) (fun (G : Nat → va_E) (t : State) => va_P (dC, dI) vwCl (va_pl L G) t.heap ∧ va_K (dC, dI) vwCl [(cs 0, .int), (cs 1, .byte), (cs 2, .long), (cs 3, .object RX5), (cs 4, .object RX4), (cs 5, .array .int), (cs 6, .char), (cs 7, .boolean)] t) (fun q => q ∈ L)) 0 0 (fun q => q ∈ L) := by
  refine Met.ofW (cc := cX7_count) (maxL := 3) (ret := (some .int)) (by decide) rfl ?_
  intro p e s m args below meth c s₁ B hml hv
  obtain ⟨rfl, hsz, hP, hK, hD, hN⟩ := hv
  have hx := B.exec
  have hb := B.bytes
  have hr := B.returns
  have hts : ∀ w ∈ T0, w.before _ s = true := fun w h => atoms_spec (ws := Cond.code yX7_count cX7_count 3 (some .int) :: T0) B.pre w (List.mem_cons_of_mem _ h)
  have hown : s.vm.findClass RX7 = some m.cls := findClass_of_methodNamed B.named
  have hlocks := B.notSynchronized
  have hS : va_S (fun q => q ∈ L) s.heap s.heap [] := va_S.rf
  have hl := lv_entry ([.int x0]) (n := 3) (Nat.le_of_ble_eq_true rfl)
  rw [lg_entry_eq]
  generalize (lg_sl ([.int x0]) ++ List.replicate (3 - (lg_sl ([.int x0])).length) Slot.unset).toArray = ls at hl ⊢
  have hl : lv_has ls 3 [(0, .int x0)] := hl
  refine s_gen hP hS (fun H locs hP hS => ?_)
  refine lv_iconst (v := 0) hx hb dX7_count_0 (by decide) ?_
  refine lv_istore_n (lv' := [(1, .int 0), (0, .int x0)]) hx hb dX7_count_1 rfl hl (by decide) rfl (fun ls hl => ?_)
  refine lv_iconst (v := 0) hx hb dX7_count_2 (by decide) ?_
  refine lv_istore_n (lv' := [(2, .int 0), (1, .int 0), (0, .int x0)]) hx hb dX7_count_3 rfl hl (by decide) rfl (fun ls hl => ?_)
  have h3 : (0 : Int32).toInt = 0 := by decide
  have h4 : (0 : Int32).toInt = 0 := by decide
  refine th_loop (fun n g H locs => ∃ (G : Nat → va_E) (ls : Array Slot) (w1 : Int32) (w2 : Int32), g = F0 m 4 ls [] ∧ lv_has ls 3 [(0, .int x0), (1, .int w1), (2, .int w2)] ∧ va_P (dC, dI) vwCl (va_pl L G) H ∧ va_S (fun q => q ∈ L) s.heap H locs ∧ G = F ∧ True ∧ (0 ≤ w2.toInt ∧ w2.toInt ≤ 8) ∧ n = (9 - w2.toInt).toNat) _ ⟨F, _, 0, 0, rfl, lv_sub hl [2, 1, 0] rfl, hP, hS, rfl, trivial, (by decide), rfl⟩ (fun n ih4 g H locs hq => ?_)
  obtain ⟨F7, ls, w1, w2, rfl, hl, hP, hS, hG9, h5, h6, hn⟩ := hq
  rw [hG9] at hP
  have hn_7 := hn
  refine lv_iload_n hx hb dX7_count_4 rfl (lv_at hl 2 rfl) ?_
  refine lv_bipush (v := 8) hx hb dX7_count_5 (by decide) ?_
  refine lv_icmp_ge (tgt := 24) hx hb dX7_count_7 (by decide) (fun c8 => ?_) (fun c8 => ?_)
  · have c8 := (ax_ge (n := 8) (by decide)).mp c8
    refine lv_iload_n hx hb dX7_count_24 rfl (lv_at hl 1 rfl) ?_
    exact W.iret (v := w1) hx hb hr (fun t ht hW => ⟨⟨w1, F, rfl, ⟨trivial, trivial, rfl, trivial⟩, by rw [ht]; exact hP, va_K.moved hW.alike hK⟩, hS.F ht⟩) hS.2.2 dX7_count_25
  · have c8 := mt (ax_ge (n := 8) (by decide)).mpr c8
    refine lv_iload_n hx hb dX7_count_10 rfl (lv_at hl 1 rfl) ?_
    refine lv_iload_n hx hb dX7_count_11 rfl (lv_at hl 0 rfl) ?_
    refine lv_iload_n hx hb dX7_count_12 rfl (lv_at hl 2 rfl) ?_
    refine lv_ishr hx hb dX7_count_13 ?_
    refine lv_topi (fun v9 ev9 => ?_)
    refine lv_iconst (v := 1) hx hb dX7_count_14 (by decide) ?_
    refine lv_iand hx hb dX7_count_15 ?_
    refine lv_topi (fun v10 ev10 => ?_)
    have qv10 : 0 ≤ v10.toInt ∧ v10.toInt ≤ 1 := by rw [ev10]; exact th_and 1 (by decide) (by decide)
    refine lv_iadd hx hb dX7_count_16 ?_
    refine lv_topi (fun v11 ev11 => ?_)
    refine lv_istore_n (lv' := [(1, .int v11), (0, .int x0), (2, .int w2)]) hx hb dX7_count_17 rfl hl (by decide) rfl (fun ls hl => ?_)
    obtain ⟨v12, ev12⟩ : ∃ y : Int32, w2 + 1 = y := ⟨_, rfl⟩
    have qv12 : v12.toInt = w2.toInt + 1 := by rw [← ev12]; exact th_add rfl (by decide) ⟨by omega, by omega⟩
    refine lv_iinc (v := v12) (lv' := [(2, .int v12), (1, .int v11), (0, .int x0)]) hx hb dX7_count_18 hl (k := 2) rfl ev12 (by decide) rfl (fun ls hl => ?_)
    refine lv_goto (tgt := 4) hx hb dX7_count_21 (by decide) ?_
    exact ih4 _ _ _ _ (by omega) ⟨F, _, v11, v12, rfl, lv_sub hl [2, 1, 0] rfl, hP, hS, rfl, trivial, ⟨by omega, by omega⟩, rfl⟩

set_option maxHeartbeats 4000000 in
set_option maxRecDepth 100000 in
theorem y_X7_sumOf (l : Launch) (dC : Nat → ClassId) (dI : Nat → Nat → Nat) (sz : Nat) {L : List Nat} {K : Nat → Nat} {cs : Nat → ClassId} (hLK : ∀ a {k : Nat}, K a = k → k ≠ 0 → a ∈ L) (A : Nat → Nat) (hA : y_A K A) (F : Nat → va_E) (a0 : Nat) (x1 : Int32) (ha0 : K a0 = 9) (hx1 : 3 ≤ x1.toInt ∧ x1.toInt ≤ 4) (hI : y_I K cs A F) (hPG : y_PG (y_at F (A 13))) : Met l yX7_sumOf (Cond.code yX7_sumOf cX7_sumOf 4 (some .int) :: T0) ({ frames := 2, cells := 0, slots := 0, locals := 43 }) (va_Pc [.ref a0, .int x1] (s_W dC dI sz L F [(cs 0, .int), (cs 1, .byte), (cs 2, .long), (cs 3, .object RX5), (cs 4, .object RX4), (cs 5, .array .int), (cs 6, .char), (cs 7, .boolean)])) (va_Qi (fun (r : Int32) (G : Nat → va_E) => True ∧ True ∧ y_I K cs A G ∧ (∀ b, K b ∉ ([] : List Nat) → G b = F b) ∧ (∀ k, k ∈ ([1, 2, 3, 4, 5, 6, 7, 8, 11, 15, 16, 19, 25, 26, 27, 31, 32] : List Nat) → y_fi G a0 k = y_fi F a0 k) ∧ True) (fun (G : Nat → va_E) (t : State) => va_P (dC, dI) vwCl (va_pl L G) t.heap ∧ va_K (dC, dI) vwCl [(cs 0, .int), (cs 1, .byte), (cs 2, .long), (cs 3, .object RX5), (cs 4, .object RX4), (cs 5, .array .int), (cs 6, .char), (cs 7, .boolean)] t) (fun q => q ∈ L)) 0 0 (fun q => q ∈ L) := by
  refine Met.ofW (cc := cX7_sumOf) (maxL := 4) (ret := (some .int)) (by decide) rfl ?_
  intro p e s m args below meth c s₁ B hml hv
  obtain ⟨rfl, hsz, hP, hK, hD, hN⟩ := hv
  have hx := B.exec
  have hb := B.bytes
  have hr := B.returns
  have hts : ∀ w ∈ T0, w.before _ s = true := fun w h => atoms_spec (ws := Cond.code yX7_sumOf cX7_sumOf 4 (some .int) :: T0) B.pre w (List.mem_cons_of_mem _ h)
  have hown : s.vm.findClass RX7 = some m.cls := findClass_of_methodNamed B.named
  have hlocks := B.notSynchronized
  have hS : va_S (fun q => q ∈ L) s.heap s.heap [] := va_S.rf
  have hfr : ∀ b, K b ∉ ([] : List Nat) → F b = F b := fun _ _ => rfl
  have hl := lv_entry ([.ref a0, .int x1]) (n := 4) (Nat.le_of_ble_eq_true rfl)
  rw [lg_entry_eq]
  generalize (lg_sl ([.ref a0, .int x1]) ++ List.replicate (4 - (lg_sl ([.ref a0, .int x1])).length) Slot.unset).toArray = ls at hl ⊢
  have hl : lv_has ls 4 [(0, .ref a0), (1, .int x1)] := hl
  refine s_gen hP hS (fun H locs hP hS => ?_)
  obtain ⟨z0, q0, oY0, bz0, bq0⟩ := y_opY hI ha0
  have hz0 : ∀ k, k ∈ ([1, 2, 3, 4, 5, 6, 7, 8, 11, 15, 16, 19, 25, 26, 27, 31, 32] : List Nat) → z0 k = z0 k := fun _ _ => rfl
  obtain ⟨f1, o2, b3⟩ := y_op13 hI
  replace hPG : y_PG f1 := by have q9 := hPG; rw [y_atE o2] at q9; exact q9
  have hL := y_P0L hPG.1
  have hW := y_P0W hPG.1
  refine lv_iconst (v := 0) hx hb dX7_sumOf_0 (by decide) ?_
  refine lv_istore_n (lv' := [(2, .int 0), (0, .ref a0), (1, .int x1)]) hx hb dX7_sumOf_1 rfl hl (by decide) rfl (fun ls hl => ?_)
  refine lv_iconst (v := 0) hx hb dX7_sumOf_2 (by decide) ?_
  refine lv_istore_n (lv' := [(3, .int 0), (2, .int 0), (0, .ref a0), (1, .int x1)]) hx hb dX7_sumOf_3 rfl hl (by decide) rfl (fun ls hl => ?_)
  have h6 : (0 : Int32).toInt = 0 := by decide
  have h7 : (0 : Int32).toInt = 0 := by decide
  refine th_loop (fun n g H locs => ∃ (G : Nat → va_E) (ls : Array Slot) (w4 : Int32) (w5 : Int32), g = F0 m 4 ls [] ∧ lv_has ls 4 [(0, .ref a0), (1, .int x1), (2, .int w4), (3, .int w5)] ∧ va_P (dC, dI) vwCl (va_pl L G) H ∧ va_S (fun q => q ∈ L) s.heap H locs ∧ y_I K cs A G ∧ (∀ b, K b ∉ ([] : List Nat) → G b = F b) ∧ (∀ k, k ∈ ([1, 2, 3, 4, 5, 6, 7, 8, 11, 15, 16, 19, 25, 26, 27, 31, 32] : List Nat) → y_fi G a0 k = z0 k) ∧ True ∧ (0 ≤ w5.toInt ∧ w5.toInt ≤ 4) ∧ (3 ≤ x1.toInt ∧ x1.toInt ≤ 4) ∧ n = (5 - w5.toInt).toNat) _ ⟨F, _, 0, 0, rfl, lv_sub hl [2, 3, 1, 0] rfl, hP, hS, hI, hfr, (fun k hk => (y_fiZ oY0 (s_sub (by decide) hk)).trans (hz0 k hk)), trivial, (by decide), ⟨by omega, by omega⟩, rfl⟩ (fun n ih4 g H locs hq => ?_)
  obtain ⟨F11, ls, w4, w5, rfl, hl, hP, hS, hI, hfr, hz0, h8, h9, h10, hn⟩ := hq
  have o12 : F11 (A 13) = .inl (cs 0, 400, .inl f1) := (hfr _ (by rw [(y_k13 hA)]; decide)).trans o2
  have oY13 : F11 a0 = .inr (7, y_fl A z0 q0) := (hfr _ (by rw [ha0]; decide)).trans oY0
  have hz0 : ∀ k, k ∈ ([1, 2, 3, 4, 5, 6, 7, 8, 11, 15, 16, 19, 25, 26, 27, 31, 32] : List Nat) → z0 k = z0 k := fun _ _ => rfl
  have hn_13 := hn
  refine lv_iload_n hx hb dX7_sumOf_4 rfl (lv_at hl 3 rfl) ?_
  refine lv_aload_n hx hb dX7_sumOf_5 rfl (lv_at hl 0 rfl) ?_
  refine va_calli (va_runV (As := []) (rest := [.int w5]) ⟨hx, hb, hml, hown, hts⟩ (y_X7_warps l dC dI H.size hLK A hA F11 a0 ha0 hI) (cwV 0 hts (ax_gV T_993 T_995 T_996 T_265 T_994) rfl rfl rfl (by decide +kernel) ⟨Nat.le_of_ble_eq_true rfl, Nat.le_of_ble_eq_true rfl⟩) ⟨fun a U g mk q => ⟨q.1, s_pc (U := U) rfl rfl q.2⟩, s_recv hK hP (hLK _ ha0 (by decide)) (ci := 7) rfl oY13, fun U hU hW => ⟨rfl, s_pw hU hW hP hK hD hN⟩⟩ rfl rfl hl.1 rfl (lv_room (Nat.le_of_ble_eq_true rfl)) dX7_sumOf_6 ⟨Nat.zero_le _, Nat.zero_le _⟩) hS (fun q _ h => h) (fun q h => h) (fun r15 F16 t H1 locs ht hvm hw hB hz1 hk1 hS => ?_)
  obtain ⟨hP, hK1⟩ := hB
  rw [ht] at hP
  generalize H1 = H at hP hS ⊢
  clear hz1 hk1 hvm hK1
  obtain ⟨h17, h19, hI, hfr1, hzf, h18⟩ := hw
  have o20 : F16 (A 13) = .inl (cs 0, 400, .inl f1) := (hfr1 _ (by rw [(y_k13 hA)]; decide)).trans o12
  have oY21 : F16 a0 = .inr (7, y_fl A z0 q0) := (hfr1 _ (by rw [ha0]; decide)).trans oY13
  have hfr : ∀ b, K b ∉ ([] : List Nat) → F16 b = F b := fun b hb9 => (hfr1 b (fun q => hb9 (s_sub (by decide) q))).trans (hfr b hb9)
  replace h18 : (r15 = y_c f1 384) := by have q9 := h18; rw [y_atE o12] at q9; exact q9
  have h22 := congrArg Int32.toInt h18
  have h23 : 1 ≤ r15.toInt ∧ r15.toInt ≤ 4 := ⟨by omega, by omega⟩
  refine lv_icmp_ge (tgt := 30) hx hb dX7_sumOf_9 (by decide) (fun c24 => ?_) (fun c24 => ?_)
  · have c24 := Int32.le_iff_toInt_le.mp c24
    refine lv_iload_n hx hb dX7_sumOf_30 rfl (lv_at hl 2 rfl) ?_
    exact W.iret (v := w4) hx hb hr (fun t ht hW => ⟨⟨w4, F16, rfl, ⟨trivial, trivial, hI, hfr, fun k hk => (y_fiZ oY21 (s_sub (by decide) hk)).trans ((hz0 k hk).trans (y_fiZ oY0 (s_sub (by decide) hk)).symm), trivial⟩, by rw [ht]; exact hP, va_K.moved hW.alike hK⟩, hS.F ht⟩) hS.2.2 dX7_sumOf_31
  · have c24 := mt Int32.le_iff_toInt_le.mpr c24
    refine lv_iload_n hx hb dX7_sumOf_12 rfl (lv_at hl 2 rfl) ?_
    refine lv_aload_n hx hb dX7_sumOf_13 rfl (lv_at hl 0 rfl) ?_
    refine lv_iload_n hx hb dX7_sumOf_14 rfl (lv_at hl 3 rfl) ?_
    refine lv_iload_n hx hb dX7_sumOf_15 rfl (lv_at hl 1 rfl) ?_
    have rg25 : 0 ≤ w5.toInt ∧ w5.toInt ≤ 3 := ⟨by omega, by omega⟩
    have rg26 : 0 ≤ x1.toInt ∧ x1.toInt ≤ 5 := ⟨by omega, by omega⟩
    obtain ⟨f27, o28, b29⟩ := y_op20 hI
    refine va_calli (va_runV (As := [.int w5, .int x1]) (rest := [.int w4]) ⟨hx, hb, hml, hown, hts⟩ (y_X7_its l dC dI H.size hLK A hA F16 a0 w5 x1 ha0 rg25 rg26 hI) (cwV 2 hts (ax_gV T_1057 T_1059 T_1060 T_265 T_1058) rfl rfl rfl (by decide +kernel) ⟨Nat.le_of_ble_eq_true rfl, Nat.le_of_ble_eq_true rfl⟩) ⟨fun a U g mk q => ⟨q.1, s_pc (U := U) rfl rfl q.2⟩, s_recv hK hP (hLK _ ha0 (by decide)) (ci := 7) rfl oY21, fun U hU hW => ⟨rfl, s_pw hU hW hP hK hD hN⟩⟩ rfl rfl hl.1 rfl (lv_room (Nat.le_of_ble_eq_true rfl)) dX7_sumOf_16 ⟨Nat.zero_le _, Nat.zero_le _⟩) hS (fun q _ h => h) (fun q h => h) (fun r31 F32 t H1 locs ht hvm hw hB hz1 hk1 hS => ?_)
    obtain ⟨hP, hK1⟩ := hB
    rw [ht] at hP
    generalize H1 = H at hP hS ⊢
    clear hz1 hk1 hvm hK1
    obtain ⟨h33, h35, hI, hfr1, hzf, h34⟩ := hw
    have o36 : F32 (A 13) = .inl (cs 0, 400, .inl f1) := (hfr1 _ (by rw [(y_k13 hA)]; decide)).trans o20
    have o37 : F32 (A 20) = .inl (cs 0, 918, .inl f27) := (hfr1 _ (by rw [(y_k20 hA)]; decide)).trans o28
    have oY38 : F32 a0 = .inr (7, y_fl A z0 q0) := (hfr1 _ (by rw [ha0]; decide)).trans oY21
    have hfr : ∀ b, K b ∉ ([] : List Nat) → F32 b = F b := fun b hb9 => (hfr1 b (fun q => hb9 (s_sub (by decide) q))).trans (hfr b hb9)
    replace h34 : (r31 = y_c f27 (104 + 6 * w5.toInt + x1.toInt)) := by have q9 := h34; rw [y_atE o28] at q9; exact q9
    have h39 := congrArg Int32.toInt h34
    refine va_calli (va_runS (As := [.int r31]) (rest := [.int w4]) ⟨hx, hb, hml, hown, hts⟩ (y_X7_count l dC dI H.size F32 r31) (cwS 1 hts (ax_gS T_1315 T_1317 T_265 T_1316) rfl rfl rfl (by decide +kernel) ⟨Nat.le_of_ble_eq_true rfl, Nat.le_of_ble_eq_true rfl⟩) ⟨fun a U g mk q => ⟨q.1, s_pc (U := U) rfl rfl q.2⟩, fun U hU hW => ⟨rfl, s_pw hU hW hP hK hD hN⟩⟩ rfl rfl hl.1 rfl (lv_room (Nat.le_of_ble_eq_true rfl)) dX7_sumOf_19 ⟨Nat.zero_le _, Nat.zero_le _⟩) hS (fun q _ h => h) (fun q h => h) (fun r41 F42 t H1 locs ht hvm hw hB hz1 hk1 hS => ?_)
    obtain ⟨hP, hK1⟩ := hB
    rw [ht] at hP
    generalize H1 = H at hP hS ⊢
    clear hz1 hk1 hvm hK1
    obtain ⟨h43, h45, hG9, h44⟩ := hw
    rw [hG9] at hP
    refine lv_iadd hx hb dX7_sumOf_22 ?_
    refine lv_topi (fun v46 ev46 => ?_)
    refine lv_istore_n (lv' := [(2, .int v46), (0, .ref a0), (1, .int x1), (3, .int w5)]) hx hb dX7_sumOf_23 rfl hl (by decide) rfl (fun ls hl => ?_)
    obtain ⟨v47, ev47⟩ : ∃ y : Int32, w5 + 1 = y := ⟨_, rfl⟩
    have qv47 : v47.toInt = w5.toInt + 1 := by rw [← ev47]; exact th_add rfl (by decide) ⟨by omega, by omega⟩
    refine lv_iinc (v := v47) (lv' := [(3, .int v47), (2, .int v46), (0, .ref a0), (1, .int x1)]) hx hb dX7_sumOf_24 hl (k := 3) rfl ev47 (by decide) rfl (fun ls hl => ?_)
    refine lv_goto (tgt := 4) hx hb dX7_sumOf_27 (by decide) ?_
    exact ih4 _ _ _ _ (by omega) ⟨F32, _, v46, v47, rfl, lv_sub hl [2, 3, 1, 0] rfl, hP, hS, hI, hfr, (fun k hk => (y_fiZ oY38 (s_sub (by decide) hk)).trans (hz0 k hk)), trivial, ⟨by omega, by omega⟩, ⟨by omega, by omega⟩, rfl⟩

set_option maxHeartbeats 4000000 in
set_option maxRecDepth 100000 in
theorem y_X7_opensBar (l : Launch) (dC : Nat → ClassId) (dI : Nat → Nat → Nat) (sz : Nat) {L : List Nat} {K : Nat → Nat} {cs : Nat → ClassId} (hLK : ∀ a {k : Nat}, K a = k → k ≠ 0 → a ∈ L) (A : Nat → Nat) (hA : y_A K A) (F : Nat → va_E) (a0 : Nat) (ha0 : K a0 = 9) (hI : y_I K cs A F) (hPG : y_PG (y_at F (A 13))) (hNG : y_NG (y_at F (A 13)) (y_at F (A 20))) : Met l yX7_opensBar (Cond.code yX7_opensBar cX7_opensBar 4 none :: T0) ({ frames := 5, cells := 0, slots := 0, locals := 110 }) (va_Pc [.ref a0] (s_W dC dI sz L F [(cs 0, .int), (cs 1, .byte), (cs 2, .long), (cs 3, .object RX5), (cs 4, .object RX4), (cs 5, .array .int), (cs 6, .char), (cs 7, .boolean)])) (va_Qv (fun (G : Nat → va_E) => True ∧ True ∧ y_I K cs A G ∧ (∀ b, K b ∉ [70] → G b = F b) ∧ (∀ k, k ∈ ([1, 2, 3, 4, 5, 6, 7, 8, 11, 15, 16, 19, 25, 26, 27, 31, 32] : List Nat) → y_fi G a0 k = y_fi F a0 k) ∧ (y_NG (y_at F (A 13)) (y_at G (A 20)) ∧ y_c (y_at G (A 20)) 3 = y_c (y_at F (A 20)) 3 ∧ y_c (y_at G (A 20)) 4 = y_c (y_at F (A 20)) 4)) (fun (G : Nat → va_E) (t : State) => va_P (dC, dI) vwCl (va_pl L G) t.heap ∧ va_K (dC, dI) vwCl [(cs 0, .int), (cs 1, .byte), (cs 2, .long), (cs 3, .object RX5), (cs 4, .object RX4), (cs 5, .array .int), (cs 6, .char), (cs 7, .boolean)] t) (fun q => q ∈ L)) 0 0 (fun q => q ∈ L) := by
  refine Met.ofW (cc := cX7_opensBar) (maxL := 4) (ret := none) (by decide) rfl ?_
  intro p e s m args below meth c s₁ B hml hv
  obtain ⟨rfl, hsz, hP, hK, hD, hN⟩ := hv
  have hx := B.exec
  have hb := B.bytes
  have hr := B.returns
  have hts : ∀ w ∈ T0, w.before _ s = true := fun w h => atoms_spec (ws := Cond.code yX7_opensBar cX7_opensBar 4 none :: T0) B.pre w (List.mem_cons_of_mem _ h)
  have hown : s.vm.findClass RX7 = some m.cls := findClass_of_methodNamed B.named
  have hlocks := B.notSynchronized
  have hS : va_S (fun q => q ∈ L) s.heap s.heap [] := va_S.rf
  have hfr : ∀ b, K b ∉ [70] → F b = F b := fun _ _ => rfl
  have hl := lv_entry ([.ref a0]) (n := 4) (Nat.le_of_ble_eq_true rfl)
  rw [lg_entry_eq]
  generalize (lg_sl ([.ref a0]) ++ List.replicate (4 - (lg_sl ([.ref a0])).length) Slot.unset).toArray = ls at hl ⊢
  have hl : lv_has ls 4 [(0, .ref a0)] := hl
  refine s_gen hP hS (fun H locs hP hS => ?_)
  obtain ⟨z0, q0, oY0, bz0, bq0⟩ := y_opY hI ha0
  have hz0 : ∀ k, k ∈ ([1, 2, 3, 4, 5, 6, 7, 8, 11, 15, 16, 19, 25, 26, 27, 31, 32] : List Nat) → z0 k = z0 k := fun _ _ => rfl
  obtain ⟨f1, o2, b3⟩ := y_op13 hI
  obtain ⟨f4, o5, b6⟩ := y_op20 hI
  replace hPG : y_PG f1 := by have q9 := hPG; rw [y_atE o2] at q9; exact q9
  replace hNG : y_NG f1 f4 := by have q9 := hNG; rw [y_atE o2, y_atE o5] at q9; exact q9
  have hL := y_P0L hPG.1
  have hW := y_P0W hPG.1
  have hnn := And.intro hNG.1 (And.intro hNG.2.1 (And.intro hNG.2.2.1 hNG.2.2.2.1))
  refine lv_aload_n hx hb dX7_opensBar_0 rfl (lv_at hl 0 rfl) ?_
  refine lv_iconst (v := 3) hx hb dX7_opensBar_1 (by decide) ?_
  refine va_calli (va_runV (As := [.int 3]) (rest := []) ⟨hx, hb, hml, hown, hts⟩ (y_X7_sumOf l dC dI H.size hLK A hA F a0 3 ha0 (by decide) hI (by rw [y_atE o2]; exact hPG)) (cwV 1 hts (ax_gV T_1189 T_1191 T_1192 T_265 T_1190) rfl rfl rfl (by decide +kernel) ⟨Nat.le_of_ble_eq_true rfl, Nat.le_of_ble_eq_true rfl⟩) ⟨fun a U g mk q => ⟨q.1, s_pc (U := U) rfl rfl q.2⟩, s_recv hK hP (hLK _ ha0 (by decide)) (ci := 7) rfl oY0, fun U hU hW => ⟨rfl, s_pw hU hW hP hK hD hN⟩⟩ rfl rfl hl.1 rfl (lv_room (Nat.le_of_ble_eq_true rfl)) dX7_opensBar_2 ⟨Nat.zero_le _, Nat.zero_le _⟩) hS (fun q _ h => h) (fun q h => h) (fun r8 F9 t H1 locs ht hvm hw hB hz1 hk1 hS => ?_)
  obtain ⟨hP, hK1⟩ := hB
  rw [ht] at hP
  generalize H1 = H at hP hS ⊢
  clear hz1 hk1 hvm hK1
  obtain ⟨h10, h12, hI, hfr1, hzf, h11⟩ := hw
  have o13 : F9 (A 13) = .inl (cs 0, 400, .inl f1) := (hfr1 _ (by rw [(y_k13 hA)]; decide)).trans o2
  have o14 : F9 (A 20) = .inl (cs 0, 918, .inl f4) := (hfr1 _ (by rw [(y_k20 hA)]; decide)).trans o5
  have oY15 : F9 a0 = .inr (7, y_fl A z0 q0) := (hfr1 _ (by rw [ha0]; decide)).trans oY0
  have hfr : ∀ b, K b ∉ [70] → F9 b = F b := fun b hb9 => (hfr1 b (fun q => hb9 (s_sub (by decide) q))).trans (hfr b hb9)
  refine lv_if_eq (tgt := 21) hx hb dX7_opensBar_5 (by decide) (fun c16 => ?_) (fun c16 => ?_)
  · have c16 := (ax_eq (n := 0) (by decide)).mp c16
    exact W.vret hx hb hr (fun t ht hW => ⟨⟨F9, rfl, ⟨trivial, trivial, hI, hfr, fun k hk => (y_fiZ oY15 (s_sub (by decide) hk)).trans ((hz0 k hk).trans (y_fiZ oY0 (s_sub (by decide) hk)).symm), (by rw [y_atE o2, y_atE o14, y_atE o5]; exact ⟨hNG, rfl, rfl⟩)⟩, by rw [ht]; exact hP, va_K.moved hW.alike hK⟩, hS.F ht⟩) hS.2.2 dX7_opensBar_21
  · have c16 := mt (ax_eq (n := 0) (by decide)).mpr c16
    refine lv_aload_n hx hb dX7_opensBar_8 rfl (lv_at hl 0 rfl) ?_
    refine lv_iconst (v := 3) hx hb dX7_opensBar_9 (by decide) ?_
    refine va_calli (va_runV (As := [.int 3]) (rest := []) ⟨hx, hb, hml, hown, hts⟩ (y_X7_sumOf l dC dI H.size hLK A hA F9 a0 3 ha0 (by decide) hI (by rw [y_atE o13]; exact hPG)) (cwV 1 hts (ax_gV T_1189 T_1191 T_1192 T_265 T_1190) rfl rfl rfl (by decide +kernel) ⟨Nat.le_of_ble_eq_true rfl, Nat.le_of_ble_eq_true rfl⟩) ⟨fun a U g mk q => ⟨q.1, s_pc (U := U) rfl rfl q.2⟩, s_recv hK hP (hLK _ ha0 (by decide)) (ci := 7) rfl oY15, fun U hU hW => ⟨rfl, s_pw hU hW hP hK hD hN⟩⟩ rfl rfl hl.1 rfl (lv_room (Nat.le_of_ble_eq_true rfl)) dX7_opensBar_10 ⟨Nat.zero_le _, Nat.zero_le _⟩) hS (fun q _ h => h) (fun q h => h) (fun r18 F19 t H1 locs ht hvm hw hB hz1 hk1 hS => ?_)
    obtain ⟨hP, hK1⟩ := hB
    rw [ht] at hP
    generalize H1 = H at hP hS ⊢
    clear hz1 hk1 hvm hK1
    obtain ⟨h20, h22, hI, hfr1, hzf, h21⟩ := hw
    have o23 : F19 (A 13) = .inl (cs 0, 400, .inl f1) := (hfr1 _ (by rw [(y_k13 hA)]; decide)).trans o13
    have o24 : F19 (A 20) = .inl (cs 0, 918, .inl f4) := (hfr1 _ (by rw [(y_k20 hA)]; decide)).trans o14
    have oY25 : F19 a0 = .inr (7, y_fl A z0 q0) := (hfr1 _ (by rw [ha0]; decide)).trans oY15
    have hfr : ∀ b, K b ∉ [70] → F19 b = F b := fun b hb9 => (hfr1 b (fun q => hb9 (s_sub (by decide) q))).trans (hfr b hb9)
    refine lv_aload_n hx hb dX7_opensBar_13 rfl (lv_at hl 0 rfl) ?_
    refine lv_iconst (v := 4) hx hb dX7_opensBar_14 (by decide) ?_
    refine va_calli (va_runV (As := [.int 4]) (rest := [.int r18]) ⟨hx, hb, hml, hown, hts⟩ (y_X7_sumOf l dC dI H.size hLK A hA F19 a0 4 ha0 (by decide) hI (by rw [y_atE o23]; exact hPG)) (cwV 1 hts (ax_gV T_1189 T_1191 T_1192 T_265 T_1190) rfl rfl rfl (by decide +kernel) ⟨Nat.le_of_ble_eq_true rfl, Nat.le_of_ble_eq_true rfl⟩) ⟨fun a U g mk q => ⟨q.1, s_pc (U := U) rfl rfl q.2⟩, s_recv hK hP (hLK _ ha0 (by decide)) (ci := 7) rfl oY25, fun U hU hW => ⟨rfl, s_pw hU hW hP hK hD hN⟩⟩ rfl rfl hl.1 rfl (lv_room (Nat.le_of_ble_eq_true rfl)) dX7_opensBar_15 ⟨Nat.zero_le _, Nat.zero_le _⟩) hS (fun q _ h => h) (fun q h => h) (fun r27 F28 t H1 locs ht hvm hw hB hz1 hk1 hS => ?_)
    obtain ⟨hP, hK1⟩ := hB
    rw [ht] at hP
    generalize H1 = H at hP hS ⊢
    clear hz1 hk1 hvm hK1
    obtain ⟨h29, h31, hI, hfr1, hzf, h30⟩ := hw
    have o32 : F28 (A 13) = .inl (cs 0, 400, .inl f1) := (hfr1 _ (by rw [(y_k13 hA)]; decide)).trans o23
    have o33 : F28 (A 20) = .inl (cs 0, 918, .inl f4) := (hfr1 _ (by rw [(y_k20 hA)]; decide)).trans o24
    have oY34 : F28 a0 = .inr (7, y_fl A z0 q0) := (hfr1 _ (by rw [ha0]; decide)).trans oY25
    have hfr : ∀ b, K b ∉ [70] → F28 b = F b := fun b hb9 => (hfr1 b (fun q => hb9 (s_sub (by decide) q))).trans (hfr b hb9)
    refine lv_icmp_eq (tgt := 22) hx hb dX7_opensBar_18 (by decide) (fun c35 => ?_) (fun c35 => ?_)
    · have c35 := Int32.toInt_inj.symm.mp c35
      refine lv_aload_n hx hb dX7_opensBar_22 rfl (lv_at hl 0 rfl) ?_
      refine th_get (D := (dC, dI)) (ci := 7) (v := .ref (A 20)) (C := RX7) (T := TX7) (N := 34) hx hb hts inX7 hown hK hP (hLK _ ha0 (by decide)) oY34 rfl 20 (by decide) (hts _ T_251) (fun _ h9 => h9) rfl dX7_opensBar_23 ?_
      refine lv_iconst (v := 2) hx hb dX7_opensBar_26 (by decide) ?_
      refine lv_dup2_11 hx hb dX7_opensBar_27 rfl rfl ?_
      refine th_iald hx hb hK hP (hLK _ (y_k20 hA) (by decide)) 0 o33 rfl (ax_in (by decide)) dX7_opensBar_28 ?_
      refine lv_topi (fun v36 ev36 => ?_)
      refine lv_iconst (v := 1) hx hb dX7_opensBar_29 (by decide) ?_
      refine lv_iadd hx hb dX7_opensBar_30 ?_
      refine lv_topi (fun v37 ev37 => ?_)
      refine th_iast hx hb hK hP hD hS (hLK _ (y_k20 hA) (by decide)) 0 o33 rfl (ax_in (by decide)) dX7_opensBar_31 (fun H locs hP hS => ?_)
      obtain ⟨f38, u39⟩ : ∃ g : Nat → Int32, g = upd f4 (2 : Int32).toNatClampNeg v37 := ⟨_, rfl⟩
      rw [← u39] at hP
      have b40 : y_bd 20 f38 := trivial
      have hP : va_P (dC, dI) vwCl (va_pl L (va_up F28 (A 20) (.inl (cs 0, 918, .inl f38)))) H := hP
      obtain ⟨F41, hF42⟩ : ∃ G : Nat → va_E, G = va_up F28 (A 20) (.inl (cs 0, 918, .inl f38)) := ⟨_, rfl⟩
      rw [← hF42] at hP
      have hI : y_I K cs A F41 := by rw [hF42]; exact y_clA (i := 20) hA hI (by decide) b40
      have hfr : ∀ b, K b ∉ [70] → F41 b = F b := by rw [hF42]; exact s_fr hfr (y_k20 hA) (by decide)
      have o43 : F41 (A 13) = .inl (cs 0, 400, .inl f1) := by rw [hF42]; exact th_ne (th_kd (y_k13 hA) (y_k20 hA) (by decide)) o32
      have oY44 : F41 a0 = .inr (7, y_fl A z0 q0) := by rw [hF42]; exact th_ne (th_kd ha0 (y_k20 hA) (by decide)) oY34
      have o45 : F41 (A 20) = .inl (cs 0, 918, .inl f38) := by rw [hF42]; exact th_up
      have u46 : ∀ j : Int, 0 ≤ j → y_c f38 j = if j = 2 then v37 else y_c f4 j := by rw [u39]; exact y_cu (by decide) (by decide)
      have k47 : y_NG f1 f38 := y_NGe (y_E_u u46 (by omega)) hNG (by rw [u46 6 (by omega), if_neg (by omega)]; exact hNG.2.2.1) (by rw [u46 7 (by omega), if_neg (by omega)]; exact hNG.2.2.2.1) (by omega)
      have k48x : y_c f38 3 = y_c f4 3 := by rw [u46 3 (by omega), if_neg (by omega)] <;> exact rfl
      have k48y : y_c f38 4 = y_c f4 4 := by rw [u46 4 (by omega), if_neg (by omega)] <;> exact rfl
      refine lv_sipush (v := 480) hx hb dX7_opensBar_32 (by decide) ?_
      refine lv_istore_n (lv' := [(1, .int 480), (0, .ref a0)]) hx hb dX7_opensBar_35 rfl hl (by decide) rfl (fun ls hl => ?_)
      have h50 : (480 : Int32).toInt = 480 := by decide
      refine th_loop (fun n g H locs => ∃ (G : Nat → va_E) (ls : Array Slot) (w49 : Int32), g = F0 m 36 ls [] ∧ lv_has ls 4 [(0, .ref a0), (1, .int w49)] ∧ va_P (dC, dI) vwCl (va_pl L G) H ∧ va_S (fun q => q ∈ L) s.heap H locs ∧ y_I K cs A G ∧ (∀ b, K b ∉ [70] → G b = F b) ∧ (∀ k, k ∈ ([1, 2, 3, 4, 5, 6, 7, 8, 11, 15, 16, 19, 25, 26, 27, 31, 32] : List Nat) → y_fi G a0 k = z0 k) ∧ (480 ≤ w49.toInt ∧ w49.toInt ≤ 672) ∧ (y_NG f1 (y_at G (A 20))) ∧ (y_c (y_at G (A 20)) 3 = y_c f4 3) ∧ (y_c (y_at G (A 20)) 4 = y_c f4 4) ∧ n = (673 - w49.toInt).toNat) _ ⟨F41, _, 480, rfl, lv_sub hl [1, 0] rfl, hP, hS, hI, hfr, (fun k hk => (y_fiZ oY44 (s_sub (by decide) hk)).trans (hz0 k hk)), (by decide), (by rw [y_atE o45]; exact k47), (by rw [y_atE o45]; exact k48x), (by rw [y_atE o45]; exact k48y), rfl⟩ (fun n ih36 g H locs hq => ?_)
      obtain ⟨F55, ls, w49, rfl, hl, hP, hS, hI, hfr, hz0, h51, h52, h53, h54, hn⟩ := hq
      have o56 : F55 (A 13) = .inl (cs 0, 400, .inl f1) := (hfr _ (by rw [(y_k13 hA)]; decide)).trans o2
      have oY57 : F55 a0 = .inr (7, y_fl A z0 q0) := (hfr _ (by rw [ha0]; decide)).trans oY0
      have hz0 : ∀ k, k ∈ ([1, 2, 3, 4, 5, 6, 7, 8, 11, 15, 16, 19, 25, 26, 27, 31, 32] : List Nat) → z0 k = z0 k := fun _ _ => rfl
      obtain ⟨f58, o59, b60⟩ := y_op20 hI
      replace h52 : (y_NG f1 f58) := by have q9 := h52; rw [y_atE o59] at q9; exact q9
      replace h53 : (y_c f58 3 = y_c f4 3) := by have q9 := h53; rw [y_atE o59] at q9; exact q9
      replace h54 : (y_c f58 4 = y_c f4 4) := by have q9 := h54; rw [y_atE o59] at q9; exact q9
      have hn_60 := hn
      refine lv_iload_n hx hb dX7_opensBar_36 rfl (lv_at hl 1 rfl) ?_
      refine lv_sipush (v := 672) hx hb dX7_opensBar_37 (by decide) ?_
      refine lv_icmp_ge (tgt := 56) hx hb dX7_opensBar_40 (by decide) (fun c61 => ?_) (fun c61 => ?_)
      · have c61 := (ax_ge (n := 672) (by decide)).mp c61
        refine lv_iconst (v := 0) hx hb dX7_opensBar_56 (by decide) ?_
        refine lv_istore_n (lv' := [(1, .int 0), (0, .ref a0)]) hx hb dX7_opensBar_57 rfl hl (by decide) rfl (fun ls hl => ?_)
        have h63 : (0 : Int32).toInt = 0 := by decide
        refine th_loop (fun n g H locs => ∃ (G : Nat → va_E) (ls : Array Slot) (w62 : Int32), g = F0 m 58 ls [] ∧ lv_has ls 4 [(0, .ref a0), (1, .int w62)] ∧ va_P (dC, dI) vwCl (va_pl L G) H ∧ va_S (fun q => q ∈ L) s.heap H locs ∧ y_I K cs A G ∧ (∀ b, K b ∉ [70] → G b = F b) ∧ (∀ k, k ∈ ([1, 2, 3, 4, 5, 6, 7, 8, 11, 15, 16, 19, 25, 26, 27, 31, 32] : List Nat) → y_fi G a0 k = z0 k) ∧ (0 ≤ w62.toInt ∧ w62.toInt ≤ 4) ∧ (y_NG f1 (y_at G (A 20))) ∧ (y_c (y_at G (A 20)) 3 = y_c f4 3) ∧ (y_c (y_at G (A 20)) 4 = y_c f4 4) ∧ n = (5 - w62.toInt).toNat) _ ⟨F55, _, 0, rfl, lv_sub hl [1, 0] rfl, hP, hS, hI, hfr, (fun k hk => (y_fiZ oY57 (s_sub (by decide) hk)).trans (hz0 k hk)), (by decide), (by rw [y_atE o59]; exact h52), (by rw [y_atE o59]; exact h53), (by rw [y_atE o59]; exact h54), rfl⟩ (fun n ih58 g H locs hq => ?_)
        obtain ⟨F68, ls, w62, rfl, hl, hP, hS, hI, hfr, hz0, h64, h65, h66, h67, hn⟩ := hq
        have o69 : F68 (A 13) = .inl (cs 0, 400, .inl f1) := (hfr _ (by rw [(y_k13 hA)]; decide)).trans o2
        have oY70 : F68 a0 = .inr (7, y_fl A z0 q0) := (hfr _ (by rw [ha0]; decide)).trans oY0
        have hz0 : ∀ k, k ∈ ([1, 2, 3, 4, 5, 6, 7, 8, 11, 15, 16, 19, 25, 26, 27, 31, 32] : List Nat) → z0 k = z0 k := fun _ _ => rfl
        obtain ⟨f71, o72, b73⟩ := y_op20 hI
        replace h65 : (y_NG f1 f71) := by have q9 := h65; rw [y_atE o72] at q9; exact q9
        replace h66 : (y_c f71 3 = y_c f4 3) := by have q9 := h66; rw [y_atE o72] at q9; exact q9
        replace h67 : (y_c f71 4 = y_c f4 4) := by have q9 := h67; rw [y_atE o72] at q9; exact q9
        have hn_73 := hn
        refine lv_iload_n hx hb dX7_opensBar_58 rfl (lv_at hl 1 rfl) ?_
        refine lv_aload_n hx hb dX7_opensBar_59 rfl (lv_at hl 0 rfl) ?_
        refine va_calli (va_runV (As := []) (rest := [.int w62]) ⟨hx, hb, hml, hown, hts⟩ (y_X7_warps l dC dI H.size hLK A hA F68 a0 ha0 hI) (cwV 0 hts (ax_gV T_993 T_995 T_996 T_265 T_994) rfl rfl rfl (by decide +kernel) ⟨Nat.le_of_ble_eq_true rfl, Nat.le_of_ble_eq_true rfl⟩) ⟨fun a U g mk q => ⟨q.1, s_pc (U := U) rfl rfl q.2⟩, s_recv hK hP (hLK _ ha0 (by decide)) (ci := 7) rfl oY70, fun U hU hW => ⟨rfl, s_pw hU hW hP hK hD hN⟩⟩ rfl rfl hl.1 rfl (lv_room (Nat.le_of_ble_eq_true rfl)) dX7_opensBar_60 ⟨Nat.zero_le _, Nat.zero_le _⟩) hS (fun q _ h => h) (fun q h => h) (fun r75 F76 t H1 locs ht hvm hw hB hz1 hk1 hS => ?_)
        obtain ⟨hP, hK1⟩ := hB
        rw [ht] at hP
        generalize H1 = H at hP hS ⊢
        clear hz1 hk1 hvm hK1
        obtain ⟨h77, h79, hI, hfr1, hzf, h78⟩ := hw
        have o80 : F76 (A 13) = .inl (cs 0, 400, .inl f1) := (hfr1 _ (by rw [(y_k13 hA)]; decide)).trans o69
        have o81 : F76 (A 20) = .inl (cs 0, 918, .inl f71) := (hfr1 _ (by rw [(y_k20 hA)]; decide)).trans o72
        have oY82 : F76 a0 = .inr (7, y_fl A z0 q0) := (hfr1 _ (by rw [ha0]; decide)).trans oY70
        have hfr : ∀ b, K b ∉ [70] → F76 b = F b := fun b hb9 => (hfr1 b (fun q => hb9 (s_sub (by decide) q))).trans (hfr b hb9)
        replace h78 : (r75 = y_c f1 384) := by have q9 := h78; rw [y_atE o69] at q9; exact q9
        have h83 := congrArg Int32.toInt h78
        have h84 : 1 ≤ r75.toInt ∧ r75.toInt ≤ 4 := ⟨by omega, by omega⟩
        refine lv_icmp_ge (tgt := 175) hx hb dX7_opensBar_63 (by decide) (fun c85 => ?_) (fun c85 => ?_)
        · have c85 := Int32.le_iff_toInt_le.mp c85
          exact W.vret hx hb hr (fun t ht hW => ⟨⟨F76, rfl, ⟨trivial, trivial, hI, hfr, fun k hk => (y_fiZ oY82 (s_sub (by decide) hk)).trans ((hz0 k hk).trans (y_fiZ oY0 (s_sub (by decide) hk)).symm), (by rw [y_atE o2, y_atE o81, y_atE o5]; exact ⟨h65, h66, h67⟩)⟩, by rw [ht]; exact hP, va_K.moved hW.alike hK⟩, hS.F ht⟩) hS.2.2 dX7_opensBar_175
        · have c85 := mt Int32.le_iff_toInt_le.mpr c85
          refine lv_aload_n hx hb dX7_opensBar_66 rfl (lv_at hl 0 rfl) ?_
          refine lv_iload_n hx hb dX7_opensBar_67 rfl (lv_at hl 1 rfl) ?_
          refine lv_iconst (v := 4) hx hb dX7_opensBar_68 (by decide) ?_
          have rg86 : 0 ≤ w62.toInt ∧ w62.toInt ≤ 3 := ⟨by omega, by omega⟩
          refine va_calli (va_runV (As := [.int w62, .int 4]) (rest := []) ⟨hx, hb, hml, hown, hts⟩ (y_X7_its l dC dI H.size hLK A hA F76 a0 w62 4 ha0 rg86 (by decide) hI) (cwV 2 hts (ax_gV T_1057 T_1059 T_1060 T_265 T_1058) rfl rfl rfl (by decide +kernel) ⟨Nat.le_of_ble_eq_true rfl, Nat.le_of_ble_eq_true rfl⟩) ⟨fun a U g mk q => ⟨q.1, s_pc (U := U) rfl rfl q.2⟩, s_recv hK hP (hLK _ ha0 (by decide)) (ci := 7) rfl oY82, fun U hU hW => ⟨rfl, s_pw hU hW hP hK hD hN⟩⟩ rfl rfl hl.1 rfl (lv_room (Nat.le_of_ble_eq_true rfl)) dX7_opensBar_69 ⟨Nat.zero_le _, Nat.zero_le _⟩) hS (fun q _ h => h) (fun q h => h) (fun r88 F89 t H1 locs ht hvm hw hB hz1 hk1 hS => ?_)
          obtain ⟨hP, hK1⟩ := hB
          rw [ht] at hP
          generalize H1 = H at hP hS ⊢
          clear hz1 hk1 hvm hK1
          obtain ⟨h90, h92, hI, hfr1, hzf, h91⟩ := hw
          have o93 : F89 (A 13) = .inl (cs 0, 400, .inl f1) := (hfr1 _ (by rw [(y_k13 hA)]; decide)).trans o80
          have o94 : F89 (A 20) = .inl (cs 0, 918, .inl f71) := (hfr1 _ (by rw [(y_k20 hA)]; decide)).trans o81
          have oY95 : F89 a0 = .inr (7, y_fl A z0 q0) := (hfr1 _ (by rw [ha0]; decide)).trans oY82
          have hfr : ∀ b, K b ∉ [70] → F89 b = F b := fun b hb9 => (hfr1 b (fun q => hb9 (s_sub (by decide) q))).trans (hfr b hb9)
          replace h91 : (r88 = y_c f71 (104 + 6 * w62.toInt + 4)) := by have q9 := h91; rw [y_atE o81] at q9; exact q9
          have h91 : r88 = y_c f71 (108 + 6 * w62.toInt) := h91.trans (congrArg (y_c f71) (by omega))
          have h96 := congrArg Int32.toInt h91
          refine lv_istore_n (lv' := [(2, .int r88), (0, .ref a0), (1, .int w62)]) hx hb dX7_opensBar_72 rfl hl (by decide) rfl (fun ls hl => ?_)
          refine lv_aload_n hx hb dX7_opensBar_73 rfl (lv_at hl 1 rfl) ?_
          refine th_get (D := (dC, dI)) (ci := 7) (v := .ref (A 20)) (C := RX7) (T := TX7) (N := 34) hx hb hts inX7 hown hK hP (hLK _ ha0 (by decide)) oY95 rfl 20 (by decide) (hts _ T_251) (fun _ h9 => h9) rfl dX7_opensBar_74 ?_
          refine lv_iload_n hx hb dX7_opensBar_77 rfl (lv_at hl 2 rfl) ?_
          refine lv_iconst (v := 4) hx hb dX7_opensBar_78 (by decide) ?_
          refine va_calli (va_runS (As := [.int w62, .int 4]) (rest := [.ref (A 20)]) ⟨hx, hb, hml, hown, hts⟩ (y_X7_warpAt l dC dI H.size F89 w62 4 rg86 (by decide)) (cwS 2 hts (ax_gS T_1021 T_1023 T_265 T_1022) rfl rfl rfl (by decide +kernel) ⟨Nat.le_of_ble_eq_true rfl, Nat.le_of_ble_eq_true rfl⟩) ⟨fun a U g mk q => ⟨q.1, s_pc (U := U) rfl rfl q.2⟩, fun U hU hW => ⟨rfl, s_pw hU hW hP hK hD hN⟩⟩ rfl rfl hl.1 rfl (lv_room (Nat.le_of_ble_eq_true rfl)) dX7_opensBar_79 ⟨Nat.zero_le _, Nat.zero_le _⟩) hS (fun q _ h => h) (fun q h => h) (fun r98 F99 t H1 locs ht hvm hw hB hz1 hk1 hS => ?_)
          obtain ⟨hP, hK1⟩ := hB
          rw [ht] at hP
          generalize H1 = H at hP hS ⊢
          clear hz1 hk1 hvm hK1
          obtain ⟨h100, h102, hG9, h101⟩ := hw
          rw [hG9] at hP
          replace h101 : (r98.toInt = 104 + 6 * w62.toInt + 4) := by have q9 := h101; exact q9
          refine lv_iconst (v := 0) hx hb dX7_opensBar_82 (by decide) ?_
          refine th_iast hx hb hK hP hD hS (hLK _ (y_k20 hA) (by decide)) 0 o94 rfl (th_in ⟨by omega, by omega⟩) dX7_opensBar_83 (fun H locs hP hS => ?_)
          obtain ⟨f103, u104⟩ : ∃ g : Nat → Int32, g = upd f71 (r98 : Int32).toNatClampNeg 0 := ⟨_, rfl⟩
          rw [← u104] at hP
          have b105 : y_bd 20 f103 := trivial
          have hP : va_P (dC, dI) vwCl (va_pl L (va_up F89 (A 20) (.inl (cs 0, 918, .inl f103)))) H := hP
          obtain ⟨F106, hF107⟩ : ∃ G : Nat → va_E, G = va_up F89 (A 20) (.inl (cs 0, 918, .inl f103)) := ⟨_, rfl⟩
          rw [← hF107] at hP
          have hI : y_I K cs A F106 := by rw [hF107]; exact y_clA (i := 20) hA hI (by decide) b105
          have hfr : ∀ b, K b ∉ [70] → F106 b = F b := by rw [hF107]; exact s_fr hfr (y_k20 hA) (by decide)
          have o108 : F106 (A 13) = .inl (cs 0, 400, .inl f1) := by rw [hF107]; exact th_ne (th_kd (y_k13 hA) (y_k20 hA) (by decide)) o93
          have oY109 : F106 a0 = .inr (7, y_fl A z0 q0) := by rw [hF107]; exact th_ne (th_kd ha0 (y_k20 hA) (by decide)) oY95
          have o110 : F106 (A 20) = .inl (cs 0, 918, .inl f103) := by rw [hF107]; exact th_up
          have u111 : ∀ j : Int, 0 ≤ j → y_c f103 j = if j = r98.toInt then 0 else y_c f71 j := by rw [u104]; exact y_cu rfl (by omega)
          have hNWw := h65.2.2.2.2 w62.toInt (by omega) (by omega)
          have hls : y_sub r88 (y_c f71 (107 + 6 * w62.toInt)) := by rw [h91]; exact hNWw.1.2.1
          obtain ⟨hNWz, hfwz⟩ := y_wait ⟨by omega, by omega⟩ u111 (by omega) (y_sub_0 _) hNWw
          have k112 := y_NGw ⟨by omega, by omega⟩ hfwz h65 hNWz (by omega)
          have k113x : y_c f103 3 = y_c f4 3 := by rw [u111 3 (by omega), if_neg (by omega)] <;> exact h66
          have k113y : y_c f103 4 = y_c f4 4 := by rw [u111 4 (by omega), if_neg (by omega)] <;> exact h67
          have hlz : y_sub r88 (y_c f103 (107 + 6 * w62.toInt)) := by rw [u111 _ (by omega), if_neg (by omega)]; exact hls
          refine lv_iload_n hx hb dX7_opensBar_84 rfl (lv_at hl 0 rfl) ?_
          refine lv_if_ne (tgt := 91) hx hb dX7_opensBar_85 (by decide) (fun c114 => ?_) (fun c114 => ?_)
          · have c114 := mt (ax_eq (n := 0) (by decide)).mpr c114
            have hlnz := y_nz32 c114
            refine lv_aload_n hx hb dX7_opensBar_91 rfl (lv_at hl 1 rfl) ?_
            refine th_get (D := (dC, dI)) (ci := 7) (v := .ref (A 20)) (C := RX7) (T := TX7) (N := 34) hx hb hts inX7 hown hK hP (hLK _ ha0 (by decide)) oY109 rfl 20 (by decide) (hts _ T_251) (fun _ h9 => h9) rfl dX7_opensBar_92 ?_
            refine lv_iconst (v := 3) hx hb dX7_opensBar_95 (by decide) ?_
            refine th_iald hx hb hK hP (hLK _ (y_k20 hA) (by decide)) 0 o110 rfl (ax_in (by decide)) dX7_opensBar_96 ?_
            refine lv_topi (fun v115 ev115 => ?_)
            have Ev115 : v115 = y_c f103 (3) := ev115.trans (y_ci (by decide))
            have tEv115 := congrArg Int32.toInt Ev115
            refine lv_if_ne (tgt := 127) hx hb dX7_opensBar_97 (by decide) (fun c116 => ?_) (fun c116 => ?_)
            · have c116 := mt (ax_eq (n := 0) (by decide)).mpr c116
              have hm9 := congrArg Int32.toInt k113x
              have hm8 : (y_c f103 3).toInt = 1 := by have q9 := hNG.1; omega
              refine lv_iconst (v := 0) hx hb dX7_opensBar_127 (by decide) ?_
              refine lv_istore_n (lv' := [(3, .int 0), (2, .int r88), (0, .ref a0), (1, .int w62)]) hx hb dX7_opensBar_128 rfl hl (by decide) rfl (fun ls hl => ?_)
              have h118 : (0 : Int32).toInt = 0 := by decide
              refine th_loop (fun n g H locs => ∃ (G : Nat → va_E) (ls : Array Slot) (w117 : Int32), g = F0 m 129 ls [] ∧ lv_has ls 4 [(0, .ref a0), (1, .int w62), (2, .int r88), (3, .int w117)] ∧ va_P (dC, dI) vwCl (va_pl L G) H ∧ va_S (fun q => q ∈ L) s.heap H locs ∧ y_I K cs A G ∧ (∀ b, K b ∉ [70] → G b = F b) ∧ (∀ k, k ∈ ([1, 2, 3, 4, 5, 6, 7, 8, 11, 15, 16, 19, 25, 26, 27, 31, 32] : List Nat) → y_fi G a0 k = z0 k) ∧ (0 ≤ w117.toInt ∧ w117.toInt ≤ 8) ∧ (0 ≤ w62.toInt ∧ w62.toInt ≤ 3) ∧ (y_NG f1 (y_at G (A 20))) ∧ (y_c (y_at G (A 20)) 3 = y_c f4 3) ∧ (y_c (y_at G (A 20)) 4 = y_c f4 4) ∧ (∀ i : Nat, w117.toInt ≤ (i : Int) → bt r88 i = true → bt (y_c (y_at G (A 20)) (107 + 6 * w62.toInt)) i = true) ∧ ((y_c (y_at G (A 20)) 3).toInt = 1) ∧ n = (9 - w117.toInt).toNat) _ ⟨F106, _, 0, rfl, lv_sub hl [2, 3, 1, 0] rfl, hP, hS, hI, hfr, (fun k hk => (y_fiZ oY109 (s_sub (by decide) hk)).trans (hz0 k hk)), (by decide), ⟨by omega, by omega⟩, (by rw [y_atE o110]; exact k112), (by rw [y_atE o110]; exact k113x), (by rw [y_atE o110]; exact k113y), (by rw [y_atE o110]; exact (fun i _ h9 => hlz i h9)), (by first | (rw [y_atE o110]; omega) | rw [y_atE o110]), rfl⟩ (fun n ih129 g H locs hq => ?_)
              obtain ⟨F126, ls, w117, rfl, hl, hP, hS, hI, hfr, hz0, h119, h120, h121, h122, h123, h124, h125, hn⟩ := hq
              have o127 : F126 (A 13) = .inl (cs 0, 400, .inl f1) := (hfr _ (by rw [(y_k13 hA)]; decide)).trans o2
              have oY128 : F126 a0 = .inr (7, y_fl A z0 q0) := (hfr _ (by rw [ha0]; decide)).trans oY0
              have hz0 : ∀ k, k ∈ ([1, 2, 3, 4, 5, 6, 7, 8, 11, 15, 16, 19, 25, 26, 27, 31, 32] : List Nat) → z0 k = z0 k := fun _ _ => rfl
              obtain ⟨f129, o130, b131⟩ := y_op20 hI
              replace h121 : (y_NG f1 f129) := by have q9 := h121; rw [y_atE o130] at q9; exact q9
              replace h122 : (y_c f129 3 = y_c f4 3) := by have q9 := h122; rw [y_atE o130] at q9; exact q9
              replace h123 : (y_c f129 4 = y_c f4 4) := by have q9 := h123; rw [y_atE o130] at q9; exact q9
              replace h124 : (∀ i : Nat, w117.toInt ≤ (i : Int) → bt r88 i = true → bt (y_c f129 (107 + 6 * w62.toInt)) i = true) := by have q9 := h124; rw [y_atE o130] at q9; exact q9
              replace h125 : ((y_c f129 3).toInt = 1) := by have q9 := h125; rw [y_atE o130] at q9; exact q9
              have hNWk := h121.2.2.2.2 w62.toInt (by omega) (by omega)
              have hn_131 := hn
              refine lv_iload_n hx hb dX7_opensBar_129 rfl (lv_at hl 3 rfl) ?_
              refine lv_bipush (v := 8) hx hb dX7_opensBar_130 (by decide) ?_
              refine lv_icmp_ge (tgt := 169) hx hb dX7_opensBar_132 (by decide) (fun c132 => ?_) (fun c132 => ?_)
              · have c132 := (ax_ge (n := 8) (by decide)).mp c132
                obtain ⟨v133, ev133⟩ : ∃ y : Int32, w62 + 1 = y := ⟨_, rfl⟩
                have qv133 : v133.toInt = w62.toInt + 1 := by rw [← ev133]; exact th_add rfl (by decide) ⟨by omega, by omega⟩
                refine lv_iinc (v := v133) (lv' := [(1, .int v133), (0, .ref a0), (2, .int r88), (3, .int w117)]) hx hb dX7_opensBar_169 hl (k := 1) rfl ev133 (by decide) rfl (fun ls hl => ?_)
                refine lv_goto (tgt := 58) hx hb dX7_opensBar_172 (by decide) ?_
                exact ih58 _ _ _ _ (by omega) ⟨F126, _, v133, rfl, lv_sub hl [1, 0] rfl, hP, hS, hI, hfr, (fun k hk => (y_fiZ oY128 (s_sub (by decide) hk)).trans (hz0 k hk)), ⟨by omega, by omega⟩, (by rw [y_atE o130]; exact h121), (by rw [y_atE o130]; exact h122), (by rw [y_atE o130]; exact h123), rfl⟩
              · have c132 := mt (ax_ge (n := 8) (by decide)).mpr c132
                refine lv_iload_n hx hb dX7_opensBar_135 rfl (lv_at hl 2 rfl) ?_
                refine lv_iload_n hx hb dX7_opensBar_136 rfl (lv_at hl 3 rfl) ?_
                have rg134 : 0 ≤ w117.toInt ∧ w117.toInt ≤ 31 := ⟨by omega, by omega⟩
                refine va_calli (va_runS (As := [.int r88, .int w117]) (rest := []) ⟨hx, hb, hml, hown, hts⟩ (y_X7_isOf l dC dI H.size F126 r88 w117 rg134) (cwS 2 hts (ax_gS T_1027 T_1029 T_265 T_1028) rfl rfl rfl (by decide +kernel) ⟨Nat.le_of_ble_eq_true rfl, Nat.le_of_ble_eq_true rfl⟩) ⟨fun a U g mk q => ⟨q.1, s_pc (U := U) rfl rfl q.2⟩, fun U hU hW => ⟨rfl, s_pw hU hW hP hK hD hN⟩⟩ rfl rfl hl.1 rfl (lv_room (Nat.le_of_ble_eq_true rfl)) dX7_opensBar_137 ⟨Nat.zero_le _, Nat.zero_le _⟩) hS (fun q _ h => h) (fun q h => h) (fun r136 F137 t H1 locs ht hvm hw hB hz1 hk1 hS => ?_)
                obtain ⟨hP, hK1⟩ := hB
                rw [ht] at hP
                generalize H1 = H at hP hS ⊢
                clear hz1 hk1 hvm hK1
                obtain ⟨h138, h140, hG9, h139⟩ := hw
                rw [hG9] at hP
                replace h139 : ((r136.toInt = 1 ∧ bt r88 w117.toInt.toNat = true) ∨ (r136.toInt = 0 ∧ bt r88 w117.toInt.toNat = false)) := by have q9 := h139; exact q9
                refine lv_if_eq (tgt := 163) hx hb dX7_opensBar_140 (by decide) (fun c141 => ?_) (fun c141 => ?_)
                · have c141 := (ax_eq (n := 0) (by decide)).mp c141
                  have hbk := y_bF h139 c141
                  obtain ⟨v142, ev142⟩ : ∃ y : Int32, w117 + 1 = y := ⟨_, rfl⟩
                  have qv142 : v142.toInt = w117.toInt + 1 := by rw [← ev142]; exact th_add rfl (by decide) ⟨by omega, by omega⟩
                  refine lv_iinc (v := v142) (lv' := [(3, .int v142), (0, .ref a0), (1, .int w62), (2, .int r88)]) hx hb dX7_opensBar_163 hl (k := 3) rfl ev142 (by decide) rfl (fun ls hl => ?_)
                  refine lv_goto (tgt := 129) hx hb dX7_opensBar_166 (by decide) ?_
                  exact ih129 _ _ _ _ (by omega) ⟨F126, _, v142, rfl, lv_sub hl [1, 2, 3, 0] rfl, hP, hS, hI, hfr, (fun k hk => (y_fiZ oY128 (s_sub (by decide) hk)).trans (hz0 k hk)), ⟨by omega, by omega⟩, ⟨by omega, by omega⟩, (by rw [y_atE o130]; exact h121), (by rw [y_atE o130]; exact h122), (by rw [y_atE o130]; exact h123), (by rw [y_atE o130]; exact (fun i h8 h9 => h124 i (by omega) h9)), (by first | (rw [y_atE o130]; omega) | rw [y_atE o130]), rfl⟩
                · have c141 := mt (ax_eq (n := 0) (by decide)).mpr c141
                  have hbk := y_bT h139 c141
                  have hlv := h124 w117.toInt.toNat (by omega) hbk
                  have hnk := hNWk.2.2 (by omega) w117.toInt (by omega) (by omega)
                  have hnl := hnk.2 hlv
                  refine lv_aload_n hx hb dX7_opensBar_143 rfl (lv_at hl 0 rfl) ?_
                  refine lv_iload_n hx hb dX7_opensBar_144 rfl (lv_at hl 1 rfl) ?_
                  refine lv_iconst (v := 1) hx hb dX7_opensBar_145 (by decide) ?_
                  refine lv_iload_n hx hb dX7_opensBar_146 rfl (lv_at hl 3 rfl) ?_
                  refine lv_ishl hx hb dX7_opensBar_147 ?_
                  refine lv_topi (fun v143 ev143 => ?_)
                  refine lv_aload_n hx hb dX7_opensBar_148 rfl (lv_at hl 0 rfl) ?_
                  refine th_get (D := (dC, dI)) (ci := 7) (v := .ref (A 20)) (C := RX7) (T := TX7) (N := 34) hx hb hts inX7 hown hK hP (hLK _ ha0 (by decide)) oY128 rfl 20 (by decide) (hts _ T_251) (fun _ h9 => h9) rfl dX7_opensBar_149 ?_
                  refine lv_iload_n hx hb dX7_opensBar_152 rfl (lv_at hl 1 rfl) ?_
                  refine lv_iload_n hx hb dX7_opensBar_153 rfl (lv_at hl 3 rfl) ?_
                  have rg144 : 0 ≤ w117.toInt ∧ w117.toInt ≤ 7 := ⟨by omega, by omega⟩
                  refine va_calli (va_runS (As := [.int w62, .int w117]) (rest := [.ref (A 20), .int v143, .int w62, .ref a0]) ⟨hx, hb, hml, hown, hts⟩ (y_X7_nextAt l dC dI H.size F126 w62 w117 rg86 rg144) (cwS 2 hts (ax_gS T_1024 T_1026 T_265 T_1025) rfl rfl rfl (by decide +kernel) ⟨Nat.le_of_ble_eq_true rfl, Nat.le_of_ble_eq_true rfl⟩) ⟨fun a U g mk q => ⟨q.1, s_pc (U := U) rfl rfl q.2⟩, fun U hU hW => ⟨rfl, s_pw hU hW hP hK hD hN⟩⟩ rfl rfl hl.1 rfl (lv_room (Nat.le_of_ble_eq_true rfl)) dX7_opensBar_154 ⟨Nat.zero_le _, Nat.zero_le _⟩) hS (fun q _ h => h) (fun q h => h) (fun r146 F147 t H1 locs ht hvm hw hB hz1 hk1 hS => ?_)
                  obtain ⟨hP, hK1⟩ := hB
                  rw [ht] at hP
                  generalize H1 = H at hP hS ⊢
                  clear hz1 hk1 hvm hK1
                  obtain ⟨h148, h150, hG9, h149⟩ := hw
                  rw [hG9] at hP
                  replace h149 : (r146.toInt = 256 + 8 * w62.toInt + w117.toInt) := by have q9 := h149; exact q9
                  refine th_iald hx hb hK hP (hLK _ (y_k20 hA) (by decide)) 0 o130 rfl (th_in ⟨by omega, by omega⟩) dX7_opensBar_157 ?_
                  refine lv_topi (fun v151 ev151 => ?_)
                  have Ev151 : v151 = y_c f129 (256 + 8 * w62.toInt + w117.toInt) := ev151.trans (y_ci (by omega))
                  have tEv151 := congrArg Int32.toInt Ev151
                  have h152 : 0 ≤ v151.toInt ∧ v151.toInt ≤ 39 := by have q9 := congrArg Int32.toInt (ev151.trans (y_ci (show _ = 256 + 8 * w62.toInt + w117.toInt by omega))); exact ⟨by omega, by omega⟩
                  refine lv_iconst (v := 1) hx hb dX7_opensBar_158 (by decide) ?_
                  refine lv_iadd hx hb dX7_opensBar_159 ?_
                  refine lv_topi (fun v153 ev153 => ?_)
                  have qv153 : v153.toInt = v151.toInt + 1 := by rw [ev153]; exact th_add rfl (by decide) ⟨by omega, by omega⟩
                  refine va_callv (va_runV (As := [.int w62, .int v143, .int v153]) (rest := []) ⟨hx, hb, hml, hown, hts⟩ (y_X7_nexts l dC dI H.size hLK A hA F126 a0 w62 v143 v153 ha0 rg86 hI (by rw [y_atE o127]; exact hPG.1) (by rw [y_atE o130]; exact hNWk.1) (by rw [y_atE o127, y_atE o130]; exact (hNWk.2.2 (by omega))) (by first | (rw [y_atE o130]; omega) | rw [y_atE o130]) (by rw [y_atE o127]; exact ⟨by omega, by omega⟩)) (cwV 3 hts (ax_gV T_1171 T_1173 T_1174 T_265 T_1172) rfl rfl rfl (by decide +kernel) ⟨Nat.le_of_ble_eq_true rfl, Nat.le_of_ble_eq_true rfl⟩) ⟨fun a U g mk q => ⟨q.1, s_pc (U := U) rfl rfl q.2⟩, s_recv hK hP (hLK _ ha0 (by decide)) (ci := 7) rfl oY128, fun U hU hW => ⟨rfl, s_pw hU hW hP hK hD hN⟩⟩ rfl rfl hl.1 rfl (lv_room (Nat.le_of_ble_eq_true rfl)) dX7_opensBar_160 ⟨Nat.zero_le _, Nat.zero_le _⟩) hS (fun q _ h => h) (fun q h => h) (fun F155 t H1 locs ht hvm hw hB hz1 hk1 hS => ?_)
                  obtain ⟨hP, hK1⟩ := hB
                  rw [ht] at hP
                  generalize H1 = H at hP hS ⊢
                  clear hz1 hk1 hvm hK1
                  obtain ⟨h156, h158, hI, hfr1, hzf, h157⟩ := hw
                  have o159 : F155 (A 13) = .inl (cs 0, 400, .inl f1) := (hfr1 _ (by rw [(y_k13 hA)]; decide)).trans o127
                  have oY160 : F155 a0 = .inr (7, y_fl A z0 q0) := (hfr1 _ (by rw [ha0]; decide)).trans oY128
                  have hfr : ∀ b, K b ∉ [70] → F155 b = F b := fun b hb9 => (hfr1 b (fun q => hb9 (s_sub (by decide) q))).trans (hfr b hb9)
                  obtain ⟨f161, o162, b163⟩ := y_op20 hI
                  replace h157 : (y_W0 f161 w62.toInt ∧ y_Wf (y_c f1 387).toInt f161 w62.toInt ∧ y_fw w62.toInt f129 f161 ∧ ∀ i, bt v143 i = false → bt (y_c f161 (107 + 6 * w62.toInt)) i = bt (y_c f129 (107 + 6 * w62.toInt)) i) := by have q9 := h157; rw [y_atE o162, y_atE o127, y_atE o130] at q9; exact q9
                  have hm7 := congrArg Int32.toInt (y_fw3 (by omega) h157.2.2.1)
                  have k164 := y_NGw ⟨by omega, by omega⟩ h157.2.2.1 h121 (y_NW1 (by omega) h157.1 h157.2.1) (by omega)
                  obtain ⟨v165, ev165⟩ : ∃ y : Int32, w117 + 1 = y := ⟨_, rfl⟩
                  have qv165 : v165.toInt = w117.toInt + 1 := by rw [← ev165]; exact th_add rfl (by decide) ⟨by omega, by omega⟩
                  refine lv_iinc (v := v165) (lv' := [(3, .int v165), (0, .ref a0), (1, .int w62), (2, .int r88)]) hx hb dX7_opensBar_163 hl (k := 3) rfl ev165 (by decide) rfl (fun ls hl => ?_)
                  refine lv_goto (tgt := 129) hx hb dX7_opensBar_166 (by decide) ?_
                  exact ih129 _ _ _ _ (by omega) ⟨F155, _, v165, rfl, lv_sub hl [1, 2, 3, 0] rfl, hP, hS, hI, hfr, (fun k hk => (y_fiZ oY160 (s_sub (by decide) hk)).trans (hz0 k hk)), ⟨by omega, by omega⟩, ⟨by omega, by omega⟩, (by rw [y_atE o162]; exact k164), (by rw [y_atE o162]; exact ((y_fw3 (by omega) h157.2.2.1).trans h122)), (by rw [y_atE o162]; exact ((h157.2.2.1 4 (by omega) (by omega) (by omega) (by omega)).trans h123)), (by rw [y_atE o162]; exact (fun i h8 h9 => by rw [h157.2.2.2 i (by rw [ev143, y_bit1 ⟨by omega, by omega⟩]; exact decide_eq_false (by omega))]; exact h124 i (by omega) h9)), (by first | (rw [y_atE o162]; omega) | rw [y_atE o162]), rfl⟩
            · have c116 := (ax_eq (n := 0) (by decide)).mp c116
              obtain ⟨hS1, hgn, ht8⟩ := y_waits hNWz (by omega) hlz hlnz
              have hn15 := hNWz.1.2.2.2
              refine lv_aload_n hx hb dX7_opensBar_100 rfl (lv_at hl 1 rfl) ?_
              refine th_get (D := (dC, dI)) (ci := 7) (v := .ref (A 20)) (C := RX7) (T := TX7) (N := 34) hx hb hts inX7 hown hK hP (hLK _ ha0 (by decide)) oY109 rfl 20 (by decide) (hts _ T_251) (fun _ h9 => h9) rfl dX7_opensBar_101 ?_
              refine lv_iload_n hx hb dX7_opensBar_104 rfl (lv_at hl 2 rfl) ?_
              refine lv_aload_n hx hb dX7_opensBar_105 rfl (lv_at hl 1 rfl) ?_
              refine lv_iload_n hx hb dX7_opensBar_106 rfl (lv_at hl 2 rfl) ?_
              refine va_calli (va_runV (As := [.int w62]) (rest := [.int w62, .ref (A 20)]) ⟨hx, hb, hml, hown, hts⟩ (y_X7_top l dC dI H.size hLK A hA F106 a0 w62 ha0 rg86 hI) (cwV 1 hts (ax_gV T_1074 T_1076 T_1077 T_265 T_1075) rfl rfl rfl (by decide +kernel) ⟨Nat.le_of_ble_eq_true rfl, Nat.le_of_ble_eq_true rfl⟩) ⟨fun a U g mk q => ⟨q.1, s_pc (U := U) rfl rfl q.2⟩, s_recv hK hP (hLK _ ha0 (by decide)) (ci := 7) rfl oY109, fun U hU hW => ⟨rfl, s_pw hU hW hP hK hD hN⟩⟩ rfl rfl hl.1 rfl (lv_room (Nat.le_of_ble_eq_true rfl)) dX7_opensBar_107 ⟨Nat.zero_le _, Nat.zero_le _⟩) hS (fun q _ h => h) (fun q h => h) (fun r167 F168 t H1 locs ht hvm hw hB hz1 hk1 hS => ?_)
              obtain ⟨hP, hK1⟩ := hB
              rw [ht] at hP
              generalize H1 = H at hP hS ⊢
              clear hz1 hk1 hvm hK1
              obtain ⟨h169, h171, hI, hfr1, hzf, h170⟩ := hw
              have o172 : F168 (A 13) = .inl (cs 0, 400, .inl f1) := (hfr1 _ (by rw [(y_k13 hA)]; decide)).trans o108
              have o173 : F168 (A 20) = .inl (cs 0, 918, .inl f103) := (hfr1 _ (by rw [(y_k20 hA)]; decide)).trans o110
              have oY174 : F168 a0 = .inr (7, y_fl A z0 q0) := (hfr1 _ (by rw [ha0]; decide)).trans oY109
              have hfr : ∀ b, K b ∉ [70] → F168 b = F b := fun b hb9 => (hfr1 b (fun q => hb9 (s_sub (by decide) q))).trans (hfr b hb9)
              replace h170 : (r167 = y_c f103 (109 + 6 * w62.toInt) - 1) := by have q9 := h170; rw [y_atE o110] at q9; exact q9
              have h175 := congrArg Int32.toInt h170
              have h176 : 0 ≤ r167.toInt ∧ r167.toInt ≤ 14 := by have q9 : r167.toInt = (y_c f103 (109 + 6 * w62.toInt)).toInt - 1 := (by rw [h170]; exact th_sub rfl (by decide) ⟨by omega, by omega⟩); exact ⟨by omega, by omega⟩
              have h177 : r167.toInt = (y_c f103 (109 + 6 * w62.toInt)).toInt - 1 := by rw [h170]; exact th_sub rfl (by decide) ⟨by omega, by omega⟩
              refine lv_iconst (v := 0) hx hb dX7_opensBar_110 (by decide) ?_
              have rg178 : 0 ≤ r167.toInt ∧ r167.toInt ≤ 15 := ⟨by omega, by omega⟩
              refine va_calli (va_runS (As := [.int w62, .int r167, .int 0]) (rest := [.ref (A 20)]) ⟨hx, hb, hml, hown, hts⟩ (y_X7_partAt l dC dI H.size F168 w62 r167 0 rg86 rg178 (by decide)) (cwS 3 hts (ax_gS T_1078 T_1080 T_265 T_1079) rfl rfl rfl (by decide +kernel) ⟨Nat.le_of_ble_eq_true rfl, Nat.le_of_ble_eq_true rfl⟩) ⟨fun a U g mk q => ⟨q.1, s_pc (U := U) rfl rfl q.2⟩, fun U hU hW => ⟨rfl, s_pw hU hW hP hK hD hN⟩⟩ rfl rfl hl.1 rfl (lv_room (Nat.le_of_ble_eq_true rfl)) dX7_opensBar_111 ⟨Nat.zero_le _, Nat.zero_le _⟩) hS (fun q _ h => h) (fun q h => h) (fun r180 F181 t H1 locs ht hvm hw hB hz1 hk1 hS => ?_)
              obtain ⟨hP, hK1⟩ := hB
              rw [ht] at hP
              generalize H1 = H at hP hS ⊢
              clear hz1 hk1 hvm hK1
              obtain ⟨h182, h184, hG9, h183⟩ := hw
              rw [hG9] at hP
              replace h183 : (r180.toInt = 288 + 48 * w62.toInt + 3 * r167.toInt + 0) := by have q9 := h183; exact q9
              refine lv_dup2_11 hx hb dX7_opensBar_114 rfl rfl ?_
              refine th_iald hx hb hK hP (hLK _ (y_k20 hA) (by decide)) 0 o173 rfl (th_in ⟨by omega, by omega⟩) dX7_opensBar_115 ?_
              refine lv_topi (fun v185 ev185 => ?_)
              have Ev185 : v185 = y_c f103 (285 + 48 * w62.toInt + 3 * (y_c f103 (109 + 6 * w62.toInt)).toInt) := ev185.trans (y_ci (by omega))
              have tEv185 := congrArg Int32.toInt Ev185
              have h186 : 0 ≤ v185.toInt ∧ v185.toInt ≤ 39 := by have q9 := congrArg Int32.toInt (ev185.trans (y_ci (show _ = 285 + 48 * w62.toInt + 3 * (y_c f103 (109 + 6 * w62.toInt)).toInt by omega))); exact ⟨by omega, by omega⟩
              refine lv_iconst (v := 1) hx hb dX7_opensBar_116 (by decide) ?_
              refine lv_iadd hx hb dX7_opensBar_117 ?_
              refine lv_topi (fun v187 ev187 => ?_)
              have qv187 : v187.toInt = v185.toInt + 1 := by rw [ev187]; exact th_add rfl (by decide) ⟨by omega, by omega⟩
              refine th_iast hx hb hK hP hD hS (hLK _ (y_k20 hA) (by decide)) 0 o173 rfl (th_in ⟨by omega, by omega⟩) dX7_opensBar_118 (fun H locs hP hS => ?_)
              obtain ⟨f188, u189⟩ : ∃ g : Nat → Int32, g = upd f103 (r180 : Int32).toNatClampNeg v187 := ⟨_, rfl⟩
              rw [← u189] at hP
              have b190 : y_bd 20 f188 := trivial
              have hP : va_P (dC, dI) vwCl (va_pl L (va_up F168 (A 20) (.inl (cs 0, 918, .inl f188)))) H := hP
              obtain ⟨F191, hF192⟩ : ∃ G : Nat → va_E, G = va_up F168 (A 20) (.inl (cs 0, 918, .inl f188)) := ⟨_, rfl⟩
              rw [← hF192] at hP
              have hI : y_I K cs A F191 := by rw [hF192]; exact y_clA (i := 20) hA hI (by decide) b190
              have hfr : ∀ b, K b ∉ [70] → F191 b = F b := by rw [hF192]; exact s_fr hfr (y_k20 hA) (by decide)
              have o193 : F191 (A 13) = .inl (cs 0, 400, .inl f1) := by rw [hF192]; exact th_ne (th_kd (y_k13 hA) (y_k20 hA) (by decide)) o172
              have oY194 : F191 a0 = .inr (7, y_fl A z0 q0) := by rw [hF192]; exact th_ne (th_kd ha0 (y_k20 hA) (by decide)) oY174
              have o195 : F191 (A 20) = .inl (cs 0, 918, .inl f188) := by rw [hF192]; exact th_up
              have u196 : ∀ j : Int, 0 ≤ j → y_c f188 j = if j = r180.toInt then v187 else y_c f103 j := by rw [u189]; exact y_cu rfl (by omega)
              obtain ⟨hta, htb⟩ := y_Ws_top ⟨by omega, by omega⟩ u196 (by omega) ⟨by omega, by omega⟩ hNWz.1 hgn hS1
              have hfu : y_fw w62.toInt f103 f188 := y_fw_u u196 (by omega)
              refine lv_aload_n hx hb dX7_opensBar_119 rfl (lv_at hl 1 rfl) ?_
              refine lv_iload_n hx hb dX7_opensBar_120 rfl (lv_at hl 2 rfl) ?_
              refine va_callv (va_runV (As := [.int w62]) (rest := []) ⟨hx, hb, hml, hown, hts⟩ (y_X7_clears l dC dI H.size hLK A hA F191 a0 w62 ha0 rg86 hI (by rw [y_atE o195]; exact hta) (by rw [y_atE o193, y_atE o195]; exact htb)) (cwV 1 hts (ax_gV T_1163 T_1165 T_1166 T_265 T_1164) rfl rfl rfl (by decide +kernel) ⟨Nat.le_of_ble_eq_true rfl, Nat.le_of_ble_eq_true rfl⟩) ⟨fun a U g mk q => ⟨q.1, s_pc (U := U) rfl rfl q.2⟩, s_recv hK hP (hLK _ ha0 (by decide)) (ci := 7) rfl oY194, fun U hU hW => ⟨rfl, s_pw hU hW hP hK hD hN⟩⟩ rfl rfl hl.1 rfl (lv_room (Nat.le_of_ble_eq_true rfl)) dX7_opensBar_121 ⟨Nat.zero_le _, Nat.zero_le _⟩) hS (fun q _ h => h) (fun q h => h) (fun F198 t H1 locs ht hvm hw hB hz1 hk1 hS => ?_)
              obtain ⟨hP, hK1⟩ := hB
              rw [ht] at hP
              generalize H1 = H at hP hS ⊢
              clear hz1 hk1 hvm hK1
              obtain ⟨h199, h201, hI, hfr1, hzf, h200⟩ := hw
              have o202 : F198 (A 13) = .inl (cs 0, 400, .inl f1) := (hfr1 _ (by rw [(y_k13 hA)]; decide)).trans o193
              have oY203 : F198 a0 = .inr (7, y_fl A z0 q0) := (hfr1 _ (by rw [ha0]; decide)).trans oY194
              have hfr : ∀ b, K b ∉ [70] → F198 b = F b := fun b hb9 => (hfr1 b (fun q => hb9 (s_sub (by decide) q))).trans (hfr b hb9)
              obtain ⟨f204, o205, b206⟩ := y_op20 hI
              replace h200 : (y_W0 f204 w62.toInt ∧ y_Ws (y_c f1 387).toInt f204 w62.toInt ∧ y_Wt (y_c f1 387).toInt f204 w62.toInt ∧ y_fw w62.toInt f188 f204) := by have q9 := h200; rw [y_atE o205, y_atE o193, y_atE o195] at q9; exact q9
              have hfa := y_fw_t hfu h200.2.2.2
              have hm7 := congrArg Int32.toInt (y_fw3 (by omega) hfa)
              have k207 := y_NGw ⟨by omega, by omega⟩ hfa k112 (y_NW0 (by omega) h200.1 h200.2.1 h200.2.2.1) (by omega)
              refine lv_goto (tgt := 169) hx hb dX7_opensBar_124 (by decide) ?_
              obtain ⟨v208, ev208⟩ : ∃ y : Int32, w62 + 1 = y := ⟨_, rfl⟩
              have qv208 : v208.toInt = w62.toInt + 1 := by rw [← ev208]; exact th_add rfl (by decide) ⟨by omega, by omega⟩
              refine lv_iinc (v := v208) (lv' := [(1, .int v208), (2, .int r88), (0, .ref a0)]) hx hb dX7_opensBar_169 hl (k := 2) rfl ev208 (by decide) rfl (fun ls hl => ?_)
              refine lv_goto (tgt := 58) hx hb dX7_opensBar_172 (by decide) ?_
              exact ih58 _ _ _ _ (by omega) ⟨F198, _, v208, rfl, lv_sub hl [2, 0] rfl, hP, hS, hI, hfr, (fun k hk => (y_fiZ oY203 (s_sub (by decide) hk)).trans (hz0 k hk)), ⟨by omega, by omega⟩, (by rw [y_atE o205]; exact k207), (by rw [y_atE o205]; exact ((y_fw3 (by omega) hfa).trans k113x)), (by rw [y_atE o205]; exact ((hfa 4 (by omega) (by omega) (by omega) (by omega)).trans k113y)), rfl⟩
          · have c114 := (ax_eq (n := 0) (by decide)).mp c114
            refine lv_goto (tgt := 169) hx hb dX7_opensBar_88 (by decide) ?_
            obtain ⟨v209, ev209⟩ : ∃ y : Int32, w62 + 1 = y := ⟨_, rfl⟩
            have qv209 : v209.toInt = w62.toInt + 1 := by rw [← ev209]; exact th_add rfl (by decide) ⟨by omega, by omega⟩
            refine lv_iinc (v := v209) (lv' := [(1, .int v209), (2, .int r88), (0, .ref a0)]) hx hb dX7_opensBar_169 hl (k := 2) rfl ev209 (by decide) rfl (fun ls hl => ?_)
            refine lv_goto (tgt := 58) hx hb dX7_opensBar_172 (by decide) ?_
            exact ih58 _ _ _ _ (by omega) ⟨F106, _, v209, rfl, lv_sub hl [2, 0] rfl, hP, hS, hI, hfr, (fun k hk => (y_fiZ oY109 (s_sub (by decide) hk)).trans (hz0 k hk)), ⟨by omega, by omega⟩, (by rw [y_atE o110]; exact k112), (by rw [y_atE o110]; exact k113x), (by rw [y_atE o110]; exact k113y), rfl⟩
      · have c61 := mt (ax_ge (n := 672) (by decide)).mpr c61
        refine lv_aload_n hx hb dX7_opensBar_43 rfl (lv_at hl 0 rfl) ?_
        refine th_get (D := (dC, dI)) (ci := 7) (v := .ref (A 20)) (C := RX7) (T := TX7) (N := 34) hx hb hts inX7 hown hK hP (hLK _ ha0 (by decide)) oY57 rfl 20 (by decide) (hts _ T_251) (fun _ h9 => h9) rfl dX7_opensBar_44 ?_
        refine lv_iload_n hx hb dX7_opensBar_47 rfl (lv_at hl 1 rfl) ?_
        refine lv_iconst (v := 0) hx hb dX7_opensBar_48 (by decide) ?_
        refine th_iast hx hb hK hP hD hS (hLK _ (y_k20 hA) (by decide)) 0 o59 rfl (th_in ⟨by omega, by omega⟩) dX7_opensBar_49 (fun H locs hP hS => ?_)
        obtain ⟨f210, u211⟩ : ∃ g : Nat → Int32, g = upd f58 (w49 : Int32).toNatClampNeg 0 := ⟨_, rfl⟩
        rw [← u211] at hP
        have b212 : y_bd 20 f210 := trivial
        have hP : va_P (dC, dI) vwCl (va_pl L (va_up F55 (A 20) (.inl (cs 0, 918, .inl f210)))) H := hP
        obtain ⟨F213, hF214⟩ : ∃ G : Nat → va_E, G = va_up F55 (A 20) (.inl (cs 0, 918, .inl f210)) := ⟨_, rfl⟩
        rw [← hF214] at hP
        have hI : y_I K cs A F213 := by rw [hF214]; exact y_clA (i := 20) hA hI (by decide) b212
        have hfr : ∀ b, K b ∉ [70] → F213 b = F b := by rw [hF214]; exact s_fr hfr (y_k20 hA) (by decide)
        have o215 : F213 (A 13) = .inl (cs 0, 400, .inl f1) := by rw [hF214]; exact th_ne (th_kd (y_k13 hA) (y_k20 hA) (by decide)) o56
        have oY216 : F213 a0 = .inr (7, y_fl A z0 q0) := by rw [hF214]; exact th_ne (th_kd ha0 (y_k20 hA) (by decide)) oY57
        have o217 : F213 (A 20) = .inl (cs 0, 918, .inl f210) := by rw [hF214]; exact th_up
        have u218 : ∀ j : Int, 0 ≤ j → y_c f210 j = if j = w49.toInt then 0 else y_c f58 j := by rw [u211]; exact y_cu rfl (by omega)
        have k219 : y_NG f1 f210 := y_NGe (y_E_u u218 (by omega)) h52 (by rw [u218 6 (by omega), if_neg (by omega)]; exact h52.2.2.1) (by rw [u218 7 (by omega), if_neg (by omega)]; exact h52.2.2.2.1) (by omega)
        have k220x : y_c f210 3 = y_c f4 3 := by rw [u218 3 (by omega), if_neg (by omega)] <;> exact h53
        have k220y : y_c f210 4 = y_c f4 4 := by rw [u218 4 (by omega), if_neg (by omega)] <;> exact h54
        obtain ⟨v221, ev221⟩ : ∃ y : Int32, w49 + 1 = y := ⟨_, rfl⟩
        have qv221 : v221.toInt = w49.toInt + 1 := by rw [← ev221]; exact th_add rfl (by decide) ⟨by omega, by omega⟩
        refine lv_iinc (v := v221) (lv' := [(1, .int v221), (0, .ref a0)]) hx hb dX7_opensBar_50 hl (k := 1) rfl ev221 (by decide) rfl (fun ls hl => ?_)
        refine lv_goto (tgt := 36) hx hb dX7_opensBar_53 (by decide) ?_
        exact ih36 _ _ _ _ (by omega) ⟨F213, _, v221, rfl, lv_sub hl [1, 0] rfl, hP, hS, hI, hfr, (fun k hk => (y_fiZ oY216 (s_sub (by decide) hk)).trans (hz0 k hk)), ⟨by omega, by omega⟩, (by rw [y_atE o217]; exact k219), (by rw [y_atE o217]; exact k220x), (by rw [y_atE o217]; exact k220y), rfl⟩
    · have c35 := mt Int32.toInt_inj.symm.mpr c35
      exact W.vret hx hb hr (fun t ht hW => ⟨⟨F28, rfl, ⟨trivial, trivial, hI, hfr, fun k hk => (y_fiZ oY34 (s_sub (by decide) hk)).trans ((hz0 k hk).trans (y_fiZ oY0 (s_sub (by decide) hk)).symm), (by rw [y_atE o2, y_atE o33, y_atE o5]; exact ⟨hNG, rfl, rfl⟩)⟩, by rw [ht]; exact hP, va_K.moved hW.alike hK⟩, hS.F ht⟩) hS.2.2 dX7_opensBar_21
