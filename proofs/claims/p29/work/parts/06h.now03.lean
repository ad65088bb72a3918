set_option maxHeartbeats 4000000 in
set_option maxRecDepth 100000 in
theorem y_X7_reads (l : Launch) (dC : Nat → ClassId) (dI : Nat → Nat → Nat) (sz : Nat) {L : List Nat} {K : Nat → Nat} {cs : Nat → ClassId} (hLK : ∀ a {k : Nat}, K a = k → k ≠ 0 → a ∈ L) (A : Nat → Nat) (hA : y_A K A) (F : Nat → va_E) (a0 : Nat) (x1 : Int32) (x2 : Int32) (x3 : Int32) (ha0 : K a0 = 9) (hx1 : 0 ≤ x1.toInt ∧ x1.toInt ≤ 3) (hx2 : 0 ≤ x2.toInt ∧ x2.toInt ≤ 39) (hI : y_I K cs A F) (hPG : y_PG (y_at F (A 13))) (hln : (x2.toInt < (y_c (y_at F (A 13)) 387).toInt)) : Met l yX7_reads (Cond.code yX7_reads cX7_reads 6 none :: T0) ({ frames := 3, cells := 0, slots := 0, locals := 64 }) (va_Pc [.ref a0, .int x1, .int x2, .int x3] (s_W dC dI sz L F [(cs 0, .int), (cs 1, .byte), (cs 2, .long), (cs 3, .object RX5), (cs 4, .object RX4), (cs 5, .array .int), (cs 6, .char), (cs 7, .boolean)])) (va_Qv (fun (G : Nat → va_E) => True ∧ True ∧ y_I K cs A G ∧ (∀ b, K b ∉ [71, 72] → G b = F b) ∧ (∀ k, k ∈ ([1, 2, 3, 4, 5, 6, 7, 8, 11, 15, 16, 19, 25, 26, 27, 31, 32] : List Nat) → y_fi G a0 k = y_fi F a0 k) ∧ True) (fun (G : Nat → va_E) (t : State) => va_P (dC, dI) vwCl (va_pl L G) t.heap ∧ va_K (dC, dI) vwCl [(cs 0, .int), (cs 1, .byte), (cs 2, .long), (cs 3, .object RX5), (cs 4, .object RX4), (cs 5, .array .int), (cs 6, .char), (cs 7, .boolean)] t) (fun q => q ∈ L)) 0 0 (fun q => q ∈ L) := by
  refine Met.ofW (cc := cX7_reads) (maxL := 6) (ret := none) (by decide) rfl ?_
  intro p e s m args below meth c s₁ B hml hv
  obtain ⟨rfl, hsz, hP, hK, hD, hN⟩ := hv
  have hx := B.exec
  have hb := B.bytes
  have hr := B.returns
  have hts : ∀ w ∈ T0, w.before _ s = true := fun w h => atoms_spec (ws := Cond.code yX7_reads cX7_reads 6 none :: T0) B.pre w (List.mem_cons_of_mem _ h)
  have hown : s.vm.findClass RX7 = some m.cls := findClass_of_methodNamed B.named
  have hlocks := B.notSynchronized
  have hS : va_S (fun q => q ∈ L) s.heap s.heap [] := va_S.rf
  have hfr : ∀ b, K b ∉ [71, 72] → F b = F b := fun _ _ => rfl
  have hl := lv_entry ([.ref a0, .int x1, .int x2, .int x3]) (n := 6) (Nat.le_of_ble_eq_true rfl)
  rw [lg_entry_eq]
  generalize (lg_sl ([.ref a0, .int x1, .int x2, .int x3]) ++ List.replicate (6 - (lg_sl ([.ref a0, .int x1, .int x2, .int x3])).length) Slot.unset).toArray = ls at hl ⊢
  have hl : lv_has ls 6 [(0, .ref a0), (1, .int x1), (2, .int x2), (3, .int x3)] := hl
  refine s_gen hP hS (fun H locs hP hS => ?_)
  obtain ⟨z0, q0, oY0, bz0, bq0⟩ := y_opY hI ha0
  have hz0 : ∀ k, k ∈ ([1, 2, 3, 4, 5, 6, 7, 8, 11, 15, 16, 19, 25, 26, 27, 31, 32] : List Nat) → z0 k = z0 k := fun _ _ => rfl
  obtain ⟨f1, o2, b3⟩ := y_op13 hI
  have hPG : y_PG f1 := by have q9 := hPG; rw [y_atE o2] at q9; exact q9
  have hln : (x2.toInt < (y_c f1 387).toInt) := by have q9 := hln; rw [y_atE o2] at q9; exact q9
  have hL := y_P0L hPG.1
  have hW := y_P0W hPG.1
  have hrg := hPG.1.1.1 x2.toInt (by omega) (by omega)
  unfold y_rg at hrg
  refine lv_aload_n hx hb dX7_reads_0 rfl (lv_at hl 0 rfl) ?_
  refine lv_iload_n hx hb dX7_reads_1 rfl (lv_at hl 2 rfl) ?_
  refine lv_iconst (v := 0) hx hb dX7_reads_2 (by decide) ?_
  refine va_calli (va_runV (As := [.int x2, .int 0]) (rest := []) ⟨hx, hb, hml, hown, hts⟩ (y_X7_of l dC dI H.size hLK A hA F a0 x2 0 ha0 (⟨by omega, by omega⟩) (by decide) hI) (cwV 2 hts (ax_gV T_1131 T_1133 T_1134 T_265 T_1132) rfl rfl rfl (by decide +kernel) ⟨Nat.le_of_ble_eq_true rfl, Nat.le_of_ble_eq_true rfl⟩) ⟨fun a U g mk q => ⟨q.1, s_pc rfl rfl q.2⟩, s_recv hK hP (hLK _ ha0 (by decide)) (ci := 7) rfl oY0, fun U hU hW => ⟨rfl, s_pw hU hW hP hK hD hN⟩⟩ rfl rfl hl.1 rfl (lv_room (Nat.le_of_ble_eq_true rfl)) dX7_reads_3 ⟨Nat.zero_le _, Nat.zero_le _⟩) hS (fun q _ h => h) (fun q h => h) (fun r5 F6 t H1 locs ht hvm hw hB hz1 hk1 hS => ?_)
  obtain ⟨hP, hK1⟩ := hB
  rw [ht] at hP
  generalize H1 = H at hP hS ⊢
  obtain ⟨h7, h9, hI, hfr1, hzf, h8⟩ := hw
  have o10 : F6 (A 13) = .inl (cs 0, 400, .inl f1) := (hfr1 _ (by rw [(y_k13 hA)]; decide)).trans o2
  have oY11 : F6 a0 = .inr (7, y_fl A z0 q0) := (hfr1 _ (by rw [ha0]; decide)).trans oY0
  have hfr : ∀ b, K b ∉ [71, 72] → F6 b = F b := fun b hb9 => (hfr1 b (fun q => hb9 (s_sub (by decide) q))).trans (hfr b hb9)
  have h8 : (r5 = y_c f1 (8 * x2.toInt + 0)) := by have q9 := h8; rw [y_atE o2] at q9; exact q9
  have h8 : r5 = y_c f1 (8 * x2.toInt) := h8.trans (congrArg (y_c f1) (by omega))
  have h12 := congrArg Int32.toInt h8
  have h13 : 0 ≤ r5.toInt ∧ r5.toInt ≤ 15 := by have q9 := congrArg Int32.toInt h8; exact ⟨by omega, by omega⟩
  refine lv_istore (lv' := [(4, .int r5), (0, .ref a0), (1, .int x1), (2, .int x2), (3, .int x3)]) hx hb dX7_reads_6 hl (by decide) rfl (fun ls hl => ?_)
  refine lv_iconst (v := 0) hx hb dX7_reads_8 (by decide) ?_
  refine lv_istore (lv' := [(5, .int 0), (4, .int r5), (0, .ref a0), (1, .int x1), (2, .int x2), (3, .int x3)]) hx hb dX7_reads_9 hl (by decide) rfl (fun ls hl => ?_)
  have h15 : (0 : Int32).toInt = 0 := by decide
  refine th_loop (fun n g H locs => ∃ (G : Nat → va_E) (ls : Array Slot) (w14 : Int32), g = F0 m 11 ls [] ∧ lv_has ls 6 [(0, .ref a0), (1, .int x1), (2, .int x2), (3, .int x3), (4, .int r5), (5, .int w14)] ∧ va_P (dC, dI) vwCl (va_pl L G) H ∧ va_S (fun q => q ∈ L) s.heap H locs ∧ y_I K cs A G ∧ (∀ b, K b ∉ [71, 72] → G b = F b) ∧ (∀ k, k ∈ ([1, 2, 3, 4, 5, 6, 7, 8, 11, 15, 16, 19, 25, 26, 27, 31, 32] : List Nat) → y_fi G a0 k = z0 k) ∧ (0 ≤ w14.toInt ∧ w14.toInt ≤ 8) ∧ (0 ≤ x1.toInt ∧ x1.toInt ≤ 3) ∧ (0 ≤ x2.toInt ∧ x2.toInt ≤ 39) ∧ (0 ≤ r5.toInt ∧ r5.toInt ≤ 15) ∧ (r5.toInt = (y_c f1 (8 * x2.toInt)).toInt) ∧ n = (9 - w14.toInt).toNat) _ ⟨F6, _, 0, rfl, lv_sub hl [2, 3, 4, 5, 1, 0] rfl, hP, hS, hI, hfr, (fun k hk => (y_fiZ oY11 (s_sub (by decide) hk)).trans (hz0 k hk)), (by decide), ⟨by omega, by omega⟩, ⟨by omega, by omega⟩, ⟨by omega, by omega⟩, (by omega), rfl⟩ (fun n ih11 g H locs hq => ?_)
  obtain ⟨F21, ls, w14, rfl, hl, hP, hS, hI, hfr, hz0, h16, h17, h18, h19, h20, hn⟩ := hq
  have o22 : F21 (A 13) = .inl (cs 0, 400, .inl f1) := (hfr _ (by rw [(y_k13 hA)]; decide)).trans o2
  have oY23 : F21 a0 = .inr (7, y_fl A z0 q0) := (hfr _ (by rw [ha0]; decide)).trans oY0
  have hz0 : ∀ k, k ∈ ([1, 2, 3, 4, 5, 6, 7, 8, 11, 15, 16, 19, 25, 26, 27, 31, 32] : List Nat) → z0 k = z0 k := fun _ _ => rfl
  have hn_23 := hn
  refine th_join (fun g H locs => ∃ (G : Nat → va_E) (ls : Array Slot), g = F0 m 111 ls [] ∧ lv_has ls 6 [(0, .ref a0), (1, .int x1), (2, .int x2), (3, .int x3), (4, .int r5), (5, .int w14)] ∧ va_P (dC, dI) vwCl (va_pl L G) H ∧ va_S (fun q => q ∈ L) s.heap H locs ∧ y_I K cs A G ∧ (∀ b, K b ∉ [71, 72] → G b = F b) ∧ (∀ k, k ∈ ([1, 2, 3, 4, 5, 6, 7, 8, 11, 15, 16, 19, 25, 26, 27, 31, 32] : List Nat) → y_fi G a0 k = z0 k) ∧ (0 ≤ x1.toInt ∧ x1.toInt ≤ 3) ∧ (0 ≤ x2.toInt ∧ x2.toInt ≤ 39) ∧ (0 ≤ r5.toInt ∧ r5.toInt ≤ 15) ∧ (0 ≤ w14.toInt ∧ w14.toInt ≤ 7) ∧ (r5.toInt = (y_c f1 (8 * x2.toInt)).toInt)) (fun K111 => ?_) ?_
  refine th_join (fun g H locs => ∃ (G : Nat → va_E) (ls : Array Slot) (w24 : Int32) (w25 : Int32), g = F0 m 110 ls [.int w24, .int w25, .ref (A 22)] ∧ lv_has ls 6 [(0, .ref a0), (1, .int x1), (2, .int x2), (3, .int x3), (4, .int r5), (5, .int w14)] ∧ va_P (dC, dI) vwCl (va_pl L G) H ∧ va_S (fun q => q ∈ L) s.heap H locs ∧ y_I K cs A G ∧ (∀ b, K b ∉ [71, 72] → G b = F b) ∧ (∀ k, k ∈ ([1, 2, 3, 4, 5, 6, 7, 8, 11, 15, 16, 19, 25, 26, 27, 31, 32] : List Nat) → y_fi G a0 k = z0 k) ∧ True ∧ (0 ≤ w25.toInt ∧ w25.toInt ≤ 7) ∧ (0 ≤ x1.toInt ∧ x1.toInt ≤ 3) ∧ (0 ≤ x2.toInt ∧ x2.toInt ≤ 39) ∧ (0 ≤ r5.toInt ∧ r5.toInt ≤ 15) ∧ (0 ≤ w14.toInt ∧ w14.toInt ≤ 7) ∧ (r5.toInt = (y_c f1 (8 * x2.toInt)).toInt)) (fun K110 => ?_) ?_
  refine th_join (fun g H locs => ∃ (G : Nat → va_E) (ls : Array Slot) (w26 : Int32) (w27 : Int32), g = F0 m 69 ls [.int w26, .int w27, .ref (A 21)] ∧ lv_has ls 6 [(0, .ref a0), (1, .int x1), (2, .int x2), (3, .int x3), (4, .int r5), (5, .int w14)] ∧ va_P (dC, dI) vwCl (va_pl L G) H ∧ va_S (fun q => q ∈ L) s.heap H locs ∧ y_I K cs A G ∧ (∀ b, K b ∉ [71, 72] → G b = F b) ∧ (∀ k, k ∈ ([1, 2, 3, 4, 5, 6, 7, 8, 11, 15, 16, 19, 25, 26, 27, 31, 32] : List Nat) → y_fi G a0 k = z0 k) ∧ True ∧ (0 ≤ w27.toInt ∧ w27.toInt ≤ 7) ∧ (0 ≤ x1.toInt ∧ x1.toInt ≤ 3) ∧ (0 ≤ x2.toInt ∧ x2.toInt ≤ 39) ∧ (0 ≤ r5.toInt ∧ r5.toInt ≤ 15) ∧ (0 ≤ w14.toInt ∧ w14.toInt ≤ 7) ∧ (r5.toInt = (y_c f1 (8 * x2.toInt)).toInt)) (fun K69 => ?_) ?_
  · refine lv_iload hx hb dX7_reads_11 (lv_at hl 5 rfl) ?_
    refine lv_bipush (v := 8) hx hb dX7_reads_13 (by decide) ?_
    refine lv_icmp_ge (tgt := 117) hx hb dX7_reads_15 (by decide) (fun c28 => ?_) (fun c28 => ?_)
    · have c28 := (ax_ge (n := 8) (by decide)).mp c28
      exact W.vret hx hb hr (fun t ht hW => ⟨⟨F21, rfl, ⟨trivial, trivial, hI, hfr, fun k hk => (y_fiZ oY23 (s_sub (by decide) hk)).trans ((hz0 k hk).trans (y_fiZ oY0 (s_sub (by decide) hk)).symm), trivial⟩, by rw [ht]; exact hP, va_K.moved hW.alike hK⟩, hS.F ht⟩) hS.2.2 dX7_reads_117
    · have c28 := mt (ax_ge (n := 8) (by decide)).mpr c28
      refine lv_iload_n hx hb dX7_reads_18 rfl (lv_at hl 3 rfl) ?_
      refine lv_iload hx hb dX7_reads_19 (lv_at hl 5 rfl) ?_
      refine va_calli (va_runS (As := [.int x3, .int w14]) (rest := []) ⟨hx, hb, hml, hown, hts⟩ (y_X7_isOf l dC dI H.size F21 x3 w14 (⟨by omega, by omega⟩)) (cwS 2 hts (ax_gS T_1027 T_1029 T_265 T_1028) rfl rfl rfl (by decide +kernel) ⟨Nat.le_of_ble_eq_true rfl, Nat.le_of_ble_eq_true rfl⟩) ⟨fun a U g mk q => ⟨q.1, s_pc rfl rfl q.2⟩, fun U hU hW => ⟨rfl, s_pw hU hW hP hK hD hN⟩⟩ rfl rfl hl.1 rfl (lv_room (Nat.le_of_ble_eq_true rfl)) dX7_reads_21 ⟨Nat.zero_le _, Nat.zero_le _⟩) hS (fun q _ h => h) (fun q h => h) (fun r30 F31 t H1 locs ht hvm hw hB hz1 hk1 hS => ?_)
      obtain ⟨hP, hK1⟩ := hB
      rw [ht] at hP
      generalize H1 = H at hP hS ⊢
      obtain ⟨h32, h34, hG9, h33⟩ := hw
      rw [hG9] at hP
      have h33 : ((r30.toInt = 1 ∧ bt x3 w14.toInt.toNat = true) ∨ (r30.toInt = 0 ∧ bt x3 w14.toInt.toNat = false)) := by have q9 := h33; exact q9
      refine lv_if_ne (tgt := 30) hx hb dX7_reads_24 (by decide) (fun c35 => ?_) (fun c35 => ?_)
      · have c35 := mt (ax_eq (n := 0) (by decide)).mpr c35
        refine lv_aload_n hx hb dX7_reads_30 rfl (lv_at hl 0 rfl) ?_
        refine th_get (D := (dC, dI)) (ci := 7) (v := .ref (A 21)) (C := RX7) (T := TX7) (N := 34) hx hb hts inX7 hown hK hP (hLK _ ha0 (by decide)) oY23 rfl 21 (by decide) (hts _ T_252) (fun _ h9 => h9) rfl dX7_reads_31 ?_
        refine lv_iload hx hb dX7_reads_34 (lv_at hl 5 rfl) ?_
        refine lv_iload hx hb dX7_reads_36 (lv_at hl 4 rfl) ?_
        refine va_calli (va_runS (As := [.int r5]) (rest := [.int w14, .ref (A 21)]) ⟨hx, hb, hml, hown, hts⟩ (y_X7_hasFirst l dC dI H.size F21 r5 (⟨by omega, by omega⟩)) (cwS 1 hts (ax_gS T_1298 T_1300 T_265 T_1299) rfl rfl rfl (by decide +kernel) ⟨Nat.le_of_ble_eq_true rfl, Nat.le_of_ble_eq_true rfl⟩) ⟨fun a U g mk q => ⟨q.1, s_pc rfl rfl q.2⟩, fun U hU hW => ⟨rfl, s_pw hU hW hP hK hD hN⟩⟩ rfl rfl hl.1 rfl (lv_room (Nat.le_of_ble_eq_true rfl)) dX7_reads_38 ⟨Nat.zero_le _, Nat.zero_le _⟩) hS (fun q _ h => h) (fun q h => h) (fun r37 F38 t H1 locs ht hvm hw hB hz1 hk1 hS => ?_)
        obtain ⟨hP, hK1⟩ := hB
        rw [ht] at hP
        generalize H1 = H at hP hS ⊢
        obtain ⟨h39, h41, hG9, h40⟩ := hw
        rw [hG9] at hP
        have h40 : ((r37.toInt = 1 ∧ ¬ (r5.toInt = 5 ∨ r5.toInt = 6 ∨ 12 ≤ r5.toInt)) ∨ (r37.toInt = 0 ∧ (r5.toInt = 5 ∨ r5.toInt = 6 ∨ 12 ≤ r5.toInt))) := by have q9 := h40; exact q9
        refine lv_if_ne (tgt := 52) hx hb dX7_reads_41 (by decide) (fun c42 => ?_) (fun c42 => ?_)
        · have c42 := mt (ax_eq (n := 0) (by decide)).mpr c42
          refine lv_aload_n hx hb dX7_reads_52 rfl (lv_at hl 0 rfl) ?_
          refine lv_iload_n hx hb dX7_reads_53 rfl (lv_at hl 1 rfl) ?_
          refine lv_iload hx hb dX7_reads_54 (lv_at hl 5 rfl) ?_
          refine lv_aload_n hx hb dX7_reads_56 rfl (lv_at hl 0 rfl) ?_
          refine lv_iload_n hx hb dX7_reads_57 rfl (lv_at hl 2 rfl) ?_
          refine lv_iconst (v := 2) hx hb dX7_reads_58 (by decide) ?_
          refine va_calli (va_runV (As := [.int x2, .int 2]) (rest := [.int w14, .int x1, .ref a0, .int w14, .ref (A 21)]) ⟨hx, hb, hml, hown, hts⟩ (y_X7_of l dC dI H.size hLK A hA F21 a0 x2 2 ha0 (⟨by omega, by omega⟩) (by decide) hI) (cwV 2 hts (ax_gV T_1131 T_1133 T_1134 T_265 T_1132) rfl rfl rfl (by decide +kernel) ⟨Nat.le_of_ble_eq_true rfl, Nat.le_of_ble_eq_true rfl⟩) ⟨fun a U g mk q => ⟨q.1, s_pc rfl rfl q.2⟩, s_recv hK hP (hLK _ ha0 (by decide)) (ci := 7) rfl oY23, fun U hU hW => ⟨rfl, s_pw hU hW hP hK hD hN⟩⟩ rfl rfl hl.1 rfl (lv_room (Nat.le_of_ble_eq_true rfl)) dX7_reads_59 ⟨Nat.zero_le _, Nat.zero_le _⟩) hS (fun q _ h => h) (fun q h => h) (fun r44 F45 t H1 locs ht hvm hw hB hz1 hk1 hS => ?_)
          obtain ⟨hP, hK1⟩ := hB
          rw [ht] at hP
          generalize H1 = H at hP hS ⊢
          obtain ⟨h46, h48, hI, hfr1, hzf, h47⟩ := hw
          have o49 : F45 (A 13) = .inl (cs 0, 400, .inl f1) := (hfr1 _ (by rw [(y_k13 hA)]; decide)).trans o22
          have oY50 : F45 a0 = .inr (7, y_fl A z0 q0) := (hfr1 _ (by rw [ha0]; decide)).trans oY23
          have hfr : ∀ b, K b ∉ [71, 72] → F45 b = F b := fun b hb9 => (hfr1 b (fun q => hb9 (s_sub (by decide) q))).trans (hfr b hb9)
          have h47 : (r44 = y_c f1 (8 * x2.toInt + 2)) := by have q9 := h47; rw [y_atE o22] at q9; exact q9
          have h47 : r44 = y_c f1 (8 * x2.toInt + 2) := h47.trans (congrArg (y_c f1) (by omega))
          have h51 := congrArg Int32.toInt h47
          refine va_calli (va_runV (As := [.int x1, .int w14, .int r44]) (rest := [.int w14, .ref (A 21)]) ⟨hx, hb, hml, hown, hts⟩ (y_X7_partOf l dC dI H.size hLK A hA F45 a0 x1 w14 r44 ha0 (⟨by omega, by omega⟩) (⟨by omega, by omega⟩) hI (by omega)) (cwV 3 hts (ax_gV T_1301 T_1303 T_1304 T_265 T_1302) rfl rfl rfl (by decide +kernel) ⟨Nat.le_of_ble_eq_true rfl, Nat.le_of_ble_eq_true rfl⟩) ⟨fun a U g mk q => ⟨q.1, s_pc rfl rfl q.2⟩, s_recv hK hP (hLK _ ha0 (by decide)) (ci := 7) rfl oY50, fun U hU hW => ⟨rfl, s_pw hU hW hP hK hD hN⟩⟩ rfl rfl hl.1 rfl (lv_room (Nat.le_of_ble_eq_true rfl)) dX7_reads_62 ⟨Nat.zero_le _, Nat.zero_le _⟩) hS (fun q _ h => h) (fun q h => h) (fun r53 F54 t H1 locs ht hvm hw hB hz1 hk1 hS => ?_)
          obtain ⟨hP, hK1⟩ := hB
          rw [ht] at hP
          generalize H1 = H at hP hS ⊢
          obtain ⟨h55, h57, hI, hfr1, hzf, h56⟩ := hw
          have o58 : F54 (A 13) = .inl (cs 0, 400, .inl f1) := (hfr1 _ (by rw [(y_k13 hA)]; decide)).trans o49
          have oY59 : F54 a0 = .inr (7, y_fl A z0 q0) := (hfr1 _ (by rw [ha0]; decide)).trans oY50
          have hfr : ∀ b, K b ∉ [71, 72] → F54 b = F b := fun b hb9 => (hfr1 b (fun q => hb9 (s_sub (by decide) q))).trans (hfr b hb9)
          refine lv_goto (tgt := 69) hx hb dX7_reads_65 (by decide) ?_
          exact K69 _ _ _ ⟨F54, _, r53, w14, rfl, lv_sub hl [0, 1, 2, 3, 4, 5] rfl, hP, hS, hI, hfr, (fun k hk => (y_fiZ oY59 (s_sub (by decide) hk)).trans (hz0 k hk)), trivial, ⟨by omega, by omega⟩, ⟨by omega, by omega⟩, ⟨by omega, by omega⟩, ⟨by omega, by omega⟩, ⟨by omega, by omega⟩, (by omega)⟩
        · have c42 := (ax_eq (n := 0) (by decide)).mp c42
          refine lv_aload_n hx hb dX7_reads_44 rfl (lv_at hl 0 rfl) ?_
          refine lv_iload_n hx hb dX7_reads_45 rfl (lv_at hl 2 rfl) ?_
          refine va_calli (va_runV (As := [.int x2]) (rest := [.int w14, .ref (A 21)]) ⟨hx, hb, hml, hown, hts⟩ (y_X7_isFork l dC dI H.size hLK A hA F21 a0 x2 ha0 (⟨by omega, by omega⟩) hI) (cwV 1 hts (ax_gV T_1179 T_1181 T_1182 T_265 T_1180) rfl rfl rfl (by decide +kernel) ⟨Nat.le_of_ble_eq_true rfl, Nat.le_of_ble_eq_true rfl⟩) ⟨fun a U g mk q => ⟨q.1, s_pc rfl rfl q.2⟩, s_recv hK hP (hLK _ ha0 (by decide)) (ci := 7) rfl oY23, fun U hU hW => ⟨rfl, s_pw hU hW hP hK hD hN⟩⟩ rfl rfl hl.1 rfl (lv_room (Nat.le_of_ble_eq_true rfl)) dX7_reads_46 ⟨Nat.zero_le _, Nat.zero_le _⟩) hS (fun q _ h => h) (fun q h => h) (fun r61 F62 t H1 locs ht hvm hw hB hz1 hk1 hS => ?_)
          obtain ⟨hP, hK1⟩ := hB
          rw [ht] at hP
          generalize H1 = H at hP hS ⊢
          obtain ⟨h63, h65, hI, hfr1, hzf, h64⟩ := hw
          have o66 : F62 (A 13) = .inl (cs 0, 400, .inl f1) := (hfr1 _ (by rw [(y_k13 hA)]; decide)).trans o22
          have oY67 : F62 a0 = .inr (7, y_fl A z0 q0) := (hfr1 _ (by rw [ha0]; decide)).trans oY23
          have hfr : ∀ b, K b ∉ [71, 72] → F62 b = F b := fun b hb9 => (hfr1 b (fun q => hb9 (s_sub (by decide) q))).trans (hfr b hb9)
          have h64 : ((r61.toInt = 1 ∧ (y_c f1 (8 * x2.toInt)).toInt = 12 ∧ ¬ (y_c f1 (8 * x2.toInt + 5)).toInt = -1000000) ∨ (r61.toInt = 0 ∧ (¬ (y_c f1 (8 * x2.toInt)).toInt = 12 ∨ (y_c f1 (8 * x2.toInt + 5)).toInt = -1000000))) := by have q9 := h64; rw [y_atE o22] at q9; exact q9
          refine lv_if_eq (tgt := 68) hx hb dX7_reads_49 (by decide) (fun c68 => ?_) (fun c68 => ?_)
          · have c68 := (ax_eq (n := 0) (by decide)).mp c68
            refine lv_iconst (v := 0) hx hb dX7_reads_68 (by decide) ?_
            have h69 : (0 : Int32).toInt = 0 := by decide
            exact K69 _ _ _ ⟨F62, _, 0, w14, rfl, lv_sub hl [0, 1, 2, 3, 4, 5] rfl, hP, hS, hI, hfr, (fun k hk => (y_fiZ oY67 (s_sub (by decide) hk)).trans (hz0 k hk)), trivial, ⟨by omega, by omega⟩, ⟨by omega, by omega⟩, ⟨by omega, by omega⟩, ⟨by omega, by omega⟩, ⟨by omega, by omega⟩, (by omega)⟩
          · have c68 := mt (ax_eq (n := 0) (by decide)).mpr c68
            refine lv_aload_n hx hb dX7_reads_52 rfl (lv_at hl 0 rfl) ?_
            refine lv_iload_n hx hb dX7_reads_53 rfl (lv_at hl 1 rfl) ?_
            refine lv_iload hx hb dX7_reads_54 (lv_at hl 5 rfl) ?_
            refine lv_aload_n hx hb dX7_reads_56 rfl (lv_at hl 0 rfl) ?_
            refine lv_iload_n hx hb dX7_reads_57 rfl (lv_at hl 2 rfl) ?_
            refine lv_iconst (v := 2) hx hb dX7_reads_58 (by decide) ?_
            refine va_calli (va_runV (As := [.int x2, .int 2]) (rest := [.int w14, .int x1, .ref a0, .int w14, .ref (A 21)]) ⟨hx, hb, hml, hown, hts⟩ (y_X7_of l dC dI H.size hLK A hA F62 a0 x2 2 ha0 (⟨by omega, by omega⟩) (by decide) hI) (cwV 2 hts (ax_gV T_1131 T_1133 T_1134 T_265 T_1132) rfl rfl rfl (by decide +kernel) ⟨Nat.le_of_ble_eq_true rfl, Nat.le_of_ble_eq_true rfl⟩) ⟨fun a U g mk q => ⟨q.1, s_pc rfl rfl q.2⟩, s_recv hK hP (hLK _ ha0 (by decide)) (ci := 7) rfl oY67, fun U hU hW => ⟨rfl, s_pw hU hW hP hK hD hN⟩⟩ rfl rfl hl.1 rfl (lv_room (Nat.le_of_ble_eq_true rfl)) dX7_reads_59 ⟨Nat.zero_le _, Nat.zero_le _⟩) hS (fun q _ h => h) (fun q h => h) (fun r71 F72 t H1 locs ht hvm hw hB hz1 hk1 hS => ?_)
            obtain ⟨hP, hK1⟩ := hB
            rw [ht] at hP
            generalize H1 = H at hP hS ⊢
            obtain ⟨h73, h75, hI, hfr1, hzf, h74⟩ := hw
            have o76 : F72 (A 13) = .inl (cs 0, 400, .inl f1) := (hfr1 _ (by rw [(y_k13 hA)]; decide)).trans o66
            have oY77 : F72 a0 = .inr (7, y_fl A z0 q0) := (hfr1 _ (by rw [ha0]; decide)).trans oY67
            have hfr : ∀ b, K b ∉ [71, 72] → F72 b = F b := fun b hb9 => (hfr1 b (fun q => hb9 (s_sub (by decide) q))).trans (hfr b hb9)
            have h74 : (r71 = y_c f1 (8 * x2.toInt + 2)) := by have q9 := h74; rw [y_atE o66] at q9; exact q9
            have h74 : r71 = y_c f1 (8 * x2.toInt + 2) := h74.trans (congrArg (y_c f1) (by omega))
            have h78 := congrArg Int32.toInt h74
            refine va_calli (va_runV (As := [.int x1, .int w14, .int r71]) (rest := [.int w14, .ref (A 21)]) ⟨hx, hb, hml, hown, hts⟩ (y_X7_partOf l dC dI H.size hLK A hA F72 a0 x1 w14 r71 ha0 (⟨by omega, by omega⟩) (⟨by omega, by omega⟩) hI (by omega)) (cwV 3 hts (ax_gV T_1301 T_1303 T_1304 T_265 T_1302) rfl rfl rfl (by decide +kernel) ⟨Nat.le_of_ble_eq_true rfl, Nat.le_of_ble_eq_true rfl⟩) ⟨fun a U g mk q => ⟨q.1, s_pc rfl rfl q.2⟩, s_recv hK hP (hLK _ ha0 (by decide)) (ci := 7) rfl oY77, fun U hU hW => ⟨rfl, s_pw hU hW hP hK hD hN⟩⟩ rfl rfl hl.1 rfl (lv_room (Nat.le_of_ble_eq_true rfl)) dX7_reads_62 ⟨Nat.zero_le _, Nat.zero_le _⟩) hS (fun q _ h => h) (fun q h => h) (fun r80 F81 t H1 locs ht hvm hw hB hz1 hk1 hS => ?_)
            obtain ⟨hP, hK1⟩ := hB
            rw [ht] at hP
            generalize H1 = H at hP hS ⊢
            obtain ⟨h82, h84, hI, hfr1, hzf, h83⟩ := hw
            have o85 : F81 (A 13) = .inl (cs 0, 400, .inl f1) := (hfr1 _ (by rw [(y_k13 hA)]; decide)).trans o76
            have oY86 : F81 a0 = .inr (7, y_fl A z0 q0) := (hfr1 _ (by rw [ha0]; decide)).trans oY77
            have hfr : ∀ b, K b ∉ [71, 72] → F81 b = F b := fun b hb9 => (hfr1 b (fun q => hb9 (s_sub (by decide) q))).trans (hfr b hb9)
            refine lv_goto (tgt := 69) hx hb dX7_reads_65 (by decide) ?_
            exact K69 _ _ _ ⟨F81, _, r80, w14, rfl, lv_sub hl [0, 1, 2, 3, 4, 5] rfl, hP, hS, hI, hfr, (fun k hk => (y_fiZ oY86 (s_sub (by decide) hk)).trans (hz0 k hk)), trivial, ⟨by omega, by omega⟩, ⟨by omega, by omega⟩, ⟨by omega, by omega⟩, ⟨by omega, by omega⟩, ⟨by omega, by omega⟩, (by omega)⟩
      · have c35 := (ax_eq (n := 0) (by decide)).mp c35
        refine lv_goto (tgt := 111) hx hb dX7_reads_27 (by decide) ?_
        exact K111 _ _ _ ⟨F21, _, rfl, lv_sub hl [0, 1, 2, 3, 4, 5] rfl, hP, hS, hI, hfr, (fun k hk => (y_fiZ oY23 (s_sub (by decide) hk)).trans (hz0 k hk)), ⟨by omega, by omega⟩, ⟨by omega, by omega⟩, ⟨by omega, by omega⟩, ⟨by omega, by omega⟩, (by omega)⟩
  · intro g H locs hq
    obtain ⟨F94, ls, w26, w27, rfl, hl, hP, hS, hI, hfr, hz0, h87, h88, h89, h90, h91, h92, h93⟩ := hq
    have o95 : F94 (A 13) = .inl (cs 0, 400, .inl f1) := (hfr _ (by rw [(y_k13 hA)]; decide)).trans o2
    have oY96 : F94 a0 = .inr (7, y_fl A z0 q0) := (hfr _ (by rw [ha0]; decide)).trans oY0
    have hz0 : ∀ k, k ∈ ([1, 2, 3, 4, 5, 6, 7, 8, 11, 15, 16, 19, 25, 26, 27, 31, 32] : List Nat) → z0 k = z0 k := fun _ _ => rfl
    obtain ⟨f97, o98, b99⟩ := y_op21 hI
    refine th_iast hx hb hK hP hD hS (hLK _ (y_k21 hA) (by decide)) 0 o98 rfl (th_in ⟨by omega, by omega⟩) dX7_reads_69 (fun H locs hP hS => ?_)
    obtain ⟨f100, u101⟩ : ∃ g : Nat → Int32, g = upd f97 (w27 : Int32).toNatClampNeg w26 := ⟨_, rfl⟩
    rw [← u101] at hP
    have b102 : y_bd 21 f100 := trivial
    have hP : va_P (dC, dI) vwCl (va_pl L (va_up F94 (A 21) (.inl (cs 0, 8, .inl f100)))) H := hP
    obtain ⟨F103, hF104⟩ : ∃ G : Nat → va_E, G = va_up F94 (A 21) (.inl (cs 0, 8, .inl f100)) := ⟨_, rfl⟩
    rw [← hF104] at hP
    have hI : y_I K cs A F103 := by rw [hF104]; exact y_clA (i := 21) hA hI (by decide) b102
    have hfr : ∀ b, K b ∉ [71, 72] → F103 b = F b := by rw [hF104]; exact s_fr hfr (y_k21 hA) (by decide)
    have o105 : F103 (A 13) = .inl (cs 0, 400, .inl f1) := by rw [hF104]; exact th_ne (th_kd (y_k13 hA) (y_k21 hA) (by decide)) o95
    have oY106 : F103 a0 = .inr (7, y_fl A z0 q0) := by rw [hF104]; exact th_ne (th_kd ha0 (y_k21 hA) (by decide)) oY96
    have o107 : F103 (A 21) = .inl (cs 0, 8, .inl f100) := by rw [hF104]; exact th_up
    have u108 : ∀ j : Int, 0 ≤ j → y_c f100 j = if j = w27.toInt then w26 else y_c f97 j := by rw [u101]; exact y_cu rfl (by omega)
    refine lv_aload_n hx hb dX7_reads_70 rfl (lv_at hl 0 rfl) ?_
    refine th_get (D := (dC, dI)) (ci := 7) (v := .ref (A 22)) (C := RX7) (T := TX7) (N := 34) hx hb hts inX7 hown hK hP (hLK _ ha0 (by decide)) oY106 rfl 22 (by decide) (hts _ T_253) (fun _ h9 => h9) rfl dX7_reads_71 ?_
    refine lv_iload hx hb dX7_reads_74 (lv_at hl 5 rfl) ?_
    refine lv_iload hx hb dX7_reads_76 (lv_at hl 4 rfl) ?_
    refine va_calli (va_runS (As := [.int r5]) (rest := [.int w14, .ref (A 22)]) ⟨hx, hb, hml, hown, hts⟩ (y_X7_partsOf l dC dI H.size F103 r5 (⟨by omega, by omega⟩)) (cwS 1 hts (ax_gS T_1197 T_1199 T_265 T_1198) rfl rfl rfl (by decide +kernel) ⟨Nat.le_of_ble_eq_true rfl, Nat.le_of_ble_eq_true rfl⟩) ⟨fun a U g mk q => ⟨q.1, s_pc rfl rfl q.2⟩, fun U hU hW => ⟨rfl, s_pw hU hW hP hK hD hN⟩⟩ rfl rfl hl.1 rfl (lv_room (Nat.le_of_ble_eq_true rfl)) dX7_reads_78 ⟨Nat.zero_le _, Nat.zero_le _⟩) hS (fun q _ h => h) (fun q h => h) (fun r110 F111 t H1 locs ht hvm hw hB hz1 hk1 hS => ?_)
    obtain ⟨hP, hK1⟩ := hB
    rw [ht] at hP
    generalize H1 = H at hP hS ⊢
    obtain ⟨h112, h114, hG9, h113⟩ := hw
    rw [hG9] at hP
    have h113 : ((r110.toInt = 0 ∧ (r5.toInt = 5 ∨ r5.toInt = 6 ∨ 12 ≤ r5.toInt)) ∨ (r110.toInt = 1 ∧ (r5.toInt = 0 ∨ r5.toInt = 7 ∨ r5.toInt = 9 ∨ r5.toInt = 11)) ∨ (r110.toInt = 2 ∧ ((1 ≤ r5.toInt ∧ r5.toInt ≤ 4) ∨ r5.toInt = 8 ∨ r5.toInt = 10))) := by have q9 := h113; exact q9
    refine lv_iconst (v := 2) hx hb dX7_reads_81 (by decide) ?_
    refine lv_icmp_eq (tgt := 93) hx hb dX7_reads_82 (by decide) (fun c115 => ?_) (fun c115 => ?_)
    · have c115 := (ax_eq (n := 2) (by decide)).mp c115
      refine lv_aload_n hx hb dX7_reads_93 rfl (lv_at hl 0 rfl) ?_
      refine lv_iload_n hx hb dX7_reads_94 rfl (lv_at hl 1 rfl) ?_
      refine lv_iload hx hb dX7_reads_95 (lv_at hl 5 rfl) ?_
      refine lv_aload_n hx hb dX7_reads_97 rfl (lv_at hl 0 rfl) ?_
      refine lv_iload_n hx hb dX7_reads_98 rfl (lv_at hl 2 rfl) ?_
      refine lv_iconst (v := 3) hx hb dX7_reads_99 (by decide) ?_
      refine va_calli (va_runV (As := [.int x2, .int 3]) (rest := [.int w14, .int x1, .ref a0, .int w14, .ref (A 22)]) ⟨hx, hb, hml, hown, hts⟩ (y_X7_of l dC dI H.size hLK A hA F103 a0 x2 3 ha0 (⟨by omega, by omega⟩) (by decide) hI) (cwV 2 hts (ax_gV T_1131 T_1133 T_1134 T_265 T_1132) rfl rfl rfl (by decide +kernel) ⟨Nat.le_of_ble_eq_true rfl, Nat.le_of_ble_eq_true rfl⟩) ⟨fun a U g mk q => ⟨q.1, s_pc rfl rfl q.2⟩, s_recv hK hP (hLK _ ha0 (by decide)) (ci := 7) rfl oY106, fun U hU hW => ⟨rfl, s_pw hU hW hP hK hD hN⟩⟩ rfl rfl hl.1 rfl (lv_room (Nat.le_of_ble_eq_true rfl)) dX7_reads_100 ⟨Nat.zero_le _, Nat.zero_le _⟩) hS (fun q _ h => h) (fun q h => h) (fun r117 F118 t H1 locs ht hvm hw hB hz1 hk1 hS => ?_)
      obtain ⟨hP, hK1⟩ := hB
      rw [ht] at hP
      generalize H1 = H at hP hS ⊢
      obtain ⟨h119, h121, hI, hfr1, hzf, h120⟩ := hw
      have o122 : F118 (A 13) = .inl (cs 0, 400, .inl f1) := (hfr1 _ (by rw [(y_k13 hA)]; decide)).trans o105
      have o123 : F118 (A 21) = .inl (cs 0, 8, .inl f100) := (hfr1 _ (by rw [(y_k21 hA)]; decide)).trans o107
      have oY124 : F118 a0 = .inr (7, y_fl A z0 q0) := (hfr1 _ (by rw [ha0]; decide)).trans oY106
      have hfr : ∀ b, K b ∉ [71, 72] → F118 b = F b := fun b hb9 => (hfr1 b (fun q => hb9 (s_sub (by decide) q))).trans (hfr b hb9)
      have h120 : (r117 = y_c f1 (8 * x2.toInt + 3)) := by have q9 := h120; rw [y_atE o105] at q9; exact q9
      have h120 : r117 = y_c f1 (8 * x2.toInt + 3) := h120.trans (congrArg (y_c f1) (by omega))
      have h125 := congrArg Int32.toInt h120
      refine va_calli (va_runV (As := [.int x1, .int w14, .int r117]) (rest := [.int w14, .ref (A 22)]) ⟨hx, hb, hml, hown, hts⟩ (y_X7_partOf l dC dI H.size hLK A hA F118 a0 x1 w14 r117 ha0 (⟨by omega, by omega⟩) (⟨by omega, by omega⟩) hI (by omega)) (cwV 3 hts (ax_gV T_1301 T_1303 T_1304 T_265 T_1302) rfl rfl rfl (by decide +kernel) ⟨Nat.le_of_ble_eq_true rfl, Nat.le_of_ble_eq_true rfl⟩) ⟨fun a U g mk q => ⟨q.1, s_pc rfl rfl q.2⟩, s_recv hK hP (hLK _ ha0 (by decide)) (ci := 7) rfl oY124, fun U hU hW => ⟨rfl, s_pw hU hW hP hK hD hN⟩⟩ rfl rfl hl.1 rfl (lv_room (Nat.le_of_ble_eq_true rfl)) dX7_reads_103 ⟨Nat.zero_le _, Nat.zero_le _⟩) hS (fun q _ h => h) (fun q h => h) (fun r127 F128 t H1 locs ht hvm hw hB hz1 hk1 hS => ?_)
      obtain ⟨hP, hK1⟩ := hB
      rw [ht] at hP
      generalize H1 = H at hP hS ⊢
      obtain ⟨h129, h131, hI, hfr1, hzf, h130⟩ := hw
      have o132 : F128 (A 13) = .inl (cs 0, 400, .inl f1) := (hfr1 _ (by rw [(y_k13 hA)]; decide)).trans o122
      have o133 : F128 (A 21) = .inl (cs 0, 8, .inl f100) := (hfr1 _ (by rw [(y_k21 hA)]; decide)).trans o123
      have oY134 : F128 a0 = .inr (7, y_fl A z0 q0) := (hfr1 _ (by rw [ha0]; decide)).trans oY124
      have hfr : ∀ b, K b ∉ [71, 72] → F128 b = F b := fun b hb9 => (hfr1 b (fun q => hb9 (s_sub (by decide) q))).trans (hfr b hb9)
      refine lv_goto (tgt := 110) hx hb dX7_reads_106 (by decide) ?_
      exact K110 _ _ _ ⟨F128, _, r127, w14, rfl, lv_sub hl [0, 1, 2, 3, 4, 5] rfl, hP, hS, hI, hfr, (fun k hk => (y_fiZ oY134 (s_sub (by decide) hk)).trans (hz0 k hk)), trivial, ⟨by omega, by omega⟩, ⟨by omega, by omega⟩, ⟨by omega, by omega⟩, ⟨by omega, by omega⟩, ⟨by omega, by omega⟩, (by omega)⟩
    · have c115 := mt (ax_eq (n := 2) (by decide)).mpr c115
      refine lv_aload_n hx hb dX7_reads_85 rfl (lv_at hl 0 rfl) ?_
      refine lv_iload_n hx hb dX7_reads_86 rfl (lv_at hl 2 rfl) ?_
      refine va_calli (va_runV (As := [.int x2]) (rest := [.int w14, .ref (A 22)]) ⟨hx, hb, hml, hown, hts⟩ (y_X7_isFork l dC dI H.size hLK A hA F103 a0 x2 ha0 (⟨by omega, by omega⟩) hI) (cwV 1 hts (ax_gV T_1179 T_1181 T_1182 T_265 T_1180) rfl rfl rfl (by decide +kernel) ⟨Nat.le_of_ble_eq_true rfl, Nat.le_of_ble_eq_true rfl⟩) ⟨fun a U g mk q => ⟨q.1, s_pc rfl rfl q.2⟩, s_recv hK hP (hLK _ ha0 (by decide)) (ci := 7) rfl oY106, fun U hU hW => ⟨rfl, s_pw hU hW hP hK hD hN⟩⟩ rfl rfl hl.1 rfl (lv_room (Nat.le_of_ble_eq_true rfl)) dX7_reads_87 ⟨Nat.zero_le _, Nat.zero_le _⟩) hS (fun q _ h => h) (fun q h => h) (fun r136 F137 t H1 locs ht hvm hw hB hz1 hk1 hS => ?_)
      obtain ⟨hP, hK1⟩ := hB
      rw [ht] at hP
      generalize H1 = H at hP hS ⊢
      obtain ⟨h138, h140, hI, hfr1, hzf, h139⟩ := hw
      have o141 : F137 (A 13) = .inl (cs 0, 400, .inl f1) := (hfr1 _ (by rw [(y_k13 hA)]; decide)).trans o105
      have o142 : F137 (A 21) = .inl (cs 0, 8, .inl f100) := (hfr1 _ (by rw [(y_k21 hA)]; decide)).trans o107
      have oY143 : F137 a0 = .inr (7, y_fl A z0 q0) := (hfr1 _ (by rw [ha0]; decide)).trans oY106
      have hfr : ∀ b, K b ∉ [71, 72] → F137 b = F b := fun b hb9 => (hfr1 b (fun q => hb9 (s_sub (by decide) q))).trans (hfr b hb9)
      have h139 : ((r136.toInt = 1 ∧ (y_c f1 (8 * x2.toInt)).toInt = 12 ∧ ¬ (y_c f1 (8 * x2.toInt + 5)).toInt = -1000000) ∨ (r136.toInt = 0 ∧ (¬ (y_c f1 (8 * x2.toInt)).toInt = 12 ∨ (y_c f1 (8 * x2.toInt + 5)).toInt = -1000000))) := by have q9 := h139; rw [y_atE o105] at q9; exact q9
      refine lv_if_eq (tgt := 109) hx hb dX7_reads_90 (by decide) (fun c144 => ?_) (fun c144 => ?_)
      · have c144 := (ax_eq (n := 0) (by decide)).mp c144
        refine lv_iconst (v := 0) hx hb dX7_reads_109 (by decide) ?_
        have h145 : (0 : Int32).toInt = 0 := by decide
        exact K110 _ _ _ ⟨F137, _, 0, w14, rfl, lv_sub hl [0, 1, 2, 3, 4, 5] rfl, hP, hS, hI, hfr, (fun k hk => (y_fiZ oY143 (s_sub (by decide) hk)).trans (hz0 k hk)), trivial, ⟨by omega, by omega⟩, ⟨by omega, by omega⟩, ⟨by omega, by omega⟩, ⟨by omega, by omega⟩, ⟨by omega, by omega⟩, (by omega)⟩
      · have c144 := mt (ax_eq (n := 0) (by decide)).mpr c144
        refine lv_aload_n hx hb dX7_reads_93 rfl (lv_at hl 0 rfl) ?_
        refine lv_iload_n hx hb dX7_reads_94 rfl (lv_at hl 1 rfl) ?_
        refine lv_iload hx hb dX7_reads_95 (lv_at hl 5 rfl) ?_
        refine lv_aload_n hx hb dX7_reads_97 rfl (lv_at hl 0 rfl) ?_
        refine lv_iload_n hx hb dX7_reads_98 rfl (lv_at hl 2 rfl) ?_
        refine lv_iconst (v := 3) hx hb dX7_reads_99 (by decide) ?_
        refine va_calli (va_runV (As := [.int x2, .int 3]) (rest := [.int w14, .int x1, .ref a0, .int w14, .ref (A 22)]) ⟨hx, hb, hml, hown, hts⟩ (y_X7_of l dC dI H.size hLK A hA F137 a0 x2 3 ha0 (⟨by omega, by omega⟩) (by decide) hI) (cwV 2 hts (ax_gV T_1131 T_1133 T_1134 T_265 T_1132) rfl rfl rfl (by decide +kernel) ⟨Nat.le_of_ble_eq_true rfl, Nat.le_of_ble_eq_true rfl⟩) ⟨fun a U g mk q => ⟨q.1, s_pc rfl rfl q.2⟩, s_recv hK hP (hLK _ ha0 (by decide)) (ci := 7) rfl oY143, fun U hU hW => ⟨rfl, s_pw hU hW hP hK hD hN⟩⟩ rfl rfl hl.1 rfl (lv_room (Nat.le_of_ble_eq_true rfl)) dX7_reads_100 ⟨Nat.zero_le _, Nat.zero_le _⟩) hS (fun q _ h => h) (fun q h => h) (fun r147 F148 t H1 locs ht hvm hw hB hz1 hk1 hS => ?_)
        obtain ⟨hP, hK1⟩ := hB
        rw [ht] at hP
        generalize H1 = H at hP hS ⊢
        obtain ⟨h149, h151, hI, hfr1, hzf, h150⟩ := hw
        have o152 : F148 (A 13) = .inl (cs 0, 400, .inl f1) := (hfr1 _ (by rw [(y_k13 hA)]; decide)).trans o141
        have o153 : F148 (A 21) = .inl (cs 0, 8, .inl f100) := (hfr1 _ (by rw [(y_k21 hA)]; decide)).trans o142
        have oY154 : F148 a0 = .inr (7, y_fl A z0 q0) := (hfr1 _ (by rw [ha0]; decide)).trans oY143
        have hfr : ∀ b, K b ∉ [71, 72] → F148 b = F b := fun b hb9 => (hfr1 b (fun q => hb9 (s_sub (by decide) q))).trans (hfr b hb9)
        have h150 : (r147 = y_c f1 (8 * x2.toInt + 3)) := by have q9 := h150; rw [y_atE o141] at q9; exact q9
        have h150 : r147 = y_c f1 (8 * x2.toInt + 3) := h150.trans (congrArg (y_c f1) (by omega))
        have h155 := congrArg Int32.toInt h150
        refine va_calli (va_runV (As := [.int x1, .int w14, .int r147]) (rest := [.int w14, .ref (A 22)]) ⟨hx, hb, hml, hown, hts⟩ (y_X7_partOf l dC dI H.size hLK A hA F148 a0 x1 w14 r147 ha0 (⟨by omega, by omega⟩) (⟨by omega, by omega⟩) hI (by omega)) (cwV 3 hts (ax_gV T_1301 T_1303 T_1304 T_265 T_1302) rfl rfl rfl (by decide +kernel) ⟨Nat.le_of_ble_eq_true rfl, Nat.le_of_ble_eq_true rfl⟩) ⟨fun a U g mk q => ⟨q.1, s_pc rfl rfl q.2⟩, s_recv hK hP (hLK _ ha0 (by decide)) (ci := 7) rfl oY154, fun U hU hW => ⟨rfl, s_pw hU hW hP hK hD hN⟩⟩ rfl rfl hl.1 rfl (lv_room (Nat.le_of_ble_eq_true rfl)) dX7_reads_103 ⟨Nat.zero_le _, Nat.zero_le _⟩) hS (fun q _ h => h) (fun q h => h) (fun r157 F158 t H1 locs ht hvm hw hB hz1 hk1 hS => ?_)
        obtain ⟨hP, hK1⟩ := hB
        rw [ht] at hP
        generalize H1 = H at hP hS ⊢
        obtain ⟨h159, h161, hI, hfr1, hzf, h160⟩ := hw
        have o162 : F158 (A 13) = .inl (cs 0, 400, .inl f1) := (hfr1 _ (by rw [(y_k13 hA)]; decide)).trans o152
        have o163 : F158 (A 21) = .inl (cs 0, 8, .inl f100) := (hfr1 _ (by rw [(y_k21 hA)]; decide)).trans o153
        have oY164 : F158 a0 = .inr (7, y_fl A z0 q0) := (hfr1 _ (by rw [ha0]; decide)).trans oY154
        have hfr : ∀ b, K b ∉ [71, 72] → F158 b = F b := fun b hb9 => (hfr1 b (fun q => hb9 (s_sub (by decide) q))).trans (hfr b hb9)
        refine lv_goto (tgt := 110) hx hb dX7_reads_106 (by decide) ?_
        exact K110 _ _ _ ⟨F158, _, r157, w14, rfl, lv_sub hl [0, 1, 2, 3, 4, 5] rfl, hP, hS, hI, hfr, (fun k hk => (y_fiZ oY164 (s_sub (by decide) hk)).trans (hz0 k hk)), trivial, ⟨by omega, by omega⟩, ⟨by omega, by omega⟩, ⟨by omega, by omega⟩, ⟨by omega, by omega⟩, ⟨by omega, by omega⟩, (by omega)⟩
  · intro g H locs hq
    obtain ⟨F172, ls, w24, w25, rfl, hl, hP, hS, hI, hfr, hz0, h165, h166, h167, h168, h169, h170, h171⟩ := hq
    have o173 : F172 (A 13) = .inl (cs 0, 400, .inl f1) := (hfr _ (by rw [(y_k13 hA)]; decide)).trans o2
    have oY174 : F172 a0 = .inr (7, y_fl A z0 q0) := (hfr _ (by rw [ha0]; decide)).trans oY0
    have hz0 : ∀ k, k ∈ ([1, 2, 3, 4, 5, 6, 7, 8, 11, 15, 16, 19, 25, 26, 27, 31, 32] : List Nat) → z0 k = z0 k := fun _ _ => rfl
    obtain ⟨f175, o176, b177⟩ := y_op22 hI
    refine th_iast hx hb hK hP hD hS (hLK _ (y_k22 hA) (by decide)) 0 o176 rfl (th_in ⟨by omega, by omega⟩) dX7_reads_110 (fun H locs hP hS => ?_)
    obtain ⟨f178, u179⟩ : ∃ g : Nat → Int32, g = upd f175 (w25 : Int32).toNatClampNeg w24 := ⟨_, rfl⟩
    rw [← u179] at hP
    have b180 : y_bd 22 f178 := trivial
    have hP : va_P (dC, dI) vwCl (va_pl L (va_up F172 (A 22) (.inl (cs 0, 8, .inl f178)))) H := hP
    obtain ⟨F181, hF182⟩ : ∃ G : Nat → va_E, G = va_up F172 (A 22) (.inl (cs 0, 8, .inl f178)) := ⟨_, rfl⟩
    rw [← hF182] at hP
    have hI : y_I K cs A F181 := by rw [hF182]; exact y_clA (i := 22) hA hI (by decide) b180
    have hfr : ∀ b, K b ∉ [71, 72] → F181 b = F b := by rw [hF182]; exact s_fr hfr (y_k22 hA) (by decide)
    have o183 : F181 (A 13) = .inl (cs 0, 400, .inl f1) := by rw [hF182]; exact th_ne (th_kd (y_k13 hA) (y_k22 hA) (by decide)) o173
    have oY184 : F181 a0 = .inr (7, y_fl A z0 q0) := by rw [hF182]; exact th_ne (th_kd ha0 (y_k22 hA) (by decide)) oY174
    have o185 : F181 (A 22) = .inl (cs 0, 8, .inl f178) := by rw [hF182]; exact th_up
    have u186 : ∀ j : Int, 0 ≤ j → y_c f178 j = if j = w25.toInt then w24 else y_c f175 j := by rw [u179]; exact y_cu rfl (by omega)
    exact K111 _ _ _ ⟨F181, _, rfl, lv_sub hl [0, 1, 2, 3, 4, 5] rfl, hP, hS, hI, hfr, (fun k hk => (y_fiZ oY184 (s_sub (by decide) hk)).trans (hz0 k hk)), ⟨by omega, by omega⟩, ⟨by omega, by omega⟩, ⟨by omega, by omega⟩, ⟨by omega, by omega⟩, (by omega)⟩
  · intro g H locs hq
    obtain ⟨F192, ls, rfl, hl, hP, hS, hI, hfr, hz0, h187, h188, h189, h190, h191⟩ := hq
    have o193 : F192 (A 13) = .inl (cs 0, 400, .inl f1) := (hfr _ (by rw [(y_k13 hA)]; decide)).trans o2
    have oY194 : F192 a0 = .inr (7, y_fl A z0 q0) := (hfr _ (by rw [ha0]; decide)).trans oY0
    have hz0 : ∀ k, k ∈ ([1, 2, 3, 4, 5, 6, 7, 8, 11, 15, 16, 19, 25, 26, 27, 31, 32] : List Nat) → z0 k = z0 k := fun _ _ => rfl
    obtain ⟨v195, ev195⟩ : ∃ y : Int32, w14 + 1 = y := ⟨_, rfl⟩
    have qv195 : v195.toInt = w14.toInt + 1 := by rw [← ev195]; exact th_add rfl (by decide) ⟨by omega, by omega⟩
    refine lv_iinc (v := v195) (lv' := [(5, .int v195), (0, .ref a0), (1, .int x1), (2, .int x2), (3, .int x3), (4, .int r5)]) hx hb dX7_reads_111 hl (k := 5) rfl ev195 (by decide) rfl (fun ls hl => ?_)
    refine lv_goto (tgt := 11) hx hb dX7_reads_114 (by decide) ?_
    exact ih11 _ _ _ _ (by omega) ⟨F192, _, v195, rfl, lv_sub hl [1, 2, 3, 4, 5, 0] rfl, hP, hS, hI, hfr, (fun k hk => (y_fiZ oY194 (s_sub (by decide) hk)).trans (hz0 k hk)), ⟨by omega, by omega⟩, ⟨by omega, by omega⟩, ⟨by omega, by omega⟩, ⟨by omega, by omega⟩, (by omega), rfl⟩

set_option maxHeartbeats 4000000 in
set_option maxRecDepth 100000 in
theorem y_X7_bankOf (l : Launch) (dC : Nat → ClassId) (dI : Nat → Nat → Nat) (sz : Nat) {L : List Nat} {K : Nat → Nat} {cs : Nat → ClassId} (hLK : ∀ a {k : Nat}, K a = k → k ≠ 0 → a ∈ L) (A : Nat → Nat) (hA : y_A K A) (F : Nat → va_E) (a0 : Nat) (x1 : Int32) (ha0 : K a0 = 9) (hx1 : 0 ≤ x1.toInt ∧ x1.toInt ≤ 31) (hI : y_I K cs A F) : Met l yX7_bankOf (Cond.code yX7_bankOf cX7_bankOf 2 (some .int) :: T0) ({ frames := 0, cells := 0, slots := 0, locals := 0 }) (va_Pc [.ref a0, .int x1] (s_W dC dI sz L F [(cs 0, .int), (cs 1, .byte), (cs 2, .long), (cs 3, .object RX5), (cs 4, .object RX4), (cs 5, .array .int), (cs 6, .char), (cs 7, .boolean)])) (va_Qi (fun (r : Int32) (G : Nat → va_E) => (-3 ≤ r.toInt ∧ r.toInt ≤ 3) ∧ True ∧ y_I K cs A G ∧ (∀ b, K b ∉ ([] : List Nat) → G b = F b) ∧ (∀ k, k ∈ ([1, 2, 3, 4, 5, 6, 7, 8, 11, 15, 16, 19, 25, 26, 27, 31, 32] : List Nat) → y_fi G a0 k = y_fi F a0 k) ∧ True) (fun (G : Nat → va_E) (t : State) => va_P (dC, dI) vwCl (va_pl L G) t.heap ∧ va_K (dC, dI) vwCl [(cs 0, .int), (cs 1, .byte), (cs 2, .long), (cs 3, .object RX5), (cs 4, .object RX4), (cs 5, .array .int), (cs 6, .char), (cs 7, .boolean)] t) (fun q => q ∈ L)) 0 0 (fun q => q ∈ L) := by
  refine Met.ofW (cc := cX7_bankOf) (maxL := 2) (ret := (some .int)) (by decide) rfl ?_
  intro p e s m args below meth c s₁ B hml hv
  obtain ⟨rfl, hsz, hP, hK, hD, hN⟩ := hv
  have hx := B.exec
  have hb := B.bytes
  have hr := B.returns
  have hts : ∀ w ∈ T0, w.before _ s = true := fun w h => atoms_spec (ws := Cond.code yX7_bankOf cX7_bankOf 2 (some .int) :: T0) B.pre w (List.mem_cons_of_mem _ h)
  have hown : s.vm.findClass RX7 = some m.cls := findClass_of_methodNamed B.named
  have hlocks := B.notSynchronized
  have hS : va_S (fun q => q ∈ L) s.heap s.heap [] := va_S.rf
  have hfr : ∀ b, K b ∉ ([] : List Nat) → F b = F b := fun _ _ => rfl
  have hl := lv_entry ([.ref a0, .int x1]) (n := 2) (Nat.le_of_ble_eq_true rfl)
  rw [lg_entry_eq]
  generalize (lg_sl ([.ref a0, .int x1]) ++ List.replicate (2 - (lg_sl ([.ref a0, .int x1])).length) Slot.unset).toArray = ls at hl ⊢
  have hl : lv_has ls 2 [(0, .ref a0), (1, .int x1)] := hl
  refine s_gen hP hS (fun H locs hP hS => ?_)
  obtain ⟨z0, q0, oY0, bz0, bq0⟩ := y_opY hI ha0
  have hz0 : ∀ k, k ∈ ([1, 2, 3, 4, 5, 6, 7, 8, 11, 15, 16, 19, 25, 26, 27, 31, 32] : List Nat) → z0 k = z0 k := fun _ _ => rfl
  refine lv_iload_n hx hb dX7_bankOf_0 rfl (lv_at hl 1 rfl) ?_
  refine lv_aload_n hx hb dX7_bankOf_1 rfl (lv_at hl 0 rfl) ?_
  refine th_get (D := (dC, dI)) (ci := 7) (v := .ref (A 20)) (C := RX7) (T := TX7) (N := 34) hx hb hts inX7 hown hK hP (hLK _ ha0 (by decide)) oY0 rfl 20 (by decide) (hts _ T_251) (fun _ h9 => h9) rfl dX7_bankOf_2 ?_
  refine lv_iconst (v := 5) hx hb dX7_bankOf_5 (by decide) ?_
  obtain ⟨f1, o2, b3⟩ := y_op20 hI
  refine th_iald hx hb hK hP (hLK _ (y_k20 hA) (by decide)) 0 o2 rfl (ax_in (by decide)) dX7_bankOf_6 ?_
  refine lv_topi (fun v4 ev4 => ?_)
  refine lv_iload_n hx hb dX7_bankOf_7 rfl (lv_at hl 1 rfl) ?_
  refine lv_iconst (v := 4) hx hb dX7_bankOf_8 (by decide) ?_
  refine lv_idiv hx hb dX7_bankOf_9 (by decide) ?_
  refine lv_topi (fun v5 ev5 => ?_)
  have qv5 : v5.toInt = x1.toInt / 4 := by rw [ev5]; exact th_div rfl (by decide) (by omega) (by decide)
  refine lv_imul hx hb dX7_bankOf_10 ?_
  refine lv_topi (fun v6 ev6 => ?_)
  refine lv_iadd hx hb dX7_bankOf_11 ?_
  refine lv_topi (fun v7 ev7 => ?_)
  refine lv_iconst (v := 4) hx hb dX7_bankOf_12 (by decide) ?_
  refine lv_irem hx hb dX7_bankOf_13 (by decide) ?_
  refine lv_topi (fun v8 ev8 => ?_)
  exact W.iret (v := v8) hx hb hr (fun t ht hW => ⟨⟨v8, F, rfl, ⟨⟨by omega, by omega⟩, trivial, hI, hfr, fun k hk => (y_fiZ oY0 (s_sub (by decide) hk)).trans ((hz0 k hk).trans (y_fiZ oY0 (s_sub (by decide) hk)).symm), trivial⟩, by rw [ht]; exact hP, va_K.moved hW.alike hK⟩, hS.F ht⟩) hS.2.2 dX7_bankOf_14

set_option maxHeartbeats 4000000 in
set_option maxRecDepth 100000 in
theorem y_X7_segments (l : Launch) (dC : Nat → ClassId) (dI : Nat → Nat → Nat) (sz : Nat) {L : List Nat} {K : Nat → Nat} {cs : Nat → ClassId} (hLK : ∀ a {k : Nat}, K a = k → k ≠ 0 → a ∈ L) (A : Nat → Nat) (hA : y_A K A) (F : Nat → va_E) (a0 : Nat) (x1 : Int32) (ha0 : K a0 = 9) (hI : y_I K cs A F) : Met l yX7_segments (Cond.code yX7_segments cX7_segments 5 (some .int) :: T0) ({ frames := 1, cells := 0, slots := 0, locals := 24 }) (va_Pc [.ref a0, .int x1] (s_W dC dI sz L F [(cs 0, .int), (cs 1, .byte), (cs 2, .long), (cs 3, .object RX5), (cs 4, .object RX4), (cs 5, .array .int), (cs 6, .char), (cs 7, .boolean)])) (va_Qi (fun (r : Int32) (G : Nat → va_E) => True ∧ True ∧ y_I K cs A G ∧ (∀ b, K b ∉ ([] : List Nat) → G b = F b) ∧ (∀ k, k ∈ ([1, 2, 3, 4, 5, 6, 7, 8, 11, 15, 16, 19, 25, 26, 27, 31, 32] : List Nat) → y_fi G a0 k = y_fi F a0 k) ∧ True) (fun (G : Nat → va_E) (t : State) => va_P (dC, dI) vwCl (va_pl L G) t.heap ∧ va_K (dC, dI) vwCl [(cs 0, .int), (cs 1, .byte), (cs 2, .long), (cs 3, .object RX5), (cs 4, .object RX4), (cs 5, .array .int), (cs 6, .char), (cs 7, .boolean)] t) (fun q => q ∈ L)) 0 0 (fun q => q ∈ L) := by
  refine Met.ofW (cc := cX7_segments) (maxL := 5) (ret := (some .int)) (by decide) rfl ?_
  intro p e s m args below meth c s₁ B hml hv
  obtain ⟨rfl, hsz, hP, hK, hD, hN⟩ := hv
  have hx := B.exec
  have hb := B.bytes
  have hr := B.returns
  have hts : ∀ w ∈ T0, w.before _ s = true := fun w h => atoms_spec (ws := Cond.code yX7_segments cX7_segments 5 (some .int) :: T0) B.pre w (List.mem_cons_of_mem _ h)
  have hown : s.vm.findClass RX7 = some m.cls := findClass_of_methodNamed B.named
  have hlocks := B.notSynchronized
  have hS : va_S (fun q => q ∈ L) s.heap s.heap [] := va_S.rf
  have hfr : ∀ b, K b ∉ ([] : List Nat) → F b = F b := fun _ _ => rfl
  have hl := lv_entry ([.ref a0, .int x1]) (n := 5) (Nat.le_of_ble_eq_true rfl)
  rw [lg_entry_eq]
  generalize (lg_sl ([.ref a0, .int x1]) ++ List.replicate (5 - (lg_sl ([.ref a0, .int x1])).length) Slot.unset).toArray = ls at hl ⊢
  have hl : lv_has ls 5 [(0, .ref a0), (1, .int x1)] := hl
  refine s_gen hP hS (fun H locs hP hS => ?_)
  obtain ⟨z0, q0, oY0, bz0, bq0⟩ := y_opY hI ha0
  have hz0 : ∀ k, k ∈ ([1, 2, 3, 4, 5, 6, 7, 8, 11, 15, 16, 19, 25, 26, 27, 31, 32] : List Nat) → z0 k = z0 k := fun _ _ => rfl
  refine lv_iconst (v := 0) hx hb dX7_segments_0 (by decide) ?_
  refine lv_istore_n (lv' := [(2, .int 0), (0, .ref a0), (1, .int x1)]) hx hb dX7_segments_1 rfl hl (by decide) rfl (fun ls hl => ?_)
  refine lv_iconst (v := 0) hx hb dX7_segments_2 (by decide) ?_
  refine lv_istore_n (lv' := [(3, .int 0), (2, .int 0), (0, .ref a0), (1, .int x1)]) hx hb dX7_segments_3 rfl hl (by decide) rfl (fun ls hl => ?_)
  have h3 : (0 : Int32).toInt = 0 := by decide
  have h4 : (0 : Int32).toInt = 0 := by decide
  refine th_loop (fun n g H locs => ∃ (G : Nat → va_E) (ls : Array Slot) (w1 : Int32) (w2 : Int32), g = F0 m 4 ls [] ∧ lv_has ls 5 [(0, .ref a0), (1, .int x1), (2, .int w1), (3, .int w2)] ∧ va_P (dC, dI) vwCl (va_pl L G) H ∧ va_S (fun q => q ∈ L) s.heap H locs ∧ y_I K cs A G ∧ (∀ b, K b ∉ ([] : List Nat) → G b = F b) ∧ (∀ k, k ∈ ([1, 2, 3, 4, 5, 6, 7, 8, 11, 15, 16, 19, 25, 26, 27, 31, 32] : List Nat) → y_fi G a0 k = z0 k) ∧ True ∧ (0 ≤ w2.toInt ∧ w2.toInt ≤ 8) ∧ n = (9 - w2.toInt).toNat) _ ⟨F, _, 0, 0, rfl, lv_sub hl [2, 3, 1, 0] rfl, hP, hS, hI, hfr, (fun k hk => (y_fiZ oY0 (s_sub (by decide) hk)).trans (hz0 k hk)), trivial, (by decide), rfl⟩ (fun n ih4 g H locs hq => ?_)
  obtain ⟨F7, ls, w1, w2, rfl, hl, hP, hS, hI, hfr, hz0, h5, h6, hn⟩ := hq
  have oY8 : F7 a0 = .inr (7, y_fl A z0 q0) := (hfr _ (by rw [ha0]; decide)).trans oY0
  have hz0 : ∀ k, k ∈ ([1, 2, 3, 4, 5, 6, 7, 8, 11, 15, 16, 19, 25, 26, 27, 31, 32] : List Nat) → z0 k = z0 k := fun _ _ => rfl
  have hn_8 := hn
  refine th_join (fun g H locs => ∃ (G : Nat → va_E) (ls : Array Slot) (w9 : Int32), g = F0 m 38 ls [] ∧ lv_has ls 5 [(0, .ref a0), (1, .int x1), (2, .int w9), (3, .int w2)] ∧ va_P (dC, dI) vwCl (va_pl L G) H ∧ va_S (fun q => q ∈ L) s.heap H locs ∧ y_I K cs A G ∧ (∀ b, K b ∉ ([] : List Nat) → G b = F b) ∧ (∀ k, k ∈ ([1, 2, 3, 4, 5, 6, 7, 8, 11, 15, 16, 19, 25, 26, 27, 31, 32] : List Nat) → y_fi G a0 k = z0 k) ∧ True ∧ (0 ≤ w2.toInt ∧ w2.toInt ≤ 7)) (fun K38 => ?_) ?_
  · refine lv_iload_n hx hb dX7_segments_4 rfl (lv_at hl 3 rfl) ?_
    refine lv_bipush (v := 8) hx hb dX7_segments_5 (by decide) ?_
    refine lv_icmp_ge (tgt := 44) hx hb dX7_segments_7 (by decide) (fun c10 => ?_) (fun c10 => ?_)
    · have c10 := (ax_ge (n := 8) (by decide)).mp c10
      refine lv_iconst (v := 0) hx hb dX7_segments_44 (by decide) ?_
      refine lv_istore_n (lv' := [(3, .int 0), (0, .ref a0), (1, .int x1), (2, .int w1)]) hx hb dX7_segments_45 rfl hl (by decide) rfl (fun ls hl => ?_)
      refine lv_iconst (v := 0) hx hb dX7_segments_46 (by decide) ?_
      refine lv_istore (lv' := [(4, .int 0), (3, .int 0), (0, .ref a0), (1, .int x1), (2, .int w1)]) hx hb dX7_segments_47 hl (by decide) rfl (fun ls hl => ?_)
      have h13 : (0 : Int32).toInt = 0 := by decide
      have h14 : (0 : Int32).toInt = 0 := by decide
      refine th_loop (fun n g H locs => ∃ (G : Nat → va_E) (ls : Array Slot) (w11 : Int32) (w12 : Int32), g = F0 m 49 ls [] ∧ lv_has ls 5 [(2, .int w1), (3, .int w11), (4, .int w12)] ∧ va_P (dC, dI) vwCl (va_pl L G) H ∧ va_S (fun q => q ∈ L) s.heap H locs ∧ y_I K cs A G ∧ (∀ b, K b ∉ ([] : List Nat) → G b = F b) ∧ (∀ k, k ∈ ([1, 2, 3, 4, 5, 6, 7, 8, 11, 15, 16, 19, 25, 26, 27, 31, 32] : List Nat) → y_fi G a0 k = z0 k) ∧ True ∧ (0 ≤ w12.toInt ∧ w12.toInt ≤ 8) ∧ n = (9 - w12.toInt).toNat) _ ⟨F7, _, 0, 0, rfl, lv_sub hl [4, 1, 0] rfl, hP, hS, hI, hfr, (fun k hk => (y_fiZ oY8 (s_sub (by decide) hk)).trans (hz0 k hk)), trivial, (by decide), rfl⟩ (fun n ih49 g H locs hq => ?_)
      obtain ⟨F17, ls, w11, w12, rfl, hl, hP, hS, hI, hfr, hz0, h15, h16, hn⟩ := hq
      have oY18 : F17 a0 = .inr (7, y_fl A z0 q0) := (hfr _ (by rw [ha0]; decide)).trans oY0
      have hz0 : ∀ k, k ∈ ([1, 2, 3, 4, 5, 6, 7, 8, 11, 15, 16, 19, 25, 26, 27, 31, 32] : List Nat) → z0 k = z0 k := fun _ _ => rfl
      have hn_18 := hn
      refine lv_iload hx hb dX7_segments_49 (lv_at hl 2 rfl) ?_
      refine lv_bipush (v := 8) hx hb dX7_segments_51 (by decide) ?_
      refine lv_icmp_ge (tgt := 71) hx hb dX7_segments_53 (by decide) (fun c19 => ?_) (fun c19 => ?_)
      · have c19 := (ax_ge (n := 8) (by decide)).mp c19
        refine lv_iload_n hx hb dX7_segments_71 rfl (lv_at hl 1 rfl) ?_
        exact W.iret (v := w11) hx hb hr (fun t ht hW => ⟨⟨w11, F17, rfl, ⟨trivial, trivial, hI, hfr, fun k hk => (y_fiZ oY18 (s_sub (by decide) hk)).trans ((hz0 k hk).trans (y_fiZ oY0 (s_sub (by decide) hk)).symm), trivial⟩, by rw [ht]; exact hP, va_K.moved hW.alike hK⟩, hS.F ht⟩) hS.2.2 dX7_segments_72
      · have c19 := mt (ax_ge (n := 8) (by decide)).mpr c19
        refine lv_iload_n hx hb dX7_segments_56 rfl (lv_at hl 1 rfl) ?_
        refine lv_iload_n hx hb dX7_segments_57 rfl (lv_at hl 0 rfl) ?_
        refine lv_iload hx hb dX7_segments_58 (lv_at hl 2 rfl) ?_
        refine lv_ishr hx hb dX7_segments_60 ?_
        refine lv_topi (fun v20 ev20 => ?_)
        refine lv_iconst (v := 1) hx hb dX7_segments_61 (by decide) ?_
        refine lv_iand hx hb dX7_segments_62 ?_
        refine lv_topi (fun v21 ev21 => ?_)
        have qv21 : 0 ≤ v21.toInt ∧ v21.toInt ≤ 1 := by rw [ev21]; exact th_and 1 (by decide) (by decide)
        refine lv_iadd hx hb dX7_segments_63 ?_
        refine lv_topi (fun v22 ev22 => ?_)
        refine lv_istore_n (lv' := [(3, .int v22), (2, .int w1), (4, .int w12)]) hx hb dX7_segments_64 rfl hl (by decide) rfl (fun ls hl => ?_)
        obtain ⟨v23, ev23⟩ : ∃ y : Int32, w12 + 1 = y := ⟨_, rfl⟩
        have qv23 : v23.toInt = w12.toInt + 1 := by rw [← ev23]; exact th_add rfl (by decide) ⟨by omega, by omega⟩
        refine lv_iinc (v := v23) (lv' := [(4, .int v23), (3, .int v22), (2, .int w1)]) hx hb dX7_segments_65 hl (k := 2) rfl ev23 (by decide) rfl (fun ls hl => ?_)
        refine lv_goto (tgt := 49) hx hb dX7_segments_68 (by decide) ?_
        exact ih49 _ _ _ _ (by omega) ⟨F17, _, v22, v23, rfl, lv_sub hl [2, 1, 0] rfl, hP, hS, hI, hfr, (fun k hk => (y_fiZ oY18 (s_sub (by decide) hk)).trans (hz0 k hk)), trivial, ⟨by omega, by omega⟩, rfl⟩
    · have c10 := mt (ax_ge (n := 8) (by decide)).mpr c10
      refine lv_iload_n hx hb dX7_segments_10 rfl (lv_at hl 1 rfl) ?_
      refine lv_iload_n hx hb dX7_segments_11 rfl (lv_at hl 3 rfl) ?_
      refine va_calli (va_runS (As := [.int x1, .int w2]) (rest := []) ⟨hx, hb, hml, hown, hts⟩ (y_X7_isOf l dC dI H.size F7 x1 w2 (⟨by omega, by omega⟩)) (cwS 2 hts (ax_gS T_1027 T_1029 T_265 T_1028) rfl rfl rfl (by decide +kernel) ⟨Nat.le_of_ble_eq_true rfl, Nat.le_of_ble_eq_true rfl⟩) ⟨fun a U g mk q => ⟨q.1, s_pc rfl rfl q.2⟩, fun U hU hW => ⟨rfl, s_pw hU hW hP hK hD hN⟩⟩ rfl rfl hl.1 rfl (lv_room (Nat.le_of_ble_eq_true rfl)) dX7_segments_12 ⟨Nat.zero_le _, Nat.zero_le _⟩) hS (fun q _ h => h) (fun q h => h) (fun r25 F26 t H1 locs ht hvm hw hB hz1 hk1 hS => ?_)
      obtain ⟨hP, hK1⟩ := hB
      rw [ht] at hP
      generalize H1 = H at hP hS ⊢
      obtain ⟨h27, h29, hG9, h28⟩ := hw
      rw [hG9] at hP
      have h28 : ((r25.toInt = 1 ∧ bt x1 w2.toInt.toNat = true) ∨ (r25.toInt = 0 ∧ bt x1 w2.toInt.toNat = false)) := by have q9 := h28; exact q9
      refine lv_if_eq (tgt := 38) hx hb dX7_segments_15 (by decide) (fun c30 => ?_) (fun c30 => ?_)
      · have c30 := (ax_eq (n := 0) (by decide)).mp c30
        exact K38 _ _ _ ⟨F7, _, w1, rfl, lv_sub hl [0, 1, 2, 3] rfl, hP, hS, hI, hfr, (fun k hk => (y_fiZ oY8 (s_sub (by decide) hk)).trans (hz0 k hk)), trivial, ⟨by omega, by omega⟩⟩
      · have c30 := mt (ax_eq (n := 0) (by decide)).mpr c30
        refine lv_iload_n hx hb dX7_segments_18 rfl (lv_at hl 2 rfl) ?_
        refine lv_iconst (v := 1) hx hb dX7_segments_19 (by decide) ?_
        refine lv_aload_n hx hb dX7_segments_20 rfl (lv_at hl 0 rfl) ?_
        refine th_get (D := (dC, dI)) (ci := 7) (v := .ref (A 21)) (C := RX7) (T := TX7) (N := 34) hx hb hts inX7 hown hK hP (hLK _ ha0 (by decide)) oY8 rfl 21 (by decide) (hts _ T_252) (fun _ h9 => h9) rfl dX7_segments_21 ?_
        refine lv_iload_n hx hb dX7_segments_24 rfl (lv_at hl 3 rfl) ?_
        obtain ⟨f31, o32, b33⟩ := y_op21 hI
        refine th_iald hx hb hK hP (hLK _ (y_k21 hA) (by decide)) 0 o32 rfl (th_in ⟨by omega, by omega⟩) dX7_segments_25 ?_
        refine lv_topi (fun v34 ev34 => ?_)
        refine lv_i2l hx hb dX7_segments_26 rfl ?_
        refine lv_topl (fun v35 ev35 => ?_)
        have qv35 : v35.toInt = v34.toInt := y_i2l ev35
        refine lv_bipush (v := 64) hx hb dX7_segments_27 (by decide) ?_
        refine va_calli (va_runS (As := [.long v35, .int 64]) (rest := [.int 1, .int w1]) ⟨hx, hb, hml, hown, hts⟩ (y_X7_modulo l dC dI H.size F7 v35 64 (by decide)) (cwS 2 hts (ax_gS T_1204 T_1206 T_265 T_1205) rfl rfl rfl (by decide +kernel) ⟨Nat.le_of_ble_eq_true rfl, Nat.le_of_ble_eq_true rfl⟩) ⟨fun a U g mk q => ⟨q.1, s_pc rfl rfl q.2⟩, fun U hU hW => ⟨rfl, s_pw hU hW hP hK hD hN⟩⟩ rfl rfl hl.1 rfl (lv_room (Nat.le_of_ble_eq_true rfl)) dX7_segments_29 ⟨Nat.zero_le _, Nat.zero_le _⟩) hS (fun q _ h => h) (fun q h => h) (fun r37 F38 t H1 locs ht hvm hw hB hz1 hk1 hS => ?_)
        obtain ⟨hP, hK1⟩ := hB
        rw [ht] at hP
        generalize H1 = H at hP hS ⊢
        obtain ⟨h39, h41, hG9, h40⟩ := hw
        rw [hG9] at hP
        have h40 : (0 ≤ r37.toInt ∧ r37.toInt < 64) := by have q9 := h40; exact q9
        refine lv_bipush (v := 8) hx hb dX7_segments_32 (by decide) ?_
        refine lv_idiv hx hb dX7_segments_34 (by decide) ?_
        refine lv_topi (fun v42 ev42 => ?_)
        refine lv_ishl hx hb dX7_segments_35 ?_
        refine lv_topi (fun v43 ev43 => ?_)
        refine lv_ior hx hb dX7_segments_36 ?_
        refine lv_topi (fun v44 ev44 => ?_)
        refine lv_istore_n (lv' := [(2, .int v44), (0, .ref a0), (1, .int x1), (3, .int w2)]) hx hb dX7_segments_37 rfl hl (by decide) rfl (fun ls hl => ?_)
        exact K38 _ _ _ ⟨F7, _, v44, rfl, lv_sub hl [1, 2, 0, 3] rfl, hP, hS, hI, hfr, (fun k hk => (y_fiZ oY8 (s_sub (by decide) hk)).trans (hz0 k hk)), trivial, ⟨by omega, by omega⟩⟩
  · intro g H locs hq
    obtain ⟨F47, ls, w9, rfl, hl, hP, hS, hI, hfr, hz0, h45, h46⟩ := hq
    have oY48 : F47 a0 = .inr (7, y_fl A z0 q0) := (hfr _ (by rw [ha0]; decide)).trans oY0
    have hz0 : ∀ k, k ∈ ([1, 2, 3, 4, 5, 6, 7, 8, 11, 15, 16, 19, 25, 26, 27, 31, 32] : List Nat) → z0 k = z0 k := fun _ _ => rfl
    obtain ⟨v49, ev49⟩ : ∃ y : Int32, w2 + 1 = y := ⟨_, rfl⟩
    have qv49 : v49.toInt = w2.toInt + 1 := by rw [← ev49]; exact th_add rfl (by decide) ⟨by omega, by omega⟩
    refine lv_iinc (v := v49) (lv' := [(3, .int v49), (0, .ref a0), (1, .int x1), (2, .int w9)]) hx hb dX7_segments_38 hl (k := 3) rfl ev49 (by decide) rfl (fun ls hl => ?_)
    refine lv_goto (tgt := 4) hx hb dX7_segments_41 (by decide) ?_
    exact ih4 _ _ _ _ (by omega) ⟨F47, _, w9, v49, rfl, lv_sub hl [1, 2, 3, 0] rfl, hP, hS, hI, hfr, (fun k hk => (y_fiZ oY48 (s_sub (by decide) hk)).trans (hz0 k hk)), trivial, ⟨by omega, by omega⟩, rfl⟩

set_option maxHeartbeats 4000000 in
set_option maxRecDepth 100000 in
theorem y_X7_isAsked (l : Launch) (dC : Nat → ClassId) (dI : Nat → Nat → Nat) (sz : Nat) {L : List Nat} {K : Nat → Nat} {cs : Nat → ClassId} (hLK : ∀ a {k : Nat}, K a = k → k ≠ 0 → a ∈ L) (A : Nat → Nat) (hA : y_A K A) (F : Nat → va_E) (a0 : Nat) (x1 : Int32) (x2 : Int32) (ha0 : K a0 = 9) (hx2 : 0 ≤ x2.toInt ∧ x2.toInt ≤ 31) (hI : y_I K cs A F) : Met l yX7_isAsked (Cond.code yX7_isAsked cX7_isAsked 4 (some .boolean) :: T0) ({ frames := 1, cells := 0, slots := 0, locals := 24 }) (va_Pc [.ref a0, .int x1, .int x2] (s_W dC dI sz L F [(cs 0, .int), (cs 1, .byte), (cs 2, .long), (cs 3, .object RX5), (cs 4, .object RX4), (cs 5, .array .int), (cs 6, .char), (cs 7, .boolean)])) (va_Qi (fun (r : Int32) (G : Nat → va_E) => (0 ≤ r.toInt ∧ r.toInt ≤ 1) ∧ True ∧ y_I K cs A G ∧ (∀ b, K b ∉ ([] : List Nat) → G b = F b) ∧ (∀ k, k ∈ ([1, 2, 3, 4, 5, 6, 7, 8, 11, 15, 16, 19, 25, 26, 27, 31, 32] : List Nat) → y_fi G a0 k = y_fi F a0 k) ∧ True) (fun (G : Nat → va_E) (t : State) => va_P (dC, dI) vwCl (va_pl L G) t.heap ∧ va_K (dC, dI) vwCl [(cs 0, .int), (cs 1, .byte), (cs 2, .long), (cs 3, .object RX5), (cs 4, .object RX4), (cs 5, .array .int), (cs 6, .char), (cs 7, .boolean)] t) (fun q => q ∈ L)) 0 0 (fun q => q ∈ L) := by
  refine Met.ofW (cc := cX7_isAsked) (maxL := 4) (ret := (some .boolean)) (by decide) rfl ?_
  intro p e s m args below meth c s₁ B hml hv
  obtain ⟨rfl, hsz, hP, hK, hD, hN⟩ := hv
  have hx := B.exec
  have hb := B.bytes
  have hr := B.returns
  have hts : ∀ w ∈ T0, w.before _ s = true := fun w h => atoms_spec (ws := Cond.code yX7_isAsked cX7_isAsked 4 (some .boolean) :: T0) B.pre w (List.mem_cons_of_mem _ h)
  have hown : s.vm.findClass RX7 = some m.cls := findClass_of_methodNamed B.named
  have hlocks := B.notSynchronized
  have hS : va_S (fun q => q ∈ L) s.heap s.heap [] := va_S.rf
  have hfr : ∀ b, K b ∉ ([] : List Nat) → F b = F b := fun _ _ => rfl
  have hl := lv_entry ([.ref a0, .int x1, .int x2]) (n := 4) (Nat.le_of_ble_eq_true rfl)
  rw [lg_entry_eq]
  generalize (lg_sl ([.ref a0, .int x1, .int x2]) ++ List.replicate (4 - (lg_sl ([.ref a0, .int x1, .int x2])).length) Slot.unset).toArray = ls at hl ⊢
  have hl : lv_has ls 4 [(0, .ref a0), (1, .int x1), (2, .int x2)] := hl
  refine s_gen hP hS (fun H locs hP hS => ?_)
  obtain ⟨z0, q0, oY0, bz0, bq0⟩ := y_opY hI ha0
  have hz0 : ∀ k, k ∈ ([1, 2, 3, 4, 5, 6, 7, 8, 11, 15, 16, 19, 25, 26, 27, 31, 32] : List Nat) → z0 k = z0 k := fun _ _ => rfl
  refine lv_iconst (v := 0) hx hb dX7_isAsked_0 (by decide) ?_
  refine lv_istore_n (lv' := [(3, .int 0), (0, .ref a0), (1, .int x1), (2, .int x2)]) hx hb dX7_isAsked_1 rfl hl (by decide) rfl (fun ls hl => ?_)
  have h2 : (0 : Int32).toInt = 0 := by decide
  refine th_loop (fun n g H locs => ∃ (G : Nat → va_E) (ls : Array Slot) (w1 : Int32), g = F0 m 2 ls [] ∧ lv_has ls 4 [(0, .ref a0), (1, .int x1), (2, .int x2), (3, .int w1)] ∧ va_P (dC, dI) vwCl (va_pl L G) H ∧ va_S (fun q => q ∈ L) s.heap H locs ∧ y_I K cs A G ∧ (∀ b, K b ∉ ([] : List Nat) → G b = F b) ∧ (∀ k, k ∈ ([1, 2, 3, 4, 5, 6, 7, 8, 11, 15, 16, 19, 25, 26, 27, 31, 32] : List Nat) → y_fi G a0 k = z0 k) ∧ (0 ≤ w1.toInt ∧ w1.toInt ≤ 8) ∧ (0 ≤ x2.toInt ∧ x2.toInt ≤ 31) ∧ n = (9 - w1.toInt).toNat) _ ⟨F, _, 0, rfl, lv_sub hl [1, 2, 3, 0] rfl, hP, hS, hI, hfr, (fun k hk => (y_fiZ oY0 (s_sub (by decide) hk)).trans (hz0 k hk)), (by decide), ⟨by omega, by omega⟩, rfl⟩ (fun n ih2 g H locs hq => ?_)
  obtain ⟨F5, ls, w1, rfl, hl, hP, hS, hI, hfr, hz0, h3, h4, hn⟩ := hq
  have oY6 : F5 a0 = .inr (7, y_fl A z0 q0) := (hfr _ (by rw [ha0]; decide)).trans oY0
  have hz0 : ∀ k, k ∈ ([1, 2, 3, 4, 5, 6, 7, 8, 11, 15, 16, 19, 25, 26, 27, 31, 32] : List Nat) → z0 k = z0 k := fun _ _ => rfl
  have hn_6 := hn
  refine th_join (fun g H locs => ∃ (G : Nat → va_E) (ls : Array Slot), g = F0 m 34 ls [] ∧ lv_has ls 4 [(0, .ref a0), (1, .int x1), (2, .int x2), (3, .int w1)] ∧ va_P (dC, dI) vwCl (va_pl L G) H ∧ va_S (fun q => q ∈ L) s.heap H locs ∧ y_I K cs A G ∧ (∀ b, K b ∉ ([] : List Nat) → G b = F b) ∧ (∀ k, k ∈ ([1, 2, 3, 4, 5, 6, 7, 8, 11, 15, 16, 19, 25, 26, 27, 31, 32] : List Nat) → y_fi G a0 k = z0 k) ∧ (0 ≤ x2.toInt ∧ x2.toInt ≤ 31) ∧ (0 ≤ w1.toInt ∧ w1.toInt ≤ 7)) (fun K34 => ?_) ?_
  · refine lv_iload_n hx hb dX7_isAsked_2 rfl (lv_at hl 3 rfl) ?_
    refine lv_bipush (v := 8) hx hb dX7_isAsked_3 (by decide) ?_
    refine lv_icmp_ge (tgt := 40) hx hb dX7_isAsked_5 (by decide) (fun c7 => ?_) (fun c7 => ?_)
    · have c7 := (ax_ge (n := 8) (by decide)).mp c7
      refine lv_iconst (v := 0) hx hb dX7_isAsked_40 (by decide) ?_
      have h8 : (0 : Int32).toInt = 0 := by decide
      exact W.zret (v := 0) (ty := .boolean) hx hb hr (by decide) (fun t ht hW => ⟨⟨0, F5, rfl, ⟨(by decide), trivial, hI, hfr, fun k hk => (y_fiZ oY6 (s_sub (by decide) hk)).trans ((hz0 k hk).trans (y_fiZ oY0 (s_sub (by decide) hk)).symm), trivial⟩, by rw [ht]; exact hP, va_K.moved hW.alike hK⟩, hS.F ht⟩) hS.2.2 dX7_isAsked_41
    · have c7 := mt (ax_ge (n := 8) (by decide)).mpr c7
      refine lv_iload_n hx hb dX7_isAsked_8 rfl (lv_at hl 1 rfl) ?_
      refine lv_iload_n hx hb dX7_isAsked_9 rfl (lv_at hl 3 rfl) ?_
      refine va_calli (va_runS (As := [.int x1, .int w1]) (rest := []) ⟨hx, hb, hml, hown, hts⟩ (y_X7_isOf l dC dI H.size F5 x1 w1 (⟨by omega, by omega⟩)) (cwS 2 hts (ax_gS T_1027 T_1029 T_265 T_1028) rfl rfl rfl (by decide +kernel) ⟨Nat.le_of_ble_eq_true rfl, Nat.le_of_ble_eq_true rfl⟩) ⟨fun a U g mk q => ⟨q.1, s_pc rfl rfl q.2⟩, fun U hU hW => ⟨rfl, s_pw hU hW hP hK hD hN⟩⟩ rfl rfl hl.1 rfl (lv_room (Nat.le_of_ble_eq_true rfl)) dX7_isAsked_10 ⟨Nat.zero_le _, Nat.zero_le _⟩) hS (fun q _ h => h) (fun q h => h) (fun r10 F11 t H1 locs ht hvm hw hB hz1 hk1 hS => ?_)
      obtain ⟨hP, hK1⟩ := hB
      rw [ht] at hP
      generalize H1 = H at hP hS ⊢
      obtain ⟨h12, h14, hG9, h13⟩ := hw
      rw [hG9] at hP
      have h13 : ((r10.toInt = 1 ∧ bt x1 w1.toInt.toNat = true) ∨ (r10.toInt = 0 ∧ bt x1 w1.toInt.toNat = false)) := by have q9 := h13; exact q9
      refine lv_if_eq (tgt := 34) hx hb dX7_isAsked_13 (by decide) (fun c15 => ?_) (fun c15 => ?_)
      · have c15 := (ax_eq (n := 0) (by decide)).mp c15
        exact K34 _ _ _ ⟨F5, _, rfl, lv_sub hl [0, 1, 2, 3] rfl, hP, hS, hI, hfr, (fun k hk => (y_fiZ oY6 (s_sub (by decide) hk)).trans (hz0 k hk)), ⟨by omega, by omega⟩, ⟨by omega, by omega⟩⟩
      · have c15 := mt (ax_eq (n := 0) (by decide)).mpr c15
        refine lv_aload_n hx hb dX7_isAsked_16 rfl (lv_at hl 0 rfl) ?_
        refine th_get (D := (dC, dI)) (ci := 7) (v := .ref (A 21)) (C := RX7) (T := TX7) (N := 34) hx hb hts inX7 hown hK hP (hLK _ ha0 (by decide)) oY6 rfl 21 (by decide) (hts _ T_252) (fun _ h9 => h9) rfl dX7_isAsked_17 ?_
        refine lv_iload_n hx hb dX7_isAsked_20 rfl (lv_at hl 3 rfl) ?_
        obtain ⟨f16, o17, b18⟩ := y_op21 hI
        refine th_iald hx hb hK hP (hLK _ (y_k21 hA) (by decide)) 0 o17 rfl (th_in ⟨by omega, by omega⟩) dX7_isAsked_21 ?_
        refine lv_topi (fun v19 ev19 => ?_)
        refine lv_i2l hx hb dX7_isAsked_22 rfl ?_
        refine lv_topl (fun v20 ev20 => ?_)
        have qv20 : v20.toInt = v19.toInt := y_i2l ev20
        refine lv_bipush (v := 32) hx hb dX7_isAsked_23 (by decide) ?_
        refine va_calli (va_runS (As := [.long v20, .int 32]) (rest := []) ⟨hx, hb, hml, hown, hts⟩ (y_X7_modulo l dC dI H.size F5 v20 32 (by decide)) (cwS 2 hts (ax_gS T_1204 T_1206 T_265 T_1205) rfl rfl rfl (by decide +kernel) ⟨Nat.le_of_ble_eq_true rfl, Nat.le_of_ble_eq_true rfl⟩) ⟨fun a U g mk q => ⟨q.1, s_pc rfl rfl q.2⟩, fun U hU hW => ⟨rfl, s_pw hU hW hP hK hD hN⟩⟩ rfl rfl hl.1 rfl (lv_room (Nat.le_of_ble_eq_true rfl)) dX7_isAsked_25 ⟨Nat.zero_le _, Nat.zero_le _⟩) hS (fun q _ h => h) (fun q h => h) (fun r22 F23 t H1 locs ht hvm hw hB hz1 hk1 hS => ?_)
        obtain ⟨hP, hK1⟩ := hB
        rw [ht] at hP
        generalize H1 = H at hP hS ⊢
        obtain ⟨h24, h26, hG9, h25⟩ := hw
        rw [hG9] at hP
        have h25 : (0 ≤ r22.toInt ∧ r22.toInt < 32) := by have q9 := h25; exact q9
        refine lv_iload_n hx hb dX7_isAsked_28 rfl (lv_at hl 2 rfl) ?_
        refine lv_icmp_ne (tgt := 34) hx hb dX7_isAsked_29 (by decide) (fun c27 => ?_) (fun c27 => ?_)
        · have c27 := mt Int32.toInt_inj.symm.mpr c27
          exact K34 _ _ _ ⟨F5, _, rfl, lv_sub hl [0, 1, 2, 3] rfl, hP, hS, hI, hfr, (fun k hk => (y_fiZ oY6 (s_sub (by decide) hk)).trans (hz0 k hk)), ⟨by omega, by omega⟩, ⟨by omega, by omega⟩⟩
        · have c27 := Int32.toInt_inj.symm.mp c27
          refine lv_iconst (v := 1) hx hb dX7_isAsked_32 (by decide) ?_
          have h28 : (1 : Int32).toInt = 1 := by decide
          exact W.zret (v := 1) (ty := .boolean) hx hb hr (by decide) (fun t ht hW => ⟨⟨1, F5, rfl, ⟨(by decide), trivial, hI, hfr, fun k hk => (y_fiZ oY6 (s_sub (by decide) hk)).trans ((hz0 k hk).trans (y_fiZ oY0 (s_sub (by decide) hk)).symm), trivial⟩, by rw [ht]; exact hP, va_K.moved hW.alike hK⟩, hS.F ht⟩) hS.2.2 dX7_isAsked_33
  · intro g H locs hq
    obtain ⟨F31, ls, rfl, hl, hP, hS, hI, hfr, hz0, h29, h30⟩ := hq
    have oY32 : F31 a0 = .inr (7, y_fl A z0 q0) := (hfr _ (by rw [ha0]; decide)).trans oY0
    have hz0 : ∀ k, k ∈ ([1, 2, 3, 4, 5, 6, 7, 8, 11, 15, 16, 19, 25, 26, 27, 31, 32] : List Nat) → z0 k = z0 k := fun _ _ => rfl
    obtain ⟨v33, ev33⟩ : ∃ y : Int32, w1 + 1 = y := ⟨_, rfl⟩
    have qv33 : v33.toInt = w1.toInt + 1 := by rw [← ev33]; exact th_add rfl (by decide) ⟨by omega, by omega⟩
    refine lv_iinc (v := v33) (lv' := [(3, .int v33), (0, .ref a0), (1, .int x1), (2, .int x2)]) hx hb dX7_isAsked_34 hl (k := 3) rfl ev33 (by decide) rfl (fun ls hl => ?_)
    refine lv_goto (tgt := 2) hx hb dX7_isAsked_37 (by decide) ?_
    exact ih2 _ _ _ _ (by omega) ⟨F31, _, v33, rfl, lv_sub hl [1, 2, 3, 0] rfl, hP, hS, hI, hfr, (fun k hk => (y_fiZ oY32 (s_sub (by decide) hk)).trans (hz0 k hk)), ⟨by omega, by omega⟩, ⟨by omega, by omega⟩, rfl⟩
