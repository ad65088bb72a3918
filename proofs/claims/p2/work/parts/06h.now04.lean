set_option maxHeartbeats 4000000 in
set_option maxRecDepth 100000 in
theorem y_X7_reads (l : Launch) (dC : Nat → ClassId) (dI : Nat → Nat → Nat) (sz : Nat) {L : List Nat} {K : Nat → Nat} {cs : Nat → ClassId} (hLK : ∀ a {k : Nat}, K a = k → k ≠ 0 → a ∈ L) (A : Nat → Nat) (hA : y_A K A) (F : Nat → va_E) (a0 : Nat) (x1 : Int32) (x2 : Int32) (x3 : Int32) (ha0 : K a0 = 9) (hx1 : 0 ≤ x1.toInt ∧ x1.toInt ≤ 3) (hx2 : 0 ≤ x2.toInt ∧ x2.toInt ≤ 39) (hI : y_I K cs A F) (hPG : y_PG (y_at F (A 13))) (hln : (x2.toInt < (y_c (y_at F (A 13)) 387).toInt)) : Met l yX7_reads (Cond.code yX7_reads cX7_reads 6 none :: T0) ({ frames := 3, cells := 0, slots := 0, locals := 64 }) (va_Pc [.ref a0, .int x1, .int x2, .int x3] (s_W dC dI sz L F [(cs 0, .int), (cs 1, .byte), (cs 2, .long), (cs 3, .object RX5), (cs 4, .object RX4), (cs 5, .array .int), (cs 6, .char), (cs 7, .boolean)])) (va_Qv (fun (G : Nat → va_E) => True ∧ True ∧ y_I K cs A G ∧ (∀ b, K b ∉ [71, 72] → G b = F b) ∧ (∀ k, k ∈ ([1, 2, 3, 4, 5, 6, 7, 8, 11, 15, 16, 19, 25, 26, 27, 31, 32] : List Nat) → y_fi G a0 k = y_fi F a0 k) ∧ True) (fun (G : Nat → va_E) (t : State) => va_P (dC, dI) vwCl (va_pl L G) t.heap ∧ va_K (dC, dI) vwCl [(cs 0, .int), (cs 1, .byte), (cs 2, .long), (cs 3, .object RX5), (cs 4, .object RX4), (cs 5, .array .int), (cs 6, .char), (cs 7, .boolean)] t) (fun q => q ∈ L)) 0 0 (fun q => q ∈ L) := by
  refine Met.ofW (cc := cX7_reads) (maxL := 6) (ret := none) (by decide) rfl ?_
  intro p e s m args below meth c s₁ B hml hv
  obtain ⟨rfl, hsz, hP, hK, hD, hN⟩ := hv
  have hx := B.exec
  have hb := B.bytes
  have hr := B.returns
  have hts : ∀ w ∈ T0, w.before _ s = true := fun w h => atoms_spec (ws := Cond.code yX7_reads cX7_reads 6 none :: T0) B.pre w (List.mem_cons_of_mem _ h)
  have hown : s.vm.findClass RX7 = some m.cls := findClass_of_methodNamed B.named
  have hlocks := B.notSynchronized
  have hS : va_S (fun q => q ∈ L) s.heap s.heap [] := va_S.rf
  have hfr : ∀ b, K b ∉ [71, 72] → F b = F b := fun _ _ => rfl
  have hl := lv_entry ([.ref a0, .int x1, .int x2, .int x3]) (n := 6) (Nat.le_of_ble_eq_true rfl)
  rw [lg_entry_eq]
  generalize (lg_sl ([.ref a0, .int x1, .int x2, .int x3]) ++ List.replicate (6 - (lg_sl ([.ref a0, .int x1, .int x2, .int x3])).length) Slot.unset).toArray = ls at hl ⊢
  have hl : lv_has ls 6 [(0, .ref a0), (1, .int x1), (2, .int x2), (3, .int x3)] := hl
  refine s_gen hP hS (fun H locs hP hS => ?_)
  obtain ⟨z0, q0, oY0, bz0, bq0⟩ := y_opY hI ha0
  have hz0 : ∀ k, k ∈ ([1, 2, 3, 4, 5, 6, 7, 8, 11, 15, 16, 19, 25, 26, 27, 31, 32] : List Nat) → z0 k = z0 k := fun _ _ => rfl
  obtain ⟨f1, o2, b3⟩ := y_op13 hI
  replace hPG : y_PG f1 := by have q9 := hPG; rw [y_atE o2] at q9; exact q9
  replace hln : (x2.toInt < (y_c f1 387).toInt) := by have q9 := hln; rw [y_atE o2] at q9; exact q9
  have hL := y_P0L hPG.1
  have hW := y_P0W hPG.1
  have hrg := hPG.1.1.1 x2.toInt (by omega) (by omega)
  unfold y_rg at hrg
  refine lv_aload_n hx hb dX7_reads_0 rfl (lv_at hl 0 rfl) ?_
  refine lv_iload_n hx hb dX7_reads_1 rfl (lv_at hl 2 rfl) ?_
  refine lv_iconst (v := 0) hx hb dX7_reads_2 (by decide) ?_
  have rg4 : 0 ≤ x2.toInt ∧ x2.toInt ≤ 40 := ⟨by omega, by omega⟩
  refine va_calli (va_runV (As := [.int x2, .int 0]) (rest := []) ⟨hx, hb, hml, hown, hts⟩ (y_X7_of l dC dI H.size hLK A hA F a0 x2 0 ha0 rg4 (by decide) hI) (cwV 2 hts (ax_gV T_1131 T_1133 T_1134 T_265 T_1132) rfl rfl rfl (by decide +kernel) ⟨Nat.le_of_ble_eq_true rfl, Nat.le_of_ble_eq_true rfl⟩) ⟨fun a U g mk q => ⟨q.1, s_pc (U := U) rfl rfl q.2⟩, s_recv hK hP (hLK _ ha0 (by decide)) (ci := 7) rfl oY0, fun U hU hW => ⟨rfl, s_pw hU hW hP hK hD hN⟩⟩ rfl rfl hl.1 rfl (lv_room (Nat.le_of_ble_eq_true rfl)) dX7_reads_3 ⟨Nat.zero_le _, Nat.zero_le _⟩) hS (fun q _ h => h) (fun q h => h) (fun r6 F7 t H1 locs ht hvm hw hB hz1 hk1 hS => ?_)
  obtain ⟨hP, hK1⟩ := hB
  rw [ht] at hP
  generalize H1 = H at hP hS ⊢
  clear hz1 hk1 hvm hK1
  obtain ⟨h8, h10, hI, hfr1, hzf, h9⟩ := hw
  have o11 : F7 (A 13) = .inl (cs 0, 400, .inl f1) := (hfr1 _ (by rw [(y_k13 hA)]; decide)).trans o2
  have oY12 : F7 a0 = .inr (7, y_fl A z0 q0) := (hfr1 _ (by rw [ha0]; decide)).trans oY0
  have hfr : ∀ b, K b ∉ [71, 72] → F7 b = F b := fun b hb9 => (hfr1 b (fun q => hb9 (s_sub (by decide) q))).trans (hfr b hb9)
  replace h9 : (r6 = y_c f1 (8 * x2.toInt + 0)) := by have q9 := h9; rw [y_atE o2] at q9; exact q9
  have h9 : r6 = y_c f1 (8 * x2.toInt) := h9.trans (congrArg (y_c f1) (by omega))
  have h13 := congrArg Int32.toInt h9
  have h14 : 0 ≤ r6.toInt ∧ r6.toInt ≤ 15 := by have q9 := congrArg Int32.toInt h9; exact ⟨by omega, by omega⟩
  refine lv_istore (lv' := [(4, .int r6), (0, .ref a0), (1, .int x1), (2, .int x2), (3, .int x3)]) hx hb dX7_reads_6 hl (by decide) rfl (fun ls hl => ?_)
  refine lv_iconst (v := 0) hx hb dX7_reads_8 (by decide) ?_
  refine lv_istore (lv' := [(5, .int 0), (4, .int r6), (0, .ref a0), (1, .int x1), (2, .int x2), (3, .int x3)]) hx hb dX7_reads_9 hl (by decide) rfl (fun ls hl => ?_)
  have h16 : (0 : Int32).toInt = 0 := by decide
  refine th_loop (fun n g H locs => ∃ (G : Nat → va_E) (ls : Array Slot) (w15 : Int32), g = F0 m 11 ls [] ∧ lv_has ls 6 [(0, .ref a0), (1, .int x1), (2, .int x2), (3, .int x3), (4, .int r6), (5, .int w15)] ∧ va_P (dC, dI) vwCl (va_pl L G) H ∧ va_S (fun q => q ∈ L) s.heap H locs ∧ y_I K cs A G ∧ (∀ b, K b ∉ [71, 72] → G b = F b) ∧ (∀ k, k ∈ ([1, 2, 3, 4, 5, 6, 7, 8, 11, 15, 16, 19, 25, 26, 27, 31, 32] : List Nat) → y_fi G a0 k = z0 k) ∧ (0 ≤ w15.toInt ∧ w15.toInt ≤ 8) ∧ (0 ≤ x1.toInt ∧ x1.toInt ≤ 3) ∧ (0 ≤ x2.toInt ∧ x2.toInt ≤ 39) ∧ (0 ≤ r6.toInt ∧ r6.toInt ≤ 15) ∧ (r6.toInt = (y_c f1 (8 * x2.toInt)).toInt) ∧ n = (9 - w15.toInt).toNat) _ ⟨F7, _, 0, rfl, lv_sub hl [2, 3, 4, 5, 1, 0] rfl, hP, hS, hI, hfr, (fun k hk => (y_fiZ oY12 (s_sub (by decide) hk)).trans (hz0 k hk)), (by decide), ⟨by omega, by omega⟩, ⟨by omega, by omega⟩, ⟨by omega, by omega⟩, (by omega), rfl⟩ (fun n ih11 g H locs hq => ?_)
  obtain ⟨F22, ls, w15, rfl, hl, hP, hS, hI, hfr, hz0, h17, h18, h19, h20, h21, hn⟩ := hq
  have o23 : F22 (A 13) = .inl (cs 0, 400, .inl f1) := (hfr _ (by rw [(y_k13 hA)]; decide)).trans o2
  have oY24 : F22 a0 = .inr (7, y_fl A z0 q0) := (hfr _ (by rw [ha0]; decide)).trans oY0
  have hz0 : ∀ k, k ∈ ([1, 2, 3, 4, 5, 6, 7, 8, 11, 15, 16, 19, 25, 26, 27, 31, 32] : List Nat) → z0 k = z0 k := fun _ _ => rfl
  have hn_24 := hn
  refine th_join (fun g H locs => ∃ (G : Nat → va_E) (ls : Array Slot), g = F0 m 111 ls [] ∧ lv_has ls 6 [(0, .ref a0), (1, .int x1), (2, .int x2), (3, .int x3), (4, .int r6), (5, .int w15)] ∧ va_P (dC, dI) vwCl (va_pl L G) H ∧ va_S (fun q => q ∈ L) s.heap H locs ∧ y_I K cs A G ∧ (∀ b, K b ∉ [71, 72] → G b = F b) ∧ (∀ k, k ∈ ([1, 2, 3, 4, 5, 6, 7, 8, 11, 15, 16, 19, 25, 26, 27, 31, 32] : List Nat) → y_fi G a0 k = z0 k) ∧ (0 ≤ x1.toInt ∧ x1.toInt ≤ 3) ∧ (0 ≤ x2.toInt ∧ x2.toInt ≤ 39) ∧ (0 ≤ r6.toInt ∧ r6.toInt ≤ 15) ∧ (0 ≤ w15.toInt ∧ w15.toInt ≤ 7) ∧ (r6.toInt = (y_c f1 (8 * x2.toInt)).toInt)) (fun K111 => ?_) ?_
  refine th_join (fun g H locs => ∃ (G : Nat → va_E) (ls : Array Slot) (w25 : Int32) (w26 : Int32), g = F0 m 110 ls [.int w25, .int w26, .ref (A 22)] ∧ lv_has ls 6 [(0, .ref a0), (1, .int x1), (2, .int x2), (3, .int x3), (4, .int r6), (5, .int w15)] ∧ va_P (dC, dI) vwCl (va_pl L G) H ∧ va_S (fun q => q ∈ L) s.heap H locs ∧ y_I K cs A G ∧ (∀ b, K b ∉ [71, 72] → G b = F b) ∧ (∀ k, k ∈ ([1, 2, 3, 4, 5, 6, 7, 8, 11, 15, 16, 19, 25, 26, 27, 31, 32] : List Nat) → y_fi G a0 k = z0 k) ∧ True ∧ (0 ≤ w26.toInt ∧ w26.toInt ≤ 7) ∧ (0 ≤ x1.toInt ∧ x1.toInt ≤ 3) ∧ (0 ≤ x2.toInt ∧ x2.toInt ≤ 39) ∧ (0 ≤ r6.toInt ∧ r6.toInt ≤ 15) ∧ (0 ≤ w15.toInt ∧ w15.toInt ≤ 7) ∧ (r6.toInt = (y_c f1 (8 * x2.toInt)).toInt)) (fun K110 => ?_) ?_
  refine th_join (fun g H locs => ∃ (G : Nat → va_E) (ls : Array Slot) (w27 : Int32) (w28 : Int32), g = F0 m 69 ls [.int w27, .int w28, .ref (A 21)] ∧ lv_has ls 6 [(0, .ref a0), (1, .int x1), (2, .int x2), (3, .int x3), (4, .int r6), (5, .int w15)] ∧ va_P (dC, dI) vwCl (va_pl L G) H ∧ va_S (fun q => q ∈ L) s.heap H locs ∧ y_I K cs A G ∧ (∀ b, K b ∉ [71, 72] → G b = F b) ∧ (∀ k, k ∈ ([1, 2, 3, 4, 5, 6, 7, 8, 11, 15, 16, 19, 25, 26, 27, 31, 32] : List Nat) → y_fi G a0 k = z0 k) ∧ True ∧ (0 ≤ w28.toInt ∧ w28.toInt ≤ 7) ∧ (0 ≤ x1.toInt ∧ x1.toInt ≤ 3) ∧ (0 ≤ x2.toInt ∧ x2.toInt ≤ 39) ∧ (0 ≤ r6.toInt ∧ r6.toInt ≤ 15) ∧ (0 ≤ w15.toInt ∧ w15.toInt ≤ 7) ∧ (r6.toInt = (y_c f1 (8 * x2.toInt)).toInt)) (fun K69 => ?_) ?_
  · refine lv_iload hx hb dX7_reads_11 (lv_at hl 5 rfl) ?_
    refine lv_bipush (v := 8) hx hb dX7_reads_13 (by decide) ?_
    refine lv_icmp_ge (tgt := 117) hx hb dX7_reads_15 (by decide) (fun c29 => ?_) (fun c29 => ?_)
    · have c29 := (ax_ge (n := 8) (by decide)).mp c29
      exact W.vret hx hb hr (fun t ht hW => ⟨⟨F22, rfl, ⟨trivial, trivial, hI, hfr, fun k hk => (y_fiZ oY24 (s_sub (by decide) hk)).trans ((hz0 k hk).trans (y_fiZ oY0 (s_sub (by decide) hk)).symm), trivial⟩, by rw [ht]; exact hP, va_K.moved hW.alike hK⟩, hS.F ht⟩) hS.2.2 dX7_reads_117
    · have c29 := mt (ax_ge (n := 8) (by decide)).mpr c29
      refine lv_iload_n hx hb dX7_reads_18 rfl (lv_at hl 3 rfl) ?_
      refine lv_iload hx hb dX7_reads_19 (lv_at hl 5 rfl) ?_
      have rg30 : 0 ≤ w15.toInt ∧ w15.toInt ≤ 31 := ⟨by omega, by omega⟩
      refine va_calli (va_runS (As := [.int x3, .int w15]) (rest := []) ⟨hx, hb, hml, hown, hts⟩ (y_X7_isOf l dC dI H.size F22 x3 w15 rg30) (cwS 2 hts (ax_gS T_1027 T_1029 T_265 T_1028) rfl rfl rfl (by decide +kernel) ⟨Nat.le_of_ble_eq_true rfl, Nat.le_of_ble_eq_true rfl⟩) ⟨fun a U g mk q => ⟨q.1, s_pc (U := U) rfl rfl q.2⟩, fun U hU hW => ⟨rfl, s_pw hU hW hP hK hD hN⟩⟩ rfl rfl hl.1 rfl (lv_room (Nat.le_of_ble_eq_true rfl)) dX7_reads_21 ⟨Nat.zero_le _, Nat.zero_le _⟩) hS (fun q _ h => h) (fun q h => h) (fun r32 F33 t H1 locs ht hvm hw hB hz1 hk1 hS => ?_)
      obtain ⟨hP, hK1⟩ := hB
      rw [ht] at hP
      generalize H1 = H at hP hS ⊢
      clear hz1 hk1 hvm hK1
      obtain ⟨h34, h36, hG9, h35⟩ := hw
      rw [hG9] at hP
      replace h35 : ((r32.toInt = 1 ∧ bt x3 w15.toInt.toNat = true) ∨ (r32.toInt = 0 ∧ bt x3 w15.toInt.toNat = false)) := by have q9 := h35; exact q9
      refine lv_if_ne (tgt := 30) hx hb dX7_reads_24 (by decide) (fun c37 => ?_) (fun c37 => ?_)
      · have c37 := mt (ax_eq (n := 0) (by decide)).mpr c37
        refine lv_aload_n hx hb dX7_reads_30 rfl (lv_at hl 0 rfl) ?_
        refine th_get (D := (dC, dI)) (ci := 7) (v := .ref (A 21)) (C := RX7) (T := TX7) (N := 34) hx hb hts inX7 hown hK hP (hLK _ ha0 (by decide)) oY24 rfl 21 (by decide) (hts _ T_252) (fun _ h9 => h9) rfl dX7_reads_31 ?_
        refine lv_iload hx hb dX7_reads_34 (lv_at hl 5 rfl) ?_
        refine lv_iload hx hb dX7_reads_36 (lv_at hl 4 rfl) ?_
        have rg38 : 0 ≤ r6.toInt ∧ r6.toInt ≤ 15 := ⟨by omega, by omega⟩
        refine va_calli (va_runS (As := [.int r6]) (rest := [.int w15, .ref (A 21)]) ⟨hx, hb, hml, hown, hts⟩ (y_X7_hasFirst l dC dI H.size F22 r6 rg38) (cwS 1 hts (ax_gS T_1298 T_1300 T_265 T_1299) rfl rfl rfl (by decide +kernel) ⟨Nat.le_of_ble_eq_true rfl, Nat.le_of_ble_eq_true rfl⟩) ⟨fun a U g mk q => ⟨q.1, s_pc (U := U) rfl rfl q.2⟩, fun U hU hW => ⟨rfl, s_pw hU hW hP hK hD hN⟩⟩ rfl rfl hl.1 rfl (lv_room (Nat.le_of_ble_eq_true rfl)) dX7_reads_38 ⟨Nat.zero_le _, Nat.zero_le _⟩) hS (fun q _ h => h) (fun q h => h) (fun r40 F41 t H1 locs ht hvm hw hB hz1 hk1 hS => ?_)
        obtain ⟨hP, hK1⟩ := hB
        rw [ht] at hP
        generalize H1 = H at hP hS ⊢
        clear hz1 hk1 hvm hK1
        obtain ⟨h42, h44, hG9, h43⟩ := hw
        rw [hG9] at hP
        replace h43 : ((r40.toInt = 1 ∧ ¬ (r6.toInt = 5 ∨ r6.toInt = 6 ∨ 12 ≤ r6.toInt)) ∨ (r40.toInt = 0 ∧ (r6.toInt = 5 ∨ r6.toInt = 6 ∨ 12 ≤ r6.toInt))) := by have q9 := h43; exact q9
        refine lv_if_ne (tgt := 52) hx hb dX7_reads_41 (by decide) (fun c45 => ?_) (fun c45 => ?_)
        · have c45 := mt (ax_eq (n := 0) (by decide)).mpr c45
          refine lv_aload_n hx hb dX7_reads_52 rfl (lv_at hl 0 rfl) ?_
          refine lv_iload_n hx hb dX7_reads_53 rfl (lv_at hl 1 rfl) ?_
          refine lv_iload hx hb dX7_reads_54 (lv_at hl 5 rfl) ?_
          refine lv_aload_n hx hb dX7_reads_56 rfl (lv_at hl 0 rfl) ?_
          refine lv_iload_n hx hb dX7_reads_57 rfl (lv_at hl 2 rfl) ?_
          refine lv_iconst (v := 2) hx hb dX7_reads_58 (by decide) ?_
          refine va_calli (va_runV (As := [.int x2, .int 2]) (rest := [.int w15, .int x1, .ref a0, .int w15, .ref (A 21)]) ⟨hx, hb, hml, hown, hts⟩ (y_X7_of l dC dI H.size hLK A hA F22 a0 x2 2 ha0 rg4 (by decide) hI) (cwV 2 hts (ax_gV T_1131 T_1133 T_1134 T_265 T_1132) rfl rfl rfl (by decide +kernel) ⟨Nat.le_of_ble_eq_true rfl, Nat.le_of_ble_eq_true rfl⟩) ⟨fun a U g mk q => ⟨q.1, s_pc (U := U) rfl rfl q.2⟩, s_recv hK hP (hLK _ ha0 (by decide)) (ci := 7) rfl oY24, fun U hU hW => ⟨rfl, s_pw hU hW hP hK hD hN⟩⟩ rfl rfl hl.1 rfl (lv_room (Nat.le_of_ble_eq_true rfl)) dX7_reads_59 ⟨Nat.zero_le _, Nat.zero_le _⟩) hS (fun q _ h => h) (fun q h => h) (fun r47 F48 t H1 locs ht hvm hw hB hz1 hk1 hS => ?_)
          obtain ⟨hP, hK1⟩ := hB
          rw [ht] at hP
          generalize H1 = H at hP hS ⊢
          clear hz1 hk1 hvm hK1
          obtain ⟨h49, h51, hI, hfr1, hzf, h50⟩ := hw
          have o52 : F48 (A 13) = .inl (cs 0, 400, .inl f1) := (hfr1 _ (by rw [(y_k13 hA)]; decide)).trans o23
          have oY53 : F48 a0 = .inr (7, y_fl A z0 q0) := (hfr1 _ (by rw [ha0]; decide)).trans oY24
          have hfr : ∀ b, K b ∉ [71, 72] → F48 b = F b := fun b hb9 => (hfr1 b (fun q => hb9 (s_sub (by decide) q))).trans (hfr b hb9)
          replace h50 : (r47 = y_c f1 (8 * x2.toInt + 2)) := by have q9 := h50; rw [y_atE o23] at q9; exact q9
          have h50 : r47 = y_c f1 (8 * x2.toInt + 2) := h50.trans (congrArg (y_c f1) (by omega))
          have h54 := congrArg Int32.toInt h50
          have rg55 : 0 ≤ x1.toInt ∧ x1.toInt ≤ 3 := ⟨by omega, by omega⟩
          have rg56 : 0 ≤ w15.toInt ∧ w15.toInt ≤ 7 := ⟨by omega, by omega⟩
          refine va_calli (va_runV (As := [.int x1, .int w15, .int r47]) (rest := [.int w15, .ref (A 21)]) ⟨hx, hb, hml, hown, hts⟩ (y_X7_partOf l dC dI H.size hLK A hA F48 a0 x1 w15 r47 ha0 rg55 rg56 hI (by omega)) (cwV 3 hts (ax_gV T_1301 T_1303 T_1304 T_265 T_1302) rfl rfl rfl (by decide +kernel) ⟨Nat.le_of_ble_eq_true rfl, Nat.le_of_ble_eq_true rfl⟩) ⟨fun a U g mk q => ⟨q.1, s_pc (U := U) rfl rfl q.2⟩, s_recv hK hP (hLK _ ha0 (by decide)) (ci := 7) rfl oY53, fun U hU hW => ⟨rfl, s_pw hU hW hP hK hD hN⟩⟩ rfl rfl hl.1 rfl (lv_room (Nat.le_of_ble_eq_true rfl)) dX7_reads_62 ⟨Nat.zero_le _, Nat.zero_le _⟩) hS (fun q _ h => h) (fun q h => h) (fun r58 F59 t H1 locs ht hvm hw hB hz1 hk1 hS => ?_)
          obtain ⟨hP, hK1⟩ := hB
          rw [ht] at hP
          generalize H1 = H at hP hS ⊢
          clear hz1 hk1 hvm hK1
          obtain ⟨h60, h62, hI, hfr1, hzf, h61⟩ := hw
          have o63 : F59 (A 13) = .inl (cs 0, 400, .inl f1) := (hfr1 _ (by rw [(y_k13 hA)]; decide)).trans o52
          have oY64 : F59 a0 = .inr (7, y_fl A z0 q0) := (hfr1 _ (by rw [ha0]; decide)).trans oY53
          have hfr : ∀ b, K b ∉ [71, 72] → F59 b = F b := fun b hb9 => (hfr1 b (fun q => hb9 (s_sub (by decide) q))).trans (hfr b hb9)
          refine lv_goto (tgt := 69) hx hb dX7_reads_65 (by decide) ?_
          exact K69 _ _ _ ⟨F59, _, r58, w15, rfl, lv_sub hl [0, 1, 2, 3, 4, 5] rfl, hP, hS, hI, hfr, (fun k hk => (y_fiZ oY64 (s_sub (by decide) hk)).trans (hz0 k hk)), trivial, ⟨by omega, by omega⟩, ⟨by omega, by omega⟩, ⟨by omega, by omega⟩, ⟨by omega, by omega⟩, ⟨by omega, by omega⟩, (by omega)⟩
        · have c45 := (ax_eq (n := 0) (by decide)).mp c45
          refine lv_aload_n hx hb dX7_reads_44 rfl (lv_at hl 0 rfl) ?_
          refine lv_iload_n hx hb dX7_reads_45 rfl (lv_at hl 2 rfl) ?_
          refine va_calli (va_runV (As := [.int x2]) (rest := [.int w15, .ref (A 21)]) ⟨hx, hb, hml, hown, hts⟩ (y_X7_isFork l dC dI H.size hLK A hA F22 a0 x2 ha0 rg4 hI) (cwV 1 hts (ax_gV T_1179 T_1181 T_1182 T_265 T_1180) rfl rfl rfl (by decide +kernel) ⟨Nat.le_of_ble_eq_true rfl, Nat.le_of_ble_eq_true rfl⟩) ⟨fun a U g mk q => ⟨q.1, s_pc (U := U) rfl rfl q.2⟩, s_recv hK hP (hLK _ ha0 (by decide)) (ci := 7) rfl oY24, fun U hU hW => ⟨rfl, s_pw hU hW hP hK hD hN⟩⟩ rfl rfl hl.1 rfl (lv_room (Nat.le_of_ble_eq_true rfl)) dX7_reads_46 ⟨Nat.zero_le _, Nat.zero_le _⟩) hS (fun q _ h => h) (fun q h => h) (fun r66 F67 t H1 locs ht hvm hw hB hz1 hk1 hS => ?_)
          obtain ⟨hP, hK1⟩ := hB
          rw [ht] at hP
          generalize H1 = H at hP hS ⊢
          clear hz1 hk1 hvm hK1
          obtain ⟨h68, h70, hI, hfr1, hzf, h69⟩ := hw
          have o71 : F67 (A 13) = .inl (cs 0, 400, .inl f1) := (hfr1 _ (by rw [(y_k13 hA)]; decide)).trans o23
          have oY72 : F67 a0 = .inr (7, y_fl A z0 q0) := (hfr1 _ (by rw [ha0]; decide)).trans oY24
          have hfr : ∀ b, K b ∉ [71, 72] → F67 b = F b := fun b hb9 => (hfr1 b (fun q => hb9 (s_sub (by decide) q))).trans (hfr b hb9)
          replace h69 : ((r66.toInt = 1 ∧ (y_c f1 (8 * x2.toInt)).toInt = 12 ∧ ¬ (y_c f1 (8 * x2.toInt + 5)).toInt = -1000000) ∨ (r66.toInt = 0 ∧ (¬ (y_c f1 (8 * x2.toInt)).toInt = 12 ∨ (y_c f1 (8 * x2.toInt + 5)).toInt = -1000000))) := by have q9 := h69; rw [y_atE o23] at q9; exact q9
          refine lv_if_eq (tgt := 68) hx hb dX7_reads_49 (by decide) (fun c73 => ?_) (fun c73 => ?_)
          · have c73 := (ax_eq (n := 0) (by decide)).mp c73
            refine lv_iconst (v := 0) hx hb dX7_reads_68 (by decide) ?_
            have h74 : (0 : Int32).toInt = 0 := by decide
            exact K69 _ _ _ ⟨F67, _, 0, w15, rfl, lv_sub hl [0, 1, 2, 3, 4, 5] rfl, hP, hS, hI, hfr, (fun k hk => (y_fiZ oY72 (s_sub (by decide) hk)).trans (hz0 k hk)), trivial, ⟨by omega, by omega⟩, ⟨by omega, by omega⟩, ⟨by omega, by omega⟩, ⟨by omega, by omega⟩, ⟨by omega, by omega⟩, (by omega)⟩
          · have c73 := mt (ax_eq (n := 0) (by decide)).mpr c73
            refine lv_aload_n hx hb dX7_reads_52 rfl (lv_at hl 0 rfl) ?_
            refine lv_iload_n hx hb dX7_reads_53 rfl (lv_at hl 1 rfl) ?_
            refine lv_iload hx hb dX7_reads_54 (lv_at hl 5 rfl) ?_
            refine lv_aload_n hx hb dX7_reads_56 rfl (lv_at hl 0 rfl) ?_
            refine lv_iload_n hx hb dX7_reads_57 rfl (lv_at hl 2 rfl) ?_
            refine lv_iconst (v := 2) hx hb dX7_reads_58 (by decide) ?_
            refine va_calli (va_runV (As := [.int x2, .int 2]) (rest := [.int w15, .int x1, .ref a0, .int w15, .ref (A 21)]) ⟨hx, hb, hml, hown, hts⟩ (y_X7_of l dC dI H.size hLK A hA F67 a0 x2 2 ha0 rg4 (by decide) hI) (cwV 2 hts (ax_gV T_1131 T_1133 T_1134 T_265 T_1132) rfl rfl rfl (by decide +kernel) ⟨Nat.le_of_ble_eq_true rfl, Nat.le_of_ble_eq_true rfl⟩) ⟨fun a U g mk q => ⟨q.1, s_pc (U := U) rfl rfl q.2⟩, s_recv hK hP (hLK _ ha0 (by decide)) (ci := 7) rfl oY72, fun U hU hW => ⟨rfl, s_pw hU hW hP hK hD hN⟩⟩ rfl rfl hl.1 rfl (lv_room (Nat.le_of_ble_eq_true rfl)) dX7_reads_59 ⟨Nat.zero_le _, Nat.zero_le _⟩) hS (fun q _ h => h) (fun q h => h) (fun r76 F77 t H1 locs ht hvm hw hB hz1 hk1 hS => ?_)
            obtain ⟨hP, hK1⟩ := hB
            rw [ht] at hP
            generalize H1 = H at hP hS ⊢
            clear hz1 hk1 hvm hK1
            obtain ⟨h78, h80, hI, hfr1, hzf, h79⟩ := hw
            have o81 : F77 (A 13) = .inl (cs 0, 400, .inl f1) := (hfr1 _ (by rw [(y_k13 hA)]; decide)).trans o71
            have oY82 : F77 a0 = .inr (7, y_fl A z0 q0) := (hfr1 _ (by rw [ha0]; decide)).trans oY72
            have hfr : ∀ b, K b ∉ [71, 72] → F77 b = F b := fun b hb9 => (hfr1 b (fun q => hb9 (s_sub (by decide) q))).trans (hfr b hb9)
            replace h79 : (r76 = y_c f1 (8 * x2.toInt + 2)) := by have q9 := h79; rw [y_atE o71] at q9; exact q9
            have h79 : r76 = y_c f1 (8 * x2.toInt + 2) := h79.trans (congrArg (y_c f1) (by omega))
            have h83 := congrArg Int32.toInt h79
            have rg84 : 0 ≤ x1.toInt ∧ x1.toInt ≤ 3 := ⟨by omega, by omega⟩
            have rg85 : 0 ≤ w15.toInt ∧ w15.toInt ≤ 7 := ⟨by omega, by omega⟩
            refine va_calli (va_runV (As := [.int x1, .int w15, .int r76]) (rest := [.int w15, .ref (A 21)]) ⟨hx, hb, hml, hown, hts⟩ (y_X7_partOf l dC dI H.size hLK A hA F77 a0 x1 w15 r76 ha0 rg84 rg85 hI (by omega)) (cwV 3 hts (ax_gV T_1301 T_1303 T_1304 T_265 T_1302) rfl rfl rfl (by decide +kernel) ⟨Nat.le_of_ble_eq_true rfl, Nat.le_of_ble_eq_true rfl⟩) ⟨fun a U g mk q => ⟨q.1, s_pc (U := U) rfl rfl q.2⟩, s_recv hK hP (hLK _ ha0 (by decide)) (ci := 7) rfl oY82, fun U hU hW => ⟨rfl, s_pw hU hW hP hK hD hN⟩⟩ rfl rfl hl.1 rfl (lv_room (Nat.le_of_ble_eq_true rfl)) dX7_reads_62 ⟨Nat.zero_le _, Nat.zero_le _⟩) hS (fun q _ h => h) (fun q h => h) (fun r87 F88 t H1 locs ht hvm hw hB hz1 hk1 hS => ?_)
            obtain ⟨hP, hK1⟩ := hB
            rw [ht] at hP
            generalize H1 = H at hP hS ⊢
            clear hz1 hk1 hvm hK1
            obtain ⟨h89, h91, hI, hfr1, hzf, h90⟩ := hw
            have o92 : F88 (A 13) = .inl (cs 0, 400, .inl f1) := (hfr1 _ (by rw [(y_k13 hA)]; decide)).trans o81
            have oY93 : F88 a0 = .inr (7, y_fl A z0 q0) := (hfr1 _ (by rw [ha0]; decide)).trans oY82
            have hfr : ∀ b, K b ∉ [71, 72] → F88 b = F b := fun b hb9 => (hfr1 b (fun q => hb9 (s_sub (by decide) q))).trans (hfr b hb9)
            refine lv_goto (tgt := 69) hx hb dX7_reads_65 (by decide) ?_
            exact K69 _ _ _ ⟨F88, _, r87, w15, rfl, lv_sub hl [0, 1, 2, 3, 4, 5] rfl, hP, hS, hI, hfr, (fun k hk => (y_fiZ oY93 (s_sub (by decide) hk)).trans (hz0 k hk)), trivial, ⟨by omega, by omega⟩, ⟨by omega, by omega⟩, ⟨by omega, by omega⟩, ⟨by omega, by omega⟩, ⟨by omega, by omega⟩, (by omega)⟩
      · have c37 := (ax_eq (n := 0) (by decide)).mp c37
        refine lv_goto (tgt := 111) hx hb dX7_reads_27 (by decide) ?_
        exact K111 _ _ _ ⟨F22, _, rfl, lv_sub hl [0, 1, 2, 3, 4, 5] rfl, hP, hS, hI, hfr, (fun k hk => (y_fiZ oY24 (s_sub (by decide) hk)).trans (hz0 k hk)), ⟨by omega, by omega⟩, ⟨by omega, by omega⟩, ⟨by omega, by omega⟩, ⟨by omega, by omega⟩, (by omega)⟩
  · intro g H locs hq
    obtain ⟨F101, ls, w27, w28, rfl, hl, hP, hS, hI, hfr, hz0, h94, h95, h96, h97, h98, h99, h100⟩ := hq
    have o102 : F101 (A 13) = .inl (cs 0, 400, .inl f1) := (hfr _ (by rw [(y_k13 hA)]; decide)).trans o2
    have oY103 : F101 a0 = .inr (7, y_fl A z0 q0) := (hfr _ (by rw [ha0]; decide)).trans oY0
    have hz0 : ∀ k, k ∈ ([1, 2, 3, 4, 5, 6, 7, 8, 11, 15, 16, 19, 25, 26, 27, 31, 32] : List Nat) → z0 k = z0 k := fun _ _ => rfl
    obtain ⟨f104, o105, b106⟩ := y_op21 hI
    refine th_iast hx hb hK hP hD hS (hLK _ (y_k21 hA) (by decide)) 0 o105 rfl (th_in ⟨by omega, by omega⟩) dX7_reads_69 (fun H locs hP hS => ?_)
    obtain ⟨f107, u108⟩ : ∃ g : Nat → Int32, g = upd f104 (w28 : Int32).toNatClampNeg w27 := ⟨_, rfl⟩
    rw [← u108] at hP
    have b109 : y_bd 21 f107 := trivial
    have hP : va_P (dC, dI) vwCl (va_pl L (va_up F101 (A 21) (.inl (cs 0, 8, .inl f107)))) H := hP
    obtain ⟨F110, hF111⟩ : ∃ G : Nat → va_E, G = va_up F101 (A 21) (.inl (cs 0, 8, .inl f107)) := ⟨_, rfl⟩
    rw [← hF111] at hP
    have hI : y_I K cs A F110 := by rw [hF111]; exact y_clA (i := 21) hA hI (by decide) b109
    have hfr : ∀ b, K b ∉ [71, 72] → F110 b = F b := by rw [hF111]; exact s_fr hfr (y_k21 hA) (by decide)
    have o112 : F110 (A 13) = .inl (cs 0, 400, .inl f1) := by rw [hF111]; exact th_ne (th_kd (y_k13 hA) (y_k21 hA) (by decide)) o102
    have oY113 : F110 a0 = .inr (7, y_fl A z0 q0) := by rw [hF111]; exact th_ne (th_kd ha0 (y_k21 hA) (by decide)) oY103
    have o114 : F110 (A 21) = .inl (cs 0, 8, .inl f107) := by rw [hF111]; exact th_up
    have u115 : ∀ j : Int, 0 ≤ j → y_c f107 j = if j = w28.toInt then w27 else y_c f104 j := by rw [u108]; exact y_cu rfl (by omega)
    refine lv_aload_n hx hb dX7_reads_70 rfl (lv_at hl 0 rfl) ?_
    refine th_get (D := (dC, dI)) (ci := 7) (v := .ref (A 22)) (C := RX7) (T := TX7) (N := 34) hx hb hts inX7 hown hK hP (hLK _ ha0 (by decide)) oY113 rfl 22 (by decide) (hts _ T_253) (fun _ h9 => h9) rfl dX7_reads_71 ?_
    refine lv_iload hx hb dX7_reads_74 (lv_at hl 5 rfl) ?_
    refine lv_iload hx hb dX7_reads_76 (lv_at hl 4 rfl) ?_
    have rg116 : 0 ≤ r6.toInt ∧ r6.toInt ≤ 15 := ⟨by omega, by omega⟩
    refine va_calli (va_runS (As := [.int r6]) (rest := [.int w15, .ref (A 22)]) ⟨hx, hb, hml, hown, hts⟩ (y_X7_partsOf l dC dI H.size F110 r6 rg116) (cwS 1 hts (ax_gS T_1197 T_1199 T_265 T_1198) rfl rfl rfl (by decide +kernel) ⟨Nat.le_of_ble_eq_true rfl, Nat.le_of_ble_eq_true rfl⟩) ⟨fun a U g mk q => ⟨q.1, s_pc (U := U) rfl rfl q.2⟩, fun U hU hW => ⟨rfl, s_pw hU hW hP hK hD hN⟩⟩ rfl rfl hl.1 rfl (lv_room (Nat.le_of_ble_eq_true rfl)) dX7_reads_78 ⟨Nat.zero_le _, Nat.zero_le _⟩) hS (fun q _ h => h) (fun q h => h) (fun r118 F119 t H1 locs ht hvm hw hB hz1 hk1 hS => ?_)
    obtain ⟨hP, hK1⟩ := hB
    rw [ht] at hP
    generalize H1 = H at hP hS ⊢
    clear hz1 hk1 hvm hK1
    obtain ⟨h120, h122, hG9, h121⟩ := hw
    rw [hG9] at hP
    replace h121 : ((r118.toInt = 0 ∧ (r6.toInt = 5 ∨ r6.toInt = 6 ∨ 12 ≤ r6.toInt)) ∨ (r118.toInt = 1 ∧ (r6.toInt = 0 ∨ r6.toInt = 7 ∨ r6.toInt = 9 ∨ r6.toInt = 11)) ∨ (r118.toInt = 2 ∧ ((1 ≤ r6.toInt ∧ r6.toInt ≤ 4) ∨ r6.toInt = 8 ∨ r6.toInt = 10))) := by have q9 := h121; exact q9
    refine lv_iconst (v := 2) hx hb dX7_reads_81 (by decide) ?_
    refine lv_icmp_eq (tgt := 93) hx hb dX7_reads_82 (by decide) (fun c123 => ?_) (fun c123 => ?_)
    · have c123 := (ax_eq (n := 2) (by decide)).mp c123
      refine lv_aload_n hx hb dX7_reads_93 rfl (lv_at hl 0 rfl) ?_
      refine lv_iload_n hx hb dX7_reads_94 rfl (lv_at hl 1 rfl) ?_
      refine lv_iload hx hb dX7_reads_95 (lv_at hl 5 rfl) ?_
      refine lv_aload_n hx hb dX7_reads_97 rfl (lv_at hl 0 rfl) ?_
      refine lv_iload_n hx hb dX7_reads_98 rfl (lv_at hl 2 rfl) ?_
      refine lv_iconst (v := 3) hx hb dX7_reads_99 (by decide) ?_
      refine va_calli (va_runV (As := [.int x2, .int 3]) (rest := [.int w15, .int x1, .ref a0, .int w15, .ref (A 22)]) ⟨hx, hb, hml, hown, hts⟩ (y_X7_of l dC dI H.size hLK A hA F110 a0 x2 3 ha0 rg4 (by decide) hI) (cwV 2 hts (ax_gV T_1131 T_1133 T_1134 T_265 T_1132) rfl rfl rfl (by decide +kernel) ⟨Nat.le_of_ble_eq_true rfl, Nat.le_of_ble_eq_true rfl⟩) ⟨fun a U g mk q => ⟨q.1, s_pc (U := U) rfl rfl q.2⟩, s_recv hK hP (hLK _ ha0 (by decide)) (ci := 7) rfl oY113, fun U hU hW => ⟨rfl, s_pw hU hW hP hK hD hN⟩⟩ rfl rfl hl.1 rfl (lv_room (Nat.le_of_ble_eq_true rfl)) dX7_reads_100 ⟨Nat.zero_le _, Nat.zero_le _⟩) hS (fun q _ h => h) (fun q h => h) (fun r125 F126 t H1 locs ht hvm hw hB hz1 hk1 hS => ?_)
      obtain ⟨hP, hK1⟩ := hB
      rw [ht] at hP
      generalize H1 = H at hP hS ⊢
      clear hz1 hk1 hvm hK1
      obtain ⟨h127, h129, hI, hfr1, hzf, h128⟩ := hw
      have o130 : F126 (A 13) = .inl (cs 0, 400, .inl f1) := (hfr1 _ (by rw [(y_k13 hA)]; decide)).trans o112
      have o131 : F126 (A 21) = .inl (cs 0, 8, .inl f107) := (hfr1 _ (by rw [(y_k21 hA)]; decide)).trans o114
      have oY132 : F126 a0 = .inr (7, y_fl A z0 q0) := (hfr1 _ (by rw [ha0]; decide)).trans oY113
      have hfr : ∀ b, K b ∉ [71, 72] → F126 b = F b := fun b hb9 => (hfr1 b (fun q => hb9 (s_sub (by decide) q))).trans (hfr b hb9)
      replace h128 : (r125 = y_c f1 (8 * x2.toInt + 3)) := by have q9 := h128; rw [y_atE o112] at q9; exact q9
      have h128 : r125 = y_c f1 (8 * x2.toInt + 3) := h128.trans (congrArg (y_c f1) (by omega))
      have h133 := congrArg Int32.toInt h128
      have rg134 : 0 ≤ x1.toInt ∧ x1.toInt ≤ 3 := ⟨by omega, by omega⟩
      have rg135 : 0 ≤ w15.toInt ∧ w15.toInt ≤ 7 := ⟨by omega, by omega⟩
      refine va_calli (va_runV (As := [.int x1, .int w15, .int r125]) (rest := [.int w15, .ref (A 22)]) ⟨hx, hb, hml, hown, hts⟩ (y_X7_partOf l dC dI H.size hLK A hA F126 a0 x1 w15 r125 ha0 rg134 rg135 hI (by omega)) (cwV 3 hts (ax_gV T_1301 T_1303 T_1304 T_265 T_1302) rfl rfl rfl (by decide +kernel) ⟨Nat.le_of_ble_eq_true rfl, Nat.le_of_ble_eq_true rfl⟩) ⟨fun a U g mk q => ⟨q.1, s_pc (U := U) rfl rfl q.2⟩, s_recv hK hP (hLK _ ha0 (by decide)) (ci := 7) rfl oY132, fun U hU hW => ⟨rfl, s_pw hU hW hP hK hD hN⟩⟩ rfl rfl hl.1 rfl (lv_room (Nat.le_of_ble_eq_true rfl)) dX7_reads_103 ⟨Nat.zero_le _, Nat.zero_le _⟩) hS (fun q _ h => h) (fun q h => h) (fun r137 F138 t H1 locs ht hvm hw hB hz1 hk1 hS => ?_)
      obtain ⟨hP, hK1⟩ := hB
      rw [ht] at hP
      generalize H1 = H at hP hS ⊢
      clear hz1 hk1 hvm hK1
      obtain ⟨h139, h141, hI, hfr1, hzf, h140⟩ := hw
      have o142 : F138 (A 13) = .inl (cs 0, 400, .inl f1) := (hfr1 _ (by rw [(y_k13 hA)]; decide)).trans o130
      have o143 : F138 (A 21) = .inl (cs 0, 8, .inl f107) := (hfr1 _ (by rw [(y_k21 hA)]; decide)).trans o131
      have oY144 : F138 a0 = .inr (7, y_fl A z0 q0) := (hfr1 _ (by rw [ha0]; decide)).trans oY132
      have hfr : ∀ b, K b ∉ [71, 72] → F138 b = F b := fun b hb9 => (hfr1 b (fun q => hb9 (s_sub (by decide) q))).trans (hfr b hb9)
      refine lv_goto (tgt := 110) hx hb dX7_reads_106 (by decide) ?_
      exact K110 _ _ _ ⟨F138, _, r137, w15, rfl, lv_sub hl [0, 1, 2, 3, 4, 5] rfl, hP, hS, hI, hfr, (fun k hk => (y_fiZ oY144 (s_sub (by decide) hk)).trans (hz0 k hk)), trivial, ⟨by omega, by omega⟩, ⟨by omega, by omega⟩, ⟨by omega, by omega⟩, ⟨by omega, by omega⟩, ⟨by omega, by omega⟩, (by omega)⟩
    · have c123 := mt (ax_eq (n := 2) (by decide)).mpr c123
      refine lv_aload_n hx hb dX7_reads_85 rfl (lv_at hl 0 rfl) ?_
      refine lv_iload_n hx hb dX7_reads_86 rfl (lv_at hl 2 rfl) ?_
      refine va_calli (va_runV (As := [.int x2]) (rest := [.int w15, .ref (A 22)]) ⟨hx, hb, hml, hown, hts⟩ (y_X7_isFork l dC dI H.size hLK A hA F110 a0 x2 ha0 rg4 hI) (cwV 1 hts (ax_gV T_1179 T_1181 T_1182 T_265 T_1180) rfl rfl rfl (by decide +kernel) ⟨Nat.le_of_ble_eq_true rfl, Nat.le_of_ble_eq_true rfl⟩) ⟨fun a U g mk q => ⟨q.1, s_pc (U := U) rfl rfl q.2⟩, s_recv hK hP (hLK _ ha0 (by decide)) (ci := 7) rfl oY113, fun U hU hW => ⟨rfl, s_pw hU hW hP hK hD hN⟩⟩ rfl rfl hl.1 rfl (lv_room (Nat.le_of_ble_eq_true rfl)) dX7_reads_87 ⟨Nat.zero_le _, Nat.zero_le _⟩) hS (fun q _ h => h) (fun q h => h) (fun r146 F147 t H1 locs ht hvm hw hB hz1 hk1 hS => ?_)
      obtain ⟨hP, hK1⟩ := hB
      rw [ht] at hP
      generalize H1 = H at hP hS ⊢
      clear hz1 hk1 hvm hK1
      obtain ⟨h148, h150, hI, hfr1, hzf, h149⟩ := hw
      have o151 : F147 (A 13) = .inl (cs 0, 400, .inl f1) := (hfr1 _ (by rw [(y_k13 hA)]; decide)).trans o112
      have o152 : F147 (A 21) = .inl (cs 0, 8, .inl f107) := (hfr1 _ (by rw [(y_k21 hA)]; decide)).trans o114
      have oY153 : F147 a0 = .inr (7, y_fl A z0 q0) := (hfr1 _ (by rw [ha0]; decide)).trans oY113
      have hfr : ∀ b, K b ∉ [71, 72] → F147 b = F b := fun b hb9 => (hfr1 b (fun q => hb9 (s_sub (by decide) q))).trans (hfr b hb9)
      replace h149 : ((r146.toInt = 1 ∧ (y_c f1 (8 * x2.toInt)).toInt = 12 ∧ ¬ (y_c f1 (8 * x2.toInt + 5)).toInt = -1000000) ∨ (r146.toInt = 0 ∧ (¬ (y_c f1 (8 * x2.toInt)).toInt = 12 ∨ (y_c f1 (8 * x2.toInt + 5)).toInt = -1000000))) := by have q9 := h149; rw [y_atE o112] at q9; exact q9
      refine lv_if_eq (tgt := 109) hx hb dX7_reads_90 (by decide) (fun c154 => ?_) (fun c154 => ?_)
      · have c154 := (ax_eq (n := 0) (by decide)).mp c154
        refine lv_iconst (v := 0) hx hb dX7_reads_109 (by decide) ?_
        have h155 : (0 : Int32).toInt = 0 := by decide
        exact K110 _ _ _ ⟨F147, _, 0, w15, rfl, lv_sub hl [0, 1, 2, 3, 4, 5] rfl, hP, hS, hI, hfr, (fun k hk => (y_fiZ oY153 (s_sub (by decide) hk)).trans (hz0 k hk)), trivial, ⟨by omega, by omega⟩, ⟨by omega, by omega⟩, ⟨by omega, by omega⟩, ⟨by omega, by omega⟩, ⟨by omega, by omega⟩, (by omega)⟩
      · have c154 := mt (ax_eq (n := 0) (by decide)).mpr c154
        refine lv_aload_n hx hb dX7_reads_93 rfl (lv_at hl 0 rfl) ?_
        refine lv_iload_n hx hb dX7_reads_94 rfl (lv_at hl 1 rfl) ?_
        refine lv_iload hx hb dX7_reads_95 (lv_at hl 5 rfl) ?_
        refine lv_aload_n hx hb dX7_reads_97 rfl (lv_at hl 0 rfl) ?_
        refine lv_iload_n hx hb dX7_reads_98 rfl (lv_at hl 2 rfl) ?_
        refine lv_iconst (v := 3) hx hb dX7_reads_99 (by decide) ?_
        refine va_calli (va_runV (As := [.int x2, .int 3]) (rest := [.int w15, .int x1, .ref a0, .int w15, .ref (A 22)]) ⟨hx, hb, hml, hown, hts⟩ (y_X7_of l dC dI H.size hLK A hA F147 a0 x2 3 ha0 rg4 (by decide) hI) (cwV 2 hts (ax_gV T_1131 T_1133 T_1134 T_265 T_1132) rfl rfl rfl (by decide +kernel) ⟨Nat.le_of_ble_eq_true rfl, Nat.le_of_ble_eq_true rfl⟩) ⟨fun a U g mk q => ⟨q.1, s_pc (U := U) rfl rfl q.2⟩, s_recv hK hP (hLK _ ha0 (by decide)) (ci := 7) rfl oY153, fun U hU hW => ⟨rfl, s_pw hU hW hP hK hD hN⟩⟩ rfl rfl hl.1 rfl (lv_room (Nat.le_of_ble_eq_true rfl)) dX7_reads_100 ⟨Nat.zero_le _, Nat.zero_le _⟩) hS (fun q _ h => h) (fun q h => h) (fun r157 F158 t H1 locs ht hvm hw hB hz1 hk1 hS => ?_)
        obtain ⟨hP, hK1⟩ := hB
        rw [ht] at hP
        generalize H1 = H at hP hS ⊢
        clear hz1 hk1 hvm hK1
        obtain ⟨h159, h161, hI, hfr1, hzf, h160⟩ := hw
        have o162 : F158 (A 13) = .inl (cs 0, 400, .inl f1) := (hfr1 _ (by rw [(y_k13 hA)]; decide)).trans o151
        have o163 : F158 (A 21) = .inl (cs 0, 8, .inl f107) := (hfr1 _ (by rw [(y_k21 hA)]; decide)).trans o152
        have oY164 : F158 a0 = .inr (7, y_fl A z0 q0) := (hfr1 _ (by rw [ha0]; decide)).trans oY153
        have hfr : ∀ b, K b ∉ [71, 72] → F158 b = F b := fun b hb9 => (hfr1 b (fun q => hb9 (s_sub (by decide) q))).trans (hfr b hb9)
        replace h160 : (r157 = y_c f1 (8 * x2.toInt + 3)) := by have q9 := h160; rw [y_atE o151] at q9; exact q9
        have h160 : r157 = y_c f1 (8 * x2.toInt + 3) := h160.trans (congrArg (y_c f1) (by omega))
        have h165 := congrArg Int32.toInt h160
        have rg166 : 0 ≤ x1.toInt ∧ x1.toInt ≤ 3 := ⟨by omega, by omega⟩
        have rg167 : 0 ≤ w15.toInt ∧ w15.toInt ≤ 7 := ⟨by omega, by omega⟩
        refine va_calli (va_runV (As := [.int x1, .int w15, .int r157]) (rest := [.int w15, .ref (A 22)]) ⟨hx, hb, hml, hown, hts⟩ (y_X7_partOf l dC dI H.size hLK A hA F158 a0 x1 w15 r157 ha0 rg166 rg167 hI (by omega)) (cwV 3 hts (ax_gV T_1301 T_1303 T_1304 T_265 T_1302) rfl rfl rfl (by decide +kernel) ⟨Nat.le_of_ble_eq_true rfl, Nat.le_of_ble_eq_true rfl⟩) ⟨fun a U g mk q => ⟨q.1, s_pc (U := U) rfl rfl q.2⟩, s_recv hK hP (hLK _ ha0 (by decide)) (ci := 7) rfl oY164, fun U hU hW => ⟨rfl, s_pw hU hW hP hK hD hN⟩⟩ rfl rfl hl.1 rfl (lv_room (Nat.le_of_ble_eq_true rfl)) dX7_reads_103 ⟨Nat.zero_le _, Nat.zero_le _⟩) hS (fun q _ h => h) (fun q h => h) (fun r169 F170 t H1 locs ht hvm hw hB hz1 hk1 hS => ?_)
        obtain ⟨hP, hK1⟩ := hB
        rw [ht] at hP
        generalize H1 = H at hP hS ⊢
        clear hz1 hk1 hvm hK1
        obtain ⟨h171, h173, hI, hfr1, hzf, h172⟩ := hw
        have o174 : F170 (A 13) = .inl (cs 0, 400, .inl f1) := (hfr1 _ (by rw [(y_k13 hA)]; decide)).trans o162
        have o175 : F170 (A 21) = .inl (cs 0, 8, .inl f107) := (hfr1 _ (by rw [(y_k21 hA)]; decide)).trans o163
        have oY176 : F170 a0 = .inr (7, y_fl A z0 q0) := (hfr1 _ (by rw [ha0]; decide)).trans oY164
        have hfr : ∀ b, K b ∉ [71, 72] → F170 b = F b := fun b hb9 => (hfr1 b (fun q => hb9 (s_sub (by decide) q))).trans (hfr b hb9)
        refine lv_goto (tgt := 110) hx hb dX7_reads_106 (by decide) ?_
        exact K110 _ _ _ ⟨F170, _, r169, w15, rfl, lv_sub hl [0, 1, 2, 3, 4, 5] rfl, hP, hS, hI, hfr, (fun k hk => (y_fiZ oY176 (s_sub (by decide) hk)).trans (hz0 k hk)), trivial, ⟨by omega, by omega⟩, ⟨by omega, by omega⟩, ⟨by omega, by omega⟩, ⟨by omega, by omega⟩, ⟨by omega, by omega⟩, (by omega)⟩
  · intro g H locs hq
    obtain ⟨F184, ls, w25, w26, rfl, hl, hP, hS, hI, hfr, hz0, h177, h178, h179, h180, h181, h182, h183⟩ := hq
    have o185 : F184 (A 13) = .inl (cs 0, 400, .inl f1) := (hfr _ (by rw [(y_k13 hA)]; decide)).trans o2
    have oY186 : F184 a0 = .inr (7, y_fl A z0 q0) := (hfr _ (by rw [ha0]; decide)).trans oY0
    have hz0 : ∀ k, k ∈ ([1, 2, 3, 4, 5, 6, 7, 8, 11, 15, 16, 19, 25, 26, 27, 31, 32] : List Nat) → z0 k = z0 k := fun _ _ => rfl
    obtain ⟨f187, o188, b189⟩ := y_op22 hI
    refine th_iast hx hb hK hP hD hS (hLK _ (y_k22 hA) (by decide)) 0 o188 rfl (th_in ⟨by omega, by omega⟩) dX7_reads_110 (fun H locs hP hS => ?_)
    obtain ⟨f190, u191⟩ : ∃ g : Nat → Int32, g = upd f187 (w26 : Int32).toNatClampNeg w25 := ⟨_, rfl⟩
    rw [← u191] at hP
    have b192 : y_bd 22 f190 := trivial
    have hP : va_P (dC, dI) vwCl (va_pl L (va_up F184 (A 22) (.inl (cs 0, 8, .inl f190)))) H := hP
    obtain ⟨F193, hF194⟩ : ∃ G : Nat → va_E, G = va_up F184 (A 22) (.inl (cs 0, 8, .inl f190)) := ⟨_, rfl⟩
    rw [← hF194] at hP
    have hI : y_I K cs A F193 := by rw [hF194]; exact y_clA (i := 22) hA hI (by decide) b192
    have hfr : ∀ b, K b ∉ [71, 72] → F193 b = F b := by rw [hF194]; exact s_fr hfr (y_k22 hA) (by decide)
    have o195 : F193 (A 13) = .inl (cs 0, 400, .inl f1) := by rw [hF194]; exact th_ne (th_kd (y_k13 hA) (y_k22 hA) (by decide)) o185
    have oY196 : F193 a0 = .inr (7, y_fl A z0 q0) := by rw [hF194]; exact th_ne (th_kd ha0 (y_k22 hA) (by decide)) oY186
    have o197 : F193 (A 22) = .inl (cs 0, 8, .inl f190) := by rw [hF194]; exact th_up
    have u198 : ∀ j : Int, 0 ≤ j → y_c f190 j = if j = w26.toInt then w25 else y_c f187 j := by rw [u191]; exact y_cu rfl (by omega)
    exact K111 _ _ _ ⟨F193, _, rfl, lv_sub hl [0, 1, 2, 3, 4, 5] rfl, hP, hS, hI, hfr, (fun k hk => (y_fiZ oY196 (s_sub (by decide) hk)).trans (hz0 k hk)), ⟨by omega, by omega⟩, ⟨by omega, by omega⟩, ⟨by omega, by omega⟩, ⟨by omega, by omega⟩, (by omega)⟩
  · intro g H locs hq
    obtain ⟨F204, ls, rfl, hl, hP, hS, hI, hfr, hz0, h199, h200, h201, h202, h203⟩ := hq
    have o205 : F204 (A 13) = .inl (cs 0, 400, .inl f1) := (hfr _ (by rw [(y_k13 hA)]; decide)).trans o2
    have oY206 : F204 a0 = .inr (7, y_fl A z0 q0) := (hfr _ (by rw [ha0]; decide)).trans oY0
    have hz0 : ∀ k, k ∈ ([1, 2, 3, 4, 5, 6, 7, 8, 11, 15, 16, 19, 25, 26, 27, 31, 32] : List Nat) → z0 k = z0 k := fun _ _ => rfl
    obtain ⟨v207, ev207⟩ : ∃ y : Int32, w15 + 1 = y := ⟨_, rfl⟩
    have qv207 : v207.toInt = w15.toInt + 1 := by rw [← ev207]; exact th_add rfl (by decide) ⟨by omega, by omega⟩
    refine lv_iinc (v := v207) (lv' := [(5, .int v207), (0, .ref a0), (1, .int x1), (2, .int x2), (3, .int x3), (4, .int r6)]) hx hb dX7_reads_111 hl (k := 5) rfl ev207 (by decide) rfl (fun ls hl => ?_)
    refine lv_goto (tgt := 11) hx hb dX7_reads_114 (by decide) ?_
    exact ih11 _ _ _ _ (by omega) ⟨F204, _, v207, rfl, lv_sub hl [1, 2, 3, 4, 5, 0] rfl, hP, hS, hI, hfr, (fun k hk => (y_fiZ oY206 (s_sub (by decide) hk)).trans (hz0 k hk)), ⟨by omega, by omega⟩, ⟨by omega, by omega⟩, ⟨by omega, by omega⟩, ⟨by omega, by omega⟩, (by omega), rfl⟩

set_option maxHeartbeats 4000000 in
set_option maxRecDepth 100000 in
theorem y_X7_bankOf (l : Launch) (dC : Nat → ClassId) (dI : Nat → Nat → Nat) (sz : Nat) {L : List Nat} {K : Nat → Nat} {cs : Nat → ClassId} (hLK : ∀ a {k : Nat}, K a = k → k ≠ 0 → a ∈ L) (A : Nat → Nat) (hA : y_A K A) (F : Nat → va_E) (a0 : Nat) (x1 : Int32) (ha0 : K a0 = 9) (hx1 : 0 ≤ x1.toInt ∧ x1.toInt ≤ 31) (hI : y_I K cs A F) : Met l yX7_bankOf (Cond.code yX7_bankOf cX7_bankOf 2 (some .int) :: T0) ({ frames := 0, cells := 0, slots := 0, locals := 0 }) (va_Pc [.ref a0, .int x1] (s_W dC dI sz L F [(cs 0, .int), (cs 1, .byte), (cs 2, .long), (cs 3, .object RX5), (cs 4, .object RX4), (cs 5, .array .int), (cs 6, .char), (cs 7, .boolean)])) (va_Qi (fun (r : Int32) (G : Nat → va_E) => (-3 ≤ r.toInt ∧ r.toInt ≤ 3) ∧ True ∧ y_I K cs A G ∧ (∀ b, K b ∉ ([] : List Nat) → G b = F b) ∧ (∀ k, k ∈ ([1, 2, 3, 4, 5, 6, 7, 8, 11, 15, 16, 19, 25, 26, 27, 31, 32] : List Nat) → y_fi G a0 k = y_fi F a0 k) ∧ True) (fun (G : Nat → va_E) (t : State) => va_P (dC, dI) vwCl (va_pl L G) t.heap ∧ va_K (dC, dI) vwCl [(cs 0, .int), (cs 1, .byte), (cs 2, .long), (cs 3, .object RX5), (cs 4, .object RX4), (cs 5, .array .int), (cs 6, .char), (cs 7, .boolean)] t) (fun q => q ∈ L)) 0 0 (fun q => q ∈ L) := by
  refine Met.ofW (cc := cX7_bankOf) (maxL := 2) (ret := (some .int)) (by decide) rfl ?_
  intro p e s m args below meth c s₁ B hml hv
  obtain ⟨rfl, hsz, hP, hK, hD, hN⟩ := hv
  have hx := B.exec
  have hb := B.bytes
  have hr := B.returns
  have hts : ∀ w ∈ T0, w.before _ s = true := fun w h => atoms_spec (ws := Cond.code yX7_bankOf cX7_bankOf 2 (some .int) :: T0) B.pre w (List.mem_cons_of_mem _ h)
  have hown : s.vm.findClass RX7 = some m.cls := findClass_of_methodNamed B.named
  have hlocks := B.notSynchronized
  have hS : va_S (fun q => q ∈ L) s.heap s.heap [] := va_S.rf
  have hfr : ∀ b, K b ∉ ([] : List Nat) → F b = F b := fun _ _ => rfl
  have hl := lv_entry ([.ref a0, .int x1]) (n := 2) (Nat.le_of_ble_eq_true rfl)
  rw [lg_entry_eq]
  generalize (lg_sl ([.ref a0, .int x1]) ++ List.replicate (2 - (lg_sl ([.ref a0, .int x1])).length) Slot.unset).toArray = ls at hl ⊢
  have hl : lv_has ls 2 [(0, .ref a0), (1, .int x1)] := hl
  refine s_gen hP hS (fun H locs hP hS => ?_)
  obtain ⟨z0, q0, oY0, bz0, bq0⟩ := y_opY hI ha0
  have hz0 : ∀ k, k ∈ ([1, 2, 3, 4, 5, 6, 7, 8, 11, 15, 16, 19, 25, 26, 27, 31, 32] : List Nat) → z0 k = z0 k := fun _ _ => rfl
  refine lv_iload_n hx hb dX7_bankOf_0 rfl (lv_at hl 1 rfl) ?_
  refine lv_aload_n hx hb dX7_bankOf_1 rfl (lv_at hl 0 rfl) ?_
  refine th_get (D := (dC, dI)) (ci := 7) (v := .ref (A 20)) (C := RX7) (T := TX7) (N := 34) hx hb hts inX7 hown hK hP (hLK _ ha0 (by decide)) oY0 rfl 20 (by decide) (hts _ T_251) (fun _ h9 => h9) rfl dX7_bankOf_2 ?_
  refine lv_iconst (v := 5) hx hb dX7_bankOf_5 (by decide) ?_
  obtain ⟨f1, o2, b3⟩ := y_op20 hI
  refine th_iald hx hb hK hP (hLK _ (y_k20 hA) (by decide)) 0 o2 rfl (ax_in (by decide)) dX7_bankOf_6 ?_
  refine lv_topi (fun v4 ev4 => ?_)
  refine lv_iload_n hx hb dX7_bankOf_7 rfl (lv_at hl 1 rfl) ?_
  refine lv_iconst (v := 4) hx hb dX7_bankOf_8 (by decide) ?_
  refine lv_idiv hx hb dX7_bankOf_9 (by decide) ?_
  refine lv_topi (fun v5 ev5 => ?_)
  have qv5 : v5.toInt = x1.toInt / 4 := by rw [ev5]; exact th_div rfl (by decide) (by omega) (by decide)
  refine lv_imul hx hb dX7_bankOf_10 ?_
  refine lv_topi (fun v6 ev6 => ?_)
  refine lv_iadd hx hb dX7_bankOf_11 ?_
  refine lv_topi (fun v7 ev7 => ?_)
  refine lv_iconst (v := 4) hx hb dX7_bankOf_12 (by decide) ?_
  refine lv_irem hx hb dX7_bankOf_13 (by decide) ?_
  refine lv_topi (fun v8 ev8 => ?_)
  have qv8 : -4 < v8.toInt ∧ v8.toInt < 4 := by have q8 := (th_remS (x := v7) (y := 4) (by decide)).1; rw [← ev8] at q8; have q7 : (4 : Int32).toInt = 4 := (by decide); omega
  exact W.iret (v := v8) hx hb hr (fun t ht hW => ⟨⟨v8, F, rfl, ⟨⟨by omega, by omega⟩, trivial, hI, hfr, fun k hk => (y_fiZ oY0 (s_sub (by decide) hk)).trans ((hz0 k hk).trans (y_fiZ oY0 (s_sub (by decide) hk)).symm), trivial⟩, by rw [ht]; exact hP, va_K.moved hW.alike hK⟩, hS.F ht⟩) hS.2.2 dX7_bankOf_14

set_option maxHeartbeats 4000000 in
set_option maxRecDepth 100000 in
theorem y_X7_segments (l : Launch) (dC : Nat → ClassId) (dI : Nat → Nat → Nat) (sz : Nat) {L : List Nat} {K : Nat → Nat} {cs : Nat → ClassId} (hLK : ∀ a {k : Nat}, K a = k → k ≠ 0 → a ∈ L) (A : Nat → Nat) (hA : y_A K A) (F : Nat → va_E) (a0 : Nat) (x1 : Int32) (ha0 : K a0 = 9) (hI : y_I K cs A F) : Met l yX7_segments (Cond.code yX7_segments cX7_segments 5 (some .int) :: T0) ({ frames := 1, cells := 0, slots := 0, locals := 24 }) (va_Pc [.ref a0, .int x1] (s_W dC dI sz L F [(cs 0, .int), (cs 1, .byte), (cs 2, .long), (cs 3, .object RX5), (cs 4, .object RX4), (cs 5, .array .int), (cs 6, .char), (cs 7, .boolean)])) (va_Qi (fun (r : Int32) (G : Nat → va_E) => True ∧ True ∧ y_I K cs A G ∧ (∀ b, K b ∉ ([] : List Nat) → G b = F b) ∧ (∀ k, k ∈ ([1, 2, 3, 4, 5, 6, 7, 8, 11, 15, 16, 19, 25, 26, 27, 31, 32] : List Nat) → y_fi G a0 k = y_fi F a0 k) ∧ True) (fun (G : Nat → va_E) (t : State) => va_P (dC, dI) vwCl (va_pl L G) t.heap ∧ va_K (dC, dI) vwCl [(cs 0, .int), (cs 1, .byte), (cs 2, .long), (cs 3, .object RX5), (cs 4, .object RX4), (cs 5, .array .int), (cs 6, .char), (cs 7, .boolean)] t) (fun q => q ∈ L)) 0 0 (fun q => q ∈ L) := by
  refine Met.ofW (cc := cX7_segments) (maxL := 5) (ret := (some .int)) (by decide) rfl ?_
  intro p e s m args below meth c s₁ B hml hv
  obtain ⟨rfl, hsz, hP, hK, hD, hN⟩ := hv
  have hx := B.exec
  have hb := B.bytes
  have hr := B.returns
  have hts : ∀ w ∈ T0, w.before _ s = true := fun w h => atoms_spec (ws := Cond.code yX7_segments cX7_segments 5 (some .int) :: T0) B.pre w (List.mem_cons_of_mem _ h)
  have hown : s.vm.findClass RX7 = some m.cls := findClass_of_methodNamed B.named
  have hlocks := B.notSynchronized
  have hS : va_S (fun q => q ∈ L) s.heap s.heap [] := va_S.rf
  have hfr : ∀ b, K b ∉ ([] : List Nat) → F b = F b := fun _ _ => rfl
  have hl := lv_entry ([.ref a0, .int x1]) (n := 5) (Nat.le_of_ble_eq_true rfl)
  rw [lg_entry_eq]
  generalize (lg_sl ([.ref a0, .int x1]) ++ List.replicate (5 - (lg_sl ([.ref a0, .int x1])).length) Slot.unset).toArray = ls at hl ⊢
  have hl : lv_has ls 5 [(0, .ref a0), (1, .int x1)] := hl
  refine s_gen hP hS (fun H locs hP hS => ?_)
  obtain ⟨z0, q0, oY0, bz0, bq0⟩ := y_opY hI ha0
  have hz0 : ∀ k, k ∈ ([1, 2, 3, 4, 5, 6, 7, 8, 11, 15, 16, 19, 25, 26, 27, 31, 32] : List Nat) → z0 k = z0 k := fun _ _ => rfl
  refine lv_iconst (v := 0) hx hb dX7_segments_0 (by decide) ?_
  refine lv_istore_n (lv' := [(2, .int 0), (0, .ref a0), (1, .int x1)]) hx hb dX7_segments_1 rfl hl (by decide) rfl (fun ls hl => ?_)
  refine lv_iconst (v := 0) hx hb dX7_segments_2 (by decide) ?_
  refine lv_istore_n (lv' := [(3, .int 0), (2, .int 0), (0, .ref a0), (1, .int x1)]) hx hb dX7_segments_3 rfl hl (by decide) rfl (fun ls hl => ?_)
  have h3 : (0 : Int32).toInt = 0 := by decide
  have h4 : (0 : Int32).toInt = 0 := by decide
  refine th_loop (fun n g H locs => ∃ (G : Nat → va_E) (ls : Array Slot) (w1 : Int32) (w2 : Int32), g = F0 m 4 ls [] ∧ lv_has ls 5 [(0, .ref a0), (1, .int x1), (2, .int w1), (3, .int w2)] ∧ va_P (dC, dI) vwCl (va_pl L G) H ∧ va_S (fun q => q ∈ L) s.heap H locs ∧ y_I K cs A G ∧ (∀ b, K b ∉ ([] : List Nat) → G b = F b) ∧ (∀ k, k ∈ ([1, 2, 3, 4, 5, 6, 7, 8, 11, 15, 16, 19, 25, 26, 27, 31, 32] : List Nat) → y_fi G a0 k = z0 k) ∧ True ∧ (0 ≤ w2.toInt ∧ w2.toInt ≤ 8) ∧ n = (9 - w2.toInt).toNat) _ ⟨F, _, 0, 0, rfl, lv_sub hl [2, 3, 1, 0] rfl, hP, hS, hI, hfr, (fun k hk => (y_fiZ oY0 (s_sub (by decide) hk)).trans (hz0 k hk)), trivial, (by decide), rfl⟩ (fun n ih4 g H locs hq => ?_)
  obtain ⟨F7, ls, w1, w2, rfl, hl, hP, hS, hI, hfr, hz0, h5, h6, hn⟩ := hq
  have oY8 : F7 a0 = .inr (7, y_fl A z0 q0) := (hfr _ (by rw [ha0]; decide)).trans oY0
  have hz0 : ∀ k, k ∈ ([1, 2, 3, 4, 5, 6, 7, 8, 11, 15, 16, 19, 25, 26, 27, 31, 32] : List Nat) → z0 k = z0 k := fun _ _ => rfl
  have hn_8 := hn
  refine th_join (fun g H locs => ∃ (G : Nat → va_E) (ls : Array Slot) (w9 : Int32), g = F0 m 38 ls [] ∧ lv_has ls 5 [(0, .ref a0), (1, .int x1), (2, .int w9), (3, .int w2)] ∧ va_P (dC, dI) vwCl (va_pl L G) H ∧ va_S (fun q => q ∈ L) s.heap H locs ∧ y_I K cs A G ∧ (∀ b, K b ∉ ([] : List Nat) → G b = F b) ∧ (∀ k, k ∈ ([1, 2, 3, 4, 5, 6, 7, 8, 11, 15, 16, 19, 25, 26, 27, 31, 32] : List Nat) → y_fi G a0 k = z0 k) ∧ True ∧ (0 ≤ w2.toInt ∧ w2.toInt ≤ 7)) (fun K38 => ?_) ?_
  · refine lv_iload_n hx hb dX7_segments_4 rfl (lv_at hl 3 rfl) ?_
    refine lv_bipush (v := 8) hx hb dX7_segments_5 (by decide) ?_
    refine lv_icmp_ge (tgt := 44) hx hb dX7_segments_7 (by decide) (fun c10 => ?_) (fun c10 => ?_)
    · have c10 := (ax_ge (n := 8) (by decide)).mp c10
      refine lv_iconst (v := 0) hx hb dX7_segments_44 (by decide) ?_
      refine lv_istore_n (lv' := [(3, .int 0), (0, .ref a0), (1, .int x1), (2, .int w1)]) hx hb dX7_segments_45 rfl hl (by decide) rfl (fun ls hl => ?_)
      refine lv_iconst (v := 0) hx hb dX7_segments_46 (by decide) ?_
      refine lv_istore (lv' := [(4, .int 0), (3, .int 0), (0, .ref a0), (1, .int x1), (2, .int w1)]) hx hb dX7_segments_47 hl (by decide) rfl (fun ls hl => ?_)
      have h13 : (0 : Int32).toInt = 0 := by decide
      have h14 : (0 : Int32).toInt = 0 := by decide
      refine th_loop (fun n g H locs => ∃ (G : Nat → va_E) (ls : Array Slot) (w11 : Int32) (w12 : Int32), g = F0 m 49 ls [] ∧ lv_has ls 5 [(2, .int w1), (3, .int w11), (4, .int w12)] ∧ va_P (dC, dI) vwCl (va_pl L G) H ∧ va_S (fun q => q ∈ L) s.heap H locs ∧ y_I K cs A G ∧ (∀ b, K b ∉ ([] : List Nat) → G b = F b) ∧ (∀ k, k ∈ ([1, 2, 3, 4, 5, 6, 7, 8, 11, 15, 16, 19, 25, 26, 27, 31, 32] : List Nat) → y_fi G a0 k = z0 k) ∧ True ∧ (0 ≤ w12.toInt ∧ w12.toInt ≤ 8) ∧ n = (9 - w12.toInt).toNat) _ ⟨F7, _, 0, 0, rfl, lv_sub hl [4, 1, 0] rfl, hP, hS, hI, hfr, (fun k hk => (y_fiZ oY8 (s_sub (by decide) hk)).trans (hz0 k hk)), trivial, (by decide), rfl⟩ (fun n ih49 g H locs hq => ?_)
      obtain ⟨F17, ls, w11, w12, rfl, hl, hP, hS, hI, hfr, hz0, h15, h16, hn⟩ := hq
      have oY18 : F17 a0 = .inr (7, y_fl A z0 q0) := (hfr _ (by rw [ha0]; decide)).trans oY0
      have hz0 : ∀ k, k ∈ ([1, 2, 3, 4, 5, 6, 7, 8, 11, 15, 16, 19, 25, 26, 27, 31, 32] : List Nat) → z0 k = z0 k := fun _ _ => rfl
      have hn_18 := hn
      refine lv_iload hx hb dX7_segments_49 (lv_at hl 2 rfl) ?_
      refine lv_bipush (v := 8) hx hb dX7_segments_51 (by decide) ?_
      refine lv_icmp_ge (tgt := 71) hx hb dX7_segments_53 (by decide) (fun c19 => ?_) (fun c19 => ?_)
      · have c19 := (ax_ge (n := 8) (by decide)).mp c19
        refine lv_iload_n hx hb dX7_segments_71 rfl (lv_at hl 1 rfl) ?_
        exact W.iret (v := w11) hx hb hr (fun t ht hW => ⟨⟨w11, F17, rfl, ⟨trivial, trivial, hI, hfr, fun k hk => (y_fiZ oY18 (s_sub (by decide) hk)).trans ((hz0 k hk).trans (y_fiZ oY0 (s_sub (by decide) hk)).symm), trivial⟩, by rw [ht]; exact hP, va_K.moved hW.alike hK⟩, hS.F ht⟩) hS.2.2 dX7_segments_72
      · have c19 := mt (ax_ge (n := 8) (by decide)).mpr c19
        refine lv_iload_n hx hb dX7_segments_56 rfl (lv_at hl 1 rfl) ?_
        refine lv_iload_n hx hb dX7_segments_57 rfl (lv_at hl 0 rfl) ?_
        refine lv_iload hx hb dX7_segments_58 (lv_at hl 2 rfl) ?_
        refine lv_ishr hx hb dX7_segments_60 ?_
        refine lv_topi (fun v20 ev20 => ?_)
        refine lv_iconst (v := 1) hx hb dX7_segments_61 (by decide) ?_
        refine lv_iand hx hb dX7_segments_62 ?_
        refine lv_topi (fun v21 ev21 => ?_)
        have qv21 : 0 ≤ v21.toInt ∧ v21.toInt ≤ 1 := by rw [ev21]; exact th_and 1 (by decide) (by decide)
        refine lv_iadd hx hb dX7_segments_63 ?_
        refine lv_topi (fun v22 ev22 => ?_)
        refine lv_istore_n (lv' := [(3, .int v22), (2, .int w1), (4, .int w12)]) hx hb dX7_segments_64 rfl hl (by decide) rfl (fun ls hl => ?_)
        obtain ⟨v23, ev23⟩ : ∃ y : Int32, w12 + 1 = y := ⟨_, rfl⟩
        have qv23 : v23.toInt = w12.toInt + 1 := by rw [← ev23]; exact th_add rfl (by decide) ⟨by omega, by omega⟩
        refine lv_iinc (v := v23) (lv' := [(4, .int v23), (3, .int v22), (2, .int w1)]) hx hb dX7_segments_65 hl (k := 2) rfl ev23 (by decide) rfl (fun ls hl => ?_)
        refine lv_goto (tgt := 49) hx hb dX7_segments_68 (by decide) ?_
        exact ih49 _ _ _ _ (by omega) ⟨F17, _, v22, v23, rfl, lv_sub hl [2, 1, 0] rfl, hP, hS, hI, hfr, (fun k hk => (y_fiZ oY18 (s_sub (by decide) hk)).trans (hz0 k hk)), trivial, ⟨by omega, by omega⟩, rfl⟩
    · have c10 := mt (ax_ge (n := 8) (by decide)).mpr c10
      refine lv_iload_n hx hb dX7_segments_10 rfl (lv_at hl 1 rfl) ?_
      refine lv_iload_n hx hb dX7_segments_11 rfl (lv_at hl 3 rfl) ?_
      have rg24 : 0 ≤ w2.toInt ∧ w2.toInt ≤ 31 := ⟨by omega, by omega⟩
      refine va_calli (va_runS (As := [.int x1, .int w2]) (rest := []) ⟨hx, hb, hml, hown, hts⟩ (y_X7_isOf l dC dI H.size F7 x1 w2 rg24) (cwS 2 hts (ax_gS T_1027 T_1029 T_265 T_1028) rfl rfl rfl (by decide +kernel) ⟨Nat.le_of_ble_eq_true rfl, Nat.le_of_ble_eq_true rfl⟩) ⟨fun a U g mk q => ⟨q.1, s_pc (U := U) rfl rfl q.2⟩, fun U hU hW => ⟨rfl, s_pw hU hW hP hK hD hN⟩⟩ rfl rfl hl.1 rfl (lv_room (Nat.le_of_ble_eq_true rfl)) dX7_segments_12 ⟨Nat.zero_le _, Nat.zero_le _⟩) hS (fun q _ h => h) (fun q h => h) (fun r26 F27 t H1 locs ht hvm hw hB hz1 hk1 hS => ?_)
      obtain ⟨hP, hK1⟩ := hB
      rw [ht] at hP
      generalize H1 = H at hP hS ⊢
      clear hz1 hk1 hvm hK1
      obtain ⟨h28, h30, hG9, h29⟩ := hw
      rw [hG9] at hP
      replace h29 : ((r26.toInt = 1 ∧ bt x1 w2.toInt.toNat = true) ∨ (r26.toInt = 0 ∧ bt x1 w2.toInt.toNat = false)) := by have q9 := h29; exact q9
      refine lv_if_eq (tgt := 38) hx hb dX7_segments_15 (by decide) (fun c31 => ?_) (fun c31 => ?_)
      · have c31 := (ax_eq (n := 0) (by decide)).mp c31
        exact K38 _ _ _ ⟨F7, _, w1, rfl, lv_sub hl [0, 1, 2, 3] rfl, hP, hS, hI, hfr, (fun k hk => (y_fiZ oY8 (s_sub (by decide) hk)).trans (hz0 k hk)), trivial, ⟨by omega, by omega⟩⟩
      · have c31 := mt (ax_eq (n := 0) (by decide)).mpr c31
        refine lv_iload_n hx hb dX7_segments_18 rfl (lv_at hl 2 rfl) ?_
        refine lv_iconst (v := 1) hx hb dX7_segments_19 (by decide) ?_
        refine lv_aload_n hx hb dX7_segments_20 rfl (lv_at hl 0 rfl) ?_
        refine th_get (D := (dC, dI)) (ci := 7) (v := .ref (A 21)) (C := RX7) (T := TX7) (N := 34) hx hb hts inX7 hown hK hP (hLK _ ha0 (by decide)) oY8 rfl 21 (by decide) (hts _ T_252) (fun _ h9 => h9) rfl dX7_segments_21 ?_
        refine lv_iload_n hx hb dX7_segments_24 rfl (lv_at hl 3 rfl) ?_
        obtain ⟨f32, o33, b34⟩ := y_op21 hI
        refine th_iald hx hb hK hP (hLK _ (y_k21 hA) (by decide)) 0 o33 rfl (th_in ⟨by omega, by omega⟩) dX7_segments_25 ?_
        refine lv_topi (fun v35 ev35 => ?_)
        refine lv_i2l hx hb dX7_segments_26 rfl ?_
        refine lv_topl (fun v36 ev36 => ?_)
        have qv36 : v36.toInt = v35.toInt := y_i2l ev36
        refine lv_bipush (v := 64) hx hb dX7_segments_27 (by decide) ?_
        refine va_calli (va_runS (As := [.long v36, .int 64]) (rest := [.int 1, .int w1]) ⟨hx, hb, hml, hown, hts⟩ (y_X7_modulo l dC dI H.size F7 v36 64 (by decide)) (cwS 2 hts (ax_gS T_1204 T_1206 T_265 T_1205) rfl rfl rfl (by decide +kernel) ⟨Nat.le_of_ble_eq_true rfl, Nat.le_of_ble_eq_true rfl⟩) ⟨fun a U g mk q => ⟨q.1, s_pc (U := U) rfl rfl q.2⟩, fun U hU hW => ⟨rfl, s_pw hU hW hP hK hD hN⟩⟩ rfl rfl hl.1 rfl (lv_room (Nat.le_of_ble_eq_true rfl)) dX7_segments_29 ⟨Nat.zero_le _, Nat.zero_le _⟩) hS (fun q _ h => h) (fun q h => h) (fun r38 F39 t H1 locs ht hvm hw hB hz1 hk1 hS => ?_)
        obtain ⟨hP, hK1⟩ := hB
        rw [ht] at hP
        generalize H1 = H at hP hS ⊢
        clear hz1 hk1 hvm hK1
        obtain ⟨h40, h42, hG9, h41⟩ := hw
        rw [hG9] at hP
        replace h41 : (0 ≤ r38.toInt ∧ r38.toInt < 64) := by have q9 := h41; exact q9
        refine lv_bipush (v := 8) hx hb dX7_segments_32 (by decide) ?_
        refine lv_idiv hx hb dX7_segments_34 (by decide) ?_
        refine lv_topi (fun v43 ev43 => ?_)
        refine lv_ishl hx hb dX7_segments_35 ?_
        refine lv_topi (fun v44 ev44 => ?_)
        refine lv_ior hx hb dX7_segments_36 ?_
        refine lv_topi (fun v45 ev45 => ?_)
        refine lv_istore_n (lv' := [(2, .int v45), (0, .ref a0), (1, .int x1), (3, .int w2)]) hx hb dX7_segments_37 rfl hl (by decide) rfl (fun ls hl => ?_)
        exact K38 _ _ _ ⟨F7, _, v45, rfl, lv_sub hl [1, 2, 0, 3] rfl, hP, hS, hI, hfr, (fun k hk => (y_fiZ oY8 (s_sub (by decide) hk)).trans (hz0 k hk)), trivial, ⟨by omega, by omega⟩⟩
  · intro g H locs hq
    obtain ⟨F48, ls, w9, rfl, hl, hP, hS, hI, hfr, hz0, h46, h47⟩ := hq
    have oY49 : F48 a0 = .inr (7, y_fl A z0 q0) := (hfr _ (by rw [ha0]; decide)).trans oY0
    have hz0 : ∀ k, k ∈ ([1, 2, 3, 4, 5, 6, 7, 8, 11, 15, 16, 19, 25, 26, 27, 31, 32] : List Nat) → z0 k = z0 k := fun _ _ => rfl
    obtain ⟨v50, ev50⟩ : ∃ y : Int32, w2 + 1 = y := ⟨_, rfl⟩
    have qv50 : v50.toInt = w2.toInt + 1 := by rw [← ev50]; exact th_add rfl (by decide) ⟨by omega, by omega⟩
    refine lv_iinc (v := v50) (lv' := [(3, .int v50), (0, .ref a0), (1, .int x1), (2, .int w9)]) hx hb dX7_segments_38 hl (k := 3) rfl ev50 (by decide) rfl (fun ls hl => ?_)
    refine lv_goto (tgt := 4) hx hb dX7_segments_41 (by decide) ?_
    exact ih4 _ _ _ _ (by omega) ⟨F48, _, w9, v50, rfl, lv_sub hl [1, 2, 3, 0] rfl, hP, hS, hI, hfr, (fun k hk => (y_fiZ oY49 (s_sub (by decide) hk)).trans (hz0 k hk)), trivial, ⟨by omega, by omega⟩, rfl⟩

set_option maxHeartbeats 4000000 in
set_option maxRecDepth 100000 in
theorem y_X7_isAsked (l : Launch) (dC : Nat → ClassId) (dI : Nat → Nat → Nat) (sz : Nat) {L : List Nat} {K : Nat → Nat} {cs : Nat → ClassId} (hLK : ∀ a {k : Nat}, K a = k → k ≠ 0 → a ∈ L) (A : Nat → Nat) (hA : y_A K A) (F : Nat → va_E) (a0 : Nat) (x1 : Int32) (x2 : Int32) (ha0 : K a0 = 9) (hx2 : 0 ≤ x2.toInt ∧ x2.toInt ≤ 31) (hI : y_I K cs A F) : Met l yX7_isAsked (Cond.code yX7_isAsked cX7_isAsked 4 (some .boolean) :: T0) ({ frames := 1, cells := 0, slots := 0, locals := 24 }) (va_Pc [.ref a0, .int x1, .int x2] (s_W dC dI sz L F [(cs 0, .int), (cs 1, .byte), (cs 2, .long), (cs 3, .object RX5), (cs 4, .object RX4), (cs 5, .array .int), (cs 6, .char), (cs 7, .boolean)])) (va_Qi (fun (r : Int32) (G : Nat → va_E) => (0 ≤ r.toInt ∧ r.toInt ≤ 1) ∧ True ∧ y_I K cs A G ∧ (∀ b, K b ∉ ([] : List Nat) → G b = F b) ∧ (∀ k, k ∈ ([1, 2, 3, 4, 5, 6, 7, 8, 11, 15, 16, 19, 25, 26, 27, 31, 32] : List Nat) → y_fi G a0 k = y_fi F a0 k) ∧ True) (fun (G : Nat → va_E) (t : State) => va_P (dC, dI) vwCl (va_pl L G) t.heap ∧ va_K (dC, dI) vwCl [(cs 0, .int), (cs 1, .byte), (cs 2, .long), (cs 3, .object RX5), (cs 4, .object RX4), (cs 5, .array .int), (cs 6, .char), (cs 7, .boolean)] t) (fun q => q ∈ L)) 0 0 (fun q => q ∈ L) := by
  refine Met.ofW (cc := cX7_isAsked) (maxL := 4) (ret := (some .boolean)) (by decide) rfl ?_
  intro p e s m args below meth c s₁ B hml hv
  obtain ⟨rfl, hsz, hP, hK, hD, hN⟩ := hv
  have hx := B.exec
  have hb := B.bytes
  have hr := B.returns
  have hts : ∀ w ∈ T0, w.before _ s = true := fun w h => atoms_spec (ws := Cond.code yX7_isAsked cX7_isAsked 4 (some .boolean) :: T0) B.pre w (List.mem_cons_of_mem _ h)
  have hown : s.vm.findClass RX7 = some m.cls := findClass_of_methodNamed B.named
  have hlocks := B.notSynchronized
  have hS : va_S (fun q => q ∈ L) s.heap s.heap [] := va_S.rf
  have hfr : ∀ b, K b ∉ ([] : List Nat) → F b = F b := fun _ _ => rfl
  have hl := lv_entry ([.ref a0, .int x1, .int x2]) (n := 4) (Nat.le_of_ble_eq_true rfl)
  rw [lg_entry_eq]
  generalize (lg_sl ([.ref a0, .int x1, .int x2]) ++ List.replicate (4 - (lg_sl ([.ref a0, .int x1, .int x2])).length) Slot.unset).toArray = ls at hl ⊢
  have hl : lv_has ls 4 [(0, .ref a0), (1, .int x1), (2, .int x2)] := hl
  refine s_gen hP hS (fun H locs hP hS => ?_)
  obtain ⟨z0, q0, oY0, bz0, bq0⟩ := y_opY hI ha0
  have hz0 : ∀ k, k ∈ ([1, 2, 3, 4, 5, 6, 7, 8, 11, 15, 16, 19, 25, 26, 27, 31, 32] : List Nat) → z0 k = z0 k := fun _ _ => rfl
  refine lv_iconst (v := 0) hx hb dX7_isAsked_0 (by decide) ?_
  refine lv_istore_n (lv' := [(3, .int 0), (0, .ref a0), (1, .int x1), (2, .int x2)]) hx hb dX7_isAsked_1 rfl hl (by decide) rfl (fun ls hl => ?_)
  have h2 : (0 : Int32).toInt = 0 := by decide
  refine th_loop (fun n g H locs => ∃ (G : Nat → va_E) (ls : Array Slot) (w1 : Int32), g = F0 m 2 ls [] ∧ lv_has ls 4 [(0, .ref a0), (1, .int x1), (2, .int x2), (3, .int w1)] ∧ va_P (dC, dI) vwCl (va_pl L G) H ∧ va_S (fun q => q ∈ L) s.heap H locs ∧ y_I K cs A G ∧ (∀ b, K b ∉ ([] : List Nat) → G b = F b) ∧ (∀ k, k ∈ ([1, 2, 3, 4, 5, 6, 7, 8, 11, 15, 16, 19, 25, 26, 27, 31, 32] : List Nat) → y_fi G a0 k = z0 k) ∧ (0 ≤ w1.toInt ∧ w1.toInt ≤ 8) ∧ (0 ≤ x2.toInt ∧ x2.toInt ≤ 31) ∧ n = (9 - w1.toInt).toNat) _ ⟨F, _, 0, rfl, lv_sub hl [1, 2, 3, 0] rfl, hP, hS, hI, hfr, (fun k hk => (y_fiZ oY0 (s_sub (by decide) hk)).trans (hz0 k hk)), (by decide), ⟨by omega, by omega⟩, rfl⟩ (fun n ih2 g H locs hq => ?_)
  obtain ⟨F5, ls, w1, rfl, hl, hP, hS, hI, hfr, hz0, h3, h4, hn⟩ := hq
  have oY6 : F5 a0 = .inr (7, y_fl A z0 q0) := (hfr _ (by rw [ha0]; decide)).trans oY0
  have hz0 : ∀ k, k ∈ ([1, 2, 3, 4, 5, 6, 7, 8, 11, 15, 16, 19, 25, 26, 27, 31, 32] : List Nat) → z0 k = z0 k := fun _ _ => rfl
  have hn_6 := hn
  refine th_join (fun g H locs => ∃ (G : Nat → va_E) (ls : Array Slot), g = F0 m 34 ls [] ∧ lv_has ls 4 [(0, .ref a0), (1, .int x1), (2, .int x2), (3, .int w1)] ∧ va_P (dC, dI) vwCl (va_pl L G) H ∧ va_S (fun q => q ∈ L) s.heap H locs ∧ y_I K cs A G ∧ (∀ b, K b ∉ ([] : List Nat) → G b = F b) ∧ (∀ k, k ∈ ([1, 2, 3, 4, 5, 6, 7, 8, 11, 15, 16, 19, 25, 26, 27, 31, 32] : List Nat) → y_fi G a0 k = z0 k) ∧ (0 ≤ x2.toInt ∧ x2.toInt ≤ 31) ∧ (0 ≤ w1.toInt ∧ w1.toInt ≤ 7)) (fun K34 => ?_) ?_
  · refine lv_iload_n hx hb dX7_isAsked_2 rfl (lv_at hl 3 rfl) ?_
    refine lv_bipush (v := 8) hx hb dX7_isAsked_3 (by decide) ?_
    refine lv_icmp_ge (tgt := 40) hx hb dX7_isAsked_5 (by decide) (fun c7 => ?_) (fun c7 => ?_)
    · have c7 := (ax_ge (n := 8) (by decide)).mp c7
      refine lv_iconst (v := 0) hx hb dX7_isAsked_40 (by decide) ?_
      have h8 : (0 : Int32).toInt = 0 := by decide
      exact W.zret (v := 0) (ty := .boolean) hx hb hr (by decide) (fun t ht hW => ⟨⟨0, F5, rfl, ⟨(by decide), trivial, hI, hfr, fun k hk => (y_fiZ oY6 (s_sub (by decide) hk)).trans ((hz0 k hk).trans (y_fiZ oY0 (s_sub (by decide) hk)).symm), trivial⟩, by rw [ht]; exact hP, va_K.moved hW.alike hK⟩, hS.F ht⟩) hS.2.2 dX7_isAsked_41
    · have c7 := mt (ax_ge (n := 8) (by decide)).mpr c7
      refine lv_iload_n hx hb dX7_isAsked_8 rfl (lv_at hl 1 rfl) ?_
      refine lv_iload_n hx hb dX7_isAsked_9 rfl (lv_at hl 3 rfl) ?_
      have rg9 : 0 ≤ w1.toInt ∧ w1.toInt ≤ 31 := ⟨by omega, by omega⟩
      refine va_calli (va_runS (As := [.int x1, .int w1]) (rest := []) ⟨hx, hb, hml, hown, hts⟩ (y_X7_isOf l dC dI H.size F5 x1 w1 rg9) (cwS 2 hts (ax_gS T_1027 T_1029 T_265 T_1028) rfl rfl rfl (by decide +kernel) ⟨Nat.le_of_ble_eq_true rfl, Nat.le_of_ble_eq_true rfl⟩) ⟨fun a U g mk q => ⟨q.1, s_pc (U := U) rfl rfl q.2⟩, fun U hU hW => ⟨rfl, s_pw hU hW hP hK hD hN⟩⟩ rfl rfl hl.1 rfl (lv_room (Nat.le_of_ble_eq_true rfl)) dX7_isAsked_10 ⟨Nat.zero_le _, Nat.zero_le _⟩) hS (fun q _ h => h) (fun q h => h) (fun r11 F12 t H1 locs ht hvm hw hB hz1 hk1 hS => ?_)
      obtain ⟨hP, hK1⟩ := hB
      rw [ht] at hP
      generalize H1 = H at hP hS ⊢
      clear hz1 hk1 hvm hK1
      obtain ⟨h13, h15, hG9, h14⟩ := hw
      rw [hG9] at hP
      replace h14 : ((r11.toInt = 1 ∧ bt x1 w1.toInt.toNat = true) ∨ (r11.toInt = 0 ∧ bt x1 w1.toInt.toNat = false)) := by have q9 := h14; exact q9
      refine lv_if_eq (tgt := 34) hx hb dX7_isAsked_13 (by decide) (fun c16 => ?_) (fun c16 => ?_)
      · have c16 := (ax_eq (n := 0) (by decide)).mp c16
        exact K34 _ _ _ ⟨F5, _, rfl, lv_sub hl [0, 1, 2, 3] rfl, hP, hS, hI, hfr, (fun k hk => (y_fiZ oY6 (s_sub (by decide) hk)).trans (hz0 k hk)), ⟨by omega, by omega⟩, ⟨by omega, by omega⟩⟩
      · have c16 := mt (ax_eq (n := 0) (by decide)).mpr c16
        refine lv_aload_n hx hb dX7_isAsked_16 rfl (lv_at hl 0 rfl) ?_
        refine th_get (D := (dC, dI)) (ci := 7) (v := .ref (A 21)) (C := RX7) (T := TX7) (N := 34) hx hb hts inX7 hown hK hP (hLK _ ha0 (by decide)) oY6 rfl 21 (by decide) (hts _ T_252) (fun _ h9 => h9) rfl dX7_isAsked_17 ?_
        refine lv_iload_n hx hb dX7_isAsked_20 rfl (lv_at hl 3 rfl) ?_
        obtain ⟨f17, o18, b19⟩ := y_op21 hI
        refine th_iald hx hb hK hP (hLK _ (y_k21 hA) (by decide)) 0 o18 rfl (th_in ⟨by omega, by omega⟩) dX7_isAsked_21 ?_
        refine lv_topi (fun v20 ev20 => ?_)
        refine lv_i2l hx hb dX7_isAsked_22 rfl ?_
        refine lv_topl (fun v21 ev21 => ?_)
        have qv21 : v21.toInt = v20.toInt := y_i2l ev21
        refine lv_bipush (v := 32) hx hb dX7_isAsked_23 (by decide) ?_
        refine va_calli (va_runS (As := [.long v21, .int 32]) (rest := []) ⟨hx, hb, hml, hown, hts⟩ (y_X7_modulo l dC dI H.size F5 v21 32 (by decide)) (cwS 2 hts (ax_gS T_1204 T_1206 T_265 T_1205) rfl rfl rfl (by decide +kernel) ⟨Nat.le_of_ble_eq_true rfl, Nat.le_of_ble_eq_true rfl⟩) ⟨fun a U g mk q => ⟨q.1, s_pc (U := U) rfl rfl q.2⟩, fun U hU hW => ⟨rfl, s_pw hU hW hP hK hD hN⟩⟩ rfl rfl hl.1 rfl (lv_room (Nat.le_of_ble_eq_true rfl)) dX7_isAsked_25 ⟨Nat.zero_le _, Nat.zero_le _⟩) hS (fun q _ h => h) (fun q h => h) (fun r23 F24 t H1 locs ht hvm hw hB hz1 hk1 hS => ?_)
        obtain ⟨hP, hK1⟩ := hB
        rw [ht] at hP
        generalize H1 = H at hP hS ⊢
        clear hz1 hk1 hvm hK1
        obtain ⟨h25, h27, hG9, h26⟩ := hw
        rw [hG9] at hP
        replace h26 : (0 ≤ r23.toInt ∧ r23.toInt < 32) := by have q9 := h26; exact q9
        refine lv_iload_n hx hb dX7_isAsked_28 rfl (lv_at hl 2 rfl) ?_
        refine lv_icmp_ne (tgt := 34) hx hb dX7_isAsked_29 (by decide) (fun c28 => ?_) (fun c28 => ?_)
        · have c28 := mt Int32.toInt_inj.symm.mpr c28
          exact K34 _ _ _ ⟨F5, _, rfl, lv_sub hl [0, 1, 2, 3] rfl, hP, hS, hI, hfr, (fun k hk => (y_fiZ oY6 (s_sub (by decide) hk)).trans (hz0 k hk)), ⟨by omega, by omega⟩, ⟨by omega, by omega⟩⟩
        · have c28 := Int32.toInt_inj.symm.mp c28
          refine lv_iconst (v := 1) hx hb dX7_isAsked_32 (by decide) ?_
          have h29 : (1 : Int32).toInt = 1 := by decide
          exact W.zret (v := 1) (ty := .boolean) hx hb hr (by decide) (fun t ht hW => ⟨⟨1, F5, rfl, ⟨(by decide), trivial, hI, hfr, fun k hk => (y_fiZ oY6 (s_sub (by decide) hk)).trans ((hz0 k hk).trans (y_fiZ oY0 (s_sub (by decide) hk)).symm), trivial⟩, by rw [ht]; exact hP, va_K.moved hW.alike hK⟩, hS.F ht⟩) hS.2.2 dX7_isAsked_33
  · intro g H locs hq
    obtain ⟨F32, ls, rfl, hl, hP, hS, hI, hfr, hz0, h30, h31⟩ := hq
    have oY33 : F32 a0 = .inr (7, y_fl A z0 q0) := (hfr _ (by rw [ha0]; decide)).trans oY0
    have hz0 : ∀ k, k ∈ ([1, 2, 3, 4, 5, 6, 7, 8, 11, 15, 16, 19, 25, 26, 27, 31, 32] : List Nat) → z0 k = z0 k := fun _ _ => rfl
    obtain ⟨v34, ev34⟩ : ∃ y : Int32, w1 + 1 = y := ⟨_, rfl⟩
    have qv34 : v34.toInt = w1.toInt + 1 := by rw [← ev34]; exact th_add rfl (by decide) ⟨by omega, by omega⟩
    refine lv_iinc (v := v34) (lv' := [(3, .int v34), (0, .ref a0), (1, .int x1), (2, .int x2)]) hx hb dX7_isAsked_34 hl (k := 3) rfl ev34 (by decide) rfl (fun ls hl => ?_)
    refine lv_goto (tgt := 2) hx hb dX7_isAsked_37 (by decide) ?_
    exact ih2 _ _ _ _ (by omega) ⟨F32, _, v34, rfl, lv_sub hl [1, 2, 3, 0] rfl, hP, hS, hI, hfr, (fun k hk => (y_fiZ oY33 (s_sub (by decide) hk)).trans (hz0 k hk)), ⟨by omega, by omega⟩, ⟨by omega, by omega⟩, rfl⟩
