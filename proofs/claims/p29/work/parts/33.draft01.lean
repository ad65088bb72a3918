set_option maxHeartbeats 4000000 in
set_option maxRecDepth 100000 in
theorem y_X7_goTold (l : Launch) (dC : Nat → ClassId) (dI : Nat → Nat → Nat) (sz : Nat) {L : List Nat} {K : Nat → Nat} {cs : Nat → ClassId} (hLK : ∀ a {k : Nat}, K a = k → k ≠ 0 → a ∈ L) (A : Nat → Nat) (hA : y_A K A) (F : Nat → va_E) (a0 : Nat) (ha0 : K a0 = 9) (hI : y_I K cs A F) (hg9 : ((y_c (y_at F (A 12)) 387).toInt ≤ 39 ∧ (y_c (y_at F (A 12)) (8 * (y_c (y_at F (A 12)) 387).toInt + 5)).toInt = -1000000)) : Met l yX7_goTold (Cond.code yX7_goTold cX7_goTold 3 none :: T0) ({ frames := 5, cells := 0, slots := 0, locals := 106 }) (va_Pc [.ref a0] (s_W dC dI sz L F [(cs 0, .int), (cs 1, .byte), (cs 2, .long), (cs 3, .object RX5), (cs 4, .object RX4), (cs 5, .array .int), (cs 6, .char), (cs 7, .boolean)])) (va_Qv (fun (G : Nat → va_E) => True ∧ True ∧ y_I K cs A G ∧ (∀ b, K b ∉ [9, 62, 64] → G b = F b) ∧ (∀ k, k ∈ ([1, 3, 7, 8, 15, 16, 19, 25, 26, 27, 31, 32] : List Nat) → y_fi G a0 k = y_fi F a0 k) ∧ (((y_fi F a0 5).toInt = 0 ∨ ¬ (y_fi G a0 5).toInt = 0) ∧ (∀ j : Int, 0 ≤ j → (j < 8 * (y_c (y_at F (A 12)) 387).toInt ∨ 8 * (y_c (y_at F (A 12)) 387).toInt + 8 ≤ j) → y_c (y_at G (A 12)) j = y_c (y_at F (A 12)) j) ∧ (y_c (y_at G (A 12)) (8 * (y_c (y_at F (A 12)) 387).toInt)).toInt = (y_c (y_at F (A 12)) (8 * (y_c (y_at F (A 12)) 387).toInt)).toInt ∧ ((y_fi G a0 5).toInt = 0 → (y_c (y_at G (A 12)) (8 * (y_c (y_at F (A 12)) 387).toInt + 5)).toInt = -1000000 ∨ (-4 ≤ (y_c (y_at G (A 12)) (8 * (y_c (y_at F (A 12)) 387).toInt + 2)).toInt ∧ -4 ≤ (y_c (y_at G (A 12)) (8 * (y_c (y_at F (A 12)) 387).toInt + 3)).toInt)))) (fun (G : Nat → va_E) (t : State) => va_P (dC, dI) vwCl (va_pl L G) t.heap ∧ va_K (dC, dI) vwCl [(cs 0, .int), (cs 1, .byte), (cs 2, .long), (cs 3, .object RX5), (cs 4, .object RX4), (cs 5, .array .int), (cs 6, .char), (cs 7, .boolean)] t) (fun q => q ∈ L)) 0 0 (fun q => q ∈ L) := by
  refine Met.ofW (cc := cX7_goTold) (maxL := 3) (ret := none) (by decide) rfl ?_
  intro p e s m args below meth c s₁ B hml hv
  obtain ⟨rfl, hsz, hP, hK, hD, hN⟩ := hv
  have hx := B.exec
  have hb := B.bytes
  have hr := B.returns
  have hts : ∀ w ∈ T0, w.before _ s = true := fun w h => atoms_spec (ws := Cond.code yX7_goTold cX7_goTold 3 none :: T0) B.pre w (List.mem_cons_of_mem _ h)
  have hown : s.vm.findClass RX7 = some m.cls := findClass_of_methodNamed B.named
  have hlocks := B.notSynchronized
  have hS : va_S (fun q => q ∈ L) s.heap s.heap [] := va_S.rf
  have hfr : ∀ b, K b ∉ [9, 62, 64] → F b = F b := fun _ _ => rfl
  have hl := lv_entry ([.ref a0]) (n := 3) (Nat.le_of_ble_eq_true rfl)
  rw [lg_entry_eq]
  generalize (lg_sl ([.ref a0]) ++ List.replicate (3 - (lg_sl ([.ref a0])).length) Slot.unset).toArray = ls at hl ⊢
  have hl : lv_has ls 3 [(0, .ref a0)] := hl
  refine s_gen hP hS (fun H locs hP hS => ?_)
  obtain ⟨z0, q0, oY0, bz0⟩ := y_opY hI ha0
  have hz0 : ∀ k, k ∈ ([1, 3, 7, 8, 15, 16, 19, 25, 26, 27, 31, 32] : List Nat) → z0 k = z0 k := fun _ _ => rfl
  obtain ⟨f1, o2, b3⟩ := y_op12 hI
  obtain ⟨v4, ev4⟩ : ∃ y : Int32, y = z0 5 := ⟨_, rfl⟩
  have eF_5 := ev4
  have hg9 : ((y_c f1 387).toInt ≤ 39 ∧ (y_c f1 (8 * (y_c f1 387).toInt + 5)).toInt = -1000000) := by have q9 := hg9; rw [y_atE o2] at q9; exact q9
  obtain ⟨nn, hnn⟩ : ∃ n : Int, n = (y_c f1 387).toInt := ⟨_, rfl⟩
  have hnb : 0 ≤ (y_c f1 387).toInt ∧ (y_c f1 387).toInt ≤ 40 := b3
  rw [← hnn] at hnb
  rw [← hnn] at hg9
  have e0_v4 := ev4
  refine th_join (fun g H locs => ∃ (G : Nat → va_E) (ls : Array Slot) (w5 : Int32), g = F0 m 99 ls [] ∧ lv_has ls 3 [(0, .ref a0), (2, .int w5)] ∧ va_P (dC, dI) vwCl (va_pl L G) H ∧ va_S (fun q => q ∈ L) s.heap H locs ∧ y_I K cs A G ∧ (∀ b, K b ∉ [9, 62, 64] → G b = F b) ∧ (∀ k, k ∈ ([1, 3, 7, 8, 15, 16, 19, 25, 26, 27, 31, 32] : List Nat) → y_fi G a0 k = z0 k) ∧ True ∧ (y_c (y_at G (A 12)) 387).toInt = nn ∧ (∀ j : Int, 0 ≤ j → (j < 8 * nn ∨ 8 * nn + 8 ≤ j) → y_c (y_at G (A 12)) j = y_c f1 j) ∧ ((y_c (y_at G (A 12)) (8 * nn)).toInt = (y_c f1 (8 * nn)).toInt ∧ (y_c (y_at G (A 12)) (8 * nn + 5)).toInt = -1000000 ∧ (v4.toInt = 0 ∨ ¬ (y_fi G a0 5).toInt = 0)) ∧ ((y_fi G a0 5).toInt = 0 → (y_fi G a0 2).toInt < 1600) ∧ ((y_fi G a0 5).toInt = 0 → -4 ≤ (y_c (y_at G (A 12)) (8 * nn + 2)).toInt)) (fun K99 => ?_) ?_
  refine th_join (fun g H locs => ∃ (G : Nat → va_E) (ls : Array Slot) (w6 : Int32), g = F0 m 35 ls [] ∧ lv_has ls 3 [(0, .ref a0), (1, .int w6)] ∧ va_P (dC, dI) vwCl (va_pl L G) H ∧ va_S (fun q => q ∈ L) s.heap H locs ∧ y_I K cs A G ∧ (∀ b, K b ∉ [9, 62, 64] → G b = F b) ∧ (∀ k, k ∈ ([1, 3, 7, 8, 15, 16, 19, 25, 26, 27, 31, 32] : List Nat) → y_fi G a0 k = z0 k) ∧ True ∧ (y_c (y_at G (A 12)) 387).toInt = nn ∧ (∀ j : Int, 0 ≤ j → (j < 8 * nn ∨ 8 * nn + 8 ≤ j) → y_c (y_at G (A 12)) j = y_c f1 j) ∧ ((y_c (y_at G (A 12)) (8 * nn)).toInt = (y_c f1 (8 * nn)).toInt ∧ (y_c (y_at G (A 12)) (8 * nn + 5)).toInt = -1000000 ∧ (v4.toInt = 0 ∨ ¬ (y_fi G a0 5).toInt = 0))) (fun K35 => ?_) ?_
  · refine lv_aload_n hx hb dX7_goTold_0 rfl (lv_at hl 0 rfl) ?_
    refine th_get (D := (dC, dI)) (ci := 7) (v := .ref (A 14)) (C := RX7) (T := TX7) (N := 34) hx hb hts inX7 hown hK hP (hLK _ ha0 (by decide)) oY0 rfl 14 (by decide) (hts _ T_247) (fun _ h9 => h9) rfl dX7_goTold_1 ?_
    refine lv_aload_n hx hb dX7_goTold_4 rfl (lv_at hl 0 rfl) ?_
    refine va_calli (va_runV (As := []) (rest := [.ref (A 14)]) ⟨hx, hb, hml, hown, hts⟩ (y_X7_drafted l dC dI H.size hLK A hA F a0 ha0 hI) (cwV 0 hts (ax_gV T_293 T_294 T_295 T_265 T_28) rfl rfl rfl (by decide +kernel) ⟨Nat.le_of_ble_eq_true rfl, Nat.le_of_ble_eq_true rfl⟩) ⟨fun a U g mk q => ⟨q.1, s_pc rfl rfl q.2⟩, s_recv hK hP (hLK _ ha0 (by decide)) (ci := 7) rfl oY0, fun U hU hW => ⟨rfl, s_pw hU hW hP hK hD hN⟩⟩ rfl rfl hl.1 rfl (lv_room (Nat.le_of_ble_eq_true rfl)) dX7_goTold_5 ⟨Nat.zero_le _, Nat.zero_le _⟩) hS (fun q _ h => h) (fun q h => h) (fun r8 F9 t H1 locs ht hvm hw hB hz1 hk1 hS => ?_)
    obtain ⟨hP, hK1⟩ := hB
    rw [ht] at hP
    generalize H1 = H at hP hS ⊢
    obtain ⟨h10, h12, hI, hfr1, hzf, h11⟩ := hw
    have o13 : F9 (A 12) = .inl (cs 0, 400, .inl f1) := (hfr1 _ (by rw [(y_k12 hA)]; decide)).trans o2
    have oY14 : F9 a0 = .inr (7, y_fl A z0 q0) := (hfr1 _ (by rw [ha0]; decide)).trans oY0
    have hfr : ∀ b, K b ∉ [9, 62, 64] → F9 b = F b := fun b hb9 => (hfr1 b (fun q => hb9 (s_sub (by decide) q))).trans (hfr b hb9)
    have h11 : (r8 = y_c f1 387) := by have q9 := h11; rw [y_atE o2] at q9; exact q9
    have h15 := congrArg Int32.toInt h11
    have h16 : 0 ≤ r8.toInt ∧ r8.toInt ≤ 39 := by have q9 := congrArg Int32.toInt h11; omega
    refine lv_iconst (v := (-1)) hx hb dX7_goTold_8 (by decide) ?_
    obtain ⟨f17, o18, b19⟩ := y_op14 hI
    refine th_iast hx hb hK hP hD hS (hLK _ (y_k14 hA) (by decide)) 0 o18 rfl (th_in ⟨by omega, by omega⟩) dX7_goTold_9 (fun H locs hP hS => ?_)
    obtain ⟨f20, u21⟩ : ∃ g : Nat → Int32, g = upd f17 (r8 : Int32).toNatClampNeg (-1) := ⟨_, rfl⟩
    rw [← u21] at hP
    have b22 : y_bd 14 f20 := trivial
    have hP : va_P (dC, dI) vwCl (va_pl L (va_up F9 (A 14) (.inl (cs 0, 40, .inl f20)))) H := hP
    obtain ⟨F23, hF24⟩ : ∃ G : Nat → va_E, G = va_up F9 (A 14) (.inl (cs 0, 40, .inl f20)) := ⟨_, rfl⟩
    rw [← hF24] at hP
    have hI : y_I K cs A F23 := by rw [hF24]; exact y_clA (i := 14) hA hI (by decide) b22
    have hfr : ∀ b, K b ∉ [9, 62, 64] → F23 b = F b := by rw [hF24]; exact s_fr hfr (y_k14 hA) (by decide)
    have o25 : F23 (A 12) = .inl (cs 0, 400, .inl f1) := by rw [hF24]; exact th_ne (th_kd (y_k12 hA) (y_k14 hA) (by decide)) o13
    have oY26 : F23 a0 = .inr (7, y_fl A z0 q0) := by rw [hF24]; exact th_ne (th_kd ha0 (y_k14 hA) (by decide)) oY14
    have o27 : F23 (A 14) = .inl (cs 0, 40, .inl f20) := by rw [hF24]; exact th_up
    have u28 : ∀ j : Int, 0 ≤ j → y_c f20 j = if j = r8.toInt then (-1) else y_c f17 j := by rw [u21]; exact y_cu rfl (by omega)
    refine lv_aload_n hx hb dX7_goTold_10 rfl (lv_at hl 0 rfl) ?_
    have ep29_5 := ev4
    refine va_calli (va_runV (As := []) (rest := []) ⟨hx, hb, hml, hown, hts⟩ (y_X7_name l dC dI H.size hLK A hA F23 a0 ha0 hI) (cwV 0 hts (ax_gV T_1110 T_1112 T_1113 T_265 T_1111) rfl rfl rfl (by decide +kernel) ⟨Nat.le_of_ble_eq_true rfl, Nat.le_of_ble_eq_true rfl⟩) ⟨fun a U g mk q => ⟨q.1, s_pc rfl rfl q.2⟩, s_recv hK hP (hLK _ ha0 (by decide)) (ci := 7) rfl oY26, fun U hU hW => ⟨rfl, s_pw hU hW hP hK hD hN⟩⟩ rfl rfl hl.1 rfl (lv_room (Nat.le_of_ble_eq_true rfl)) dX7_goTold_11 ⟨Nat.zero_le _, Nat.zero_le _⟩) hS (fun q _ h => h) (fun q h => h) (fun r30 F31 t H1 locs ht hvm hw hB hz1 hk1 hS => ?_)
    obtain ⟨hP, hK1⟩ := hB
    rw [ht] at hP
    generalize H1 = H at hP hS ⊢
    obtain ⟨h32, h34, hI, hfr1, hzf, h33⟩ := hw
    have o35 : F31 (A 12) = .inl (cs 0, 400, .inl f1) := (hfr1 _ (by rw [(y_k12 hA)]; decide)).trans o25
    have o36 : F31 (A 14) = .inl (cs 0, 40, .inl f20) := (hfr1 _ (by rw [(y_k14 hA)]; decide)).trans o27
    obtain ⟨z37, q38, oY39, bz40⟩ := y_opY hI ha0
    have hzf : ∀ k, k ∈ ([1, 3, 7, 8, 15, 16, 19, 25, 26, 27, 31, 32] : List Nat) → z37 k = z0 k := fun k hk => by have q9 := hzf k hk; rw [y_fiZ oY39 (s_sub (by decide) hk), y_fiZ oY26 (s_sub (by decide) hk)] at q9; exact q9
    have hz0 : ∀ k, k ∈ ([1, 3, 7, 8, 15, 16, 19, 25, 26, 27, 31, 32] : List Nat) → z37 k = z0 k := fun k hk => (hzf k (s_sub (by decide) hk)).trans (hz0 k hk)
    have hfr : ∀ b, K b ∉ [9, 62, 64] → F31 b = F b := fun b hb9 => (hfr1 b (fun q => hb9 (s_sub (by decide) q))).trans (hfr b hb9)
    obtain ⟨v41, ev41⟩ : ∃ y : Int32, y = z37 5 := ⟨_, rfl⟩
    have h33 : (v4.toInt = 0 ∨ ¬ v41.toInt = 0) := by have q9 := h33; rw [y_fiZ oY26 (k := 5) (by decide), ← ep29_5, y_fiZ oY39 (k := 5) (by decide), ← ev41] at q9; exact q9
    refine lv_istore_n (lv' := [(1, .int r30), (0, .ref a0)]) hx hb dX7_goTold_14 rfl hl (by decide) rfl (fun ls hl => ?_)
    refine lv_aload_n hx hb dX7_goTold_15 rfl (lv_at hl 1 rfl) ?_
    refine th_get (D := (dC, dI)) (ci := 7) (v := .int (z37 5)) (C := RX7) (T := TX7) (N := 34) hx hb hts inX7 hown hK hP (hLK _ ha0 (by decide)) oY39 rfl 5 (by decide) (hts _ T_274) (fun _ h9 => h9) rfl dX7_goTold_16 ?_
    refine ax_eqi (y := v41) ev41.symm ?_
    refine lv_if_ne (tgt := 35) hx hb dX7_goTold_19 (by decide) (fun c42 => ?_) (fun c42 => ?_)
    · have c42 := mt (ax_eq (n := 0) (by decide)).mpr c42
      exact K35 _ _ _ ⟨F31, _, r30, rfl, lv_sub hl [1, 0] rfl, hP, hS, hI, hfr, (fun k hk => (y_fiZ oY39 (s_sub (by decide) hk)).trans (hz0 k hk)), trivial, (by rw [y_atE o35]; exact hnn.symm), (by rw [y_atE o35]; exact (fun j _ _ => rfl)), (by rw [y_atE o35, y_fiZ oY39 (k := 5) (by decide), ← ev41]; omega)⟩
    · have c42 := (ax_eq (n := 0) (by decide)).mp c42
      refine lv_aload_n hx hb dX7_goTold_22 rfl (lv_at hl 1 rfl) ?_
      refine th_get (D := (dC, dI)) (ci := 7) (v := .ref (A 14)) (C := RX7) (T := TX7) (N := 34) hx hb hts inX7 hown hK hP (hLK _ ha0 (by decide)) oY39 rfl 14 (by decide) (hts _ T_247) (fun _ h9 => h9) rfl dX7_goTold_23 ?_
      refine lv_aload_n hx hb dX7_goTold_26 rfl (lv_at hl 1 rfl) ?_
      refine va_calli (va_runV (As := []) (rest := [.ref (A 14)]) ⟨hx, hb, hml, hown, hts⟩ (y_X7_drafted l dC dI H.size hLK A hA F31 a0 ha0 hI) (cwV 0 hts (ax_gV T_293 T_294 T_295 T_265 T_28) rfl rfl rfl (by decide +kernel) ⟨Nat.le_of_ble_eq_true rfl, Nat.le_of_ble_eq_true rfl⟩) ⟨fun a U g mk q => ⟨q.1, s_pc rfl rfl q.2⟩, s_recv hK hP (hLK _ ha0 (by decide)) (ci := 7) rfl oY39, fun U hU hW => ⟨rfl, s_pw hU hW hP hK hD hN⟩⟩ rfl rfl hl.1 rfl (lv_room (Nat.le_of_ble_eq_true rfl)) dX7_goTold_27 ⟨Nat.zero_le _, Nat.zero_le _⟩) hS (fun q _ h => h) (fun q h => h) (fun r44 F45 t H1 locs ht hvm hw hB hz1 hk1 hS => ?_)
      obtain ⟨hP, hK1⟩ := hB
      rw [ht] at hP
      generalize H1 = H at hP hS ⊢
      obtain ⟨h46, h48, hI, hfr1, hzf, h47⟩ := hw
      have o49 : F45 (A 12) = .inl (cs 0, 400, .inl f1) := (hfr1 _ (by rw [(y_k12 hA)]; decide)).trans o35
      have o50 : F45 (A 14) = .inl (cs 0, 40, .inl f20) := (hfr1 _ (by rw [(y_k14 hA)]; decide)).trans o36
      have oY51 : F45 a0 = .inr (7, y_fl A z37 q38) := (hfr1 _ (by rw [ha0]; decide)).trans oY39
      have hfr : ∀ b, K b ∉ [9, 62, 64] → F45 b = F b := fun b hb9 => (hfr1 b (fun q => hb9 (s_sub (by decide) q))).trans (hfr b hb9)
      have h47 : (r44 = y_c f1 387) := by have q9 := h47; rw [y_atE o35] at q9; exact q9
      have h52 := congrArg Int32.toInt h47
      have h53 : 0 ≤ r44.toInt ∧ r44.toInt ≤ 39 := by have q9 := congrArg Int32.toInt h47; omega
      refine lv_aload_n hx hb dX7_goTold_30 rfl (lv_at hl 1 rfl) ?_
      refine th_get (D := (dC, dI)) (ci := 7) (v := .int (z37 11)) (C := RX7) (T := TX7) (N := 34) hx hb hts inX7 hown hK hP (hLK _ ha0 (by decide)) oY51 rfl 11 (by decide) (hts _ T_1114) (fun _ h9 => h9) rfl dX7_goTold_31 ?_
      refine lv_topi (fun v54 ev54 => ?_)
      refine th_iast hx hb hK hP hD hS (hLK _ (y_k14 hA) (by decide)) 0 o50 rfl (th_in ⟨by omega, by omega⟩) dX7_goTold_34 (fun H locs hP hS => ?_)
      obtain ⟨f55, u56⟩ : ∃ g : Nat → Int32, g = upd f20 (r44 : Int32).toNatClampNeg v54 := ⟨_, rfl⟩
      rw [← u56] at hP
      have b57 : y_bd 14 f55 := trivial
      have hP : va_P (dC, dI) vwCl (va_pl L (va_up F45 (A 14) (.inl (cs 0, 40, .inl f55)))) H := hP
      obtain ⟨F58, hF59⟩ : ∃ G : Nat → va_E, G = va_up F45 (A 14) (.inl (cs 0, 40, .inl f55)) := ⟨_, rfl⟩
      rw [← hF59] at hP
      have hI : y_I K cs A F58 := by rw [hF59]; exact y_clA (i := 14) hA hI (by decide) b57
      have hfr : ∀ b, K b ∉ [9, 62, 64] → F58 b = F b := by rw [hF59]; exact s_fr hfr (y_k14 hA) (by decide)
      have o60 : F58 (A 12) = .inl (cs 0, 400, .inl f1) := by rw [hF59]; exact th_ne (th_kd (y_k12 hA) (y_k14 hA) (by decide)) o49
      have oY61 : F58 a0 = .inr (7, y_fl A z37 q38) := by rw [hF59]; exact th_ne (th_kd ha0 (y_k14 hA) (by decide)) oY51
      have o62 : F58 (A 14) = .inl (cs 0, 40, .inl f55) := by rw [hF59]; exact th_up
      have u63 : ∀ j : Int, 0 ≤ j → y_c f55 j = if j = r44.toInt then v54 else y_c f20 j := by rw [u56]; exact y_cu rfl (by omega)
      exact K35 _ _ _ ⟨F58, _, r30, rfl, lv_sub hl [1, 0] rfl, hP, hS, hI, hfr, (fun k hk => (y_fiZ oY61 (s_sub (by decide) hk)).trans (hz0 k hk)), trivial, (by rw [y_atE o60]; exact hnn.symm), (by rw [y_atE o60]; exact (fun j _ _ => rfl)), (by rw [y_atE o60, y_fiZ oY61 (k := 5) (by decide), ← ev41]; omega)⟩
  · intro g H locs hq
    obtain ⟨F68, ls, w6, rfl, hl, hP, hS, hI, hfr, hz0, h64, h65, h66, h67⟩ := hq
    obtain ⟨z69, q70, oY71, bz72⟩ := y_opY hI ha0
    have hz0 : ∀ k, k ∈ ([1, 3, 7, 8, 15, 16, 19, 25, 26, 27, 31, 32] : List Nat) → z69 k = z0 k := fun k hk => (y_fiZ oY71 (s_sub (by decide) hk)).symm.trans (hz0 k hk)
    obtain ⟨f73, o74, b75⟩ := y_op12 hI
    have h65 : (y_c f73 387).toInt = nn := by have q9 := h65; rw [y_atE o74] at q9; exact q9
    have h66 : (∀ j : Int, 0 ≤ j → (j < 8 * nn ∨ 8 * nn + 8 ≤ j) → y_c f73 j = y_c f1 j) := by have q9 := h66; rw [y_atE o74] at q9; exact q9
    obtain ⟨v76, ev76⟩ : ∃ y : Int32, y = z69 5 := ⟨_, rfl⟩
    have h67 : ((y_c f73 (8 * nn)).toInt = (y_c f1 (8 * nn)).toInt ∧ (y_c f73 (8 * nn + 5)).toInt = -1000000 ∧ (v4.toInt = 0 ∨ ¬ v76.toInt = 0)) := by have q9 := h67; rw [y_atE o74, y_fiZ oY71 (k := 5) (by decide), ← ev76] at q9; exact q9
    refine lv_aload_n hx hb dX7_goTold_35 rfl (lv_at hl 0 rfl) ?_
    refine lv_iconst (v := 4) hx hb dX7_goTold_36 (by decide) ?_
    refine lv_iload_n hx hb dX7_goTold_37 rfl (lv_at hl 1 rfl) ?_
    have ep77_5 := ev76
    refine va_callv (va_runV (As := [.int 4, .int w6]) (rest := []) ⟨hx, hb, hml, hown, hts⟩ (y_X7_lays l dC dI H.size hLK A hA F68 a0 4 w6 ha0 (by decide) hI) (cwV 2 hts (ax_gV T_1115 T_1117 T_1118 T_265 T_1116) rfl rfl rfl (by decide +kernel) ⟨Nat.le_of_ble_eq_true rfl, Nat.le_of_ble_eq_true rfl⟩) ⟨fun a U g mk q => ⟨q.1, s_pc rfl rfl q.2⟩, s_recv hK hP (hLK _ ha0 (by decide)) (ci := 7) rfl oY71, fun U hU hW => ⟨rfl, s_pw hU hW hP hK hD hN⟩⟩ rfl rfl hl.1 rfl (lv_room (Nat.le_of_ble_eq_true rfl)) dX7_goTold_38 ⟨Nat.zero_le _, Nat.zero_le _⟩) hS (fun q _ h => h) (fun q h => h) (fun F78 t H1 locs ht hvm hw hB hz1 hk1 hS => ?_)
    obtain ⟨hP, hK1⟩ := hB
    rw [ht] at hP
    generalize H1 = H at hP hS ⊢
    obtain ⟨h79, h81, hI, hfr1, hzf, h80⟩ := hw
    have oY82 : F78 a0 = .inr (7, y_fl A z69 q70) := (hfr1 _ (by rw [ha0]; decide)).trans oY71
    have hfr : ∀ b, K b ∉ [9, 62, 64] → F78 b = F b := fun b hb9 => (hfr1 b (fun q => hb9 (s_sub (by decide) q))).trans (hfr b hb9)
    obtain ⟨f83, o84, b85⟩ := y_op12 hI
    have h80 : ((∀ j : Int, 0 ≤ j → j ≠ 8 * (y_c f73 387).toInt + 4 → y_c f83 j = y_c f73 j) ∧ (v76.toInt = 0 → y_c f83 (8 * (y_c f73 387).toInt + 4) = w6)) := by have q9 := h80; rw [y_atE o74, y_atE o84, y_fiZ oY71 (k := 5) (by decide), ← ep77_5] at q9; exact q9
    rw [h65] at h80
    have hn86 : (y_c f83 387).toInt = nn := by rw [h80.1 387 (by omega) (by omega)]; exact h65
    have hfr87 : ∀ j : Int, 0 ≤ j → (j < 8 * nn ∨ 8 * nn + 8 ≤ j) → y_c f83 j = y_c f1 j := fun j h0 h1 => (h80.1 j h0 (by omega)).trans (h66 j h0 h1)
    have h88 : (y_c f83 (8 * nn)).toInt = (y_c f73 (8 * nn)).toInt := (congrArg Int32.toInt (h80.1 _ (by omega) (by omega)))
    have h89 : (y_c f83 (8 * nn + 2)).toInt = (y_c f73 (8 * nn + 2)).toInt := (congrArg Int32.toInt (h80.1 _ (by omega) (by omega)))
    have h90 : (y_c f83 (8 * nn + 3)).toInt = (y_c f73 (8 * nn + 3)).toInt := (congrArg Int32.toInt (h80.1 _ (by omega) (by omega)))
    have h91 : (y_c f83 (8 * nn + 5)).toInt = (y_c f73 (8 * nn + 5)).toInt := (congrArg Int32.toInt (h80.1 _ (by omega) (by omega)))
    refine lv_aload_n hx hb dX7_goTold_41 rfl (lv_at hl 0 rfl) ?_
    refine lv_bipush (v := 28) hx hb dX7_goTold_42 (by decide) ?_
    refine va_calli (va_runV (As := [.int 28]) (rest := []) ⟨hx, hb, hml, hown, hts⟩ (y_X7_takes l dC dI H.size hLK A hA F78 a0 28 ha0 hI) (cwV 1 hts (ax_gV T_287 T_288 T_289 T_265 T_26) rfl rfl rfl (by decide +kernel) ⟨Nat.le_of_ble_eq_true rfl, Nat.le_of_ble_eq_true rfl⟩) ⟨fun a U g mk q => ⟨q.1, s_pc rfl rfl q.2⟩, s_recv hK hP (hLK _ ha0 (by decide)) (ci := 7) rfl oY82, fun U hU hW => ⟨rfl, s_pw hU hW hP hK hD hN⟩⟩ rfl rfl hl.1 rfl (lv_room (Nat.le_of_ble_eq_true rfl)) dX7_goTold_44 ⟨Nat.zero_le _, Nat.zero_le _⟩) hS (fun q _ h => h) (fun q h => h) (fun r93 F94 t H1 locs ht hvm hw hB hz1 hk1 hS => ?_)
    obtain ⟨hP, hK1⟩ := hB
    rw [ht] at hP
    generalize H1 = H at hP hS ⊢
    obtain ⟨h95, h97, hI, hfr1, hzf, h96⟩ := hw
    have o98 : F94 (A 12) = .inl (cs 0, 400, .inl f83) := (hfr1 _ (by rw [(y_k12 hA)]; decide)).trans o84
    obtain ⟨z99, q100, oY101, bz102⟩ := y_opY hI ha0
    have hzf : ∀ k, k ∈ ([1, 3, 5, 6, 7, 8, 11, 15, 16, 19, 25, 26, 27, 31, 32] : List Nat) → z99 k = z69 k := fun k hk => by have q9 := hzf k hk; rw [y_fiZ oY101 (s_sub (by decide) hk), y_fiZ oY82 (s_sub (by decide) hk)] at q9; exact q9
    have hz0 : ∀ k, k ∈ ([1, 3, 7, 8, 15, 16, 19, 25, 26, 27, 31, 32] : List Nat) → z99 k = z0 k := fun k hk => (hzf k (s_sub (by decide) hk)).trans (hz0 k hk)
    have ev76 : v76 = z99 5 := ev76.trans (hzf 5 (by decide)).symm
    have hfr : ∀ b, K b ∉ [9, 62, 64] → F94 b = F b := fun b hb9 => (hfr1 b (fun q => hb9 (s_sub (by decide) q))).trans (hfr b hb9)
    refine lv_if_ne (tgt := 51) hx hb dX7_goTold_47 (by decide) (fun c103 => ?_) (fun c103 => ?_)
    · have c103 := mt (ax_eq (n := 0) (by decide)).mpr c103
      refine lv_aload_n hx hb dX7_goTold_51 rfl (lv_at hl 0 rfl) ?_
      refine lv_iconst (v := 2) hx hb dX7_goTold_52 (by decide) ?_
      refine lv_aload_n hx hb dX7_goTold_53 rfl (lv_at hl 0 rfl) ?_
      have ep104_5 := ev76
      refine va_calli (va_runV (As := []) (rest := [.int 2, .ref a0]) ⟨hx, hb, hml, hown, hts⟩ (y_X7_partTold l dC dI H.size hLK A hA F94 a0 ha0 hI) (cwV 0 hts (ax_gV T_1119 T_1121 T_1122 T_265 T_1120) rfl rfl rfl (by decide +kernel) ⟨Nat.le_of_ble_eq_true rfl, Nat.le_of_ble_eq_true rfl⟩) ⟨fun a U g mk q => ⟨q.1, s_pc rfl rfl q.2⟩, s_recv hK hP (hLK _ ha0 (by decide)) (ci := 7) rfl oY101, fun U hU hW => ⟨rfl, s_pw hU hW hP hK hD hN⟩⟩ rfl rfl hl.1 rfl (lv_room (Nat.le_of_ble_eq_true rfl)) dX7_goTold_54 ⟨Nat.zero_le _, Nat.zero_le _⟩) hS (fun q _ h => h) (fun q h => h) (fun r105 F106 t H1 locs ht hvm hw hB hz1 hk1 hS => ?_)
      obtain ⟨hP, hK1⟩ := hB
      rw [ht] at hP
      generalize H1 = H at hP hS ⊢
      obtain ⟨h107, h109, hI, hfr1, hzf, h108⟩ := hw
      have o110 : F106 (A 12) = .inl (cs 0, 400, .inl f83) := (hfr1 _ (by rw [(y_k12 hA)]; decide)).trans o98
      obtain ⟨z111, q112, oY113, bz114⟩ := y_opY hI ha0
      have hzf : ∀ k, k ∈ ([1, 3, 7, 8, 11, 15, 16, 19, 25, 26, 27, 31, 32] : List Nat) → z111 k = z99 k := fun k hk => by have q9 := hzf k hk; rw [y_fiZ oY113 (s_sub (by decide) hk), y_fiZ oY101 (s_sub (by decide) hk)] at q9; exact q9
      have hz0 : ∀ k, k ∈ ([1, 3, 7, 8, 15, 16, 19, 25, 26, 27, 31, 32] : List Nat) → z111 k = z0 k := fun k hk => (hzf k (s_sub (by decide) hk)).trans (hz0 k hk)
      have hfr : ∀ b, K b ∉ [9, 62, 64] → F106 b = F b := fun b hb9 => (hfr1 b (fun q => hb9 (s_sub (by decide) q))).trans (hfr b hb9)
      obtain ⟨v115, ev115⟩ : ∃ y : Int32, y = z111 5 := ⟨_, rfl⟩
      have h108 : ((v76.toInt = 0 ∨ ¬ v115.toInt = 0) ∧ (v115.toInt = 0 → -4 ≤ r105.toInt ∧ r105.toInt ≤ 999)) := by have q9 := h108; rw [y_fiZ oY101 (k := 5) (by decide), ← ep104_5, y_fiZ oY113 (k := 5) (by decide), ← ev115] at q9; exact q9
      have ep116_5 := ev115
      refine va_callv (va_runV (As := [.int 2, .int r105]) (rest := []) ⟨hx, hb, hml, hown, hts⟩ (y_X7_lays l dC dI H.size hLK A hA F106 a0 2 r105 ha0 (by decide) hI) (cwV 2 hts (ax_gV T_1115 T_1117 T_1118 T_265 T_1116) rfl rfl rfl (by decide +kernel) ⟨Nat.le_of_ble_eq_true rfl, Nat.le_of_ble_eq_true rfl⟩) ⟨fun a U g mk q => ⟨q.1, s_pc rfl rfl q.2⟩, s_recv hK hP (hLK _ ha0 (by decide)) (ci := 7) rfl oY113, fun U hU hW => ⟨rfl, s_pw hU hW hP hK hD hN⟩⟩ rfl rfl hl.1 rfl (lv_room (Nat.le_of_ble_eq_true rfl)) dX7_goTold_57 ⟨Nat.zero_le _, Nat.zero_le _⟩) hS (fun q _ h => h) (fun q h => h) (fun F117 t H1 locs ht hvm hw hB hz1 hk1 hS => ?_)
      obtain ⟨hP, hK1⟩ := hB
      rw [ht] at hP
      generalize H1 = H at hP hS ⊢
      obtain ⟨h118, h120, hI, hfr1, hzf, h119⟩ := hw
      have oY121 : F117 a0 = .inr (7, y_fl A z111 q112) := (hfr1 _ (by rw [ha0]; decide)).trans oY113
      have hfr : ∀ b, K b ∉ [9, 62, 64] → F117 b = F b := fun b hb9 => (hfr1 b (fun q => hb9 (s_sub (by decide) q))).trans (hfr b hb9)
      obtain ⟨f122, o123, b124⟩ := y_op12 hI
      have h119 : ((∀ j : Int, 0 ≤ j → j ≠ 8 * (y_c f83 387).toInt + 2 → y_c f122 j = y_c f83 j) ∧ (v115.toInt = 0 → y_c f122 (8 * (y_c f83 387).toInt + 2) = r105)) := by have q9 := h119; rw [y_atE o110, y_atE o123, y_fiZ oY113 (k := 5) (by decide), ← ep116_5] at q9; exact q9
      rw [hn86] at h119
      have hn125 : (y_c f122 387).toInt = nn := by rw [h119.1 387 (by omega) (by omega)]; exact hn86
      have hfr126 : ∀ j : Int, 0 ≤ j → (j < 8 * nn ∨ 8 * nn + 8 ≤ j) → y_c f122 j = y_c f1 j := fun j h0 h1 => (h119.1 j h0 (by omega)).trans (hfr87 j h0 h1)
      have h127 : (y_c f122 (8 * nn)).toInt = (y_c f83 (8 * nn)).toInt := (congrArg Int32.toInt (h119.1 _ (by omega) (by omega)))
      have h128 : v115.toInt = 0 → (y_c f122 (8 * nn + 2)).toInt = r105.toInt := (fun h9 => (congrArg (fun i => (y_c f122 i).toInt) (show 8 * nn + 2 = 8 * nn + 2 by omega)).trans ((congrArg Int32.toInt (h119.2 h9)).trans rfl))
      have h129 : (y_c f122 (8 * nn + 3)).toInt = (y_c f83 (8 * nn + 3)).toInt := (congrArg Int32.toInt (h119.1 _ (by omega) (by omega)))
      have h130 : (y_c f122 (8 * nn + 5)).toInt = (y_c f83 (8 * nn + 5)).toInt := (congrArg Int32.toInt (h119.1 _ (by omega) (by omega)))
      refine lv_aload_n hx hb dX7_goTold_60 rfl (lv_at hl 0 rfl) ?_
      refine va_calli (va_runV (As := []) (rest := []) ⟨hx, hb, hml, hown, hts⟩ (y_X7_look l dC dI H.size hLK A hA F117 a0 ha0 hI) (cwV 0 hts (ax_gV T_275 T_276 T_277 T_265 T_22) rfl rfl rfl (by decide +kernel) ⟨Nat.le_of_ble_eq_true rfl, Nat.le_of_ble_eq_true rfl⟩) ⟨fun a U g mk q => ⟨q.1, s_pc rfl rfl q.2⟩, s_recv hK hP (hLK _ ha0 (by decide)) (ci := 7) rfl oY121, fun U hU hW => ⟨rfl, s_pw hU hW hP hK hD hN⟩⟩ rfl rfl hl.1 rfl (lv_room (Nat.le_of_ble_eq_true rfl)) dX7_goTold_61 ⟨Nat.zero_le _, Nat.zero_le _⟩) hS (fun q _ h => h) (fun q h => h) (fun r132 F133 t H1 locs ht hvm hw hB hz1 hk1 hS => ?_)
      obtain ⟨hP, hK1⟩ := hB
      rw [ht] at hP
      generalize H1 = H at hP hS ⊢
      obtain ⟨h134, h136, hI, hfr1, hzf, h135⟩ := hw
      have o137 : F133 (A 12) = .inl (cs 0, 400, .inl f122) := (hfr1 _ (by rw [(y_k12 hA)]; decide)).trans o123
      obtain ⟨z138, q139, oY140, bz141⟩ := y_opY hI ha0
      have hzf : ∀ k, k ∈ ([1, 3, 4, 5, 6, 7, 8, 11, 15, 16, 19, 25, 26, 27, 31, 32] : List Nat) → z138 k = z111 k := fun k hk => by have q9 := hzf k hk; rw [y_fiZ oY140 (s_sub (by decide) hk), y_fiZ oY121 (s_sub (by decide) hk)] at q9; exact q9
      have hz0 : ∀ k, k ∈ ([1, 3, 7, 8, 15, 16, 19, 25, 26, 27, 31, 32] : List Nat) → z138 k = z0 k := fun k hk => (hzf k (s_sub (by decide) hk)).trans (hz0 k hk)
      have ev115 : v115 = z138 5 := ev115.trans (hzf 5 (by decide)).symm
      have hfr : ∀ b, K b ∉ [9, 62, 64] → F133 b = F b := fun b hb9 => (hfr1 b (fun q => hb9 (s_sub (by decide) q))).trans (hfr b hb9)
      obtain ⟨v142, ev142⟩ : ∃ y : Int32, y = z138 2 := ⟨_, rfl⟩
      have qv142 : 0 ≤ v142.toInt ∧ v142.toInt ≤ 1600 := by rw [ev142]; exact y_bY2 bz141
      obtain ⟨v143, ev143⟩ : ∃ y : Int32, y = z138 3 := ⟨_, rfl⟩
      have qv143 : 0 ≤ v143.toInt ∧ v143.toInt ≤ 1600 := by rw [ev143]; exact y_bY3 bz141
      have h135 : (r132.toInt = -1 ∨ v142.toInt < v143.toInt) := by have q9 := h135; rw [y_fiZ oY140 (k := 2) (by decide), ← ev142, y_fiZ oY140 (k := 3) (by decide), ← ev143] at q9; exact q9
      refine lv_istore_n (lv' := [(2, .int r132), (0, .ref a0), (1, .int w6)]) hx hb dX7_goTold_64 rfl hl (by decide) rfl (fun ls hl => ?_)
      refine lv_aload_n hx hb dX7_goTold_65 rfl (lv_at hl 1 rfl) ?_
      refine th_get (D := (dC, dI)) (ci := 7) (v := .int (z138 5)) (C := RX7) (T := TX7) (N := 34) hx hb hts inX7 hown hK hP (hLK _ ha0 (by decide)) oY140 rfl 5 (by decide) (hts _ T_274) (fun _ h9 => h9) rfl dX7_goTold_66 ?_
      refine ax_eqi (y := v115) ev115.symm ?_
      refine lv_if_ne (tgt := 99) hx hb dX7_goTold_69 (by decide) (fun c144 => ?_) (fun c144 => ?_)
      · have c144 := mt (ax_eq (n := 0) (by decide)).mpr c144
        exact K99 _ _ _ ⟨F133, _, r132, rfl, lv_sub hl [1, 0] rfl, hP, hS, hI, hfr, (fun k hk => (y_fiZ oY140 (s_sub (by decide) hk)).trans (hz0 k hk)), trivial, (by rw [y_atE o137]; exact hn125), (by rw [y_atE o137]; exact hfr126), (by rw [y_atE o137, y_fiZ oY140 (k := 5) (by decide), ← ev115]; omega), (by rw [y_fiZ oY140 (k := 5) (by decide), ← ev115, y_fiZ oY140 (k := 2) (by decide), ← ev142]; omega), (by rw [y_fiZ oY140 (k := 5) (by decide), ← ev115, y_atE o137]; omega)⟩
      · have c144 := (ax_eq (n := 0) (by decide)).mp c144
        refine lv_iload_n hx hb dX7_goTold_72 rfl (lv_at hl 0 rfl) ?_
        refine lv_bipush (v := 60) hx hb dX7_goTold_73 (by decide) ?_
        refine lv_icmp_eq (tgt := 99) hx hb dX7_goTold_75 (by decide) (fun c145 => ?_) (fun c145 => ?_)
        · have c145 := (ax_eq (n := 60) (by decide)).mp c145
          exact K99 _ _ _ ⟨F133, _, r132, rfl, lv_sub hl [1, 0] rfl, hP, hS, hI, hfr, (fun k hk => (y_fiZ oY140 (s_sub (by decide) hk)).trans (hz0 k hk)), trivial, (by rw [y_atE o137]; exact hn125), (by rw [y_atE o137]; exact hfr126), (by rw [y_atE o137, y_fiZ oY140 (k := 5) (by decide), ← ev115]; omega), (by rw [y_fiZ oY140 (k := 5) (by decide), ← ev115, y_fiZ oY140 (k := 2) (by decide), ← ev142]; omega), (by rw [y_fiZ oY140 (k := 5) (by decide), ← ev115, y_atE o137]; omega)⟩
        · have c145 := mt (ax_eq (n := 60) (by decide)).mpr c145
          refine lv_iload_n hx hb dX7_goTold_78 rfl (lv_at hl 0 rfl) ?_
          refine lv_bipush (v := 61) hx hb dX7_goTold_79 (by decide) ?_
          refine lv_icmp_eq (tgt := 99) hx hb dX7_goTold_81 (by decide) (fun c146 => ?_) (fun c146 => ?_)
          · have c146 := (ax_eq (n := 61) (by decide)).mp c146
            exact K99 _ _ _ ⟨F133, _, r132, rfl, lv_sub hl [1, 0] rfl, hP, hS, hI, hfr, (fun k hk => (y_fiZ oY140 (s_sub (by decide) hk)).trans (hz0 k hk)), trivial, (by rw [y_atE o137]; exact hn125), (by rw [y_atE o137]; exact hfr126), (by rw [y_atE o137, y_fiZ oY140 (k := 5) (by decide), ← ev115]; omega), (by rw [y_fiZ oY140 (k := 5) (by decide), ← ev115, y_fiZ oY140 (k := 2) (by decide), ← ev142]; omega), (by rw [y_fiZ oY140 (k := 5) (by decide), ← ev115, y_atE o137]; omega)⟩
          · have c146 := mt (ax_eq (n := 61) (by decide)).mpr c146
            refine lv_iload_n hx hb dX7_goTold_84 rfl (lv_at hl 0 rfl) ?_
            refine lv_bipush (v := 62) hx hb dX7_goTold_85 (by decide) ?_
            refine lv_icmp_eq (tgt := 99) hx hb dX7_goTold_87 (by decide) (fun c147 => ?_) (fun c147 => ?_)
            · have c147 := (ax_eq (n := 62) (by decide)).mp c147
              exact K99 _ _ _ ⟨F133, _, r132, rfl, lv_sub hl [1, 0] rfl, hP, hS, hI, hfr, (fun k hk => (y_fiZ oY140 (s_sub (by decide) hk)).trans (hz0 k hk)), trivial, (by rw [y_atE o137]; exact hn125), (by rw [y_atE o137]; exact hfr126), (by rw [y_atE o137, y_fiZ oY140 (k := 5) (by decide), ← ev115]; omega), (by rw [y_fiZ oY140 (k := 5) (by decide), ← ev115, y_fiZ oY140 (k := 2) (by decide), ← ev142]; omega), (by rw [y_fiZ oY140 (k := 5) (by decide), ← ev115, y_atE o137]; omega)⟩
            · have c147 := mt (ax_eq (n := 62) (by decide)).mpr c147
              refine lv_aload_n hx hb dX7_goTold_90 rfl (lv_at hl 1 rfl) ?_
              refine lv_iconst (v := 1) hx hb dX7_goTold_91 (by decide) ?_
              refine lv_aload_n hx hb dX7_goTold_92 rfl (lv_at hl 1 rfl) ?_
              refine th_get (D := (dC, dI)) (ci := 7) (v := .int (z138 2)) (C := RX7) (T := TX7) (N := 34) hx hb hts inX7 hown hK hP (hLK _ ha0 (by decide)) oY140 rfl 2 (by decide) (hts _ T_272) (fun _ h9 => h9) rfl dX7_goTold_93 ?_
              refine ax_eqi (y := v142) ev142.symm ?_
              refine va_callv (va_runV (As := [.int 1, .int v142]) (rest := []) ⟨hx, hb, hml, hown, hts⟩ (y_X7_fail l dC dI H.size hLK A hA F133 a0 1 v142 ha0 (by decide) hI) (cwV 2 hts (ax_gV T_290 T_291 T_292 T_265 T_27) rfl rfl rfl (by decide +kernel) ⟨Nat.le_of_ble_eq_true rfl, Nat.le_of_ble_eq_true rfl⟩) ⟨fun a U g mk q => ⟨q.1, s_pc rfl rfl q.2⟩, s_recv hK hP (hLK _ ha0 (by decide)) (ci := 7) rfl oY140, fun U hU hW => ⟨rfl, s_pw hU hW hP hK hD hN⟩⟩ rfl rfl hl.1 rfl (lv_room (Nat.le_of_ble_eq_true rfl)) dX7_goTold_96 ⟨Nat.zero_le _, Nat.zero_le _⟩) hS (fun q _ h => h) (fun q h => h) (fun F149 t H1 locs ht hvm hw hB hz1 hk1 hS => ?_)
              obtain ⟨hP, hK1⟩ := hB
              rw [ht] at hP
              generalize H1 = H at hP hS ⊢
              obtain ⟨h150, h152, hI, hfr1, hzf, h151⟩ := hw
              have o153 : F149 (A 12) = .inl (cs 0, 400, .inl f122) := (hfr1 _ (by rw [(y_k12 hA)]; decide)).trans o137
              obtain ⟨z154, q155, oY156, bz157⟩ := y_opY hI ha0
              have hzf : ∀ k, k ∈ ([1, 2, 3, 4, 7, 8, 11, 15, 16, 19, 25, 26, 27, 31, 32] : List Nat) → z154 k = z138 k := fun k hk => by have q9 := hzf k hk; rw [y_fiZ oY156 (s_sub (by decide) hk), y_fiZ oY140 (s_sub (by decide) hk)] at q9; exact q9
              have hz0 : ∀ k, k ∈ ([1, 3, 7, 8, 15, 16, 19, 25, 26, 27, 31, 32] : List Nat) → z154 k = z0 k := fun k hk => (hzf k (s_sub (by decide) hk)).trans (hz0 k hk)
              have ev142 : v142 = z154 2 := ev142.trans (hzf 2 (by decide)).symm
              have ev143 : v143 = z154 3 := ev143.trans (hzf 3 (by decide)).symm
              have hfr : ∀ b, K b ∉ [9, 62, 64] → F149 b = F b := fun b hb9 => (hfr1 b (fun q => hb9 (s_sub (by decide) q))).trans (hfr b hb9)
              obtain ⟨v158, ev158⟩ : ∃ y : Int32, y = z154 5 := ⟨_, rfl⟩
              have h151 : (¬ v158.toInt = 0) := by have q9 := h151; rw [y_fiZ oY156 (k := 5) (by decide), ← ev158] at q9; exact q9
              exact K99 _ _ _ ⟨F149, _, r132, rfl, lv_sub hl [1, 0] rfl, hP, hS, hI, hfr, (fun k hk => (y_fiZ oY156 (s_sub (by decide) hk)).trans (hz0 k hk)), trivial, (by rw [y_atE o153]; exact hn125), (by rw [y_atE o153]; exact hfr126), (by rw [y_atE o153, y_fiZ oY156 (k := 5) (by decide), ← ev158]; omega), (by rw [y_fiZ oY156 (k := 5) (by decide), ← ev158, y_fiZ oY156 (k := 2) (by decide), ← ev142]; omega), (by rw [y_fiZ oY156 (k := 5) (by decide), ← ev158, y_atE o153]; omega)⟩
    · have c103 := (ax_eq (n := 0) (by decide)).mp c103
      exact W.vret hx hb hr (fun t ht hW => ⟨⟨F94, rfl, ⟨trivial, trivial, hI, hfr, fun k hk => (y_fiZ oY101 (s_sub (by decide) hk)).trans ((hz0 k hk).trans (y_fiZ oY0 (s_sub (by decide) hk)).symm), (by rw [y_fiZ oY0 (k := 5) (by decide), ← eF_5, y_fiZ oY101 (k := 5) (by decide), ← ev76, y_atE o2, y_atE o98]; rw [← hnn]; exact ⟨by omega, hfr87, by omega, by omega⟩)⟩, by rw [ht]; exact hP, va_K.moved hW.alike hK⟩, hS.F ht⟩) hS.2.2 dX7_goTold_50
  · intro g H locs hq
    obtain ⟨F165, ls, w5, rfl, hl, hP, hS, hI, hfr, hz0, h159, h160, h161, h162, h163, h164⟩ := hq
    obtain ⟨z166, q167, oY168, bz169⟩ := y_opY hI ha0
    have hz0 : ∀ k, k ∈ ([1, 3, 7, 8, 15, 16, 19, 25, 26, 27, 31, 32] : List Nat) → z166 k = z0 k := fun k hk => (y_fiZ oY168 (s_sub (by decide) hk)).symm.trans (hz0 k hk)
    obtain ⟨f170, o171, b172⟩ := y_op12 hI
    have h160 : (y_c f170 387).toInt = nn := by have q9 := h160; rw [y_atE o171] at q9; exact q9
    have h161 : (∀ j : Int, 0 ≤ j → (j < 8 * nn ∨ 8 * nn + 8 ≤ j) → y_c f170 j = y_c f1 j) := by have q9 := h161; rw [y_atE o171] at q9; exact q9
    obtain ⟨v173, ev173⟩ : ∃ y : Int32, y = z166 5 := ⟨_, rfl⟩
    have h162 : ((y_c f170 (8 * nn)).toInt = (y_c f1 (8 * nn)).toInt ∧ (y_c f170 (8 * nn + 5)).toInt = -1000000 ∧ (v4.toInt = 0 ∨ ¬ v173.toInt = 0)) := by have q9 := h162; rw [y_atE o171, y_fiZ oY168 (k := 5) (by decide), ← ev173] at q9; exact q9
    obtain ⟨v174, ev174⟩ : ∃ y : Int32, y = z166 2 := ⟨_, rfl⟩
    have qv174 : 0 ≤ v174.toInt ∧ v174.toInt ≤ 1600 := by rw [ev174]; exact y_bY2 bz169
    have h163 : (v173.toInt = 0 → v174.toInt < 1600) := by have q9 := h163; rw [y_fiZ oY168 (k := 5) (by decide), ← ev173, y_fiZ oY168 (k := 2) (by decide), ← ev174] at q9; exact q9
    have h164 : (v173.toInt = 0 → -4 ≤ (y_c f170 (8 * nn + 2)).toInt) := by have q9 := h164; rw [y_fiZ oY168 (k := 5) (by decide), ← ev173, y_atE o171] at q9; exact q9
    refine lv_aload_n hx hb dX7_goTold_99 rfl (lv_at hl 0 rfl) ?_
    refine th_get (D := (dC, dI)) (ci := 7) (v := .int (z166 5)) (C := RX7) (T := TX7) (N := 34) hx hb hts inX7 hown hK hP (hLK _ ha0 (by decide)) oY168 rfl 5 (by decide) (hts _ T_274) (fun _ h9 => h9) rfl dX7_goTold_100 ?_
    refine ax_eqi (y := v173) ev173.symm ?_
    refine lv_if_eq (tgt := 107) hx hb dX7_goTold_103 (by decide) (fun c175 => ?_) (fun c175 => ?_)
    · have c175 := (ax_eq (n := 0) (by decide)).mp c175
      refine lv_aload_n hx hb dX7_goTold_107 rfl (lv_at hl 0 rfl) ?_
      refine lv_dup hx hb dX7_goTold_108 rfl ?_
      refine th_get (D := (dC, dI)) (ci := 7) (v := .int (z166 2)) (C := RX7) (T := TX7) (N := 34) hx hb hts inX7 hown hK hP (hLK _ ha0 (by decide)) oY168 rfl 2 (by decide) (hts _ T_272) (fun _ h9 => h9) rfl dX7_goTold_109 ?_
      refine ax_eqi (y := v174) ev174.symm ?_
      refine lv_iconst (v := 1) hx hb dX7_goTold_112 (by decide) ?_
      refine lv_iadd hx hb dX7_goTold_113 ?_
      refine lv_topi (fun v176 ev176 => ?_)
      have qv176 : v176.toInt = v174.toInt + 1 := by rw [ev176]; exact th_add rfl (by decide) ⟨by omega, by omega⟩
      refine th_put (D := (dC, dI)) (ci := 7) (v := .int v176) (ty := .int) (C := RX7) (T := TX7) (N := 34) hx hb hts inX7 tyX7 tyX7_ok nmX7 hown hK hP hD hS (hLK _ ha0 (by decide)) oY168 rfl 2 (by decide) (hts _ T_272) (fun _ h9 => h9) rfl (by decide +kernel) rfl rfl (Nat.le_of_ble_eq_true rfl) dX7_goTold_114 (fun H locs hP hS => ?_)
      rw [y_fs2] at hP
      obtain ⟨z177, hz178⟩ : ∃ g : Nat → Int32, g = upd z166 2 v176 := ⟨_, rfl⟩
      rw [← hz178] at hP
      have bz179 : y_bY z177 := by rw [hz178]; exact y_bp2 bz169 ⟨by omega, by omega⟩
      have hP : va_P (dC, dI) vwCl (va_pl L (va_up F165 a0 (.inr (7, y_fl A z177 q167)))) H := hP
      obtain ⟨F180, hF181⟩ : ∃ G : Nat → va_E, G = va_up F165 a0 (.inr (7, y_fl A z177 q167)) := ⟨_, rfl⟩
      rw [← hF181] at hP
      have hI : y_I K cs A F180 := by rw [hF181]; exact y_clY hA hI ha0 bz179
      have hfr : ∀ b, K b ∉ [9, 62, 64] → F180 b = F b := by rw [hF181]; exact s_fr hfr ha0 (by decide)
      have o182 : F180 (A 12) = .inl (cs 0, 400, .inl f170) := by rw [hF181]; exact th_ne (th_kd (y_k12 hA) ha0 (by decide)) o171
      have oY183 : F180 a0 = .inr (7, y_fl A z177 q167) := by rw [hF181]; exact th_up
      have hz0 : ∀ k, k ∈ ([1, 3, 7, 8, 15, 16, 19, 25, 26, 27, 31, 32] : List Nat) → z177 k = z0 k := fun k hk => by rw [hz178]; exact (y_un (fun q => absurd hk (by rw [q]; decide))).trans (hz0 k hk)
      have ev173 : v173 = z177 5 := by rw [hz178]; exact ev173.trans (y_un (by decide)).symm
      obtain ⟨v184, ev184⟩ : ∃ y : Int32, y = z177 2 := ⟨_, rfl⟩
      have qv184 : v184.toInt = v176.toInt := by rw [ev184, hz178, y_ue]
      refine lv_aload_n hx hb dX7_goTold_117 rfl (lv_at hl 0 rfl) ?_
      refine lv_iconst (v := 5) hx hb dX7_goTold_118 (by decide) ?_
      refine lv_iload_n hx hb dX7_goTold_119 rfl (lv_at hl 1 rfl) ?_
      refine lv_bipush (v := 60) hx hb dX7_goTold_120 (by decide) ?_
      refine lv_icmp_ne (tgt := 129) hx hb dX7_goTold_122 (by decide) (fun c185 => ?_) (fun c185 => ?_)
      · have c185 := mt (ax_eq (n := 60) (by decide)).mpr c185
        refine lv_iload_n hx hb dX7_goTold_129 rfl (lv_at hl 1 rfl) ?_
        refine lv_bipush (v := 61) hx hb dX7_goTold_130 (by decide) ?_
        refine lv_icmp_ne (tgt := 139) hx hb dX7_goTold_132 (by decide) (fun c186 => ?_) (fun c186 => ?_)
        · have c186 := mt (ax_eq (n := 61) (by decide)).mpr c186
          refine lv_iconst (v := 2) hx hb dX7_goTold_139 (by decide) ?_
          have ep187_5 := ev173
          refine va_callv (va_runV (As := [.int 5, .int 2]) (rest := []) ⟨hx, hb, hml, hown, hts⟩ (y_X7_lays l dC dI H.size hLK A hA F180 a0 5 2 ha0 (by decide) hI) (cwV 2 hts (ax_gV T_1115 T_1117 T_1118 T_265 T_1116) rfl rfl rfl (by decide +kernel) ⟨Nat.le_of_ble_eq_true rfl, Nat.le_of_ble_eq_true rfl⟩) ⟨fun a U g mk q => ⟨q.1, s_pc rfl rfl q.2⟩, s_recv hK hP (hLK _ ha0 (by decide)) (ci := 7) rfl oY183, fun U hU hW => ⟨rfl, s_pw hU hW hP hK hD hN⟩⟩ rfl rfl hl.1 rfl (lv_room (Nat.le_of_ble_eq_true rfl)) dX7_goTold_140 ⟨Nat.zero_le _, Nat.zero_le _⟩) hS (fun q _ h => h) (fun q h => h) (fun F188 t H1 locs ht hvm hw hB hz1 hk1 hS => ?_)
          obtain ⟨hP, hK1⟩ := hB
          rw [ht] at hP
          generalize H1 = H at hP hS ⊢
          obtain ⟨h189, h191, hI, hfr1, hzf, h190⟩ := hw
          have oY192 : F188 a0 = .inr (7, y_fl A z177 q167) := (hfr1 _ (by rw [ha0]; decide)).trans oY183
          have hfr : ∀ b, K b ∉ [9, 62, 64] → F188 b = F b := fun b hb9 => (hfr1 b (fun q => hb9 (s_sub (by decide) q))).trans (hfr b hb9)
          obtain ⟨f193, o194, b195⟩ := y_op12 hI
          have h190 : ((∀ j : Int, 0 ≤ j → j ≠ 8 * (y_c f170 387).toInt + 5 → y_c f193 j = y_c f170 j) ∧ (v173.toInt = 0 → y_c f193 (8 * (y_c f170 387).toInt + 5) = 2)) := by have q9 := h190; rw [y_atE o182, y_atE o194, y_fiZ oY183 (k := 5) (by decide), ← ep187_5] at q9; exact q9
          rw [h160] at h190
          have hn196 : (y_c f193 387).toInt = nn := by rw [h190.1 387 (by omega) (by omega)]; exact h160
          have hfr197 : ∀ j : Int, 0 ≤ j → (j < 8 * nn ∨ 8 * nn + 8 ≤ j) → y_c f193 j = y_c f1 j := fun j h0 h1 => (h190.1 j h0 (by omega)).trans (h161 j h0 h1)
          have h198 : (y_c f193 (8 * nn)).toInt = (y_c f170 (8 * nn)).toInt := (congrArg Int32.toInt (h190.1 _ (by omega) (by omega)))
          have h199 : (y_c f193 (8 * nn + 2)).toInt = (y_c f170 (8 * nn + 2)).toInt := (congrArg Int32.toInt (h190.1 _ (by omega) (by omega)))
          have h200 : (y_c f193 (8 * nn + 3)).toInt = (y_c f170 (8 * nn + 3)).toInt := (congrArg Int32.toInt (h190.1 _ (by omega) (by omega)))
          have h201 : v173.toInt = 0 → (y_c f193 (8 * nn + 5)).toInt = 2 := (fun h9 => (congrArg (fun i => (y_c f193 i).toInt) (show 8 * nn + 5 = 8 * nn + 5 by omega)).trans ((congrArg Int32.toInt (h190.2 h9)).trans (by decide)))
          refine lv_aload_n hx hb dX7_goTold_143 rfl (lv_at hl 0 rfl) ?_
          refine lv_iconst (v := 3) hx hb dX7_goTold_144 (by decide) ?_
          refine lv_aload_n hx hb dX7_goTold_145 rfl (lv_at hl 0 rfl) ?_
          have ep202_5 := ev173
          refine va_calli (va_runV (As := []) (rest := [.int 3, .ref a0]) ⟨hx, hb, hml, hown, hts⟩ (y_X7_partTold l dC dI H.size hLK A hA F188 a0 ha0 hI) (cwV 0 hts (ax_gV T_1119 T_1121 T_1122 T_265 T_1120) rfl rfl rfl (by decide +kernel) ⟨Nat.le_of_ble_eq_true rfl, Nat.le_of_ble_eq_true rfl⟩) ⟨fun a U g mk q => ⟨q.1, s_pc rfl rfl q.2⟩, s_recv hK hP (hLK _ ha0 (by decide)) (ci := 7) rfl oY192, fun U hU hW => ⟨rfl, s_pw hU hW hP hK hD hN⟩⟩ rfl rfl hl.1 rfl (lv_room (Nat.le_of_ble_eq_true rfl)) dX7_goTold_146 ⟨Nat.zero_le _, Nat.zero_le _⟩) hS (fun q _ h => h) (fun q h => h) (fun r203 F204 t H1 locs ht hvm hw hB hz1 hk1 hS => ?_)
          obtain ⟨hP, hK1⟩ := hB
          rw [ht] at hP
          generalize H1 = H at hP hS ⊢
          obtain ⟨h205, h207, hI, hfr1, hzf, h206⟩ := hw
          have o208 : F204 (A 12) = .inl (cs 0, 400, .inl f193) := (hfr1 _ (by rw [(y_k12 hA)]; decide)).trans o194
          obtain ⟨z209, q210, oY211, bz212⟩ := y_opY hI ha0
          have hzf : ∀ k, k ∈ ([1, 3, 7, 8, 11, 15, 16, 19, 25, 26, 27, 31, 32] : List Nat) → z209 k = z177 k := fun k hk => by have q9 := hzf k hk; rw [y_fiZ oY211 (s_sub (by decide) hk), y_fiZ oY192 (s_sub (by decide) hk)] at q9; exact q9
          have hz0 : ∀ k, k ∈ ([1, 3, 7, 8, 15, 16, 19, 25, 26, 27, 31, 32] : List Nat) → z209 k = z0 k := fun k hk => (hzf k (s_sub (by decide) hk)).trans (hz0 k hk)
          have hfr : ∀ b, K b ∉ [9, 62, 64] → F204 b = F b := fun b hb9 => (hfr1 b (fun q => hb9 (s_sub (by decide) q))).trans (hfr b hb9)
          obtain ⟨v213, ev213⟩ : ∃ y : Int32, y = z209 5 := ⟨_, rfl⟩
          have h206 : ((v173.toInt = 0 ∨ ¬ v213.toInt = 0) ∧ (v213.toInt = 0 → -4 ≤ r203.toInt ∧ r203.toInt ≤ 999)) := by have q9 := h206; rw [y_fiZ oY192 (k := 5) (by decide), ← ep202_5, y_fiZ oY211 (k := 5) (by decide), ← ev213] at q9; exact q9
          have ep214_5 := ev213
          refine va_callv (va_runV (As := [.int 3, .int r203]) (rest := []) ⟨hx, hb, hml, hown, hts⟩ (y_X7_lays l dC dI H.size hLK A hA F204 a0 3 r203 ha0 (by decide) hI) (cwV 2 hts (ax_gV T_1115 T_1117 T_1118 T_265 T_1116) rfl rfl rfl (by decide +kernel) ⟨Nat.le_of_ble_eq_true rfl, Nat.le_of_ble_eq_true rfl⟩) ⟨fun a U g mk q => ⟨q.1, s_pc rfl rfl q.2⟩, s_recv hK hP (hLK _ ha0 (by decide)) (ci := 7) rfl oY211, fun U hU hW => ⟨rfl, s_pw hU hW hP hK hD hN⟩⟩ rfl rfl hl.1 rfl (lv_room (Nat.le_of_ble_eq_true rfl)) dX7_goTold_149 ⟨Nat.zero_le _, Nat.zero_le _⟩) hS (fun q _ h => h) (fun q h => h) (fun F215 t H1 locs ht hvm hw hB hz1 hk1 hS => ?_)
          obtain ⟨hP, hK1⟩ := hB
          rw [ht] at hP
          generalize H1 = H at hP hS ⊢
          obtain ⟨h216, h218, hI, hfr1, hzf, h217⟩ := hw
          have oY219 : F215 a0 = .inr (7, y_fl A z209 q210) := (hfr1 _ (by rw [ha0]; decide)).trans oY211
          have hfr : ∀ b, K b ∉ [9, 62, 64] → F215 b = F b := fun b hb9 => (hfr1 b (fun q => hb9 (s_sub (by decide) q))).trans (hfr b hb9)
          obtain ⟨f220, o221, b222⟩ := y_op12 hI
          have h217 : ((∀ j : Int, 0 ≤ j → j ≠ 8 * (y_c f193 387).toInt + 3 → y_c f220 j = y_c f193 j) ∧ (v213.toInt = 0 → y_c f220 (8 * (y_c f193 387).toInt + 3) = r203)) := by have q9 := h217; rw [y_atE o208, y_atE o221, y_fiZ oY211 (k := 5) (by decide), ← ep214_5] at q9; exact q9
          rw [hn196] at h217
          have hn223 : (y_c f220 387).toInt = nn := by rw [h217.1 387 (by omega) (by omega)]; exact hn196
          have hfr224 : ∀ j : Int, 0 ≤ j → (j < 8 * nn ∨ 8 * nn + 8 ≤ j) → y_c f220 j = y_c f1 j := fun j h0 h1 => (h217.1 j h0 (by omega)).trans (hfr197 j h0 h1)
          have h225 : (y_c f220 (8 * nn)).toInt = (y_c f193 (8 * nn)).toInt := (congrArg Int32.toInt (h217.1 _ (by omega) (by omega)))
          have h226 : (y_c f220 (8 * nn + 2)).toInt = (y_c f193 (8 * nn + 2)).toInt := (congrArg Int32.toInt (h217.1 _ (by omega) (by omega)))
          have h227 : v213.toInt = 0 → (y_c f220 (8 * nn + 3)).toInt = r203.toInt := (fun h9 => (congrArg (fun i => (y_c f220 i).toInt) (show 8 * nn + 3 = 8 * nn + 3 by omega)).trans ((congrArg Int32.toInt (h217.2 h9)).trans rfl))
          have h228 : (y_c f220 (8 * nn + 5)).toInt = (y_c f193 (8 * nn + 5)).toInt := (congrArg Int32.toInt (h217.1 _ (by omega) (by omega)))
          exact W.vret hx hb hr (fun t ht hW => ⟨⟨F215, rfl, ⟨trivial, trivial, hI, hfr, fun k hk => (y_fiZ oY219 (s_sub (by decide) hk)).trans ((hz0 k hk).trans (y_fiZ oY0 (s_sub (by decide) hk)).symm), (by rw [y_fiZ oY0 (k := 5) (by decide), ← eF_5, y_fiZ oY219 (k := 5) (by decide), ← ev213, y_atE o2, y_atE o221]; rw [← hnn]; exact ⟨by omega, hfr224, by omega, by omega⟩)⟩, by rw [ht]; exact hP, va_K.moved hW.alike hK⟩, hS.F ht⟩) hS.2.2 dX7_goTold_152
        · have c186 := (ax_eq (n := 61) (by decide)).mp c186
          refine lv_iconst (v := 1) hx hb dX7_goTold_135 (by decide) ?_
          refine lv_goto (tgt := 140) hx hb dX7_goTold_136 (by decide) ?_
          have ep229_5 := ev173
          refine va_callv (va_runV (As := [.int 5, .int 1]) (rest := []) ⟨hx, hb, hml, hown, hts⟩ (y_X7_lays l dC dI H.size hLK A hA F180 a0 5 1 ha0 (by decide) hI) (cwV 2 hts (ax_gV T_1115 T_1117 T_1118 T_265 T_1116) rfl rfl rfl (by decide +kernel) ⟨Nat.le_of_ble_eq_true rfl, Nat.le_of_ble_eq_true rfl⟩) ⟨fun a U g mk q => ⟨q.1, s_pc rfl rfl q.2⟩, s_recv hK hP (hLK _ ha0 (by decide)) (ci := 7) rfl oY183, fun U hU hW => ⟨rfl, s_pw hU hW hP hK hD hN⟩⟩ rfl rfl hl.1 rfl (lv_room (Nat.le_of_ble_eq_true rfl)) dX7_goTold_140 ⟨Nat.zero_le _, Nat.zero_le _⟩) hS (fun q _ h => h) (fun q h => h) (fun F230 t H1 locs ht hvm hw hB hz1 hk1 hS => ?_)
          obtain ⟨hP, hK1⟩ := hB
          rw [ht] at hP
          generalize H1 = H at hP hS ⊢
          obtain ⟨h231, h233, hI, hfr1, hzf, h232⟩ := hw
          have oY234 : F230 a0 = .inr (7, y_fl A z177 q167) := (hfr1 _ (by rw [ha0]; decide)).trans oY183
          have hfr : ∀ b, K b ∉ [9, 62, 64] → F230 b = F b := fun b hb9 => (hfr1 b (fun q => hb9 (s_sub (by decide) q))).trans (hfr b hb9)
          obtain ⟨f235, o236, b237⟩ := y_op12 hI
          have h232 : ((∀ j : Int, 0 ≤ j → j ≠ 8 * (y_c f170 387).toInt + 5 → y_c f235 j = y_c f170 j) ∧ (v173.toInt = 0 → y_c f235 (8 * (y_c f170 387).toInt + 5) = 1)) := by have q9 := h232; rw [y_atE o182, y_atE o236, y_fiZ oY183 (k := 5) (by decide), ← ep229_5] at q9; exact q9
          rw [h160] at h232
          have hn238 : (y_c f235 387).toInt = nn := by rw [h232.1 387 (by omega) (by omega)]; exact h160
          have hfr239 : ∀ j : Int, 0 ≤ j → (j < 8 * nn ∨ 8 * nn + 8 ≤ j) → y_c f235 j = y_c f1 j := fun j h0 h1 => (h232.1 j h0 (by omega)).trans (h161 j h0 h1)
          have h240 : (y_c f235 (8 * nn)).toInt = (y_c f170 (8 * nn)).toInt := (congrArg Int32.toInt (h232.1 _ (by omega) (by omega)))
          have h241 : (y_c f235 (8 * nn + 2)).toInt = (y_c f170 (8 * nn + 2)).toInt := (congrArg Int32.toInt (h232.1 _ (by omega) (by omega)))
          have h242 : (y_c f235 (8 * nn + 3)).toInt = (y_c f170 (8 * nn + 3)).toInt := (congrArg Int32.toInt (h232.1 _ (by omega) (by omega)))
          have h243 : v173.toInt = 0 → (y_c f235 (8 * nn + 5)).toInt = 1 := (fun h9 => (congrArg (fun i => (y_c f235 i).toInt) (show 8 * nn + 5 = 8 * nn + 5 by omega)).trans ((congrArg Int32.toInt (h232.2 h9)).trans (by decide)))
          refine lv_aload_n hx hb dX7_goTold_143 rfl (lv_at hl 0 rfl) ?_
          refine lv_iconst (v := 3) hx hb dX7_goTold_144 (by decide) ?_
          refine lv_aload_n hx hb dX7_goTold_145 rfl (lv_at hl 0 rfl) ?_
          have ep244_5 := ev173
          refine va_calli (va_runV (As := []) (rest := [.int 3, .ref a0]) ⟨hx, hb, hml, hown, hts⟩ (y_X7_partTold l dC dI H.size hLK A hA F230 a0 ha0 hI) (cwV 0 hts (ax_gV T_1119 T_1121 T_1122 T_265 T_1120) rfl rfl rfl (by decide +kernel) ⟨Nat.le_of_ble_eq_true rfl, Nat.le_of_ble_eq_true rfl⟩) ⟨fun a U g mk q => ⟨q.1, s_pc rfl rfl q.2⟩, s_recv hK hP (hLK _ ha0 (by decide)) (ci := 7) rfl oY234, fun U hU hW => ⟨rfl, s_pw hU hW hP hK hD hN⟩⟩ rfl rfl hl.1 rfl (lv_room (Nat.le_of_ble_eq_true rfl)) dX7_goTold_146 ⟨Nat.zero_le _, Nat.zero_le _⟩) hS (fun q _ h => h) (fun q h => h) (fun r245 F246 t H1 locs ht hvm hw hB hz1 hk1 hS => ?_)
          obtain ⟨hP, hK1⟩ := hB
          rw [ht] at hP
          generalize H1 = H at hP hS ⊢
          obtain ⟨h247, h249, hI, hfr1, hzf, h248⟩ := hw
          have o250 : F246 (A 12) = .inl (cs 0, 400, .inl f235) := (hfr1 _ (by rw [(y_k12 hA)]; decide)).trans o236
          obtain ⟨z251, q252, oY253, bz254⟩ := y_opY hI ha0
          have hzf : ∀ k, k ∈ ([1, 3, 7, 8, 11, 15, 16, 19, 25, 26, 27, 31, 32] : List Nat) → z251 k = z177 k := fun k hk => by have q9 := hzf k hk; rw [y_fiZ oY253 (s_sub (by decide) hk), y_fiZ oY234 (s_sub (by decide) hk)] at q9; exact q9
          have hz0 : ∀ k, k ∈ ([1, 3, 7, 8, 15, 16, 19, 25, 26, 27, 31, 32] : List Nat) → z251 k = z0 k := fun k hk => (hzf k (s_sub (by decide) hk)).trans (hz0 k hk)
          have hfr : ∀ b, K b ∉ [9, 62, 64] → F246 b = F b := fun b hb9 => (hfr1 b (fun q => hb9 (s_sub (by decide) q))).trans (hfr b hb9)
          obtain ⟨v255, ev255⟩ : ∃ y : Int32, y = z251 5 := ⟨_, rfl⟩
          have h248 : ((v173.toInt = 0 ∨ ¬ v255.toInt = 0) ∧ (v255.toInt = 0 → -4 ≤ r245.toInt ∧ r245.toInt ≤ 999)) := by have q9 := h248; rw [y_fiZ oY234 (k := 5) (by decide), ← ep244_5, y_fiZ oY253 (k := 5) (by decide), ← ev255] at q9; exact q9
          have ep256_5 := ev255
          refine va_callv (va_runV (As := [.int 3, .int r245]) (rest := []) ⟨hx, hb, hml, hown, hts⟩ (y_X7_lays l dC dI H.size hLK A hA F246 a0 3 r245 ha0 (by decide) hI) (cwV 2 hts (ax_gV T_1115 T_1117 T_1118 T_265 T_1116) rfl rfl rfl (by decide +kernel) ⟨Nat.le_of_ble_eq_true rfl, Nat.le_of_ble_eq_true rfl⟩) ⟨fun a U g mk q => ⟨q.1, s_pc rfl rfl q.2⟩, s_recv hK hP (hLK _ ha0 (by decide)) (ci := 7) rfl oY253, fun U hU hW => ⟨rfl, s_pw hU hW hP hK hD hN⟩⟩ rfl rfl hl.1 rfl (lv_room (Nat.le_of_ble_eq_true rfl)) dX7_goTold_149 ⟨Nat.zero_le _, Nat.zero_le _⟩) hS (fun q _ h => h) (fun q h => h) (fun F257 t H1 locs ht hvm hw hB hz1 hk1 hS => ?_)
          obtain ⟨hP, hK1⟩ := hB
          rw [ht] at hP
          generalize H1 = H at hP hS ⊢
          obtain ⟨h258, h260, hI, hfr1, hzf, h259⟩ := hw
          have oY261 : F257 a0 = .inr (7, y_fl A z251 q252) := (hfr1 _ (by rw [ha0]; decide)).trans oY253
          have hfr : ∀ b, K b ∉ [9, 62, 64] → F257 b = F b := fun b hb9 => (hfr1 b (fun q => hb9 (s_sub (by decide) q))).trans (hfr b hb9)
          obtain ⟨f262, o263, b264⟩ := y_op12 hI
          have h259 : ((∀ j : Int, 0 ≤ j → j ≠ 8 * (y_c f235 387).toInt + 3 → y_c f262 j = y_c f235 j) ∧ (v255.toInt = 0 → y_c f262 (8 * (y_c f235 387).toInt + 3) = r245)) := by have q9 := h259; rw [y_atE o250, y_atE o263, y_fiZ oY253 (k := 5) (by decide), ← ep256_5] at q9; exact q9
          rw [hn238] at h259
          have hn265 : (y_c f262 387).toInt = nn := by rw [h259.1 387 (by omega) (by omega)]; exact hn238
          have hfr266 : ∀ j : Int, 0 ≤ j → (j < 8 * nn ∨ 8 * nn + 8 ≤ j) → y_c f262 j = y_c f1 j := fun j h0 h1 => (h259.1 j h0 (by omega)).trans (hfr239 j h0 h1)
          have h267 : (y_c f262 (8 * nn)).toInt = (y_c f235 (8 * nn)).toInt := (congrArg Int32.toInt (h259.1 _ (by omega) (by omega)))
          have h268 : (y_c f262 (8 * nn + 2)).toInt = (y_c f235 (8 * nn + 2)).toInt := (congrArg Int32.toInt (h259.1 _ (by omega) (by omega)))
          have h269 : v255.toInt = 0 → (y_c f262 (8 * nn + 3)).toInt = r245.toInt := (fun h9 => (congrArg (fun i => (y_c f262 i).toInt) (show 8 * nn + 3 = 8 * nn + 3 by omega)).trans ((congrArg Int32.toInt (h259.2 h9)).trans rfl))
          have h270 : (y_c f262 (8 * nn + 5)).toInt = (y_c f235 (8 * nn + 5)).toInt := (congrArg Int32.toInt (h259.1 _ (by omega) (by omega)))
          exact W.vret hx hb hr (fun t ht hW => ⟨⟨F257, rfl, ⟨trivial, trivial, hI, hfr, fun k hk => (y_fiZ oY261 (s_sub (by decide) hk)).trans ((hz0 k hk).trans (y_fiZ oY0 (s_sub (by decide) hk)).symm), (by rw [y_fiZ oY0 (k := 5) (by decide), ← eF_5, y_fiZ oY261 (k := 5) (by decide), ← ev255, y_atE o2, y_atE o263]; rw [← hnn]; exact ⟨by omega, hfr266, by omega, by omega⟩)⟩, by rw [ht]; exact hP, va_K.moved hW.alike hK⟩, hS.F ht⟩) hS.2.2 dX7_goTold_152
      · have c185 := (ax_eq (n := 60) (by decide)).mp c185
        refine lv_iconst (v := 0) hx hb dX7_goTold_125 (by decide) ?_
        refine lv_goto (tgt := 140) hx hb dX7_goTold_126 (by decide) ?_
        have ep271_5 := ev173
        refine va_callv (va_runV (As := [.int 5, .int 0]) (rest := []) ⟨hx, hb, hml, hown, hts⟩ (y_X7_lays l dC dI H.size hLK A hA F180 a0 5 0 ha0 (by decide) hI) (cwV 2 hts (ax_gV T_1115 T_1117 T_1118 T_265 T_1116) rfl rfl rfl (by decide +kernel) ⟨Nat.le_of_ble_eq_true rfl, Nat.le_of_ble_eq_true rfl⟩) ⟨fun a U g mk q => ⟨q.1, s_pc rfl rfl q.2⟩, s_recv hK hP (hLK _ ha0 (by decide)) (ci := 7) rfl oY183, fun U hU hW => ⟨rfl, s_pw hU hW hP hK hD hN⟩⟩ rfl rfl hl.1 rfl (lv_room (Nat.le_of_ble_eq_true rfl)) dX7_goTold_140 ⟨Nat.zero_le _, Nat.zero_le _⟩) hS (fun q _ h => h) (fun q h => h) (fun F272 t H1 locs ht hvm hw hB hz1 hk1 hS => ?_)
        obtain ⟨hP, hK1⟩ := hB
        rw [ht] at hP
        generalize H1 = H at hP hS ⊢
        obtain ⟨h273, h275, hI, hfr1, hzf, h274⟩ := hw
        have oY276 : F272 a0 = .inr (7, y_fl A z177 q167) := (hfr1 _ (by rw [ha0]; decide)).trans oY183
        have hfr : ∀ b, K b ∉ [9, 62, 64] → F272 b = F b := fun b hb9 => (hfr1 b (fun q => hb9 (s_sub (by decide) q))).trans (hfr b hb9)
        obtain ⟨f277, o278, b279⟩ := y_op12 hI
        have h274 : ((∀ j : Int, 0 ≤ j → j ≠ 8 * (y_c f170 387).toInt + 5 → y_c f277 j = y_c f170 j) ∧ (v173.toInt = 0 → y_c f277 (8 * (y_c f170 387).toInt + 5) = 0)) := by have q9 := h274; rw [y_atE o182, y_atE o278, y_fiZ oY183 (k := 5) (by decide), ← ep271_5] at q9; exact q9
        rw [h160] at h274
        have hn280 : (y_c f277 387).toInt = nn := by rw [h274.1 387 (by omega) (by omega)]; exact h160
        have hfr281 : ∀ j : Int, 0 ≤ j → (j < 8 * nn ∨ 8 * nn + 8 ≤ j) → y_c f277 j = y_c f1 j := fun j h0 h1 => (h274.1 j h0 (by omega)).trans (h161 j h0 h1)
        have h282 : (y_c f277 (8 * nn)).toInt = (y_c f170 (8 * nn)).toInt := (congrArg Int32.toInt (h274.1 _ (by omega) (by omega)))
        have h283 : (y_c f277 (8 * nn + 2)).toInt = (y_c f170 (8 * nn + 2)).toInt := (congrArg Int32.toInt (h274.1 _ (by omega) (by omega)))
        have h284 : (y_c f277 (8 * nn + 3)).toInt = (y_c f170 (8 * nn + 3)).toInt := (congrArg Int32.toInt (h274.1 _ (by omega) (by omega)))
        have h285 : v173.toInt = 0 → (y_c f277 (8 * nn + 5)).toInt = 0 := (fun h9 => (congrArg (fun i => (y_c f277 i).toInt) (show 8 * nn + 5 = 8 * nn + 5 by omega)).trans ((congrArg Int32.toInt (h274.2 h9)).trans (by decide)))
        refine lv_aload_n hx hb dX7_goTold_143 rfl (lv_at hl 0 rfl) ?_
        refine lv_iconst (v := 3) hx hb dX7_goTold_144 (by decide) ?_
        refine lv_aload_n hx hb dX7_goTold_145 rfl (lv_at hl 0 rfl) ?_
        have ep286_5 := ev173
        refine va_calli (va_runV (As := []) (rest := [.int 3, .ref a0]) ⟨hx, hb, hml, hown, hts⟩ (y_X7_partTold l dC dI H.size hLK A hA F272 a0 ha0 hI) (cwV 0 hts (ax_gV T_1119 T_1121 T_1122 T_265 T_1120) rfl rfl rfl (by decide +kernel) ⟨Nat.le_of_ble_eq_true rfl, Nat.le_of_ble_eq_true rfl⟩) ⟨fun a U g mk q => ⟨q.1, s_pc rfl rfl q.2⟩, s_recv hK hP (hLK _ ha0 (by decide)) (ci := 7) rfl oY276, fun U hU hW => ⟨rfl, s_pw hU hW hP hK hD hN⟩⟩ rfl rfl hl.1 rfl (lv_room (Nat.le_of_ble_eq_true rfl)) dX7_goTold_146 ⟨Nat.zero_le _, Nat.zero_le _⟩) hS (fun q _ h => h) (fun q h => h) (fun r287 F288 t H1 locs ht hvm hw hB hz1 hk1 hS => ?_)
        obtain ⟨hP, hK1⟩ := hB
        rw [ht] at hP
        generalize H1 = H at hP hS ⊢
        obtain ⟨h289, h291, hI, hfr1, hzf, h290⟩ := hw
        have o292 : F288 (A 12) = .inl (cs 0, 400, .inl f277) := (hfr1 _ (by rw [(y_k12 hA)]; decide)).trans o278
        obtain ⟨z293, q294, oY295, bz296⟩ := y_opY hI ha0
        have hzf : ∀ k, k ∈ ([1, 3, 7, 8, 11, 15, 16, 19, 25, 26, 27, 31, 32] : List Nat) → z293 k = z177 k := fun k hk => by have q9 := hzf k hk; rw [y_fiZ oY295 (s_sub (by decide) hk), y_fiZ oY276 (s_sub (by decide) hk)] at q9; exact q9
        have hz0 : ∀ k, k ∈ ([1, 3, 7, 8, 15, 16, 19, 25, 26, 27, 31, 32] : List Nat) → z293 k = z0 k := fun k hk => (hzf k (s_sub (by decide) hk)).trans (hz0 k hk)
        have hfr : ∀ b, K b ∉ [9, 62, 64] → F288 b = F b := fun b hb9 => (hfr1 b (fun q => hb9 (s_sub (by decide) q))).trans (hfr b hb9)
        obtain ⟨v297, ev297⟩ : ∃ y : Int32, y = z293 5 := ⟨_, rfl⟩
        have h290 : ((v173.toInt = 0 ∨ ¬ v297.toInt = 0) ∧ (v297.toInt = 0 → -4 ≤ r287.toInt ∧ r287.toInt ≤ 999)) := by have q9 := h290; rw [y_fiZ oY276 (k := 5) (by decide), ← ep286_5, y_fiZ oY295 (k := 5) (by decide), ← ev297] at q9; exact q9
        have ep298_5 := ev297
        refine va_callv (va_runV (As := [.int 3, .int r287]) (rest := []) ⟨hx, hb, hml, hown, hts⟩ (y_X7_lays l dC dI H.size hLK A hA F288 a0 3 r287 ha0 (by decide) hI) (cwV 2 hts (ax_gV T_1115 T_1117 T_1118 T_265 T_1116) rfl rfl rfl (by decide +kernel) ⟨Nat.le_of_ble_eq_true rfl, Nat.le_of_ble_eq_true rfl⟩) ⟨fun a U g mk q => ⟨q.1, s_pc rfl rfl q.2⟩, s_recv hK hP (hLK _ ha0 (by decide)) (ci := 7) rfl oY295, fun U hU hW => ⟨rfl, s_pw hU hW hP hK hD hN⟩⟩ rfl rfl hl.1 rfl (lv_room (Nat.le_of_ble_eq_true rfl)) dX7_goTold_149 ⟨Nat.zero_le _, Nat.zero_le _⟩) hS (fun q _ h => h) (fun q h => h) (fun F299 t H1 locs ht hvm hw hB hz1 hk1 hS => ?_)
        obtain ⟨hP, hK1⟩ := hB
        rw [ht] at hP
        generalize H1 = H at hP hS ⊢
        obtain ⟨h300, h302, hI, hfr1, hzf, h301⟩ := hw
        have oY303 : F299 a0 = .inr (7, y_fl A z293 q294) := (hfr1 _ (by rw [ha0]; decide)).trans oY295
        have hfr : ∀ b, K b ∉ [9, 62, 64] → F299 b = F b := fun b hb9 => (hfr1 b (fun q => hb9 (s_sub (by decide) q))).trans (hfr b hb9)
        obtain ⟨f304, o305, b306⟩ := y_op12 hI
        have h301 : ((∀ j : Int, 0 ≤ j → j ≠ 8 * (y_c f277 387).toInt + 3 → y_c f304 j = y_c f277 j) ∧ (v297.toInt = 0 → y_c f304 (8 * (y_c f277 387).toInt + 3) = r287)) := by have q9 := h301; rw [y_atE o292, y_atE o305, y_fiZ oY295 (k := 5) (by decide), ← ep298_5] at q9; exact q9
        rw [hn280] at h301
        have hn307 : (y_c f304 387).toInt = nn := by rw [h301.1 387 (by omega) (by omega)]; exact hn280
        have hfr308 : ∀ j : Int, 0 ≤ j → (j < 8 * nn ∨ 8 * nn + 8 ≤ j) → y_c f304 j = y_c f1 j := fun j h0 h1 => (h301.1 j h0 (by omega)).trans (hfr281 j h0 h1)
        have h309 : (y_c f304 (8 * nn)).toInt = (y_c f277 (8 * nn)).toInt := (congrArg Int32.toInt (h301.1 _ (by omega) (by omega)))
        have h310 : (y_c f304 (8 * nn + 2)).toInt = (y_c f277 (8 * nn + 2)).toInt := (congrArg Int32.toInt (h301.1 _ (by omega) (by omega)))
        have h311 : v297.toInt = 0 → (y_c f304 (8 * nn + 3)).toInt = r287.toInt := (fun h9 => (congrArg (fun i => (y_c f304 i).toInt) (show 8 * nn + 3 = 8 * nn + 3 by omega)).trans ((congrArg Int32.toInt (h301.2 h9)).trans rfl))
        have h312 : (y_c f304 (8 * nn + 5)).toInt = (y_c f277 (8 * nn + 5)).toInt := (congrArg Int32.toInt (h301.1 _ (by omega) (by omega)))
        exact W.vret hx hb hr (fun t ht hW => ⟨⟨F299, rfl, ⟨trivial, trivial, hI, hfr, fun k hk => (y_fiZ oY303 (s_sub (by decide) hk)).trans ((hz0 k hk).trans (y_fiZ oY0 (s_sub (by decide) hk)).symm), (by rw [y_fiZ oY0 (k := 5) (by decide), ← eF_5, y_fiZ oY303 (k := 5) (by decide), ← ev297, y_atE o2, y_atE o305]; rw [← hnn]; exact ⟨by omega, hfr308, by omega, by omega⟩)⟩, by rw [ht]; exact hP, va_K.moved hW.alike hK⟩, hS.F ht⟩) hS.2.2 dX7_goTold_152
    · have c175 := mt (ax_eq (n := 0) (by decide)).mpr c175
      exact W.vret hx hb hr (fun t ht hW => ⟨⟨F165, rfl, ⟨trivial, trivial, hI, hfr, fun k hk => (y_fiZ oY168 (s_sub (by decide) hk)).trans ((hz0 k hk).trans (y_fiZ oY0 (s_sub (by decide) hk)).symm), (by rw [y_fiZ oY0 (k := 5) (by decide), ← eF_5, y_fiZ oY168 (k := 5) (by decide), ← ev173, y_atE o2, y_atE o171]; rw [← hnn]; exact ⟨by omega, h161, by omega, by omega⟩)⟩, by rw [ht]; exact hP, va_K.moved hW.alike hK⟩, hS.F ht⟩) hS.2.2 dX7_goTold_106
