set_option maxHeartbeats 4000000 in
set_option maxRecDepth 100000 in
theorem y_X7_goTold (l : Launch) (dC : Nat → ClassId) (dI : Nat → Nat → Nat) (sz : Nat) {L : List Nat} {K : Nat → Nat} {cs : Nat → ClassId} (hLK : ∀ a {k : Nat}, K a = k → k ≠ 0 → a ∈ L) (A : Nat → Nat) (hA : y_A K A) (F : Nat → va_E) (a0 : Nat) (ha0 : K a0 = 9) (hI : y_I K cs A F) (hg9 : ((y_c (y_at F (A 12)) 387).toInt ≤ 39 ∧ (y_c (y_at F (A 12)) (8 * (y_c (y_at F (A 12)) 387).toInt + 5)).toInt = -1000000)) : Met l yX7_goTold (Cond.code yX7_goTold cX7_goTold 3 none :: T0) ({ frames := 5, cells := 0, slots := 0, locals := 106 }) (va_Pc [.ref a0] (s_W dC dI sz L F [(cs 0, .int), (cs 1, .byte), (cs 2, .long), (cs 3, .object RX5), (cs 4, .object RX4), (cs 5, .array .int), (cs 6, .char), (cs 7, .boolean)])) (va_Qv (fun (G : Nat → va_E) => True ∧ True ∧ y_I K cs A G ∧ (∀ b, K b ∉ [9, 62, 64] → G b = F b) ∧ (∀ k, k ∈ ([1, 3, 7, 8, 15, 16, 19, 25, 26, 27, 31, 32] : List Nat) → y_fi G a0 k = y_fi F a0 k) ∧ (((y_fi F a0 5).toInt = 0 ∨ ¬ (y_fi G a0 5).toInt = 0) ∧ (∀ j : Int, 0 ≤ j → (j < 8 * (y_c (y_at F (A 12)) 387).toInt ∨ 8 * (y_c (y_at F (A 12)) 387).toInt + 8 ≤ j) → y_c (y_at G (A 12)) j = y_c (y_at F (A 12)) j) ∧ (y_c (y_at G (A 12)) (8 * (y_c (y_at F (A 12)) 387).toInt)).toInt = (y_c (y_at F (A 12)) (8 * (y_c (y_at F (A 12)) 387).toInt)).toInt ∧ ((y_fi G a0 5).toInt = 0 → (y_c (y_at G (A 12)) (8 * (y_c (y_at F (A 12)) 387).toInt + 5)).toInt = -1000000 ∨ (-4 ≤ (y_c (y_at G (A 12)) (8 * (y_c (y_at F (A 12)) 387).toInt + 2)).toInt ∧ -4 ≤ (y_c (y_at G (A 12)) (8 * (y_c (y_at F (A 12)) 387).toInt + 3)).toInt)))) (fun (G : Nat → va_E) (t : State) => va_P (dC, dI) vwCl (va_pl L G) t.heap ∧ va_K (dC, dI) vwCl [(cs 0, .int), (cs 1, .byte), (cs 2, .long), (cs 3, .object RX5), (cs 4, .object RX4), (cs 5, .array .int), (cs 6, .char), (cs 7, .boolean)] t) (fun q => q ∈ L)) 0 0 (fun q => q ∈ L) := by
  refine Met.ofW (cc := cX7_goTold) (maxL := 3) (ret := none) (by decide) rfl ?_
  intro p e s m args below meth c s₁ B hml hv
  obtain ⟨rfl, hsz, hP, hK, hD, hN⟩ := hv
  have hx := B.exec
  have hb := B.bytes
  have hr := B.returns
  have hts : ∀ w ∈ T0, w.before _ s = true := fun w h => atoms_spec (ws := Cond.code yX7_goTold cX7_goTold 3 none :: T0) B.pre w (List.mem_cons_of_mem _ h)
  have hown : s.vm.findClass RX7 = some m.cls := findClass_of_methodNamed B.named
  have hlocks := B.notSynchronized
  have hS : va_S (fun q => q ∈ L) s.heap s.heap [] := va_S.rf
  have hfr : ∀ b, K b ∉ [9, 62, 64] → F b = F b := fun _ _ => rfl
  have hl := lv_entry ([.ref a0]) (n := 3) (Nat.le_of_ble_eq_true rfl)
  rw [lg_entry_eq]
  generalize (lg_sl ([.ref a0]) ++ List.replicate (3 - (lg_sl ([.ref a0])).length) Slot.unset).toArray = ls at hl ⊢
  have hl : lv_has ls 3 [(0, .ref a0)] := hl
  refine s_gen hP hS (fun H locs hP hS => ?_)
  obtain ⟨z0, q0, oY0, bz0, bq0⟩ := y_opY hI ha0
  have hz0 : ∀ k, k ∈ ([1, 3, 7, 8, 15, 16, 19, 25, 26, 27, 31, 32] : List Nat) → z0 k = z0 k := fun _ _ => rfl
  obtain ⟨f1, o2, b3⟩ := y_op12 hI
  obtain ⟨v4, ev4⟩ : ∃ y : Int32, y = z0 5 := ⟨_, rfl⟩
  have eF_5 := ev4
  replace hg9 : ((y_c f1 387).toInt ≤ 39 ∧ (y_c f1 (8 * (y_c f1 387).toInt + 5)).toInt = -1000000) := by have q9 := hg9; rw [y_atE o2] at q9; exact q9
  obtain ⟨nn, hnn⟩ : ∃ n : Int, n = (y_c f1 387).toInt := ⟨_, rfl⟩
  have hnb : 0 ≤ (y_c f1 387).toInt ∧ (y_c f1 387).toInt ≤ 40 := b3
  rw [← hnn] at hnb
  rw [← hnn] at hg9
  have e0_v4 := ev4
  refine th_join (fun g H locs => ∃ (G : Nat → va_E) (ls : Array Slot) (w5 : Int32), g = F0 m 99 ls [] ∧ lv_has ls 3 [(0, .ref a0), (2, .int w5)] ∧ va_P (dC, dI) vwCl (va_pl L G) H ∧ va_S (fun q => q ∈ L) s.heap H locs ∧ y_I K cs A G ∧ (∀ b, K b ∉ [9, 62, 64] → G b = F b) ∧ (∀ k, k ∈ ([1, 3, 7, 8, 15, 16, 19, 25, 26, 27, 31, 32] : List Nat) → y_fi G a0 k = z0 k) ∧ True ∧ (y_c (y_at G (A 12)) 387).toInt = nn ∧ (∀ j : Int, 0 ≤ j → (j < 8 * nn ∨ 8 * nn + 8 ≤ j) → y_c (y_at G (A 12)) j = y_c f1 j) ∧ ((y_c (y_at G (A 12)) (8 * nn)).toInt = (y_c f1 (8 * nn)).toInt ∧ (y_c (y_at G (A 12)) (8 * nn + 5)).toInt = -1000000 ∧ (v4.toInt = 0 ∨ ¬ (y_fi G a0 5).toInt = 0)) ∧ ((y_fi G a0 5).toInt = 0 → (y_fi G a0 2).toInt < 1600) ∧ ((y_fi G a0 5).toInt = 0 → -4 ≤ (y_c (y_at G (A 12)) (8 * nn + 2)).toInt)) (fun K99 => ?_) ?_
  refine th_join (fun g H locs => ∃ (G : Nat → va_E) (ls : Array Slot) (w6 : Int32), g = F0 m 35 ls [] ∧ lv_has ls 3 [(0, .ref a0), (1, .int w6)] ∧ va_P (dC, dI) vwCl (va_pl L G) H ∧ va_S (fun q => q ∈ L) s.heap H locs ∧ y_I K cs A G ∧ (∀ b, K b ∉ [9, 62, 64] → G b = F b) ∧ (∀ k, k ∈ ([1, 3, 7, 8, 15, 16, 19, 25, 26, 27, 31, 32] : List Nat) → y_fi G a0 k = z0 k) ∧ True ∧ (y_c (y_at G (A 12)) 387).toInt = nn ∧ (∀ j : Int, 0 ≤ j → (j < 8 * nn ∨ 8 * nn + 8 ≤ j) → y_c (y_at G (A 12)) j = y_c f1 j) ∧ ((y_c (y_at G (A 12)) (8 * nn)).toInt = (y_c f1 (8 * nn)).toInt ∧ (y_c (y_at G (A 12)) (8 * nn + 5)).toInt = -1000000 ∧ (v4.toInt = 0 ∨ ¬ (y_fi G a0 5).toInt = 0))) (fun K35 => ?_) ?_
  · refine lv_aload_n hx hb dX7_goTold_0 rfl (lv_at hl 0 rfl) ?_
    refine th_get (D := (dC, dI)) (ci := 7) (v := .ref (A 14)) (C := RX7) (T := TX7) (N := 34) hx hb hts inX7 hown hK hP (hLK _ ha0 (by decide)) oY0 rfl 14 (by decide) (hts _ T_247) (fun _ h9 => h9) rfl dX7_goTold_1 ?_
    refine lv_aload_n hx hb dX7_goTold_4 rfl (lv_at hl 0 rfl) ?_
    refine va_calli (va_runV (As := []) (rest := [.ref (A 14)]) ⟨hx, hb, hml, hown, hts⟩ (y_X7_drafted l dC dI H.size hLK A hA F a0 ha0 hI) (cwV 0 hts (ax_gV T_293 T_294 T_295 T_265 T_28) rfl rfl rfl (by decide +kernel) ⟨Nat.le_of_ble_eq_true rfl, Nat.le_of_ble_eq_true rfl⟩) ⟨fun a U g mk q => ⟨q.1, s_pc (U := U) rfl rfl q.2⟩, s_recv hK hP (hLK _ ha0 (by decide)) (ci := 7) rfl oY0, fun U hU hW => ⟨rfl, s_pw hU hW hP hK hD hN⟩⟩ rfl rfl hl.1 rfl (lv_room (Nat.le_of_ble_eq_true rfl)) dX7_goTold_5 ⟨Nat.zero_le _, Nat.zero_le _⟩) hS (fun q _ h => h) (fun q h => h) (fun r8 F9 t H1 locs ht hvm hw hB hz1 hk1 hS => ?_)
    obtain ⟨hP, hK1⟩ := hB
    rw [ht] at hP
    generalize H1 = H at hP hS ⊢
    clear hz1 hk1 hvm hK1
    obtain ⟨h10, h12, hI, hfr1, hzf, h11⟩ := hw
    have o13 : F9 (A 12) = .inl (cs 0, 400, .inl f1) := (hfr1 _ (by rw [(y_k12 hA)]; decide)).trans o2
    have oY14 : F9 a0 = .inr (7, y_fl A z0 q0) := (hfr1 _ (by rw [ha0]; decide)).trans oY0
    have hfr : ∀ b, K b ∉ [9, 62, 64] → F9 b = F b := fun b hb9 => (hfr1 b (fun q => hb9 (s_sub (by decide) q))).trans (hfr b hb9)
    replace h11 : (r8 = y_c f1 387) := by have q9 := h11; rw [y_atE o2] at q9; exact q9
    have h15 := congrArg Int32.toInt h11
    have h16 : 0 ≤ r8.toInt ∧ r8.toInt ≤ 39 := by have q9 := congrArg Int32.toInt h11; omega
    refine lv_iconst (v := (-1)) hx hb dX7_goTold_8 (by decide) ?_
    obtain ⟨f17, o18, b19⟩ := y_op14 hI
    refine th_iast hx hb hK hP hD hS (hLK _ (y_k14 hA) (by decide)) 0 o18 rfl (th_in ⟨by omega, by omega⟩) dX7_goTold_9 (fun H locs hP hS => ?_)
    obtain ⟨f20, u21⟩ : ∃ g : Nat → Int32, g = upd f17 (r8 : Int32).toNatClampNeg (-1) := ⟨_, rfl⟩
    rw [← u21] at hP
    have b22 : y_bd 14 f20 := trivial
    have hP : va_P (dC, dI) vwCl (va_pl L (va_up F9 (A 14) (.inl (cs 0, 40, .inl f20)))) H := hP
    obtain ⟨F23, hF24⟩ : ∃ G : Nat → va_E, G = va_up F9 (A 14) (.inl (cs 0, 40, .inl f20)) := ⟨_, rfl⟩
    rw [← hF24] at hP
    have hI : y_I K cs A F23 := by rw [hF24]; exact y_clA (i := 14) hA hI (by decide) b22
    have hfr : ∀ b, K b ∉ [9, 62, 64] → F23 b = F b := by rw [hF24]; exact s_fr hfr (y_k14 hA) (by decide)
    have o25 : F23 (A 12) = .inl (cs 0, 400, .inl f1) := by rw [hF24]; exact th_ne (th_kd (y_k12 hA) (y_k14 hA) (by decide)) o13
    have oY26 : F23 a0 = .inr (7, y_fl A z0 q0) := by rw [hF24]; exact th_ne (th_kd ha0 (y_k14 hA) (by decide)) oY14
    have o27 : F23 (A 14) = .inl (cs 0, 40, .inl f20) := by rw [hF24]; exact th_up
    have u28 : ∀ j : Int, 0 ≤ j → y_c f20 j = if j = r8.toInt then (-1) else y_c f17 j := by rw [u21]; exact y_cu rfl (by omega)
    refine lv_aload_n hx hb dX7_goTold_10 rfl (lv_at hl 0 rfl) ?_
    have ep29_5 := ev4
    refine va_calli (va_runV (As := []) (rest := []) ⟨hx, hb, hml, hown, hts⟩ (y_X7_name l dC dI H.size hLK A hA F23 a0 ha0 hI) (cwV 0 hts (ax_gV T_1110 T_1112 T_1113 T_265 T_1111) rfl rfl rfl (by decide +kernel) ⟨Nat.le_of_ble_eq_true rfl, Nat.le_of_ble_eq_true rfl⟩) ⟨fun a U g mk q => ⟨q.1, s_pc (U := U) rfl rfl q.2⟩, s_recv hK hP (hLK _ ha0 (by decide)) (ci := 7) rfl oY26, fun U hU hW => ⟨rfl, s_pw hU hW hP hK hD hN⟩⟩ rfl rfl hl.1 rfl (lv_room (Nat.le_of_ble_eq_true rfl)) dX7_goTold_11 ⟨Nat.zero_le _, Nat.zero_le _⟩) hS (fun q _ h => h) (fun q h => h) (fun r30 F31 t H1 locs ht hvm hw hB hz1 hk1 hS => ?_)
    obtain ⟨hP, hK1⟩ := hB
    rw [ht] at hP
    generalize H1 = H at hP hS ⊢
    clear hz1 hk1 hvm hK1
    obtain ⟨h32, h34, hI, hfr1, hzf, h33⟩ := hw
    have o35 : F31 (A 12) = .inl (cs 0, 400, .inl f1) := (hfr1 _ (by rw [(y_k12 hA)]; decide)).trans o25
    have o36 : F31 (A 14) = .inl (cs 0, 40, .inl f20) := (hfr1 _ (by rw [(y_k14 hA)]; decide)).trans o27
    obtain ⟨z37, q38, oY39, bz40, bq41⟩ := y_opY hI ha0
    have hzf : ∀ k, k ∈ ([1, 3, 7, 8, 15, 16, 19, 25, 26, 27, 31, 32] : List Nat) → z37 k = z0 k := fun k hk => by have q9 := hzf k hk; rw [y_fiZ oY39 (s_sub (by decide) hk), y_fiZ oY26 (s_sub (by decide) hk)] at q9; exact q9
    have hz0 : ∀ k, k ∈ ([1, 3, 7, 8, 15, 16, 19, 25, 26, 27, 31, 32] : List Nat) → z37 k = z0 k := fun k hk => (hzf k (s_sub (by decide) hk)).trans (hz0 k hk)
    have hfr : ∀ b, K b ∉ [9, 62, 64] → F31 b = F b := fun b hb9 => (hfr1 b (fun q => hb9 (s_sub (by decide) q))).trans (hfr b hb9)
    obtain ⟨v42, ev42⟩ : ∃ y : Int32, y = z37 5 := ⟨_, rfl⟩
    replace h33 : (v4.toInt = 0 ∨ ¬ v42.toInt = 0) := by have q9 := h33; rw [y_fiZ oY26 (k := 5) (by decide), ← ep29_5, y_fiZ oY39 (k := 5) (by decide), ← ev42] at q9; exact q9
    refine lv_istore_n (lv' := [(1, .int r30), (0, .ref a0)]) hx hb dX7_goTold_14 rfl hl (by decide) rfl (fun ls hl => ?_)
    refine lv_aload_n hx hb dX7_goTold_15 rfl (lv_at hl 1 rfl) ?_
    refine th_get (D := (dC, dI)) (ci := 7) (v := .int (z37 5)) (C := RX7) (T := TX7) (N := 34) hx hb hts inX7 hown hK hP (hLK _ ha0 (by decide)) oY39 rfl 5 (by decide) (hts _ T_274) (fun _ h9 => h9) rfl dX7_goTold_16 ?_
    refine ax_eqi (y := v42) ev42.symm ?_
    refine lv_if_ne (tgt := 35) hx hb dX7_goTold_19 (by decide) (fun c43 => ?_) (fun c43 => ?_)
    · have c43 := mt (ax_eq (n := 0) (by decide)).mpr c43
      exact K35 _ _ _ ⟨F31, _, r30, rfl, lv_sub hl [1, 0] rfl, hP, hS, hI, hfr, (fun k hk => (y_fiZ oY39 (s_sub (by decide) hk)).trans (hz0 k hk)), trivial, (by rw [y_atE o35]; exact hnn.symm), (by rw [y_atE o35]; exact (fun j _ _ => rfl)), (by first | (rw [y_atE o35, y_fiZ oY39 (k := 5) (by decide), ← ev42]; omega) | rw [y_atE o35, y_fiZ oY39 (k := 5) (by decide), ← ev42])⟩
    · have c43 := (ax_eq (n := 0) (by decide)).mp c43
      refine lv_aload_n hx hb dX7_goTold_22 rfl (lv_at hl 1 rfl) ?_
      refine th_get (D := (dC, dI)) (ci := 7) (v := .ref (A 14)) (C := RX7) (T := TX7) (N := 34) hx hb hts inX7 hown hK hP (hLK _ ha0 (by decide)) oY39 rfl 14 (by decide) (hts _ T_247) (fun _ h9 => h9) rfl dX7_goTold_23 ?_
      refine lv_aload_n hx hb dX7_goTold_26 rfl (lv_at hl 1 rfl) ?_
      refine va_calli (va_runV (As := []) (rest := [.ref (A 14)]) ⟨hx, hb, hml, hown, hts⟩ (y_X7_drafted l dC dI H.size hLK A hA F31 a0 ha0 hI) (cwV 0 hts (ax_gV T_293 T_294 T_295 T_265 T_28) rfl rfl rfl (by decide +kernel) ⟨Nat.le_of_ble_eq_true rfl, Nat.le_of_ble_eq_true rfl⟩) ⟨fun a U g mk q => ⟨q.1, s_pc (U := U) rfl rfl q.2⟩, s_recv hK hP (hLK _ ha0 (by decide)) (ci := 7) rfl oY39, fun U hU hW => ⟨rfl, s_pw hU hW hP hK hD hN⟩⟩ rfl rfl hl.1 rfl (lv_room (Nat.le_of_ble_eq_true rfl)) dX7_goTold_27 ⟨Nat.zero_le _, Nat.zero_le _⟩) hS (fun q _ h => h) (fun q h => h) (fun r45 F46 t H1 locs ht hvm hw hB hz1 hk1 hS => ?_)
      obtain ⟨hP, hK1⟩ := hB
      rw [ht] at hP
      generalize H1 = H at hP hS ⊢
      clear hz1 hk1 hvm hK1
      obtain ⟨h47, h49, hI, hfr1, hzf, h48⟩ := hw
      have o50 : F46 (A 12) = .inl (cs 0, 400, .inl f1) := (hfr1 _ (by rw [(y_k12 hA)]; decide)).trans o35
      have o51 : F46 (A 14) = .inl (cs 0, 40, .inl f20) := (hfr1 _ (by rw [(y_k14 hA)]; decide)).trans o36
      have oY52 : F46 a0 = .inr (7, y_fl A z37 q38) := (hfr1 _ (by rw [ha0]; decide)).trans oY39
      have hfr : ∀ b, K b ∉ [9, 62, 64] → F46 b = F b := fun b hb9 => (hfr1 b (fun q => hb9 (s_sub (by decide) q))).trans (hfr b hb9)
      replace h48 : (r45 = y_c f1 387) := by have q9 := h48; rw [y_atE o35] at q9; exact q9
      have h53 := congrArg Int32.toInt h48
      have h54 : 0 ≤ r45.toInt ∧ r45.toInt ≤ 39 := by have q9 := congrArg Int32.toInt h48; omega
      refine lv_aload_n hx hb dX7_goTold_30 rfl (lv_at hl 1 rfl) ?_
      refine th_get (D := (dC, dI)) (ci := 7) (v := .int (z37 11)) (C := RX7) (T := TX7) (N := 34) hx hb hts inX7 hown hK hP (hLK _ ha0 (by decide)) oY52 rfl 11 (by decide) (hts _ T_1114) (fun _ h9 => h9) rfl dX7_goTold_31 ?_
      refine lv_topi (fun v55 ev55 => ?_)
      refine th_iast hx hb hK hP hD hS (hLK _ (y_k14 hA) (by decide)) 0 o51 rfl (th_in ⟨by omega, by omega⟩) dX7_goTold_34 (fun H locs hP hS => ?_)
      obtain ⟨f56, u57⟩ : ∃ g : Nat → Int32, g = upd f20 (r45 : Int32).toNatClampNeg v55 := ⟨_, rfl⟩
      rw [← u57] at hP
      have b58 : y_bd 14 f56 := trivial
      have hP : va_P (dC, dI) vwCl (va_pl L (va_up F46 (A 14) (.inl (cs 0, 40, .inl f56)))) H := hP
      obtain ⟨F59, hF60⟩ : ∃ G : Nat → va_E, G = va_up F46 (A 14) (.inl (cs 0, 40, .inl f56)) := ⟨_, rfl⟩
      rw [← hF60] at hP
      have hI : y_I K cs A F59 := by rw [hF60]; exact y_clA (i := 14) hA hI (by decide) b58
      have hfr : ∀ b, K b ∉ [9, 62, 64] → F59 b = F b := by rw [hF60]; exact s_fr hfr (y_k14 hA) (by decide)
      have o61 : F59 (A 12) = .inl (cs 0, 400, .inl f1) := by rw [hF60]; exact th_ne (th_kd (y_k12 hA) (y_k14 hA) (by decide)) o50
      have oY62 : F59 a0 = .inr (7, y_fl A z37 q38) := by rw [hF60]; exact th_ne (th_kd ha0 (y_k14 hA) (by decide)) oY52
      have o63 : F59 (A 14) = .inl (cs 0, 40, .inl f56) := by rw [hF60]; exact th_up
      have u64 : ∀ j : Int, 0 ≤ j → y_c f56 j = if j = r45.toInt then v55 else y_c f20 j := by rw [u57]; exact y_cu rfl (by omega)
      exact K35 _ _ _ ⟨F59, _, r30, rfl, lv_sub hl [1, 0] rfl, hP, hS, hI, hfr, (fun k hk => (y_fiZ oY62 (s_sub (by decide) hk)).trans (hz0 k hk)), trivial, (by rw [y_atE o61]; exact hnn.symm), (by rw [y_atE o61]; exact (fun j _ _ => rfl)), (by first | (rw [y_atE o61, y_fiZ oY62 (k := 5) (by decide), ← ev42]; omega) | rw [y_atE o61, y_fiZ oY62 (k := 5) (by decide), ← ev42])⟩
  · intro g H locs hq
    obtain ⟨F69, ls, w6, rfl, hl, hP, hS, hI, hfr, hz0, h65, h66, h67, h68⟩ := hq
    obtain ⟨z70, q71, oY72, bz73, bq74⟩ := y_opY hI ha0
    have hz0 : ∀ k, k ∈ ([1, 3, 7, 8, 15, 16, 19, 25, 26, 27, 31, 32] : List Nat) → z70 k = z0 k := fun k hk => (y_fiZ oY72 (s_sub (by decide) hk)).symm.trans (hz0 k hk)
    obtain ⟨f75, o76, b77⟩ := y_op12 hI
    replace h66 : (y_c f75 387).toInt = nn := by have q9 := h66; rw [y_atE o76] at q9; exact q9
    replace h67 : (∀ j : Int, 0 ≤ j → (j < 8 * nn ∨ 8 * nn + 8 ≤ j) → y_c f75 j = y_c f1 j) := by have q9 := h67; rw [y_atE o76] at q9; exact q9
    obtain ⟨v78, ev78⟩ : ∃ y : Int32, y = z70 5 := ⟨_, rfl⟩
    replace h68 : ((y_c f75 (8 * nn)).toInt = (y_c f1 (8 * nn)).toInt ∧ (y_c f75 (8 * nn + 5)).toInt = -1000000 ∧ (v4.toInt = 0 ∨ ¬ v78.toInt = 0)) := by have q9 := h68; rw [y_atE o76, y_fiZ oY72 (k := 5) (by decide), ← ev78] at q9; exact q9
    refine lv_aload_n hx hb dX7_goTold_35 rfl (lv_at hl 0 rfl) ?_
    refine lv_iconst (v := 4) hx hb dX7_goTold_36 (by decide) ?_
    refine lv_iload_n hx hb dX7_goTold_37 rfl (lv_at hl 1 rfl) ?_
    have ep79_5 := ev78
    refine va_callv (va_runV (As := [.int 4, .int w6]) (rest := []) ⟨hx, hb, hml, hown, hts⟩ (y_X7_lays l dC dI H.size hLK A hA F69 a0 4 w6 ha0 (by decide) hI) (cwV 2 hts (ax_gV T_1115 T_1117 T_1118 T_265 T_1116) rfl rfl rfl (by decide +kernel) ⟨Nat.le_of_ble_eq_true rfl, Nat.le_of_ble_eq_true rfl⟩) ⟨fun a U g mk q => ⟨q.1, s_pc (U := U) rfl rfl q.2⟩, s_recv hK hP (hLK _ ha0 (by decide)) (ci := 7) rfl oY72, fun U hU hW => ⟨rfl, s_pw hU hW hP hK hD hN⟩⟩ rfl rfl hl.1 rfl (lv_room (Nat.le_of_ble_eq_true rfl)) dX7_goTold_38 ⟨Nat.zero_le _, Nat.zero_le _⟩) hS (fun q _ h => h) (fun q h => h) (fun F80 t H1 locs ht hvm hw hB hz1 hk1 hS => ?_)
    obtain ⟨hP, hK1⟩ := hB
    rw [ht] at hP
    generalize H1 = H at hP hS ⊢
    clear hz1 hk1 hvm hK1
    obtain ⟨h81, h83, hI, hfr1, hzf, h82⟩ := hw
    have oY84 : F80 a0 = .inr (7, y_fl A z70 q71) := (hfr1 _ (by rw [ha0]; decide)).trans oY72
    have hfr : ∀ b, K b ∉ [9, 62, 64] → F80 b = F b := fun b hb9 => (hfr1 b (fun q => hb9 (s_sub (by decide) q))).trans (hfr b hb9)
    obtain ⟨f85, o86, b87⟩ := y_op12 hI
    replace h82 : ((∀ j : Int, 0 ≤ j → j ≠ 8 * (y_c f75 387).toInt + 4 → y_c f85 j = y_c f75 j) ∧ (v78.toInt = 0 → y_c f85 (8 * (y_c f75 387).toInt + 4) = w6)) := by have q9 := h82; rw [y_atE o76, y_atE o86, y_fiZ oY72 (k := 5) (by decide), ← ep79_5] at q9; exact q9
    rw [h66] at h82
    have hn88 : (y_c f85 387).toInt = nn := by rw [h82.1 387 (by omega) (by omega)]; exact h66
    have hfr89 : ∀ j : Int, 0 ≤ j → (j < 8 * nn ∨ 8 * nn + 8 ≤ j) → y_c f85 j = y_c f1 j := fun j h0 h1 => (h82.1 j h0 (by omega)).trans (h67 j h0 h1)
    have h90 : (y_c f85 (8 * nn)).toInt = (y_c f75 (8 * nn)).toInt := (congrArg Int32.toInt (h82.1 _ (by omega) (by omega)))
    have h91 : (y_c f85 (8 * nn + 2)).toInt = (y_c f75 (8 * nn + 2)).toInt := (congrArg Int32.toInt (h82.1 _ (by omega) (by omega)))
    have h92 : (y_c f85 (8 * nn + 3)).toInt = (y_c f75 (8 * nn + 3)).toInt := (congrArg Int32.toInt (h82.1 _ (by omega) (by omega)))
    have h93 : (y_c f85 (8 * nn + 5)).toInt = (y_c f75 (8 * nn + 5)).toInt := (congrArg Int32.toInt (h82.1 _ (by omega) (by omega)))
    refine lv_aload_n hx hb dX7_goTold_41 rfl (lv_at hl 0 rfl) ?_
    refine lv_bipush (v := 28) hx hb dX7_goTold_42 (by decide) ?_
    refine va_calli (va_runV (As := [.int 28]) (rest := []) ⟨hx, hb, hml, hown, hts⟩ (y_X7_takes l dC dI H.size hLK A hA F80 a0 28 ha0 hI) (cwV 1 hts (ax_gV T_287 T_288 T_289 T_265 T_26) rfl rfl rfl (by decide +kernel) ⟨Nat.le_of_ble_eq_true rfl, Nat.le_of_ble_eq_true rfl⟩) ⟨fun a U g mk q => ⟨q.1, s_pc (U := U) rfl rfl q.2⟩, s_recv hK hP (hLK _ ha0 (by decide)) (ci := 7) rfl oY84, fun U hU hW => ⟨rfl, s_pw hU hW hP hK hD hN⟩⟩ rfl rfl hl.1 rfl (lv_room (Nat.le_of_ble_eq_true rfl)) dX7_goTold_44 ⟨Nat.zero_le _, Nat.zero_le _⟩) hS (fun q _ h => h) (fun q h => h) (fun r95 F96 t H1 locs ht hvm hw hB hz1 hk1 hS => ?_)
    obtain ⟨hP, hK1⟩ := hB
    rw [ht] at hP
    generalize H1 = H at hP hS ⊢
    clear hz1 hk1 hvm hK1
    obtain ⟨h97, h99, hI, hfr1, hzf, h98⟩ := hw
    have o100 : F96 (A 12) = .inl (cs 0, 400, .inl f85) := (hfr1 _ (by rw [(y_k12 hA)]; decide)).trans o86
    obtain ⟨z101, q102, oY103, bz104, bq105⟩ := y_opY hI ha0
    have hzf : ∀ k, k ∈ ([1, 3, 5, 6, 7, 8, 11, 15, 16, 19, 25, 26, 27, 31, 32] : List Nat) → z101 k = z70 k := fun k hk => by have q9 := hzf k hk; rw [y_fiZ oY103 (s_sub (by decide) hk), y_fiZ oY84 (s_sub (by decide) hk)] at q9; exact q9
    have hz0 : ∀ k, k ∈ ([1, 3, 7, 8, 15, 16, 19, 25, 26, 27, 31, 32] : List Nat) → z101 k = z0 k := fun k hk => (hzf k (s_sub (by decide) hk)).trans (hz0 k hk)
    have ev78 : v78 = z101 5 := ev78.trans (hzf 5 (by decide)).symm
    have hfr : ∀ b, K b ∉ [9, 62, 64] → F96 b = F b := fun b hb9 => (hfr1 b (fun q => hb9 (s_sub (by decide) q))).trans (hfr b hb9)
    refine lv_if_ne (tgt := 51) hx hb dX7_goTold_47 (by decide) (fun c106 => ?_) (fun c106 => ?_)
    · have c106 := mt (ax_eq (n := 0) (by decide)).mpr c106
      refine lv_aload_n hx hb dX7_goTold_51 rfl (lv_at hl 0 rfl) ?_
      refine lv_iconst (v := 2) hx hb dX7_goTold_52 (by decide) ?_
      refine lv_aload_n hx hb dX7_goTold_53 rfl (lv_at hl 0 rfl) ?_
      have ep107_5 := ev78
      refine va_calli (va_runV (As := []) (rest := [.int 2, .ref a0]) ⟨hx, hb, hml, hown, hts⟩ (y_X7_partTold l dC dI H.size hLK A hA F96 a0 ha0 hI) (cwV 0 hts (ax_gV T_1119 T_1121 T_1122 T_265 T_1120) rfl rfl rfl (by decide +kernel) ⟨Nat.le_of_ble_eq_true rfl, Nat.le_of_ble_eq_true rfl⟩) ⟨fun a U g mk q => ⟨q.1, s_pc (U := U) rfl rfl q.2⟩, s_recv hK hP (hLK _ ha0 (by decide)) (ci := 7) rfl oY103, fun U hU hW => ⟨rfl, s_pw hU hW hP hK hD hN⟩⟩ rfl rfl hl.1 rfl (lv_room (Nat.le_of_ble_eq_true rfl)) dX7_goTold_54 ⟨Nat.zero_le _, Nat.zero_le _⟩) hS (fun q _ h => h) (fun q h => h) (fun r108 F109 t H1 locs ht hvm hw hB hz1 hk1 hS => ?_)
      obtain ⟨hP, hK1⟩ := hB
      rw [ht] at hP
      generalize H1 = H at hP hS ⊢
      clear hz1 hk1 hvm hK1
      obtain ⟨h110, h112, hI, hfr1, hzf, h111⟩ := hw
      have o113 : F109 (A 12) = .inl (cs 0, 400, .inl f85) := (hfr1 _ (by rw [(y_k12 hA)]; decide)).trans o100
      obtain ⟨z114, q115, oY116, bz117, bq118⟩ := y_opY hI ha0
      have hzf : ∀ k, k ∈ ([1, 3, 7, 8, 11, 15, 16, 19, 25, 26, 27, 31, 32] : List Nat) → z114 k = z101 k := fun k hk => by have q9 := hzf k hk; rw [y_fiZ oY116 (s_sub (by decide) hk), y_fiZ oY103 (s_sub (by decide) hk)] at q9; exact q9
      have hz0 : ∀ k, k ∈ ([1, 3, 7, 8, 15, 16, 19, 25, 26, 27, 31, 32] : List Nat) → z114 k = z0 k := fun k hk => (hzf k (s_sub (by decide) hk)).trans (hz0 k hk)
      have hfr : ∀ b, K b ∉ [9, 62, 64] → F109 b = F b := fun b hb9 => (hfr1 b (fun q => hb9 (s_sub (by decide) q))).trans (hfr b hb9)
      obtain ⟨v119, ev119⟩ : ∃ y : Int32, y = z114 5 := ⟨_, rfl⟩
      replace h111 : ((v78.toInt = 0 ∨ ¬ v119.toInt = 0) ∧ (v119.toInt = 0 → -4 ≤ r108.toInt ∧ r108.toInt ≤ 999)) := by have q9 := h111; rw [y_fiZ oY103 (k := 5) (by decide), ← ep107_5, y_fiZ oY116 (k := 5) (by decide), ← ev119] at q9; exact q9
      have ep120_5 := ev119
      refine va_callv (va_runV (As := [.int 2, .int r108]) (rest := []) ⟨hx, hb, hml, hown, hts⟩ (y_X7_lays l dC dI H.size hLK A hA F109 a0 2 r108 ha0 (by decide) hI) (cwV 2 hts (ax_gV T_1115 T_1117 T_1118 T_265 T_1116) rfl rfl rfl (by decide +kernel) ⟨Nat.le_of_ble_eq_true rfl, Nat.le_of_ble_eq_true rfl⟩) ⟨fun a U g mk q => ⟨q.1, s_pc (U := U) rfl rfl q.2⟩, s_recv hK hP (hLK _ ha0 (by decide)) (ci := 7) rfl oY116, fun U hU hW => ⟨rfl, s_pw hU hW hP hK hD hN⟩⟩ rfl rfl hl.1 rfl (lv_room (Nat.le_of_ble_eq_true rfl)) dX7_goTold_57 ⟨Nat.zero_le _, Nat.zero_le _⟩) hS (fun q _ h => h) (fun q h => h) (fun F121 t H1 locs ht hvm hw hB hz1 hk1 hS => ?_)
      obtain ⟨hP, hK1⟩ := hB
      rw [ht] at hP
      generalize H1 = H at hP hS ⊢
      clear hz1 hk1 hvm hK1
      obtain ⟨h122, h124, hI, hfr1, hzf, h123⟩ := hw
      have oY125 : F121 a0 = .inr (7, y_fl A z114 q115) := (hfr1 _ (by rw [ha0]; decide)).trans oY116
      have hfr : ∀ b, K b ∉ [9, 62, 64] → F121 b = F b := fun b hb9 => (hfr1 b (fun q => hb9 (s_sub (by decide) q))).trans (hfr b hb9)
      obtain ⟨f126, o127, b128⟩ := y_op12 hI
      replace h123 : ((∀ j : Int, 0 ≤ j → j ≠ 8 * (y_c f85 387).toInt + 2 → y_c f126 j = y_c f85 j) ∧ (v119.toInt = 0 → y_c f126 (8 * (y_c f85 387).toInt + 2) = r108)) := by have q9 := h123; rw [y_atE o113, y_atE o127, y_fiZ oY116 (k := 5) (by decide), ← ep120_5] at q9; exact q9
      rw [hn88] at h123
      have hn129 : (y_c f126 387).toInt = nn := by rw [h123.1 387 (by omega) (by omega)]; exact hn88
      have hfr130 : ∀ j : Int, 0 ≤ j → (j < 8 * nn ∨ 8 * nn + 8 ≤ j) → y_c f126 j = y_c f1 j := fun j h0 h1 => (h123.1 j h0 (by omega)).trans (hfr89 j h0 h1)
      have h131 : (y_c f126 (8 * nn)).toInt = (y_c f85 (8 * nn)).toInt := (congrArg Int32.toInt (h123.1 _ (by omega) (by omega)))
      have h132 : v119.toInt = 0 → (y_c f126 (8 * nn + 2)).toInt = r108.toInt := (fun h9 => (congrArg (fun i => (y_c f126 i).toInt) (show 8 * nn + 2 = 8 * nn + 2 by omega)).trans ((congrArg Int32.toInt (h123.2 h9)).trans rfl))
      have h133 : (y_c f126 (8 * nn + 3)).toInt = (y_c f85 (8 * nn + 3)).toInt := (congrArg Int32.toInt (h123.1 _ (by omega) (by omega)))
      have h134 : (y_c f126 (8 * nn + 5)).toInt = (y_c f85 (8 * nn + 5)).toInt := (congrArg Int32.toInt (h123.1 _ (by omega) (by omega)))
      refine lv_aload_n hx hb dX7_goTold_60 rfl (lv_at hl 0 rfl) ?_
      refine va_calli (va_runV (As := []) (rest := []) ⟨hx, hb, hml, hown, hts⟩ (y_X7_look l dC dI H.size hLK A hA F121 a0 ha0 hI) (cwV 0 hts (ax_gV T_275 T_276 T_277 T_265 T_22) rfl rfl rfl (by decide +kernel) ⟨Nat.le_of_ble_eq_true rfl, Nat.le_of_ble_eq_true rfl⟩) ⟨fun a U g mk q => ⟨q.1, s_pc (U := U) rfl rfl q.2⟩, s_recv hK hP (hLK _ ha0 (by decide)) (ci := 7) rfl oY125, fun U hU hW => ⟨rfl, s_pw hU hW hP hK hD hN⟩⟩ rfl rfl hl.1 rfl (lv_room (Nat.le_of_ble_eq_true rfl)) dX7_goTold_61 ⟨Nat.zero_le _, Nat.zero_le _⟩) hS (fun q _ h => h) (fun q h => h) (fun r136 F137 t H1 locs ht hvm hw hB hz1 hk1 hS => ?_)
      obtain ⟨hP, hK1⟩ := hB
      rw [ht] at hP
      generalize H1 = H at hP hS ⊢
      clear hz1 hk1 hvm hK1
      obtain ⟨h138, h140, hI, hfr1, hzf, h139⟩ := hw
      have o141 : F137 (A 12) = .inl (cs 0, 400, .inl f126) := (hfr1 _ (by rw [(y_k12 hA)]; decide)).trans o127
      obtain ⟨z142, q143, oY144, bz145, bq146⟩ := y_opY hI ha0
      have hzf : ∀ k, k ∈ ([1, 3, 4, 5, 6, 7, 8, 11, 15, 16, 19, 25, 26, 27, 31, 32] : List Nat) → z142 k = z114 k := fun k hk => by have q9 := hzf k hk; rw [y_fiZ oY144 (s_sub (by decide) hk), y_fiZ oY125 (s_sub (by decide) hk)] at q9; exact q9
      have hz0 : ∀ k, k ∈ ([1, 3, 7, 8, 15, 16, 19, 25, 26, 27, 31, 32] : List Nat) → z142 k = z0 k := fun k hk => (hzf k (s_sub (by decide) hk)).trans (hz0 k hk)
      have ev119 : v119 = z142 5 := ev119.trans (hzf 5 (by decide)).symm
      have hfr : ∀ b, K b ∉ [9, 62, 64] → F137 b = F b := fun b hb9 => (hfr1 b (fun q => hb9 (s_sub (by decide) q))).trans (hfr b hb9)
      obtain ⟨v147, ev147⟩ : ∃ y : Int32, y = z142 2 := ⟨_, rfl⟩
      have qv147 : 0 ≤ v147.toInt ∧ v147.toInt ≤ 1600 := by rw [ev147]; exact y_bY2 bz145
      obtain ⟨v148, ev148⟩ : ∃ y : Int32, y = z142 3 := ⟨_, rfl⟩
      have qv148 : 0 ≤ v148.toInt ∧ v148.toInt ≤ 1600 := by rw [ev148]; exact y_bY3 bz145
      replace h139 : (r136.toInt = -1 ∨ v147.toInt < v148.toInt) := by have q9 := h139; rw [y_fiZ oY144 (k := 2) (by decide), ← ev147, y_fiZ oY144 (k := 3) (by decide), ← ev148] at q9; exact q9
      refine lv_istore_n (lv' := [(2, .int r136), (0, .ref a0), (1, .int w6)]) hx hb dX7_goTold_64 rfl hl (by decide) rfl (fun ls hl => ?_)
      refine lv_aload_n hx hb dX7_goTold_65 rfl (lv_at hl 1 rfl) ?_
      refine th_get (D := (dC, dI)) (ci := 7) (v := .int (z142 5)) (C := RX7) (T := TX7) (N := 34) hx hb hts inX7 hown hK hP (hLK _ ha0 (by decide)) oY144 rfl 5 (by decide) (hts _ T_274) (fun _ h9 => h9) rfl dX7_goTold_66 ?_
      refine ax_eqi (y := v119) ev119.symm ?_
      refine lv_if_ne (tgt := 99) hx hb dX7_goTold_69 (by decide) (fun c149 => ?_) (fun c149 => ?_)
      · have c149 := mt (ax_eq (n := 0) (by decide)).mpr c149
        exact K99 _ _ _ ⟨F137, _, r136, rfl, lv_sub hl [1, 0] rfl, hP, hS, hI, hfr, (fun k hk => (y_fiZ oY144 (s_sub (by decide) hk)).trans (hz0 k hk)), trivial, (by rw [y_atE o141]; exact hn129), (by rw [y_atE o141]; exact hfr130), (by first | (rw [y_atE o141, y_fiZ oY144 (k := 5) (by decide), ← ev119]; omega) | rw [y_atE o141, y_fiZ oY144 (k := 5) (by decide), ← ev119]), (by first | (rw [y_fiZ oY144 (k := 5) (by decide), ← ev119, y_fiZ oY144 (k := 2) (by decide), ← ev147]; omega) | rw [y_fiZ oY144 (k := 5) (by decide), ← ev119, y_fiZ oY144 (k := 2) (by decide), ← ev147]), (by first | (rw [y_fiZ oY144 (k := 5) (by decide), ← ev119, y_atE o141]; omega) | rw [y_fiZ oY144 (k := 5) (by decide), ← ev119, y_atE o141])⟩
      · have c149 := (ax_eq (n := 0) (by decide)).mp c149
        refine lv_iload_n hx hb dX7_goTold_72 rfl (lv_at hl 0 rfl) ?_
        refine lv_bipush (v := 60) hx hb dX7_goTold_73 (by decide) ?_
        refine lv_icmp_eq (tgt := 99) hx hb dX7_goTold_75 (by decide) (fun c150 => ?_) (fun c150 => ?_)
        · have c150 := (ax_eq (n := 60) (by decide)).mp c150
          exact K99 _ _ _ ⟨F137, _, r136, rfl, lv_sub hl [1, 0] rfl, hP, hS, hI, hfr, (fun k hk => (y_fiZ oY144 (s_sub (by decide) hk)).trans (hz0 k hk)), trivial, (by rw [y_atE o141]; exact hn129), (by rw [y_atE o141]; exact hfr130), (by first | (rw [y_atE o141, y_fiZ oY144 (k := 5) (by decide), ← ev119]; omega) | rw [y_atE o141, y_fiZ oY144 (k := 5) (by decide), ← ev119]), (by first | (rw [y_fiZ oY144 (k := 5) (by decide), ← ev119, y_fiZ oY144 (k := 2) (by decide), ← ev147]; omega) | rw [y_fiZ oY144 (k := 5) (by decide), ← ev119, y_fiZ oY144 (k := 2) (by decide), ← ev147]), (by first | (rw [y_fiZ oY144 (k := 5) (by decide), ← ev119, y_atE o141]; omega) | rw [y_fiZ oY144 (k := 5) (by decide), ← ev119, y_atE o141])⟩
        · have c150 := mt (ax_eq (n := 60) (by decide)).mpr c150
          refine lv_iload_n hx hb dX7_goTold_78 rfl (lv_at hl 0 rfl) ?_
          refine lv_bipush (v := 61) hx hb dX7_goTold_79 (by decide) ?_
          refine lv_icmp_eq (tgt := 99) hx hb dX7_goTold_81 (by decide) (fun c151 => ?_) (fun c151 => ?_)
          · have c151 := (ax_eq (n := 61) (by decide)).mp c151
            exact K99 _ _ _ ⟨F137, _, r136, rfl, lv_sub hl [1, 0] rfl, hP, hS, hI, hfr, (fun k hk => (y_fiZ oY144 (s_sub (by decide) hk)).trans (hz0 k hk)), trivial, (by rw [y_atE o141]; exact hn129), (by rw [y_atE o141]; exact hfr130), (by first | (rw [y_atE o141, y_fiZ oY144 (k := 5) (by decide), ← ev119]; omega) | rw [y_atE o141, y_fiZ oY144 (k := 5) (by decide), ← ev119]), (by first | (rw [y_fiZ oY144 (k := 5) (by decide), ← ev119, y_fiZ oY144 (k := 2) (by decide), ← ev147]; omega) | rw [y_fiZ oY144 (k := 5) (by decide), ← ev119, y_fiZ oY144 (k := 2) (by decide), ← ev147]), (by first | (rw [y_fiZ oY144 (k := 5) (by decide), ← ev119, y_atE o141]; omega) | rw [y_fiZ oY144 (k := 5) (by decide), ← ev119, y_atE o141])⟩
          · have c151 := mt (ax_eq (n := 61) (by decide)).mpr c151
            refine lv_iload_n hx hb dX7_goTold_84 rfl (lv_at hl 0 rfl) ?_
            refine lv_bipush (v := 62) hx hb dX7_goTold_85 (by decide) ?_
            refine lv_icmp_eq (tgt := 99) hx hb dX7_goTold_87 (by decide) (fun c152 => ?_) (fun c152 => ?_)
            · have c152 := (ax_eq (n := 62) (by decide)).mp c152
              exact K99 _ _ _ ⟨F137, _, r136, rfl, lv_sub hl [1, 0] rfl, hP, hS, hI, hfr, (fun k hk => (y_fiZ oY144 (s_sub (by decide) hk)).trans (hz0 k hk)), trivial, (by rw [y_atE o141]; exact hn129), (by rw [y_atE o141]; exact hfr130), (by first | (rw [y_atE o141, y_fiZ oY144 (k := 5) (by decide), ← ev119]; omega) | rw [y_atE o141, y_fiZ oY144 (k := 5) (by decide), ← ev119]), (by first | (rw [y_fiZ oY144 (k := 5) (by decide), ← ev119, y_fiZ oY144 (k := 2) (by decide), ← ev147]; omega) | rw [y_fiZ oY144 (k := 5) (by decide), ← ev119, y_fiZ oY144 (k := 2) (by decide), ← ev147]), (by first | (rw [y_fiZ oY144 (k := 5) (by decide), ← ev119, y_atE o141]; omega) | rw [y_fiZ oY144 (k := 5) (by decide), ← ev119, y_atE o141])⟩
            · have c152 := mt (ax_eq (n := 62) (by decide)).mpr c152
              refine lv_aload_n hx hb dX7_goTold_90 rfl (lv_at hl 1 rfl) ?_
              refine lv_iconst (v := 1) hx hb dX7_goTold_91 (by decide) ?_
              refine lv_aload_n hx hb dX7_goTold_92 rfl (lv_at hl 1 rfl) ?_
              refine th_get (D := (dC, dI)) (ci := 7) (v := .int (z142 2)) (C := RX7) (T := TX7) (N := 34) hx hb hts inX7 hown hK hP (hLK _ ha0 (by decide)) oY144 rfl 2 (by decide) (hts _ T_272) (fun _ h9 => h9) rfl dX7_goTold_93 ?_
              refine ax_eqi (y := v147) ev147.symm ?_
              refine va_callv (va_runV (As := [.int 1, .int v147]) (rest := []) ⟨hx, hb, hml, hown, hts⟩ (y_X7_fail l dC dI H.size hLK A hA F137 a0 1 v147 ha0 (by decide) hI) (cwV 2 hts (ax_gV T_290 T_291 T_292 T_265 T_27) rfl rfl rfl (by decide +kernel) ⟨Nat.le_of_ble_eq_true rfl, Nat.le_of_ble_eq_true rfl⟩) ⟨fun a U g mk q => ⟨q.1, s_pc (U := U) rfl rfl q.2⟩, s_recv hK hP (hLK _ ha0 (by decide)) (ci := 7) rfl oY144, fun U hU hW => ⟨rfl, s_pw hU hW hP hK hD hN⟩⟩ rfl rfl hl.1 rfl (lv_room (Nat.le_of_ble_eq_true rfl)) dX7_goTold_96 ⟨Nat.zero_le _, Nat.zero_le _⟩) hS (fun q _ h => h) (fun q h => h) (fun F154 t H1 locs ht hvm hw hB hz1 hk1 hS => ?_)
              obtain ⟨hP, hK1⟩ := hB
              rw [ht] at hP
              generalize H1 = H at hP hS ⊢
              clear hz1 hk1 hvm hK1
              obtain ⟨h155, h157, hI, hfr1, hzf, h156⟩ := hw
              have o158 : F154 (A 12) = .inl (cs 0, 400, .inl f126) := (hfr1 _ (by rw [(y_k12 hA)]; decide)).trans o141
              obtain ⟨z159, q160, oY161, bz162, bq163⟩ := y_opY hI ha0
              have hzf : ∀ k, k ∈ ([1, 2, 3, 4, 7, 8, 11, 15, 16, 19, 25, 26, 27, 31, 32] : List Nat) → z159 k = z142 k := fun k hk => by have q9 := hzf k hk; rw [y_fiZ oY161 (s_sub (by decide) hk), y_fiZ oY144 (s_sub (by decide) hk)] at q9; exact q9
              have hz0 : ∀ k, k ∈ ([1, 3, 7, 8, 15, 16, 19, 25, 26, 27, 31, 32] : List Nat) → z159 k = z0 k := fun k hk => (hzf k (s_sub (by decide) hk)).trans (hz0 k hk)
              have ev147 : v147 = z159 2 := ev147.trans (hzf 2 (by decide)).symm
              have ev148 : v148 = z159 3 := ev148.trans (hzf 3 (by decide)).symm
              have hfr : ∀ b, K b ∉ [9, 62, 64] → F154 b = F b := fun b hb9 => (hfr1 b (fun q => hb9 (s_sub (by decide) q))).trans (hfr b hb9)
              obtain ⟨v164, ev164⟩ : ∃ y : Int32, y = z159 5 := ⟨_, rfl⟩
              replace h156 : (¬ v164.toInt = 0) := by have q9 := h156; rw [y_fiZ oY161 (k := 5) (by decide), ← ev164] at q9; exact q9
              exact K99 _ _ _ ⟨F154, _, r136, rfl, lv_sub hl [1, 0] rfl, hP, hS, hI, hfr, (fun k hk => (y_fiZ oY161 (s_sub (by decide) hk)).trans (hz0 k hk)), trivial, (by rw [y_atE o158]; exact hn129), (by rw [y_atE o158]; exact hfr130), (by first | (rw [y_atE o158, y_fiZ oY161 (k := 5) (by decide), ← ev164]; omega) | rw [y_atE o158, y_fiZ oY161 (k := 5) (by decide), ← ev164]), (by first | (rw [y_fiZ oY161 (k := 5) (by decide), ← ev164, y_fiZ oY161 (k := 2) (by decide), ← ev147]; omega) | rw [y_fiZ oY161 (k := 5) (by decide), ← ev164, y_fiZ oY161 (k := 2) (by decide), ← ev147]), (by first | (rw [y_fiZ oY161 (k := 5) (by decide), ← ev164, y_atE o158]; omega) | rw [y_fiZ oY161 (k := 5) (by decide), ← ev164, y_atE o158])⟩
    · have c106 := (ax_eq (n := 0) (by decide)).mp c106
      exact W.vret hx hb hr (fun t ht hW => ⟨⟨F96, rfl, ⟨trivial, trivial, hI, hfr, fun k hk => (y_fiZ oY103 (s_sub (by decide) hk)).trans ((hz0 k hk).trans (y_fiZ oY0 (s_sub (by decide) hk)).symm), (by rw [y_fiZ oY0 (k := 5) (by decide), ← eF_5, y_fiZ oY103 (k := 5) (by decide), ← ev78, y_atE o2, y_atE o100]; rw [← hnn]; exact ⟨by omega, hfr89, by omega, by omega⟩)⟩, by rw [ht]; exact hP, va_K.moved hW.alike hK⟩, hS.F ht⟩) hS.2.2 dX7_goTold_50
  · intro g H locs hq
    obtain ⟨F171, ls, w5, rfl, hl, hP, hS, hI, hfr, hz0, h165, h166, h167, h168, h169, h170⟩ := hq
    obtain ⟨z172, q173, oY174, bz175, bq176⟩ := y_opY hI ha0
    have hz0 : ∀ k, k ∈ ([1, 3, 7, 8, 15, 16, 19, 25, 26, 27, 31, 32] : List Nat) → z172 k = z0 k := fun k hk => (y_fiZ oY174 (s_sub (by decide) hk)).symm.trans (hz0 k hk)
    obtain ⟨f177, o178, b179⟩ := y_op12 hI
    replace h166 : (y_c f177 387).toInt = nn := by have q9 := h166; rw [y_atE o178] at q9; exact q9
    replace h167 : (∀ j : Int, 0 ≤ j → (j < 8 * nn ∨ 8 * nn + 8 ≤ j) → y_c f177 j = y_c f1 j) := by have q9 := h167; rw [y_atE o178] at q9; exact q9
    obtain ⟨v180, ev180⟩ : ∃ y : Int32, y = z172 5 := ⟨_, rfl⟩
    replace h168 : ((y_c f177 (8 * nn)).toInt = (y_c f1 (8 * nn)).toInt ∧ (y_c f177 (8 * nn + 5)).toInt = -1000000 ∧ (v4.toInt = 0 ∨ ¬ v180.toInt = 0)) := by have q9 := h168; rw [y_atE o178, y_fiZ oY174 (k := 5) (by decide), ← ev180] at q9; exact q9
    obtain ⟨v181, ev181⟩ : ∃ y : Int32, y = z172 2 := ⟨_, rfl⟩
    have qv181 : 0 ≤ v181.toInt ∧ v181.toInt ≤ 1600 := by rw [ev181]; exact y_bY2 bz175
    replace h169 : (v180.toInt = 0 → v181.toInt < 1600) := by have q9 := h169; rw [y_fiZ oY174 (k := 5) (by decide), ← ev180, y_fiZ oY174 (k := 2) (by decide), ← ev181] at q9; exact q9
    replace h170 : (v180.toInt = 0 → -4 ≤ (y_c f177 (8 * nn + 2)).toInt) := by have q9 := h170; rw [y_fiZ oY174 (k := 5) (by decide), ← ev180, y_atE o178] at q9; exact q9
    refine lv_aload_n hx hb dX7_goTold_99 rfl (lv_at hl 0 rfl) ?_
    refine th_get (D := (dC, dI)) (ci := 7) (v := .int (z172 5)) (C := RX7) (T := TX7) (N := 34) hx hb hts inX7 hown hK hP (hLK _ ha0 (by decide)) oY174 rfl 5 (by decide) (hts _ T_274) (fun _ h9 => h9) rfl dX7_goTold_100 ?_
    refine ax_eqi (y := v180) ev180.symm ?_
    refine lv_if_eq (tgt := 107) hx hb dX7_goTold_103 (by decide) (fun c182 => ?_) (fun c182 => ?_)
    · have c182 := (ax_eq (n := 0) (by decide)).mp c182
      refine lv_aload_n hx hb dX7_goTold_107 rfl (lv_at hl 0 rfl) ?_
      refine lv_dup hx hb dX7_goTold_108 rfl ?_
      refine th_get (D := (dC, dI)) (ci := 7) (v := .int (z172 2)) (C := RX7) (T := TX7) (N := 34) hx hb hts inX7 hown hK hP (hLK _ ha0 (by decide)) oY174 rfl 2 (by decide) (hts _ T_272) (fun _ h9 => h9) rfl dX7_goTold_109 ?_
      refine ax_eqi (y := v181) ev181.symm ?_
      refine lv_iconst (v := 1) hx hb dX7_goTold_112 (by decide) ?_
      refine lv_iadd hx hb dX7_goTold_113 ?_
      refine lv_topi (fun v183 ev183 => ?_)
      have qv183 : v183.toInt = v181.toInt + 1 := by rw [ev183]; exact th_add rfl (by decide) ⟨by omega, by omega⟩
      refine th_put (D := (dC, dI)) (ci := 7) (v := .int v183) (ty := .int) (C := RX7) (T := TX7) (N := 34) hx hb hts inX7 tyX7 tyX7_ok nmX7 hown hK hP hD hS (hLK _ ha0 (by decide)) oY174 rfl 2 (by decide) (hts _ T_272) (fun _ h9 => h9) rfl (by decide +kernel) rfl rfl (Nat.le_of_ble_eq_true rfl) dX7_goTold_114 (fun H locs hP hS => ?_)
      rw [y_fs2] at hP
      obtain ⟨z184, hz185⟩ : ∃ g : Nat → Int32, g = upd z172 2 v183 := ⟨_, rfl⟩
      rw [← hz185] at hP
      have bz186 : y_bY z184 := by rw [hz185]; exact y_bp2 bz175 ⟨by omega, by omega⟩
      have hP : va_P (dC, dI) vwCl (va_pl L (va_up F171 a0 (.inr (7, y_fl A z184 q173)))) H := hP
      obtain ⟨F187, hF188⟩ : ∃ G : Nat → va_E, G = va_up F171 a0 (.inr (7, y_fl A z184 q173)) := ⟨_, rfl⟩
      rw [← hF188] at hP
      have hI : y_I K cs A F187 := by rw [hF188]; exact y_clY hA hI ha0 bz186 bq176
      have hfr : ∀ b, K b ∉ [9, 62, 64] → F187 b = F b := by rw [hF188]; exact s_fr hfr ha0 (by decide)
      have o189 : F187 (A 12) = .inl (cs 0, 400, .inl f177) := by rw [hF188]; exact th_ne (th_kd (y_k12 hA) ha0 (by decide)) o178
      have oY190 : F187 a0 = .inr (7, y_fl A z184 q173) := by rw [hF188]; exact th_up
      have hz0 : ∀ k, k ∈ ([1, 3, 7, 8, 15, 16, 19, 25, 26, 27, 31, 32] : List Nat) → z184 k = z0 k := fun k hk => by rw [hz185]; exact (y_un (fun q => absurd hk (by rw [q]; decide))).trans (hz0 k hk)
      have ev180 : v180 = z184 5 := by rw [hz185]; exact ev180.trans (y_un (by decide)).symm
      obtain ⟨v191, ev191⟩ : ∃ y : Int32, y = z184 2 := ⟨_, rfl⟩
      have qv191 : v191.toInt = v183.toInt := by rw [ev191, hz185, y_ue]
      refine lv_aload_n hx hb dX7_goTold_117 rfl (lv_at hl 0 rfl) ?_
      refine lv_iconst (v := 5) hx hb dX7_goTold_118 (by decide) ?_
      refine lv_iload_n hx hb dX7_goTold_119 rfl (lv_at hl 1 rfl) ?_
      refine lv_bipush (v := 60) hx hb dX7_goTold_120 (by decide) ?_
      refine lv_icmp_ne (tgt := 129) hx hb dX7_goTold_122 (by decide) (fun c192 => ?_) (fun c192 => ?_)
      · have c192 := mt (ax_eq (n := 60) (by decide)).mpr c192
        refine lv_iload_n hx hb dX7_goTold_129 rfl (lv_at hl 1 rfl) ?_
        refine lv_bipush (v := 61) hx hb dX7_goTold_130 (by decide) ?_
        refine lv_icmp_ne (tgt := 139) hx hb dX7_goTold_132 (by decide) (fun c193 => ?_) (fun c193 => ?_)
        · have c193 := mt (ax_eq (n := 61) (by decide)).mpr c193
          refine lv_iconst (v := 2) hx hb dX7_goTold_139 (by decide) ?_
          have ep194_5 := ev180
          refine va_callv (va_runV (As := [.int 5, .int 2]) (rest := []) ⟨hx, hb, hml, hown, hts⟩ (y_X7_lays l dC dI H.size hLK A hA F187 a0 5 2 ha0 (by decide) hI) (cwV 2 hts (ax_gV T_1115 T_1117 T_1118 T_265 T_1116) rfl rfl rfl (by decide +kernel) ⟨Nat.le_of_ble_eq_true rfl, Nat.le_of_ble_eq_true rfl⟩) ⟨fun a U g mk q => ⟨q.1, s_pc (U := U) rfl rfl q.2⟩, s_recv hK hP (hLK _ ha0 (by decide)) (ci := 7) rfl oY190, fun U hU hW => ⟨rfl, s_pw hU hW hP hK hD hN⟩⟩ rfl rfl hl.1 rfl (lv_room (Nat.le_of_ble_eq_true rfl)) dX7_goTold_140 ⟨Nat.zero_le _, Nat.zero_le _⟩) hS (fun q _ h => h) (fun q h => h) (fun F195 t H1 locs ht hvm hw hB hz1 hk1 hS => ?_)
          obtain ⟨hP, hK1⟩ := hB
          rw [ht] at hP
          generalize H1 = H at hP hS ⊢
          clear hz1 hk1 hvm hK1
          obtain ⟨h196, h198, hI, hfr1, hzf, h197⟩ := hw
          have oY199 : F195 a0 = .inr (7, y_fl A z184 q173) := (hfr1 _ (by rw [ha0]; decide)).trans oY190
          have hfr : ∀ b, K b ∉ [9, 62, 64] → F195 b = F b := fun b hb9 => (hfr1 b (fun q => hb9 (s_sub (by decide) q))).trans (hfr b hb9)
          obtain ⟨f200, o201, b202⟩ := y_op12 hI
          replace h197 : ((∀ j : Int, 0 ≤ j → j ≠ 8 * (y_c f177 387).toInt + 5 → y_c f200 j = y_c f177 j) ∧ (v180.toInt = 0 → y_c f200 (8 * (y_c f177 387).toInt + 5) = 2)) := by have q9 := h197; rw [y_atE o189, y_atE o201, y_fiZ oY190 (k := 5) (by decide), ← ep194_5] at q9; exact q9
          rw [h166] at h197
          have hn203 : (y_c f200 387).toInt = nn := by rw [h197.1 387 (by omega) (by omega)]; exact h166
          have hfr204 : ∀ j : Int, 0 ≤ j → (j < 8 * nn ∨ 8 * nn + 8 ≤ j) → y_c f200 j = y_c f1 j := fun j h0 h1 => (h197.1 j h0 (by omega)).trans (h167 j h0 h1)
          have h205 : (y_c f200 (8 * nn)).toInt = (y_c f177 (8 * nn)).toInt := (congrArg Int32.toInt (h197.1 _ (by omega) (by omega)))
          have h206 : (y_c f200 (8 * nn + 2)).toInt = (y_c f177 (8 * nn + 2)).toInt := (congrArg Int32.toInt (h197.1 _ (by omega) (by omega)))
          have h207 : (y_c f200 (8 * nn + 3)).toInt = (y_c f177 (8 * nn + 3)).toInt := (congrArg Int32.toInt (h197.1 _ (by omega) (by omega)))
          have h208 : v180.toInt = 0 → (y_c f200 (8 * nn + 5)).toInt = 2 := (fun h9 => (congrArg (fun i => (y_c f200 i).toInt) (show 8 * nn + 5 = 8 * nn + 5 by omega)).trans ((congrArg Int32.toInt (h197.2 h9)).trans (by decide)))
          refine lv_aload_n hx hb dX7_goTold_143 rfl (lv_at hl 0 rfl) ?_
          refine lv_iconst (v := 3) hx hb dX7_goTold_144 (by decide) ?_
          refine lv_aload_n hx hb dX7_goTold_145 rfl (lv_at hl 0 rfl) ?_
          have ep209_5 := ev180
          refine va_calli (va_runV (As := []) (rest := [.int 3, .ref a0]) ⟨hx, hb, hml, hown, hts⟩ (y_X7_partTold l dC dI H.size hLK A hA F195 a0 ha0 hI) (cwV 0 hts (ax_gV T_1119 T_1121 T_1122 T_265 T_1120) rfl rfl rfl (by decide +kernel) ⟨Nat.le_of_ble_eq_true rfl, Nat.le_of_ble_eq_true rfl⟩) ⟨fun a U g mk q => ⟨q.1, s_pc (U := U) rfl rfl q.2⟩, s_recv hK hP (hLK _ ha0 (by decide)) (ci := 7) rfl oY199, fun U hU hW => ⟨rfl, s_pw hU hW hP hK hD hN⟩⟩ rfl rfl hl.1 rfl (lv_room (Nat.le_of_ble_eq_true rfl)) dX7_goTold_146 ⟨Nat.zero_le _, Nat.zero_le _⟩) hS (fun q _ h => h) (fun q h => h) (fun r210 F211 t H1 locs ht hvm hw hB hz1 hk1 hS => ?_)
          obtain ⟨hP, hK1⟩ := hB
          rw [ht] at hP
          generalize H1 = H at hP hS ⊢
          clear hz1 hk1 hvm hK1
          obtain ⟨h212, h214, hI, hfr1, hzf, h213⟩ := hw
          have o215 : F211 (A 12) = .inl (cs 0, 400, .inl f200) := (hfr1 _ (by rw [(y_k12 hA)]; decide)).trans o201
          obtain ⟨z216, q217, oY218, bz219, bq220⟩ := y_opY hI ha0
          have hzf : ∀ k, k ∈ ([1, 3, 7, 8, 11, 15, 16, 19, 25, 26, 27, 31, 32] : List Nat) → z216 k = z184 k := fun k hk => by have q9 := hzf k hk; rw [y_fiZ oY218 (s_sub (by decide) hk), y_fiZ oY199 (s_sub (by decide) hk)] at q9; exact q9
          have hz0 : ∀ k, k ∈ ([1, 3, 7, 8, 15, 16, 19, 25, 26, 27, 31, 32] : List Nat) → z216 k = z0 k := fun k hk => (hzf k (s_sub (by decide) hk)).trans (hz0 k hk)
          have hfr : ∀ b, K b ∉ [9, 62, 64] → F211 b = F b := fun b hb9 => (hfr1 b (fun q => hb9 (s_sub (by decide) q))).trans (hfr b hb9)
          obtain ⟨v221, ev221⟩ : ∃ y : Int32, y = z216 5 := ⟨_, rfl⟩
          replace h213 : ((v180.toInt = 0 ∨ ¬ v221.toInt = 0) ∧ (v221.toInt = 0 → -4 ≤ r210.toInt ∧ r210.toInt ≤ 999)) := by have q9 := h213; rw [y_fiZ oY199 (k := 5) (by decide), ← ep209_5, y_fiZ oY218 (k := 5) (by decide), ← ev221] at q9; exact q9
          have ep222_5 := ev221
          refine va_callv (va_runV (As := [.int 3, .int r210]) (rest := []) ⟨hx, hb, hml, hown, hts⟩ (y_X7_lays l dC dI H.size hLK A hA F211 a0 3 r210 ha0 (by decide) hI) (cwV 2 hts (ax_gV T_1115 T_1117 T_1118 T_265 T_1116) rfl rfl rfl (by decide +kernel) ⟨Nat.le_of_ble_eq_true rfl, Nat.le_of_ble_eq_true rfl⟩) ⟨fun a U g mk q => ⟨q.1, s_pc (U := U) rfl rfl q.2⟩, s_recv hK hP (hLK _ ha0 (by decide)) (ci := 7) rfl oY218, fun U hU hW => ⟨rfl, s_pw hU hW hP hK hD hN⟩⟩ rfl rfl hl.1 rfl (lv_room (Nat.le_of_ble_eq_true rfl)) dX7_goTold_149 ⟨Nat.zero_le _, Nat.zero_le _⟩) hS (fun q _ h => h) (fun q h => h) (fun F223 t H1 locs ht hvm hw hB hz1 hk1 hS => ?_)
          obtain ⟨hP, hK1⟩ := hB
          rw [ht] at hP
          generalize H1 = H at hP hS ⊢
          clear hz1 hk1 hvm hK1
          obtain ⟨h224, h226, hI, hfr1, hzf, h225⟩ := hw
          have oY227 : F223 a0 = .inr (7, y_fl A z216 q217) := (hfr1 _ (by rw [ha0]; decide)).trans oY218
          have hfr : ∀ b, K b ∉ [9, 62, 64] → F223 b = F b := fun b hb9 => (hfr1 b (fun q => hb9 (s_sub (by decide) q))).trans (hfr b hb9)
          obtain ⟨f228, o229, b230⟩ := y_op12 hI
          replace h225 : ((∀ j : Int, 0 ≤ j → j ≠ 8 * (y_c f200 387).toInt + 3 → y_c f228 j = y_c f200 j) ∧ (v221.toInt = 0 → y_c f228 (8 * (y_c f200 387).toInt + 3) = r210)) := by have q9 := h225; rw [y_atE o215, y_atE o229, y_fiZ oY218 (k := 5) (by decide), ← ep222_5] at q9; exact q9
          rw [hn203] at h225
          have hn231 : (y_c f228 387).toInt = nn := by rw [h225.1 387 (by omega) (by omega)]; exact hn203
          have hfr232 : ∀ j : Int, 0 ≤ j → (j < 8 * nn ∨ 8 * nn + 8 ≤ j) → y_c f228 j = y_c f1 j := fun j h0 h1 => (h225.1 j h0 (by omega)).trans (hfr204 j h0 h1)
          have h233 : (y_c f228 (8 * nn)).toInt = (y_c f200 (8 * nn)).toInt := (congrArg Int32.toInt (h225.1 _ (by omega) (by omega)))
          have h234 : (y_c f228 (8 * nn + 2)).toInt = (y_c f200 (8 * nn + 2)).toInt := (congrArg Int32.toInt (h225.1 _ (by omega) (by omega)))
          have h235 : v221.toInt = 0 → (y_c f228 (8 * nn + 3)).toInt = r210.toInt := (fun h9 => (congrArg (fun i => (y_c f228 i).toInt) (show 8 * nn + 3 = 8 * nn + 3 by omega)).trans ((congrArg Int32.toInt (h225.2 h9)).trans rfl))
          have h236 : (y_c f228 (8 * nn + 5)).toInt = (y_c f200 (8 * nn + 5)).toInt := (congrArg Int32.toInt (h225.1 _ (by omega) (by omega)))
          exact W.vret hx hb hr (fun t ht hW => ⟨⟨F223, rfl, ⟨trivial, trivial, hI, hfr, fun k hk => (y_fiZ oY227 (s_sub (by decide) hk)).trans ((hz0 k hk).trans (y_fiZ oY0 (s_sub (by decide) hk)).symm), (by rw [y_fiZ oY0 (k := 5) (by decide), ← eF_5, y_fiZ oY227 (k := 5) (by decide), ← ev221, y_atE o2, y_atE o229]; rw [← hnn]; exact ⟨by omega, hfr232, by omega, by omega⟩)⟩, by rw [ht]; exact hP, va_K.moved hW.alike hK⟩, hS.F ht⟩) hS.2.2 dX7_goTold_152
        · have c193 := (ax_eq (n := 61) (by decide)).mp c193
          refine lv_iconst (v := 1) hx hb dX7_goTold_135 (by decide) ?_
          refine lv_goto (tgt := 140) hx hb dX7_goTold_136 (by decide) ?_
          have ep237_5 := ev180
          refine va_callv (va_runV (As := [.int 5, .int 1]) (rest := []) ⟨hx, hb, hml, hown, hts⟩ (y_X7_lays l dC dI H.size hLK A hA F187 a0 5 1 ha0 (by decide) hI) (cwV 2 hts (ax_gV T_1115 T_1117 T_1118 T_265 T_1116) rfl rfl rfl (by decide +kernel) ⟨Nat.le_of_ble_eq_true rfl, Nat.le_of_ble_eq_true rfl⟩) ⟨fun a U g mk q => ⟨q.1, s_pc (U := U) rfl rfl q.2⟩, s_recv hK hP (hLK _ ha0 (by decide)) (ci := 7) rfl oY190, fun U hU hW => ⟨rfl, s_pw hU hW hP hK hD hN⟩⟩ rfl rfl hl.1 rfl (lv_room (Nat.le_of_ble_eq_true rfl)) dX7_goTold_140 ⟨Nat.zero_le _, Nat.zero_le _⟩) hS (fun q _ h => h) (fun q h => h) (fun F238 t H1 locs ht hvm hw hB hz1 hk1 hS => ?_)
          obtain ⟨hP, hK1⟩ := hB
          rw [ht] at hP
          generalize H1 = H at hP hS ⊢
          clear hz1 hk1 hvm hK1
          obtain ⟨h239, h241, hI, hfr1, hzf, h240⟩ := hw
          have oY242 : F238 a0 = .inr (7, y_fl A z184 q173) := (hfr1 _ (by rw [ha0]; decide)).trans oY190
          have hfr : ∀ b, K b ∉ [9, 62, 64] → F238 b = F b := fun b hb9 => (hfr1 b (fun q => hb9 (s_sub (by decide) q))).trans (hfr b hb9)
          obtain ⟨f243, o244, b245⟩ := y_op12 hI
          replace h240 : ((∀ j : Int, 0 ≤ j → j ≠ 8 * (y_c f177 387).toInt + 5 → y_c f243 j = y_c f177 j) ∧ (v180.toInt = 0 → y_c f243 (8 * (y_c f177 387).toInt + 5) = 1)) := by have q9 := h240; rw [y_atE o189, y_atE o244, y_fiZ oY190 (k := 5) (by decide), ← ep237_5] at q9; exact q9
          rw [h166] at h240
          have hn246 : (y_c f243 387).toInt = nn := by rw [h240.1 387 (by omega) (by omega)]; exact h166
          have hfr247 : ∀ j : Int, 0 ≤ j → (j < 8 * nn ∨ 8 * nn + 8 ≤ j) → y_c f243 j = y_c f1 j := fun j h0 h1 => (h240.1 j h0 (by omega)).trans (h167 j h0 h1)
          have h248 : (y_c f243 (8 * nn)).toInt = (y_c f177 (8 * nn)).toInt := (congrArg Int32.toInt (h240.1 _ (by omega) (by omega)))
          have h249 : (y_c f243 (8 * nn + 2)).toInt = (y_c f177 (8 * nn + 2)).toInt := (congrArg Int32.toInt (h240.1 _ (by omega) (by omega)))
          have h250 : (y_c f243 (8 * nn + 3)).toInt = (y_c f177 (8 * nn + 3)).toInt := (congrArg Int32.toInt (h240.1 _ (by omega) (by omega)))
          have h251 : v180.toInt = 0 → (y_c f243 (8 * nn + 5)).toInt = 1 := (fun h9 => (congrArg (fun i => (y_c f243 i).toInt) (show 8 * nn + 5 = 8 * nn + 5 by omega)).trans ((congrArg Int32.toInt (h240.2 h9)).trans (by decide)))
          refine lv_aload_n hx hb dX7_goTold_143 rfl (lv_at hl 0 rfl) ?_
          refine lv_iconst (v := 3) hx hb dX7_goTold_144 (by decide) ?_
          refine lv_aload_n hx hb dX7_goTold_145 rfl (lv_at hl 0 rfl) ?_
          have ep252_5 := ev180
          refine va_calli (va_runV (As := []) (rest := [.int 3, .ref a0]) ⟨hx, hb, hml, hown, hts⟩ (y_X7_partTold l dC dI H.size hLK A hA F238 a0 ha0 hI) (cwV 0 hts (ax_gV T_1119 T_1121 T_1122 T_265 T_1120) rfl rfl rfl (by decide +kernel) ⟨Nat.le_of_ble_eq_true rfl, Nat.le_of_ble_eq_true rfl⟩) ⟨fun a U g mk q => ⟨q.1, s_pc (U := U) rfl rfl q.2⟩, s_recv hK hP (hLK _ ha0 (by decide)) (ci := 7) rfl oY242, fun U hU hW => ⟨rfl, s_pw hU hW hP hK hD hN⟩⟩ rfl rfl hl.1 rfl (lv_room (Nat.le_of_ble_eq_true rfl)) dX7_goTold_146 ⟨Nat.zero_le _, Nat.zero_le _⟩) hS (fun q _ h => h) (fun q h => h) (fun r253 F254 t H1 locs ht hvm hw hB hz1 hk1 hS => ?_)
          obtain ⟨hP, hK1⟩ := hB
          rw [ht] at hP
          generalize H1 = H at hP hS ⊢
          clear hz1 hk1 hvm hK1
          obtain ⟨h255, h257, hI, hfr1, hzf, h256⟩ := hw
          have o258 : F254 (A 12) = .inl (cs 0, 400, .inl f243) := (hfr1 _ (by rw [(y_k12 hA)]; decide)).trans o244
          obtain ⟨z259, q260, oY261, bz262, bq263⟩ := y_opY hI ha0
          have hzf : ∀ k, k ∈ ([1, 3, 7, 8, 11, 15, 16, 19, 25, 26, 27, 31, 32] : List Nat) → z259 k = z184 k := fun k hk => by have q9 := hzf k hk; rw [y_fiZ oY261 (s_sub (by decide) hk), y_fiZ oY242 (s_sub (by decide) hk)] at q9; exact q9
          have hz0 : ∀ k, k ∈ ([1, 3, 7, 8, 15, 16, 19, 25, 26, 27, 31, 32] : List Nat) → z259 k = z0 k := fun k hk => (hzf k (s_sub (by decide) hk)).trans (hz0 k hk)
          have hfr : ∀ b, K b ∉ [9, 62, 64] → F254 b = F b := fun b hb9 => (hfr1 b (fun q => hb9 (s_sub (by decide) q))).trans (hfr b hb9)
          obtain ⟨v264, ev264⟩ : ∃ y : Int32, y = z259 5 := ⟨_, rfl⟩
          replace h256 : ((v180.toInt = 0 ∨ ¬ v264.toInt = 0) ∧ (v264.toInt = 0 → -4 ≤ r253.toInt ∧ r253.toInt ≤ 999)) := by have q9 := h256; rw [y_fiZ oY242 (k := 5) (by decide), ← ep252_5, y_fiZ oY261 (k := 5) (by decide), ← ev264] at q9; exact q9
          have ep265_5 := ev264
          refine va_callv (va_runV (As := [.int 3, .int r253]) (rest := []) ⟨hx, hb, hml, hown, hts⟩ (y_X7_lays l dC dI H.size hLK A hA F254 a0 3 r253 ha0 (by decide) hI) (cwV 2 hts (ax_gV T_1115 T_1117 T_1118 T_265 T_1116) rfl rfl rfl (by decide +kernel) ⟨Nat.le_of_ble_eq_true rfl, Nat.le_of_ble_eq_true rfl⟩) ⟨fun a U g mk q => ⟨q.1, s_pc (U := U) rfl rfl q.2⟩, s_recv hK hP (hLK _ ha0 (by decide)) (ci := 7) rfl oY261, fun U hU hW => ⟨rfl, s_pw hU hW hP hK hD hN⟩⟩ rfl rfl hl.1 rfl (lv_room (Nat.le_of_ble_eq_true rfl)) dX7_goTold_149 ⟨Nat.zero_le _, Nat.zero_le _⟩) hS (fun q _ h => h) (fun q h => h) (fun F266 t H1 locs ht hvm hw hB hz1 hk1 hS => ?_)
          obtain ⟨hP, hK1⟩ := hB
          rw [ht] at hP
          generalize H1 = H at hP hS ⊢
          clear hz1 hk1 hvm hK1
          obtain ⟨h267, h269, hI, hfr1, hzf, h268⟩ := hw
          have oY270 : F266 a0 = .inr (7, y_fl A z259 q260) := (hfr1 _ (by rw [ha0]; decide)).trans oY261
          have hfr : ∀ b, K b ∉ [9, 62, 64] → F266 b = F b := fun b hb9 => (hfr1 b (fun q => hb9 (s_sub (by decide) q))).trans (hfr b hb9)
          obtain ⟨f271, o272, b273⟩ := y_op12 hI
          replace h268 : ((∀ j : Int, 0 ≤ j → j ≠ 8 * (y_c f243 387).toInt + 3 → y_c f271 j = y_c f243 j) ∧ (v264.toInt = 0 → y_c f271 (8 * (y_c f243 387).toInt + 3) = r253)) := by have q9 := h268; rw [y_atE o258, y_atE o272, y_fiZ oY261 (k := 5) (by decide), ← ep265_5] at q9; exact q9
          rw [hn246] at h268
          have hn274 : (y_c f271 387).toInt = nn := by rw [h268.1 387 (by omega) (by omega)]; exact hn246
          have hfr275 : ∀ j : Int, 0 ≤ j → (j < 8 * nn ∨ 8 * nn + 8 ≤ j) → y_c f271 j = y_c f1 j := fun j h0 h1 => (h268.1 j h0 (by omega)).trans (hfr247 j h0 h1)
          have h276 : (y_c f271 (8 * nn)).toInt = (y_c f243 (8 * nn)).toInt := (congrArg Int32.toInt (h268.1 _ (by omega) (by omega)))
          have h277 : (y_c f271 (8 * nn + 2)).toInt = (y_c f243 (8 * nn + 2)).toInt := (congrArg Int32.toInt (h268.1 _ (by omega) (by omega)))
          have h278 : v264.toInt = 0 → (y_c f271 (8 * nn + 3)).toInt = r253.toInt := (fun h9 => (congrArg (fun i => (y_c f271 i).toInt) (show 8 * nn + 3 = 8 * nn + 3 by omega)).trans ((congrArg Int32.toInt (h268.2 h9)).trans rfl))
          have h279 : (y_c f271 (8 * nn + 5)).toInt = (y_c f243 (8 * nn + 5)).toInt := (congrArg Int32.toInt (h268.1 _ (by omega) (by omega)))
          exact W.vret hx hb hr (fun t ht hW => ⟨⟨F266, rfl, ⟨trivial, trivial, hI, hfr, fun k hk => (y_fiZ oY270 (s_sub (by decide) hk)).trans ((hz0 k hk).trans (y_fiZ oY0 (s_sub (by decide) hk)).symm), (by rw [y_fiZ oY0 (k := 5) (by decide), ← eF_5, y_fiZ oY270 (k := 5) (by decide), ← ev264, y_atE o2, y_atE o272]; rw [← hnn]; exact ⟨by omega, hfr275, by omega, by omega⟩)⟩, by rw [ht]; exact hP, va_K.moved hW.alike hK⟩, hS.F ht⟩) hS.2.2 dX7_goTold_152
      · have c192 := (ax_eq (n := 60) (by decide)).mp c192
        refine lv_iconst (v := 0) hx hb dX7_goTold_125 (by decide) ?_
        refine lv_goto (tgt := 140) hx hb dX7_goTold_126 (by decide) ?_
        have ep280_5 := ev180
        refine va_callv (va_runV (As := [.int 5, .int 0]) (rest := []) ⟨hx, hb, hml, hown, hts⟩ (y_X7_lays l dC dI H.size hLK A hA F187 a0 5 0 ha0 (by decide) hI) (cwV 2 hts (ax_gV T_1115 T_1117 T_1118 T_265 T_1116) rfl rfl rfl (by decide +kernel) ⟨Nat.le_of_ble_eq_true rfl, Nat.le_of_ble_eq_true rfl⟩) ⟨fun a U g mk q => ⟨q.1, s_pc (U := U) rfl rfl q.2⟩, s_recv hK hP (hLK _ ha0 (by decide)) (ci := 7) rfl oY190, fun U hU hW => ⟨rfl, s_pw hU hW hP hK hD hN⟩⟩ rfl rfl hl.1 rfl (lv_room (Nat.le_of_ble_eq_true rfl)) dX7_goTold_140 ⟨Nat.zero_le _, Nat.zero_le _⟩) hS (fun q _ h => h) (fun q h => h) (fun F281 t H1 locs ht hvm hw hB hz1 hk1 hS => ?_)
        obtain ⟨hP, hK1⟩ := hB
        rw [ht] at hP
        generalize H1 = H at hP hS ⊢
        clear hz1 hk1 hvm hK1
        obtain ⟨h282, h284, hI, hfr1, hzf, h283⟩ := hw
        have oY285 : F281 a0 = .inr (7, y_fl A z184 q173) := (hfr1 _ (by rw [ha0]; decide)).trans oY190
        have hfr : ∀ b, K b ∉ [9, 62, 64] → F281 b = F b := fun b hb9 => (hfr1 b (fun q => hb9 (s_sub (by decide) q))).trans (hfr b hb9)
        obtain ⟨f286, o287, b288⟩ := y_op12 hI
        replace h283 : ((∀ j : Int, 0 ≤ j → j ≠ 8 * (y_c f177 387).toInt + 5 → y_c f286 j = y_c f177 j) ∧ (v180.toInt = 0 → y_c f286 (8 * (y_c f177 387).toInt + 5) = 0)) := by have q9 := h283; rw [y_atE o189, y_atE o287, y_fiZ oY190 (k := 5) (by decide), ← ep280_5] at q9; exact q9
        rw [h166] at h283
        have hn289 : (y_c f286 387).toInt = nn := by rw [h283.1 387 (by omega) (by omega)]; exact h166
        have hfr290 : ∀ j : Int, 0 ≤ j → (j < 8 * nn ∨ 8 * nn + 8 ≤ j) → y_c f286 j = y_c f1 j := fun j h0 h1 => (h283.1 j h0 (by omega)).trans (h167 j h0 h1)
        have h291 : (y_c f286 (8 * nn)).toInt = (y_c f177 (8 * nn)).toInt := (congrArg Int32.toInt (h283.1 _ (by omega) (by omega)))
        have h292 : (y_c f286 (8 * nn + 2)).toInt = (y_c f177 (8 * nn + 2)).toInt := (congrArg Int32.toInt (h283.1 _ (by omega) (by omega)))
        have h293 : (y_c f286 (8 * nn + 3)).toInt = (y_c f177 (8 * nn + 3)).toInt := (congrArg Int32.toInt (h283.1 _ (by omega) (by omega)))
        have h294 : v180.toInt = 0 → (y_c f286 (8 * nn + 5)).toInt = 0 := (fun h9 => (congrArg (fun i => (y_c f286 i).toInt) (show 8 * nn + 5 = 8 * nn + 5 by omega)).trans ((congrArg Int32.toInt (h283.2 h9)).trans (by decide)))
        refine lv_aload_n hx hb dX7_goTold_143 rfl (lv_at hl 0 rfl) ?_
        refine lv_iconst (v := 3) hx hb dX7_goTold_144 (by decide) ?_
        refine lv_aload_n hx hb dX7_goTold_145 rfl (lv_at hl 0 rfl) ?_
        have ep295_5 := ev180
        refine va_calli (va_runV (As := []) (rest := [.int 3, .ref a0]) ⟨hx, hb, hml, hown, hts⟩ (y_X7_partTold l dC dI H.size hLK A hA F281 a0 ha0 hI) (cwV 0 hts (ax_gV T_1119 T_1121 T_1122 T_265 T_1120) rfl rfl rfl (by decide +kernel) ⟨Nat.le_of_ble_eq_true rfl, Nat.le_of_ble_eq_true rfl⟩) ⟨fun a U g mk q => ⟨q.1, s_pc (U := U) rfl rfl q.2⟩, s_recv hK hP (hLK _ ha0 (by decide)) (ci := 7) rfl oY285, fun U hU hW => ⟨rfl, s_pw hU hW hP hK hD hN⟩⟩ rfl rfl hl.1 rfl (lv_room (Nat.le_of_ble_eq_true rfl)) dX7_goTold_146 ⟨Nat.zero_le _, Nat.zero_le _⟩) hS (fun q _ h => h) (fun q h => h) (fun r296 F297 t H1 locs ht hvm hw hB hz1 hk1 hS => ?_)
        obtain ⟨hP, hK1⟩ := hB
        rw [ht] at hP
        generalize H1 = H at hP hS ⊢
        clear hz1 hk1 hvm hK1
        obtain ⟨h298, h300, hI, hfr1, hzf, h299⟩ := hw
        have o301 : F297 (A 12) = .inl (cs 0, 400, .inl f286) := (hfr1 _ (by rw [(y_k12 hA)]; decide)).trans o287
        obtain ⟨z302, q303, oY304, bz305, bq306⟩ := y_opY hI ha0
        have hzf : ∀ k, k ∈ ([1, 3, 7, 8, 11, 15, 16, 19, 25, 26, 27, 31, 32] : List Nat) → z302 k = z184 k := fun k hk => by have q9 := hzf k hk; rw [y_fiZ oY304 (s_sub (by decide) hk), y_fiZ oY285 (s_sub (by decide) hk)] at q9; exact q9
        have hz0 : ∀ k, k ∈ ([1, 3, 7, 8, 15, 16, 19, 25, 26, 27, 31, 32] : List Nat) → z302 k = z0 k := fun k hk => (hzf k (s_sub (by decide) hk)).trans (hz0 k hk)
        have hfr : ∀ b, K b ∉ [9, 62, 64] → F297 b = F b := fun b hb9 => (hfr1 b (fun q => hb9 (s_sub (by decide) q))).trans (hfr b hb9)
        obtain ⟨v307, ev307⟩ : ∃ y : Int32, y = z302 5 := ⟨_, rfl⟩
        replace h299 : ((v180.toInt = 0 ∨ ¬ v307.toInt = 0) ∧ (v307.toInt = 0 → -4 ≤ r296.toInt ∧ r296.toInt ≤ 999)) := by have q9 := h299; rw [y_fiZ oY285 (k := 5) (by decide), ← ep295_5, y_fiZ oY304 (k := 5) (by decide), ← ev307] at q9; exact q9
        have ep308_5 := ev307
        refine va_callv (va_runV (As := [.int 3, .int r296]) (rest := []) ⟨hx, hb, hml, hown, hts⟩ (y_X7_lays l dC dI H.size hLK A hA F297 a0 3 r296 ha0 (by decide) hI) (cwV 2 hts (ax_gV T_1115 T_1117 T_1118 T_265 T_1116) rfl rfl rfl (by decide +kernel) ⟨Nat.le_of_ble_eq_true rfl, Nat.le_of_ble_eq_true rfl⟩) ⟨fun a U g mk q => ⟨q.1, s_pc (U := U) rfl rfl q.2⟩, s_recv hK hP (hLK _ ha0 (by decide)) (ci := 7) rfl oY304, fun U hU hW => ⟨rfl, s_pw hU hW hP hK hD hN⟩⟩ rfl rfl hl.1 rfl (lv_room (Nat.le_of_ble_eq_true rfl)) dX7_goTold_149 ⟨Nat.zero_le _, Nat.zero_le _⟩) hS (fun q _ h => h) (fun q h => h) (fun F309 t H1 locs ht hvm hw hB hz1 hk1 hS => ?_)
        obtain ⟨hP, hK1⟩ := hB
        rw [ht] at hP
        generalize H1 = H at hP hS ⊢
        clear hz1 hk1 hvm hK1
        obtain ⟨h310, h312, hI, hfr1, hzf, h311⟩ := hw
        have oY313 : F309 a0 = .inr (7, y_fl A z302 q303) := (hfr1 _ (by rw [ha0]; decide)).trans oY304
        have hfr : ∀ b, K b ∉ [9, 62, 64] → F309 b = F b := fun b hb9 => (hfr1 b (fun q => hb9 (s_sub (by decide) q))).trans (hfr b hb9)
        obtain ⟨f314, o315, b316⟩ := y_op12 hI
        replace h311 : ((∀ j : Int, 0 ≤ j → j ≠ 8 * (y_c f286 387).toInt + 3 → y_c f314 j = y_c f286 j) ∧ (v307.toInt = 0 → y_c f314 (8 * (y_c f286 387).toInt + 3) = r296)) := by have q9 := h311; rw [y_atE o301, y_atE o315, y_fiZ oY304 (k := 5) (by decide), ← ep308_5] at q9; exact q9
        rw [hn289] at h311
        have hn317 : (y_c f314 387).toInt = nn := by rw [h311.1 387 (by omega) (by omega)]; exact hn289
        have hfr318 : ∀ j : Int, 0 ≤ j → (j < 8 * nn ∨ 8 * nn + 8 ≤ j) → y_c f314 j = y_c f1 j := fun j h0 h1 => (h311.1 j h0 (by omega)).trans (hfr290 j h0 h1)
        have h319 : (y_c f314 (8 * nn)).toInt = (y_c f286 (8 * nn)).toInt := (congrArg Int32.toInt (h311.1 _ (by omega) (by omega)))
        have h320 : (y_c f314 (8 * nn + 2)).toInt = (y_c f286 (8 * nn + 2)).toInt := (congrArg Int32.toInt (h311.1 _ (by omega) (by omega)))
        have h321 : v307.toInt = 0 → (y_c f314 (8 * nn + 3)).toInt = r296.toInt := (fun h9 => (congrArg (fun i => (y_c f314 i).toInt) (show 8 * nn + 3 = 8 * nn + 3 by omega)).trans ((congrArg Int32.toInt (h311.2 h9)).trans rfl))
        have h322 : (y_c f314 (8 * nn + 5)).toInt = (y_c f286 (8 * nn + 5)).toInt := (congrArg Int32.toInt (h311.1 _ (by omega) (by omega)))
        exact W.vret hx hb hr (fun t ht hW => ⟨⟨F309, rfl, ⟨trivial, trivial, hI, hfr, fun k hk => (y_fiZ oY313 (s_sub (by decide) hk)).trans ((hz0 k hk).trans (y_fiZ oY0 (s_sub (by decide) hk)).symm), (by rw [y_fiZ oY0 (k := 5) (by decide), ← eF_5, y_fiZ oY313 (k := 5) (by decide), ← ev307, y_atE o2, y_atE o315]; rw [← hnn]; exact ⟨by omega, hfr318, by omega, by omega⟩)⟩, by rw [ht]; exact hP, va_K.moved hW.alike hK⟩, hS.F ht⟩) hS.2.2 dX7_goTold_152
    · have c182 := mt (ax_eq (n := 0) (by decide)).mpr c182
      exact W.vret hx hb hr (fun t ht hW => ⟨⟨F171, rfl, ⟨trivial, trivial, hI, hfr, fun k hk => (y_fiZ oY174 (s_sub (by decide) hk)).trans ((hz0 k hk).trans (y_fiZ oY0 (s_sub (by decide) hk)).symm), (by rw [y_fiZ oY0 (k := 5) (by decide), ← eF_5, y_fiZ oY174 (k := 5) (by decide), ← ev180, y_atE o2, y_atE o178]; rw [← hnn]; exact ⟨by omega, h167, by omega, by omega⟩)⟩, by rw [ht]; exact hP, va_K.moved hW.alike hK⟩, hS.F ht⟩) hS.2.2 dX7_goTold_106
