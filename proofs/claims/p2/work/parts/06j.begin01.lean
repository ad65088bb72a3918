set_option maxHeartbeats 4000000 in
set_option maxRecDepth 100000 in
theorem y_X7_stands (l : Launch) (dC : Nat → ClassId) (dI : Nat → Nat → Nat) (sz : Nat) {L : List Nat} {K : Nat → Nat} {cs : Nat → ClassId} (hLK : ∀ a {k : Nat}, K a = k → k ≠ 0 → a ∈ L) (A : Nat → Nat) (hA : y_A K A) (F : Nat → va_E) (a0 : Nat) (ha0 : K a0 = 9) (hI : y_I K cs A F) (hDS : y_DS (y_at F (A 12))) (hJG : y_JG (y_at F (A 12)) (y_c (y_at F (A 12)) 387).toInt (y_c (y_at F (A 12)) 387).toInt) (hn1 : (1 ≤ (y_c (y_at F (A 12)) 387).toInt ∧ (y_c (y_at F (A 12)) 387).toInt ≤ 40)) : Met l yX7_stands (Cond.code yX7_stands cX7_stands 2 none :: T0) ({ frames := 7, cells := 0, slots := 0, locals := 155 }) (va_Pc [.ref a0] (s_W dC dI sz L F [(cs 0, .int), (cs 1, .byte), (cs 2, .long), (cs 3, .object RX5), (cs 4, .object RX4), (cs 5, .array .int), (cs 6, .char), (cs 7, .boolean)])) (va_Qv (fun (G : Nat → va_E) => True ∧ True ∧ y_I K cs A G ∧ (∀ b, K b ∉ [9, 63, 67, 68, 70] → G b = F b) ∧ (∀ k, k ∈ ([1, 2, 3, 4, 5, 6, 7, 8, 11, 16, 25, 26, 27, 32] : List Nat) → y_fi G a0 k = y_fi F a0 k) ∧ ((y_PG (y_at G (A 13)) ∧ y_NG (y_at G (A 13)) (y_at G (A 20))) ∧ (y_fi G a0 15).toInt = 1 ∧ (y_fi G a0 31).toInt = 0)) (fun (G : Nat → va_E) (t : State) => va_P (dC, dI) vwCl (va_pl L G) t.heap ∧ va_K (dC, dI) vwCl [(cs 0, .int), (cs 1, .byte), (cs 2, .long), (cs 3, .object RX5), (cs 4, .object RX4), (cs 5, .array .int), (cs 6, .char), (cs 7, .boolean)] t) (fun q => q ∈ L)) 0 0 (fun q => q ∈ L) := by
  refine Met.ofW (cc := cX7_stands) (maxL := 2) (ret := none) (by decide) rfl ?_
  intro p e s m args below meth c s₁ B hml hv
  obtain ⟨rfl, hsz, hP, hK, hD, hN⟩ := hv
  have hx := B.exec
  have hb := B.bytes
  have hr := B.returns
  have hts : ∀ w ∈ T0, w.before _ s = true := fun w h => atoms_spec (ws := Cond.code yX7_stands cX7_stands 2 none :: T0) B.pre w (List.mem_cons_of_mem _ h)
  have hown : s.vm.findClass RX7 = some m.cls := findClass_of_methodNamed B.named
  have hlocks := B.notSynchronized
  have hS : va_S (fun q => q ∈ L) s.heap s.heap [] := va_S.rf
  have hfr : ∀ b, K b ∉ [9, 63, 67, 68, 70] → F b = F b := fun _ _ => rfl
  have hl := lv_entry ([.ref a0]) (n := 2) (Nat.le_of_ble_eq_true rfl)
  rw [lg_entry_eq]
  generalize (lg_sl ([.ref a0]) ++ List.replicate (2 - (lg_sl ([.ref a0])).length) Slot.unset).toArray = ls at hl ⊢
  have hl : lv_has ls 2 [(0, .ref a0)] := hl
  refine s_gen hP hS (fun H locs hP hS => ?_)
  obtain ⟨z0, q0, oY0, bz0, bq0⟩ := y_opY hI ha0
  have hz0 : ∀ k, k ∈ ([1, 2, 3, 4, 5, 6, 7, 8, 11, 16, 25, 26, 27, 32] : List Nat) → z0 k = z0 k := fun _ _ => rfl
  obtain ⟨f1, o2, b3⟩ := y_op12 hI
  obtain ⟨f4, o5, b6⟩ := y_op13 hI
  obtain ⟨f7, o8, b9⟩ := y_op20 hI
  obtain ⟨v10, ev10⟩ : ∃ y : Int32, y = z0 15 := ⟨_, rfl⟩
  have qv10 : 0 ≤ v10.toInt ∧ v10.toInt ≤ 1 := by rw [ev10]; exact y_bY15 bz0
  have eF_15 := ev10
  obtain ⟨v11, ev11⟩ : ∃ y : Int32, y = z0 31 := ⟨_, rfl⟩
  have qv11 : 0 ≤ v11.toInt ∧ v11.toInt ≤ 20 := by rw [ev11]; exact y_bY31 bz0
  have eF_31 := ev11
  replace hDS : y_DS f1 := by have q9 := hDS; rw [y_atE o2] at q9; exact q9
  replace hJG : y_JG f1 (y_c f1 387).toInt (y_c f1 387).toInt := by have q9 := hJG; rw [y_atE o2] at q9; exact q9
  replace hn1 : (1 ≤ (y_c f1 387).toInt ∧ (y_c f1 387).toInt ≤ 40) := by have q9 := hn1; rw [y_atE o2] at q9; exact q9
  have e0_v10 := ev10
  have e0_v11 := ev11
  refine lv_iconst (v := 0) hx hb dX7_stands_0 (by decide) ?_
  refine lv_istore_n (lv' := [(1, .int 0), (0, .ref a0)]) hx hb dX7_stands_1 rfl hl (by decide) rfl (fun ls hl => ?_)
  have h13 : (0 : Int32).toInt = 0 := by decide
  refine th_loop (fun n g H locs => ∃ (G : Nat → va_E) (ls : Array Slot) (w12 : Int32), g = F0 m 2 ls [] ∧ lv_has ls 2 [(0, .ref a0), (1, .int w12)] ∧ va_P (dC, dI) vwCl (va_pl L G) H ∧ va_S (fun q => q ∈ L) s.heap H locs ∧ y_I K cs A G ∧ (∀ b, K b ∉ [9, 63, 67, 68, 70] → G b = F b) ∧ (∀ k, k ∈ ([1, 2, 3, 4, 5, 6, 7, 8, 11, 16, 25, 26, 27, 32] : List Nat) → y_fi G a0 k = z0 k) ∧ (0 ≤ w12.toInt ∧ w12.toInt ≤ 400) ∧ (∀ j : Int, 0 ≤ j → j < w12.toInt → y_c (y_at G (A 13)) j = y_c f1 j) ∧ n = (401 - w12.toInt).toNat) _ ⟨F, _, 0, rfl, lv_sub hl [1, 0] rfl, hP, hS, hI, hfr, (fun k hk => (y_fiZ oY0 (s_sub (by decide) hk)).trans (hz0 k hk)), (by decide), (by rw [y_atE o5]; exact (fun j h0 h1 => absurd h1 (by omega))), rfl⟩ (fun n ih2 g H locs hq => ?_)
  obtain ⟨F16, ls, w12, rfl, hl, hP, hS, hI, hfr, hz0, h14, h15, hn⟩ := hq
  have o17 : F16 (A 12) = .inl (cs 0, 400, .inl f1) := (hfr _ (by rw [(y_k12 hA)]; decide)).trans o2
  obtain ⟨z18, q19, oY20, bz21, bq22⟩ := y_opY hI ha0
  have hz0 : ∀ k, k ∈ ([1, 2, 3, 4, 5, 6, 7, 8, 11, 16, 25, 26, 27, 32] : List Nat) → z18 k = z0 k := fun k hk => (y_fiZ oY20 (s_sub (by decide) hk)).symm.trans (hz0 k hk)
  obtain ⟨f23, o24, b25⟩ := y_op13 hI
  replace h15 : (∀ j : Int, 0 ≤ j → j < w12.toInt → y_c f23 j = y_c f1 j) := by have q9 := h15; rw [y_atE o24] at q9; exact q9
  have hn_25 := hn
  refine lv_iload_n hx hb dX7_stands_2 rfl (lv_at hl 1 rfl) ?_
  refine lv_sipush (v := 400) hx hb dX7_stands_3 (by decide) ?_
  refine lv_icmp_ge (tgt := 27) hx hb dX7_stands_6 (by decide) (fun c26 => ?_) (fun c26 => ?_)
  · have c26 := (ax_ge (n := 400) (by decide)).mp c26
    have hP0 : y_P0 f23 := y_P0c (fun j h0 h1 => h15 j h0 (by omega)) hDS hn1 hJG
    have hL27 := y_P0L hP0
    refine lv_aload_n hx hb dX7_stands_27 rfl (lv_at hl 0 rfl) ?_
    refine lv_iconst (v := 1) hx hb dX7_stands_28 (by decide) ?_
    refine th_put (D := (dC, dI)) (ci := 7) (v := .int 1) (ty := .boolean) (C := RX7) (T := TX7) (N := 34) hx hb hts inX7 tyX7 tyX7_ok nmX7 hown hK hP hD hS (hLK _ ha0 (by decide)) oY20 rfl 15 (by decide) (hts _ T_271) (fun _ h9 => h9) rfl (by decide +kernel) (by decide) rfl (Nat.le_of_ble_eq_true rfl) dX7_stands_29 (fun H locs hP hS => ?_)
    rw [y_fs15] at hP
    obtain ⟨z28, hz29⟩ : ∃ g : Nat → Int32, g = upd z18 15 1 := ⟨_, rfl⟩
    rw [← hz29] at hP
    have bz30 : y_bY z28 := by rw [hz29]; exact y_bp15 bz21 (by decide)
    have hP : va_P (dC, dI) vwCl (va_pl L (va_up F16 a0 (.inr (7, y_fl A z28 q19)))) H := hP
    obtain ⟨F31, hF32⟩ : ∃ G : Nat → va_E, G = va_up F16 a0 (.inr (7, y_fl A z28 q19)) := ⟨_, rfl⟩
    rw [← hF32] at hP
    have hI : y_I K cs A F31 := by rw [hF32]; exact y_clY hA hI ha0 bz30 bq22
    have hfr : ∀ b, K b ∉ [9, 63, 67, 68, 70] → F31 b = F b := by rw [hF32]; exact s_fr hfr ha0 (by decide)
    have o33 : F31 (A 12) = .inl (cs 0, 400, .inl f1) := by rw [hF32]; exact th_ne (th_kd (y_k12 hA) ha0 (by decide)) o17
    have o34 : F31 (A 13) = .inl (cs 0, 400, .inl f23) := by rw [hF32]; exact th_ne (th_kd (y_k13 hA) ha0 (by decide)) o24
    have oY35 : F31 a0 = .inr (7, y_fl A z28 q19) := by rw [hF32]; exact th_up
    have hz0 : ∀ k, k ∈ ([1, 2, 3, 4, 5, 6, 7, 8, 11, 16, 25, 26, 27, 32] : List Nat) → z28 k = z0 k := fun k hk => by rw [hz29]; exact (y_un (fun q => absurd hk (by rw [q]; decide))).trans (hz0 k hk)
    obtain ⟨v36, ev36⟩ : ∃ y : Int32, y = z28 15 := ⟨_, rfl⟩
    have qv36 : v36.toInt = 1 := by rw [ev36, hz29, y_ue]; decide
    refine lv_iconst (v := 0) hx hb dX7_stands_32 (by decide) ?_
    refine lv_istore_n (lv' := [(1, .int 0), (0, .ref a0)]) hx hb dX7_stands_33 rfl hl (by decide) rfl (fun ls hl => ?_)
    have h38 : (0 : Int32).toInt = 0 := by decide
    refine th_loop (fun n g H locs => ∃ (G : Nat → va_E) (ls : Array Slot) (w37 : Int32), g = F0 m 34 ls [] ∧ lv_has ls 2 [(0, .ref a0), (1, .int w37)] ∧ va_P (dC, dI) vwCl (va_pl L G) H ∧ va_S (fun q => q ∈ L) s.heap H locs ∧ y_I K cs A G ∧ (∀ b, K b ∉ [9, 63, 67, 68, 70] → G b = F b) ∧ (∀ k, k ∈ ([1, 2, 3, 4, 5, 6, 7, 8, 11, 16, 25, 26, 27, 32] : List Nat) → y_fi G a0 k = z0 k) ∧ (0 ≤ w37.toInt ∧ w37.toInt ≤ 40) ∧ (y_P0 (y_at G (A 13))) ∧ (y_MG (y_at G (A 13)) (y_c (y_at G (A 13)) 387).toInt w37.toInt) ∧ ((y_fi G a0 15).toInt = 1) ∧ n = (41 - w37.toInt).toNat) _ ⟨F31, _, 0, rfl, lv_sub hl [1, 0] rfl, hP, hS, hI, hfr, (fun k hk => (y_fiZ oY35 (s_sub (by decide) hk)).trans (hz0 k hk)), (by decide), (by rw [y_atE o34]; exact hP0), (by rw [y_atE o34]; exact (fun i h0 h1 => absurd h1 (by omega))), (by first | (rw [y_fiZ oY35 (k := 15) (by decide), ← ev36]; omega) | rw [y_fiZ oY35 (k := 15) (by decide), ← ev36]), rfl⟩ (fun n ih34 g H locs hq => ?_)
    obtain ⟨F43, ls, w37, rfl, hl, hP, hS, hI, hfr, hz0, h39, h40, h41, h42, hn⟩ := hq
    have o44 : F43 (A 12) = .inl (cs 0, 400, .inl f1) := (hfr _ (by rw [(y_k12 hA)]; decide)).trans o2
    obtain ⟨z45, q46, oY47, bz48, bq49⟩ := y_opY hI ha0
    have hz0 : ∀ k, k ∈ ([1, 2, 3, 4, 5, 6, 7, 8, 11, 16, 25, 26, 27, 32] : List Nat) → z45 k = z0 k := fun k hk => (y_fiZ oY47 (s_sub (by decide) hk)).symm.trans (hz0 k hk)
    obtain ⟨f50, o51, b52⟩ := y_op13 hI
    replace h40 : (y_P0 f50) := by have q9 := h40; rw [y_atE o51] at q9; exact q9
    replace h41 : (y_MG f50 (y_c f50 387).toInt w37.toInt) := by have q9 := h41; rw [y_atE o51] at q9; exact q9
    obtain ⟨v53, ev53⟩ : ∃ y : Int32, y = z45 15 := ⟨_, rfl⟩
    have qv53 : 0 ≤ v53.toInt ∧ v53.toInt ≤ 1 := by rw [ev53]; exact y_bY15 bz48
    replace h42 : (v53.toInt = 1) := by have q9 := h42; rw [y_fiZ oY47 (k := 15) (by decide), ← ev53] at q9; exact q9
    have hL54 := y_P0L h40
    have hn_54 := hn
    refine lv_iload_n hx hb dX7_stands_34 rfl (lv_at hl 1 rfl) ?_
    refine lv_aload_n hx hb dX7_stands_35 rfl (lv_at hl 0 rfl) ?_
    refine va_calli (va_runV (As := []) (rest := [.int w37]) ⟨hx, hb, hml, hown, hts⟩ (y_X7_lines l dC dI H.size hLK A hA F43 a0 ha0 hI) (cwV 0 hts (ax_gV T_1030 T_1032 T_1033 T_265 T_1031) rfl rfl rfl (by decide +kernel) ⟨Nat.le_of_ble_eq_true rfl, Nat.le_of_ble_eq_true rfl⟩) ⟨fun a U g mk q => ⟨q.1, s_pc (U := U) rfl rfl q.2⟩, s_recv hK hP (hLK _ ha0 (by decide)) (ci := 7) rfl oY47, fun U hU hW => ⟨rfl, s_pw hU hW hP hK hD hN⟩⟩ rfl rfl hl.1 rfl (lv_room (Nat.le_of_ble_eq_true rfl)) dX7_stands_36 ⟨Nat.zero_le _, Nat.zero_le _⟩) hS (fun q _ h => h) (fun q h => h) (fun r56 F57 t H1 locs ht hvm hw hB hz1 hk1 hS => ?_)
    obtain ⟨hP, hK1⟩ := hB
    rw [ht] at hP
    generalize H1 = H at hP hS ⊢
    clear hz1 hk1 hvm hK1
    obtain ⟨h58, h60, hI, hfr1, hzf, h59⟩ := hw
    have o61 : F57 (A 12) = .inl (cs 0, 400, .inl f1) := (hfr1 _ (by rw [(y_k12 hA)]; decide)).trans o44
    have o62 : F57 (A 13) = .inl (cs 0, 400, .inl f50) := (hfr1 _ (by rw [(y_k13 hA)]; decide)).trans o51
    have oY63 : F57 a0 = .inr (7, y_fl A z45 q46) := (hfr1 _ (by rw [ha0]; decide)).trans oY47
    have hfr : ∀ b, K b ∉ [9, 63, 67, 68, 70] → F57 b = F b := fun b hb9 => (hfr1 b (fun q => hb9 (s_sub (by decide) q))).trans (hfr b hb9)
    replace h59 : (r56 = y_c f50 387) := by have q9 := h59; rw [y_atE o51] at q9; exact q9
    have h64 := congrArg Int32.toInt h59
    have h65 : 1 ≤ r56.toInt ∧ r56.toInt ≤ 40 := ⟨by omega, by omega⟩
    refine lv_icmp_ge (tgt := 72) hx hb dX7_stands_39 (by decide) (fun c66 => ?_) (fun c66 => ?_)
    · have c66 := Int32.le_iff_toInt_le.mp c66
      have hPG : y_PG f50 := ⟨h40, by have q9 := h41; intro i h0 h1; exact q9 i h0 (by omega)⟩
      have hmd := h40.1.2.2
      refine lv_aload_n hx hb dX7_stands_72 rfl (lv_at hl 0 rfl) ?_
      refine th_get (D := (dC, dI)) (ci := 7) (v := .ref (A 20)) (C := RX7) (T := TX7) (N := 34) hx hb hts inX7 hown hK hP (hLK _ ha0 (by decide)) oY63 rfl 20 (by decide) (hts _ T_251) (fun _ h9 => h9) rfl dX7_stands_73 ?_
      refine lv_iconst (v := 3) hx hb dX7_stands_76 (by decide) ?_
      refine lv_aload_n hx hb dX7_stands_77 rfl (lv_at hl 0 rfl) ?_
      refine th_get (D := (dC, dI)) (ci := 7) (v := .ref (A 13)) (C := RX7) (T := TX7) (N := 34) hx hb hts inX7 hown hK hP (hLK _ ha0 (by decide)) oY63 rfl 13 (by decide) (hts _ T_246) (fun _ h9 => h9) rfl dX7_stands_78 ?_
      refine lv_sipush (v := 385) hx hb dX7_stands_81 (by decide) ?_
      refine th_iald hx hb hK hP (hLK _ (y_k13 hA) (by decide)) 0 o62 rfl (ax_in (by decide)) dX7_stands_84 ?_
      refine lv_topi (fun v67 ev67 => ?_)
      have Ev67 : v67 = y_c f50 (385) := ev67.trans (y_ci (by decide))
      have tEv67 := congrArg Int32.toInt Ev67
      obtain ⟨f68, o69, b70⟩ := y_op20 hI
      refine th_iast hx hb hK hP hD hS (hLK _ (y_k20 hA) (by decide)) 0 o69 rfl (ax_in (by decide)) dX7_stands_85 (fun H locs hP hS => ?_)
      obtain ⟨f71, u72⟩ : ∃ g : Nat → Int32, g = upd f68 (3 : Int32).toNatClampNeg v67 := ⟨_, rfl⟩
      rw [← u72] at hP
      have b73 : y_bd 20 f71 := trivial
      have hP : va_P (dC, dI) vwCl (va_pl L (va_up F57 (A 20) (.inl (cs 0, 918, .inl f71)))) H := hP
      obtain ⟨F74, hF75⟩ : ∃ G : Nat → va_E, G = va_up F57 (A 20) (.inl (cs 0, 918, .inl f71)) := ⟨_, rfl⟩
      rw [← hF75] at hP
      have hI : y_I K cs A F74 := by rw [hF75]; exact y_clA (i := 20) hA hI (by decide) b73
      have hfr : ∀ b, K b ∉ [9, 63, 67, 68, 70] → F74 b = F b := by rw [hF75]; exact s_fr hfr (y_k20 hA) (by decide)
      have o76 : F74 (A 12) = .inl (cs 0, 400, .inl f1) := by rw [hF75]; exact th_ne (th_kd (y_k12 hA) (y_k20 hA) (by decide)) o61
      have o77 : F74 (A 13) = .inl (cs 0, 400, .inl f50) := by rw [hF75]; exact th_ne (th_kd (y_k13 hA) (y_k20 hA) (by decide)) o62
      have oY78 : F74 a0 = .inr (7, y_fl A z45 q46) := by rw [hF75]; exact th_ne (th_kd ha0 (y_k20 hA) (by decide)) oY63
      have o79 : F74 (A 20) = .inl (cs 0, 918, .inl f71) := by rw [hF75]; exact th_up
      have u80 : ∀ j : Int, 0 ≤ j → y_c f71 j = if j = 3 then v67 else y_c f68 j := by rw [u72]; exact y_cu (by decide) (by decide)
      refine lv_aload_n hx hb dX7_stands_86 rfl (lv_at hl 0 rfl) ?_
      refine th_get (D := (dC, dI)) (ci := 7) (v := .ref (A 20)) (C := RX7) (T := TX7) (N := 34) hx hb hts inX7 hown hK hP (hLK _ ha0 (by decide)) oY78 rfl 20 (by decide) (hts _ T_251) (fun _ h9 => h9) rfl dX7_stands_87 ?_
      refine lv_iconst (v := 4) hx hb dX7_stands_90 (by decide) ?_
      refine lv_aload_n hx hb dX7_stands_91 rfl (lv_at hl 0 rfl) ?_
      refine th_get (D := (dC, dI)) (ci := 7) (v := .ref (A 13)) (C := RX7) (T := TX7) (N := 34) hx hb hts inX7 hown hK hP (hLK _ ha0 (by decide)) oY78 rfl 13 (by decide) (hts _ T_246) (fun _ h9 => h9) rfl dX7_stands_92 ?_
      refine lv_sipush (v := 386) hx hb dX7_stands_95 (by decide) ?_
      refine th_iald hx hb hK hP (hLK _ (y_k13 hA) (by decide)) 0 o77 rfl (ax_in (by decide)) dX7_stands_98 ?_
      refine lv_topi (fun v81 ev81 => ?_)
      have Ev81 : v81 = y_c f50 (386) := ev81.trans (y_ci (by decide))
      have tEv81 := congrArg Int32.toInt Ev81
      refine th_iast hx hb hK hP hD hS (hLK _ (y_k20 hA) (by decide)) 0 o79 rfl (ax_in (by decide)) dX7_stands_99 (fun H locs hP hS => ?_)
      obtain ⟨f82, u83⟩ : ∃ g : Nat → Int32, g = upd f71 (4 : Int32).toNatClampNeg v81 := ⟨_, rfl⟩
      rw [← u83] at hP
      have b84 : y_bd 20 f82 := trivial
      have hP : va_P (dC, dI) vwCl (va_pl L (va_up F74 (A 20) (.inl (cs 0, 918, .inl f82)))) H := hP
      obtain ⟨F85, hF86⟩ : ∃ G : Nat → va_E, G = va_up F74 (A 20) (.inl (cs 0, 918, .inl f82)) := ⟨_, rfl⟩
      rw [← hF86] at hP
      have hI : y_I K cs A F85 := by rw [hF86]; exact y_clA (i := 20) hA hI (by decide) b84
      have hfr : ∀ b, K b ∉ [9, 63, 67, 68, 70] → F85 b = F b := by rw [hF86]; exact s_fr hfr (y_k20 hA) (by decide)
      have o87 : F85 (A 12) = .inl (cs 0, 400, .inl f1) := by rw [hF86]; exact th_ne (th_kd (y_k12 hA) (y_k20 hA) (by decide)) o76
      have o88 : F85 (A 13) = .inl (cs 0, 400, .inl f50) := by rw [hF86]; exact th_ne (th_kd (y_k13 hA) (y_k20 hA) (by decide)) o77
      have oY89 : F85 a0 = .inr (7, y_fl A z45 q46) := by rw [hF86]; exact th_ne (th_kd ha0 (y_k20 hA) (by decide)) oY78
      have o90 : F85 (A 20) = .inl (cs 0, 918, .inl f82) := by rw [hF86]; exact th_up
      have u91 : ∀ j : Int, 0 ≤ j → y_c f82 j = if j = 4 then v81 else y_c f71 j := by rw [u83]; exact y_cu (by decide) (by decide)
      refine lv_aload_n hx hb dX7_stands_100 rfl (lv_at hl 0 rfl) ?_
      refine th_get (D := (dC, dI)) (ci := 7) (v := .ref (A 20)) (C := RX7) (T := TX7) (N := 34) hx hb hts inX7 hown hK hP (hLK _ ha0 (by decide)) oY89 rfl 20 (by decide) (hts _ T_251) (fun _ h9 => h9) rfl dX7_stands_101 ?_
      refine lv_iconst (v := 5) hx hb dX7_stands_104 (by decide) ?_
      refine lv_iconst (v := 0) hx hb dX7_stands_105 (by decide) ?_
      refine th_iast hx hb hK hP hD hS (hLK _ (y_k20 hA) (by decide)) 0 o90 rfl (ax_in (by decide)) dX7_stands_106 (fun H locs hP hS => ?_)
      obtain ⟨f92, u93⟩ : ∃ g : Nat → Int32, g = upd f82 (5 : Int32).toNatClampNeg 0 := ⟨_, rfl⟩
      rw [← u93] at hP
      have b94 : y_bd 20 f92 := trivial
      have hP : va_P (dC, dI) vwCl (va_pl L (va_up F85 (A 20) (.inl (cs 0, 918, .inl f92)))) H := hP
      obtain ⟨F95, hF96⟩ : ∃ G : Nat → va_E, G = va_up F85 (A 20) (.inl (cs 0, 918, .inl f92)) := ⟨_, rfl⟩
      rw [← hF96] at hP
      have hI : y_I K cs A F95 := by rw [hF96]; exact y_clA (i := 20) hA hI (by decide) b94
      have hfr : ∀ b, K b ∉ [9, 63, 67, 68, 70] → F95 b = F b := by rw [hF96]; exact s_fr hfr (y_k20 hA) (by decide)
      have o97 : F95 (A 12) = .inl (cs 0, 400, .inl f1) := by rw [hF96]; exact th_ne (th_kd (y_k12 hA) (y_k20 hA) (by decide)) o87
      have o98 : F95 (A 13) = .inl (cs 0, 400, .inl f50) := by rw [hF96]; exact th_ne (th_kd (y_k13 hA) (y_k20 hA) (by decide)) o88
      have oY99 : F95 a0 = .inr (7, y_fl A z45 q46) := by rw [hF96]; exact th_ne (th_kd ha0 (y_k20 hA) (by decide)) oY89
      have o100 : F95 (A 20) = .inl (cs 0, 918, .inl f92) := by rw [hF96]; exact th_up
      have u101 : ∀ j : Int, 0 ≤ j → y_c f92 j = if j = 5 then 0 else y_c f82 j := by rw [u93]; exact y_cu (by decide) (by decide)
      have hm3 : (y_c f92 3).toInt = v67.toInt ∧ (y_c f92 4).toInt = v81.toInt := ⟨by rw [u101 3 (by omega), if_neg (by omega), u91 3 (by omega), if_neg (by omega), u80 3 (by omega), if_pos rfl], by rw [u101 4 (by omega), if_neg (by omega), u91 4 (by omega), if_pos rfl]⟩
      refine lv_aload_n hx hb dX7_stands_107 rfl (lv_at hl 0 rfl) ?_
      refine lv_iconst (v := (-1)) hx hb dX7_stands_108 (by decide) ?_
      refine va_callv (va_runV (As := [.int (-1)]) (rest := []) ⟨hx, hb, hml, hown, hts⟩ (y_X7_begins l dC dI H.size hLK A hA F95 a0 (-1) ha0 (by decide) hI (by rw [y_atE o98]; exact hPG) (by first | (rw [y_atE o100]; omega) | rw [y_atE o100])) (cwV 1 hts (ax_gV T_1017 T_1019 T_1020 T_265 T_1018) rfl rfl rfl (by decide +kernel) ⟨Nat.le_of_ble_eq_true rfl, Nat.le_of_ble_eq_true rfl⟩) ⟨fun a U g mk q => ⟨q.1, s_pc (U := U) rfl rfl q.2⟩, s_recv hK hP (hLK _ ha0 (by decide)) (ci := 7) rfl oY99, fun U hU hW => ⟨rfl, s_pw hU hW hP hK hD hN⟩⟩ rfl rfl hl.1 rfl (lv_room (Nat.le_of_ble_eq_true rfl)) dX7_stands_109 ⟨Nat.zero_le _, Nat.zero_le _⟩) hS (fun q _ h => h) (fun q h => h) (fun F103 t H1 locs ht hvm hw hB hz1 hk1 hS => ?_)
      obtain ⟨hP, hK1⟩ := hB
      rw [ht] at hP
      generalize H1 = H at hP hS ⊢
      clear hz1 hk1 hvm hK1
      obtain ⟨h104, h106, hI, hfr1, hzf, h105⟩ := hw
      have o107 : F103 (A 12) = .inl (cs 0, 400, .inl f1) := (hfr1 _ (by rw [(y_k12 hA)]; decide)).trans o97
      have o108 : F103 (A 13) = .inl (cs 0, 400, .inl f50) := (hfr1 _ (by rw [(y_k13 hA)]; decide)).trans o98
      have oY109 : F103 a0 = .inr (7, y_fl A z45 q46) := (hfr1 _ (by rw [ha0]; decide)).trans oY99
      have hfr : ∀ b, K b ∉ [9, 63, 67, 68, 70] → F103 b = F b := fun b hb9 => (hfr1 b (fun q => hb9 (s_sub (by decide) q))).trans (hfr b hb9)
      obtain ⟨f110, o111, b112⟩ := y_op20 hI
      replace h105 : (y_NG f50 f110) := by have q9 := h105; rw [y_atE o98, y_atE o111] at q9; exact q9
      refine lv_aload_n hx hb dX7_stands_112 rfl (lv_at hl 0 rfl) ?_
      refine lv_iconst (v := 0) hx hb dX7_stands_113 (by decide) ?_
      refine th_put (D := (dC, dI)) (ci := 7) (v := .int 0) (ty := .int) (C := RX7) (T := TX7) (N := 34) hx hb hts inX7 tyX7 tyX7_ok nmX7 hown hK hP hD hS (hLK _ ha0 (by decide)) oY109 rfl 31 (by decide) (hts _ T_323) (fun _ h9 => h9) rfl (by decide +kernel) rfl rfl (Nat.le_of_ble_eq_true rfl) dX7_stands_114 (fun H locs hP hS => ?_)
      rw [y_fs31] at hP
      obtain ⟨z113, hz114⟩ : ∃ g : Nat → Int32, g = upd z45 31 0 := ⟨_, rfl⟩
      rw [← hz114] at hP
      have bz115 : y_bY z113 := by rw [hz114]; exact y_bp31 bz48 (by decide)
      have hP : va_P (dC, dI) vwCl (va_pl L (va_up F103 a0 (.inr (7, y_fl A z113 q46)))) H := hP
      obtain ⟨F116, hF117⟩ : ∃ G : Nat → va_E, G = va_up F103 a0 (.inr (7, y_fl A z113 q46)) := ⟨_, rfl⟩
      rw [← hF117] at hP
      have hI : y_I K cs A F116 := by rw [hF117]; exact y_clY hA hI ha0 bz115 bq49
      have hfr : ∀ b, K b ∉ [9, 63, 67, 68, 70] → F116 b = F b := by rw [hF117]; exact s_fr hfr ha0 (by decide)
      have o118 : F116 (A 12) = .inl (cs 0, 400, .inl f1) := by rw [hF117]; exact th_ne (th_kd (y_k12 hA) ha0 (by decide)) o107
      have o119 : F116 (A 13) = .inl (cs 0, 400, .inl f50) := by rw [hF117]; exact th_ne (th_kd (y_k13 hA) ha0 (by decide)) o108
      have o120 : F116 (A 20) = .inl (cs 0, 918, .inl f110) := by rw [hF117]; exact th_ne (th_kd (y_k20 hA) ha0 (by decide)) o111
      have oY121 : F116 a0 = .inr (7, y_fl A z113 q46) := by rw [hF117]; exact th_up
      have hz0 : ∀ k, k ∈ ([1, 2, 3, 4, 5, 6, 7, 8, 11, 16, 25, 26, 27, 32] : List Nat) → z113 k = z0 k := fun k hk => by rw [hz114]; exact (y_un (fun q => absurd hk (by rw [q]; decide))).trans (hz0 k hk)
      have ev53 : v53 = z113 15 := by rw [hz114]; exact ev53.trans (y_un (by decide)).symm
      obtain ⟨v122, ev122⟩ : ∃ y : Int32, y = z113 31 := ⟨_, rfl⟩
      have qv122 : v122.toInt = 0 := by rw [ev122, hz114, y_ue]; decide
      exact W.vret hx hb hr (fun t ht hW => ⟨⟨F116, rfl, ⟨trivial, trivial, hI, hfr, fun k hk => (y_fiZ oY121 (s_sub (by decide) hk)).trans ((hz0 k hk).trans (y_fiZ oY0 (s_sub (by decide) hk)).symm), (by rw [y_atE o119, y_atE o120, y_fiZ oY121 (k := 15) (by decide), ← ev53, y_fiZ oY121 (k := 31) (by decide), ← ev122]; exact ⟨⟨hPG, h105⟩, by omega, by omega⟩)⟩, by rw [ht]; exact hP, va_K.moved hW.alike hK⟩, hS.F ht⟩) hS.2.2 dX7_stands_117
    · have c66 := mt Int32.le_iff_toInt_le.mpr c66
      refine lv_aload_n hx hb dX7_stands_42 rfl (lv_at hl 0 rfl) ?_
      refine lv_iload_n hx hb dX7_stands_43 rfl (lv_at hl 1 rfl) ?_
      have rg123 : 0 ≤ w37.toInt ∧ w37.toInt ≤ 40 := ⟨by omega, by omega⟩
      refine va_calli (va_runV (As := [.int w37]) (rest := []) ⟨hx, hb, hml, hown, hts⟩ (y_X7_isFork l dC dI H.size hLK A hA F57 a0 w37 ha0 rg123 hI) (cwV 1 hts (ax_gV T_1179 T_1181 T_1182 T_265 T_1180) rfl rfl rfl (by decide +kernel) ⟨Nat.le_of_ble_eq_true rfl, Nat.le_of_ble_eq_true rfl⟩) ⟨fun a U g mk q => ⟨q.1, s_pc (U := U) rfl rfl q.2⟩, s_recv hK hP (hLK _ ha0 (by decide)) (ci := 7) rfl oY63, fun U hU hW => ⟨rfl, s_pw hU hW hP hK hD hN⟩⟩ rfl rfl hl.1 rfl (lv_room (Nat.le_of_ble_eq_true rfl)) dX7_stands_44 ⟨Nat.zero_le _, Nat.zero_le _⟩) hS (fun q _ h => h) (fun q h => h) (fun r125 F126 t H1 locs ht hvm hw hB hz1 hk1 hS => ?_)
      obtain ⟨hP, hK1⟩ := hB
      rw [ht] at hP
      generalize H1 = H at hP hS ⊢
      clear hz1 hk1 hvm hK1
      obtain ⟨h127, h129, hI, hfr1, hzf, h128⟩ := hw
      have o130 : F126 (A 12) = .inl (cs 0, 400, .inl f1) := (hfr1 _ (by rw [(y_k12 hA)]; decide)).trans o61
      have o131 : F126 (A 13) = .inl (cs 0, 400, .inl f50) := (hfr1 _ (by rw [(y_k13 hA)]; decide)).trans o62
      have oY132 : F126 a0 = .inr (7, y_fl A z45 q46) := (hfr1 _ (by rw [ha0]; decide)).trans oY63
      have hfr : ∀ b, K b ∉ [9, 63, 67, 68, 70] → F126 b = F b := fun b hb9 => (hfr1 b (fun q => hb9 (s_sub (by decide) q))).trans (hfr b hb9)
      replace h128 : ((r125.toInt = 1 ∧ (y_c f50 (8 * w37.toInt)).toInt = 12 ∧ ¬ (y_c f50 (8 * w37.toInt + 5)).toInt = -1000000) ∨ (r125.toInt = 0 ∧ (¬ (y_c f50 (8 * w37.toInt)).toInt = 12 ∨ (y_c f50 (8 * w37.toInt + 5)).toInt = -1000000))) := by have q9 := h128; rw [y_atE o62] at q9; exact q9
      refine lv_if_eq (tgt := 66) hx hb dX7_stands_47 (by decide) (fun c133 => ?_) (fun c133 => ?_)
      · have c133 := (ax_eq (n := 0) (by decide)).mp c133
        obtain ⟨v134, ev134⟩ : ∃ y : Int32, w37 + 1 = y := ⟨_, rfl⟩
        have qv134 : v134.toInt = w37.toInt + 1 := by rw [← ev134]; exact th_add rfl (by decide) ⟨by omega, by omega⟩
        refine lv_iinc (v := v134) (lv' := [(1, .int v134), (0, .ref a0)]) hx hb dX7_stands_66 hl (k := 1) rfl ev134 (by decide) rfl (fun ls hl => ?_)
        refine lv_goto (tgt := 34) hx hb dX7_stands_69 (by decide) ?_
        exact ih34 _ _ _ _ (by omega) ⟨F126, _, v134, rfl, lv_sub hl [1, 0] rfl, hP, hS, hI, hfr, (fun k hk => (y_fiZ oY132 (s_sub (by decide) hk)).trans (hz0 k hk)), ⟨by omega, by omega⟩, (by rw [y_atE o131]; exact h40), (by rw [y_atE o131]; exact (by rw [show v134.toInt = w37.toInt + 1 by omega]; exact (y_MGn (by omega) h41))), (by first | (rw [y_fiZ oY132 (k := 15) (by decide), ← ev53]; omega) | rw [y_fiZ oY132 (k := 15) (by decide), ← ev53]), rfl⟩
      · have c133 := mt (ax_eq (n := 0) (by decide)).mpr c133
        refine lv_aload_n hx hb dX7_stands_50 rfl (lv_at hl 0 rfl) ?_
        refine th_get (D := (dC, dI)) (ci := 7) (v := .ref (A 13)) (C := RX7) (T := TX7) (N := 34) hx hb hts inX7 hown hK hP (hLK _ ha0 (by decide)) oY132 rfl 13 (by decide) (hts _ T_246) (fun _ h9 => h9) rfl dX7_stands_51 ?_
        refine lv_iload_n hx hb dX7_stands_54 rfl (lv_at hl 1 rfl) ?_
        refine lv_bipush (v := 6) hx hb dX7_stands_55 (by decide) ?_
        refine va_calli (va_runS (As := [.int w37, .int 6]) (rest := [.ref (A 13)]) ⟨hx, hb, hml, hown, hts⟩ (y_X7_lineAt l dC dI H.size F126 w37 6 rg123 (by decide)) (cwS 2 hts (ax_gS T_1216 T_1218 T_265 T_1217) rfl rfl rfl (by decide +kernel) ⟨Nat.le_of_ble_eq_true rfl, Nat.le_of_ble_eq_true rfl⟩) ⟨fun a U g mk q => ⟨q.1, s_pc (U := U) rfl rfl q.2⟩, fun U hU hW => ⟨rfl, s_pw hU hW hP hK hD hN⟩⟩ rfl rfl hl.1 rfl (lv_room (Nat.le_of_ble_eq_true rfl)) dX7_stands_57 ⟨Nat.zero_le _, Nat.zero_le _⟩) hS (fun q _ h => h) (fun q h => h) (fun r136 F137 t H1 locs ht hvm hw hB hz1 hk1 hS => ?_)
        obtain ⟨hP, hK1⟩ := hB
        rw [ht] at hP
        generalize H1 = H at hP hS ⊢
        clear hz1 hk1 hvm hK1
        obtain ⟨h138, h140, hG9, h139⟩ := hw
        rw [hG9] at hP
        replace h139 : (r136.toInt = 8 * w37.toInt + 6) := by have q9 := h139; exact q9
        refine lv_aload_n hx hb dX7_stands_60 rfl (lv_at hl 0 rfl) ?_
        refine lv_iload_n hx hb dX7_stands_61 rfl (lv_at hl 1 rfl) ?_
        have rg141 : 0 ≤ w37.toInt ∧ w37.toInt ≤ 39 := ⟨by omega, by omega⟩
        refine va_calli (va_runV (As := [.int w37]) (rest := [.int r136, .ref (A 13)]) ⟨hx, hb, hml, hown, hts⟩ (y_X7_meetOf l dC dI H.size hLK A hA F126 a0 w37 ha0 rg141 hI (by rw [y_atE o131]; exact h40) (by first | (rw [y_atE o131]; omega) | rw [y_atE o131])) (cwV 1 hts (ax_gV T_1307 T_1309 T_1310 T_265 T_1308) rfl rfl rfl (by decide +kernel) ⟨Nat.le_of_ble_eq_true rfl, Nat.le_of_ble_eq_true rfl⟩) ⟨fun a U g mk q => ⟨q.1, s_pc (U := U) rfl rfl q.2⟩, s_recv hK hP (hLK _ ha0 (by decide)) (ci := 7) rfl oY132, fun U hU hW => ⟨rfl, s_pw hU hW hP hK hD hN⟩⟩ rfl rfl hl.1 rfl (lv_room (Nat.le_of_ble_eq_true rfl)) dX7_stands_62 ⟨Nat.zero_le _, Nat.zero_le _⟩) hS (fun q _ h => h) (fun q h => h) (fun r143 F144 t H1 locs ht hvm hw hB hz1 hk1 hS => ?_)
        obtain ⟨hP, hK1⟩ := hB
        rw [ht] at hP
        generalize H1 = H at hP hS ⊢
        clear hz1 hk1 hvm hK1
        obtain ⟨h145, h147, hI, hfr1, hzf, h146⟩ := hw
        have o148 : F144 (A 12) = .inl (cs 0, 400, .inl f1) := (hfr1 _ (by rw [(y_k12 hA)]; decide)).trans o130
        have o149 : F144 (A 13) = .inl (cs 0, 400, .inl f50) := (hfr1 _ (by rw [(y_k13 hA)]; decide)).trans o131
        obtain ⟨z150, q151, oY152, bz153, bq154⟩ := y_opY hI ha0
        have hzf : ∀ k, k ∈ ([1, 2, 3, 4, 5, 6, 7, 8, 11, 15, 16, 25, 26, 27, 31, 32] : List Nat) → z150 k = z45 k := fun k hk => by have q9 := hzf k hk; rw [y_fiZ oY152 (s_sub (by decide) hk), y_fiZ oY132 (s_sub (by decide) hk)] at q9; exact q9
        have hz0 : ∀ k, k ∈ ([1, 2, 3, 4, 5, 6, 7, 8, 11, 16, 25, 26, 27, 32] : List Nat) → z150 k = z0 k := fun k hk => (hzf k (s_sub (by decide) hk)).trans (hz0 k hk)
        have ev53 : v53 = z150 15 := ev53.trans (hzf 15 (by decide)).symm
        have hfr : ∀ b, K b ∉ [9, 63, 67, 68, 70] → F144 b = F b := fun b hb9 => (hfr1 b (fun q => hb9 (s_sub (by decide) q))).trans (hfr b hb9)
        replace h146 : (0 ≤ r143.toInt ∧ r143.toInt ≤ (y_c f50 387).toInt) := by have q9 := h146; rw [y_atE o131] at q9; exact q9
        refine th_iast hx hb hK hP hD hS (hLK _ (y_k13 hA) (by decide)) 0 o149 rfl (th_in ⟨by omega, by omega⟩) dX7_stands_65 (fun H locs hP hS => ?_)
        obtain ⟨f155, u156⟩ : ∃ g : Nat → Int32, g = upd f50 (r136 : Int32).toNatClampNeg r143 := ⟨_, rfl⟩
        rw [← u156] at hP
        have b157 : y_bd 13 f155 := trivial
        have hP : va_P (dC, dI) vwCl (va_pl L (va_up F144 (A 13) (.inl (cs 0, 400, .inl f155)))) H := hP
        obtain ⟨F158, hF159⟩ : ∃ G : Nat → va_E, G = va_up F144 (A 13) (.inl (cs 0, 400, .inl f155)) := ⟨_, rfl⟩
        rw [← hF159] at hP
        have hI : y_I K cs A F158 := by rw [hF159]; exact y_clA (i := 13) hA hI (by decide) b157
        have hfr : ∀ b, K b ∉ [9, 63, 67, 68, 70] → F158 b = F b := by rw [hF159]; exact s_fr hfr (y_k13 hA) (by decide)
        have o160 : F158 (A 12) = .inl (cs 0, 400, .inl f1) := by rw [hF159]; exact th_ne (th_kd (y_k12 hA) (y_k13 hA) (by decide)) o148
        have oY161 : F158 a0 = .inr (7, y_fl A z150 q151) := by rw [hF159]; exact th_ne (th_kd ha0 (y_k13 hA) (by decide)) oY152
        have o162 : F158 (A 13) = .inl (cs 0, 400, .inl f155) := by rw [hF159]; exact th_up
        have u163 : ∀ j : Int, 0 ≤ j → y_c f155 j = if j = r136.toInt then r143 else y_c f50 j := by rw [u156]; exact y_cu rfl (by omega)
        have hu6 : ∀ j : Int, 0 ≤ j → y_c f155 j = if j = 8 * w37.toInt + 6 then r143 else y_c f50 j := fun j hj => by rw [u163 j hj, show r136.toInt = 8 * w37.toInt + 6 by omega]
        have hp6 := y_P0m hu6 ⟨by omega, by omega⟩ h40
        have he6 : (y_c f155 387).toInt = (y_c f50 387).toInt := by rw [hu6 387 (by omega), if_neg (by omega)]
        obtain ⟨v164, ev164⟩ : ∃ y : Int32, w37 + 1 = y := ⟨_, rfl⟩
        have qv164 : v164.toInt = w37.toInt + 1 := by rw [← ev164]; exact th_add rfl (by decide) ⟨by omega, by omega⟩
        refine lv_iinc (v := v164) (lv' := [(1, .int v164), (0, .ref a0)]) hx hb dX7_stands_66 hl (k := 1) rfl ev164 (by decide) rfl (fun ls hl => ?_)
        refine lv_goto (tgt := 34) hx hb dX7_stands_69 (by decide) ?_
        exact ih34 _ _ _ _ (by omega) ⟨F158, _, v164, rfl, lv_sub hl [1, 0] rfl, hP, hS, hI, hfr, (fun k hk => (y_fiZ oY161 (s_sub (by decide) hk)).trans (hz0 k hk)), ⟨by omega, by omega⟩, (by rw [y_atE o162]; exact hp6), (by rw [y_atE o162]; exact (by rw [show v164.toInt = w37.toInt + 1 by omega]; exact (by rw [he6]; exact y_MGm hu6 (by omega) ⟨by omega, by omega⟩ h41))), (by first | (rw [y_fiZ oY161 (k := 15) (by decide), ← ev53]; omega) | rw [y_fiZ oY161 (k := 15) (by decide), ← ev53]), rfl⟩
  · have c26 := mt (ax_ge (n := 400) (by decide)).mpr c26
    refine lv_aload_n hx hb dX7_stands_9 rfl (lv_at hl 0 rfl) ?_
    refine th_get (D := (dC, dI)) (ci := 7) (v := .ref (A 13)) (C := RX7) (T := TX7) (N := 34) hx hb hts inX7 hown hK hP (hLK _ ha0 (by decide)) oY20 rfl 13 (by decide) (hts _ T_246) (fun _ h9 => h9) rfl dX7_stands_10 ?_
    refine lv_iload_n hx hb dX7_stands_13 rfl (lv_at hl 1 rfl) ?_
    refine lv_aload_n hx hb dX7_stands_14 rfl (lv_at hl 0 rfl) ?_
    refine th_get (D := (dC, dI)) (ci := 7) (v := .ref (A 12)) (C := RX7) (T := TX7) (N := 34) hx hb hts inX7 hown hK hP (hLK _ ha0 (by decide)) oY20 rfl 12 (by decide) (hts _ T_245) (fun _ h9 => h9) rfl dX7_stands_15 ?_
    refine lv_iload_n hx hb dX7_stands_18 rfl (lv_at hl 1 rfl) ?_
    refine th_iald hx hb hK hP (hLK _ (y_k12 hA) (by decide)) 0 o17 rfl (th_in ⟨by omega, by omega⟩) dX7_stands_19 ?_
    refine lv_topi (fun v165 ev165 => ?_)
    have Ev165 : v165 = y_c f1 (w12.toInt) := ev165.trans (y_ci (by omega))
    have tEv165 := congrArg Int32.toInt Ev165
    refine th_iast hx hb hK hP hD hS (hLK _ (y_k13 hA) (by decide)) 0 o24 rfl (th_in ⟨by omega, by omega⟩) dX7_stands_20 (fun H locs hP hS => ?_)
    obtain ⟨f166, u167⟩ : ∃ g : Nat → Int32, g = upd f23 (w12 : Int32).toNatClampNeg v165 := ⟨_, rfl⟩
    rw [← u167] at hP
    have b168 : y_bd 13 f166 := trivial
    have hP : va_P (dC, dI) vwCl (va_pl L (va_up F16 (A 13) (.inl (cs 0, 400, .inl f166)))) H := hP
    obtain ⟨F169, hF170⟩ : ∃ G : Nat → va_E, G = va_up F16 (A 13) (.inl (cs 0, 400, .inl f166)) := ⟨_, rfl⟩
    rw [← hF170] at hP
    have hI : y_I K cs A F169 := by rw [hF170]; exact y_clA (i := 13) hA hI (by decide) b168
    have hfr : ∀ b, K b ∉ [9, 63, 67, 68, 70] → F169 b = F b := by rw [hF170]; exact s_fr hfr (y_k13 hA) (by decide)
    have o171 : F169 (A 12) = .inl (cs 0, 400, .inl f1) := by rw [hF170]; exact th_ne (th_kd (y_k12 hA) (y_k13 hA) (by decide)) o17
    have oY172 : F169 a0 = .inr (7, y_fl A z18 q19) := by rw [hF170]; exact th_ne (th_kd ha0 (y_k13 hA) (by decide)) oY20
    have o173 : F169 (A 13) = .inl (cs 0, 400, .inl f166) := by rw [hF170]; exact th_up
    have u174 : ∀ j : Int, 0 ≤ j → y_c f166 j = if j = w12.toInt then v165 else y_c f23 j := by rw [u167]; exact y_cu rfl (by omega)
    obtain ⟨v175, ev175⟩ : ∃ y : Int32, w12 + 1 = y := ⟨_, rfl⟩
    have qv175 : v175.toInt = w12.toInt + 1 := by rw [← ev175]; exact th_add rfl (by decide) ⟨by omega, by omega⟩
    refine lv_iinc (v := v175) (lv' := [(1, .int v175), (0, .ref a0)]) hx hb dX7_stands_21 hl (k := 1) rfl ev175 (by decide) rfl (fun ls hl => ?_)
    refine lv_goto (tgt := 2) hx hb dX7_stands_24 (by decide) ?_
    exact ih2 _ _ _ _ (by omega) ⟨F169, _, v175, rfl, lv_sub hl [1, 0] rfl, hP, hS, hI, hfr, (fun k hk => (y_fiZ oY172 (s_sub (by decide) hk)).trans (hz0 k hk)), ⟨by omega, by omega⟩, (by rw [y_atE o173]; exact (fun j h0 h1 => by rw [u174 j h0]; split; rename_i q9; rw [q9]; exact Ev165; exact h15 j h0 (by omega))), rfl⟩
