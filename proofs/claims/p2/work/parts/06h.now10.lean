set_option maxHeartbeats 4000000 in
set_option maxRecDepth 100000 in
theorem y_X7_keepsLine (l : Launch) (dC : Nat → ClassId) (dI : Nat → Nat → Nat) (sz : Nat) {L : List Nat} {K : Nat → Nat} {cs : Nat → ClassId} (hLK : ∀ a {k : Nat}, K a = k → k ≠ 0 → a ∈ L) (A : Nat → Nat) (hA : y_A K A) (F : Nat → va_E) (a0 : Nat) (x1 : Int32) (x2 : Int32) (x3 : Int32) (x4 : Int32) (ha0 : K a0 = 9) (hx1 : 0 ≤ x1.toInt ∧ x1.toInt ≤ 3) (hI : y_I K cs A F) (hk7 : (0 ≤ (y_c (y_at F (A 20)) 7).toInt ∧ (y_c (y_at F (A 20)) 7).toInt ≤ 30)) : Met l yX7_keepsLine (Cond.code yX7_keepsLine cX7_keepsLine 6 none :: T0) ({ frames := 0, cells := 0, slots := 0, locals := 0 }) (va_Pc [.ref a0, .int x1, .int x2, .int x3, .int x4] (s_W dC dI sz L F [(cs 0, .int), (cs 1, .byte), (cs 2, .long), (cs 3, .object RX5), (cs 4, .object RX4), (cs 5, .array .int), (cs 6, .char), (cs 7, .boolean)])) (va_Qv (fun (G : Nat → va_E) => True ∧ True ∧ y_I K cs A G ∧ (∀ b, K b ∉ [70] → G b = F b) ∧ (∀ k, k ∈ ([1, 2, 3, 4, 5, 6, 7, 8, 11, 15, 16, 19, 25, 26, 27, 31, 32] : List Nat) → y_fi G a0 k = y_fi F a0 k) ∧ (y_K7 (y_at F (A 20)) (y_at G (A 20)) ∧ (0 ≤ (y_c (y_at G (A 20)) 7).toInt ∧ (y_c (y_at G (A 20)) 7).toInt ≤ 30))) (fun (G : Nat → va_E) (t : State) => va_P (dC, dI) vwCl (va_pl L G) t.heap ∧ va_K (dC, dI) vwCl [(cs 0, .int), (cs 1, .byte), (cs 2, .long), (cs 3, .object RX5), (cs 4, .object RX4), (cs 5, .array .int), (cs 6, .char), (cs 7, .boolean)] t) (fun q => q ∈ L)) 0 0 (fun q => q ∈ L) := by
  refine Met.ofW (cc := cX7_keepsLine) (maxL := 6) (ret := none) (by decide) rfl ?_
  intro p e s m args below meth c s₁ B hml hv
  obtain ⟨rfl, hsz, hP, hK, hD, hN⟩ := hv
  have hx := B.exec
  have hb := B.bytes
  have hr := B.returns
  have hts : ∀ w ∈ T0, w.before _ s = true := fun w h => atoms_spec (ws := Cond.code yX7_keepsLine cX7_keepsLine 6 none :: T0) B.pre w (List.mem_cons_of_mem _ h)
  have hown : s.vm.findClass RX7 = some m.cls := findClass_of_methodNamed B.named
  have hlocks := B.notSynchronized
  have hS : va_S (fun q => q ∈ L) s.heap s.heap [] := va_S.rf
  have hfr : ∀ b, K b ∉ [70] → F b = F b := fun _ _ => rfl
  have hl := lv_entry ([.ref a0, .int x1, .int x2, .int x3, .int x4]) (n := 6) (Nat.le_of_ble_eq_true rfl)
  rw [lg_entry_eq]
  generalize (lg_sl ([.ref a0, .int x1, .int x2, .int x3, .int x4]) ++ List.replicate (6 - (lg_sl ([.ref a0, .int x1, .int x2, .int x3, .int x4])).length) Slot.unset).toArray = ls at hl ⊢
  have hl : lv_has ls 6 [(0, .ref a0), (1, .int x1), (2, .int x2), (3, .int x3), (4, .int x4)] := hl
  refine s_gen hP hS (fun H locs hP hS => ?_)
  obtain ⟨z0, q0, oY0, bz0, bq0⟩ := y_opY hI ha0
  have hz0 : ∀ k, k ∈ ([1, 2, 3, 4, 5, 6, 7, 8, 11, 15, 16, 19, 25, 26, 27, 31, 32] : List Nat) → z0 k = z0 k := fun _ _ => rfl
  obtain ⟨f1, o2, b3⟩ := y_op20 hI
  replace hk7 : (0 ≤ (y_c f1 7).toInt ∧ (y_c f1 7).toInt ≤ 30) := by have q9 := hk7; rw [y_atE o2] at q9; exact q9
  refine th_join (fun g H locs => ∃ (G : Nat → va_E) (ls : Array Slot), g = F0 m 61 ls [] ∧ lv_has ls 6 [(0, .ref a0), (1, .int x1), (2, .int x2), (3, .int x3), (4, .int x4)] ∧ va_P (dC, dI) vwCl (va_pl L G) H ∧ va_S (fun q => q ∈ L) s.heap H locs ∧ y_I K cs A G ∧ (∀ b, K b ∉ [70] → G b = F b) ∧ (∀ k, k ∈ ([1, 2, 3, 4, 5, 6, 7, 8, 11, 15, 16, 19, 25, 26, 27, 31, 32] : List Nat) → y_fi G a0 k = z0 k) ∧ (0 ≤ x1.toInt ∧ x1.toInt ≤ 3) ∧ (y_K7 f1 (y_at G (A 20))) ∧ (1 ≤ (y_c (y_at G (A 20)) 7).toInt ∧ (y_c (y_at G (A 20)) 7).toInt ≤ 30)) (fun K61 => ?_) ?_
  · refine lv_aload_n hx hb dX7_keepsLine_0 rfl (lv_at hl 0 rfl) ?_
    refine th_get (D := (dC, dI)) (ci := 7) (v := .ref (A 20)) (C := RX7) (T := TX7) (N := 34) hx hb hts inX7 hown hK hP (hLK _ ha0 (by decide)) oY0 rfl 20 (by decide) (hts _ T_251) (fun _ h9 => h9) rfl dX7_keepsLine_1 ?_
    refine lv_bipush (v := 7) hx hb dX7_keepsLine_4 (by decide) ?_
    refine th_iald hx hb hK hP (hLK _ (y_k20 hA) (by decide)) 0 o2 rfl (ax_in (by decide)) dX7_keepsLine_6 ?_
    refine lv_topi (fun v4 ev4 => ?_)
    have Ev4 : v4 = y_c f1 (7) := ev4.trans (y_ci (by decide))
    have tEv4 := congrArg Int32.toInt Ev4
    have h5 : 0 ≤ v4.toInt ∧ v4.toInt ≤ 30 := by have q9 : v4.toInt = (y_c f1 7).toInt := congrArg Int32.toInt (ev4.trans (y_ci (by decide))); omega
    refine lv_bipush (v := 30) hx hb dX7_keepsLine_7 (by decide) ?_
    refine lv_icmp_ne (tgt := 50) hx hb dX7_keepsLine_9 (by decide) (fun c6 => ?_) (fun c6 => ?_)
    · have c6 := mt (ax_eq (n := 30) (by decide)).mpr c6
      refine lv_aload_n hx hb dX7_keepsLine_50 rfl (lv_at hl 0 rfl) ?_
      refine th_get (D := (dC, dI)) (ci := 7) (v := .ref (A 20)) (C := RX7) (T := TX7) (N := 34) hx hb hts inX7 hown hK hP (hLK _ ha0 (by decide)) oY0 rfl 20 (by decide) (hts _ T_251) (fun _ h9 => h9) rfl dX7_keepsLine_51 ?_
      refine lv_bipush (v := 7) hx hb dX7_keepsLine_54 (by decide) ?_
      refine lv_dup2_11 hx hb dX7_keepsLine_56 rfl rfl ?_
      refine th_iald hx hb hK hP (hLK _ (y_k20 hA) (by decide)) 0 o2 rfl (ax_in (by decide)) dX7_keepsLine_57 ?_
      refine lv_topi (fun v7 ev7 => ?_)
      have Ev7 : v7 = y_c f1 (7) := ev7.trans (y_ci (by decide))
      have tEv7 := congrArg Int32.toInt Ev7
      have h8 : 0 ≤ v7.toInt ∧ v7.toInt ≤ 30 := by have q9 : v7.toInt = (y_c f1 7).toInt := congrArg Int32.toInt (ev7.trans (y_ci (by decide))); omega
      refine lv_iconst (v := 1) hx hb dX7_keepsLine_58 (by decide) ?_
      refine lv_iadd hx hb dX7_keepsLine_59 ?_
      refine lv_topi (fun v9 ev9 => ?_)
      have qv9 : v9.toInt = v7.toInt + 1 := by rw [ev9]; exact th_add rfl (by decide) ⟨by omega, by omega⟩
      refine th_iast hx hb hK hP hD hS (hLK _ (y_k20 hA) (by decide)) 0 o2 rfl (ax_in (by decide)) dX7_keepsLine_60 (fun H locs hP hS => ?_)
      obtain ⟨f10, u11⟩ : ∃ g : Nat → Int32, g = upd f1 (7 : Int32).toNatClampNeg v9 := ⟨_, rfl⟩
      rw [← u11] at hP
      have b12 : y_bd 20 f10 := trivial
      have hP : va_P (dC, dI) vwCl (va_pl L (va_up F (A 20) (.inl (cs 0, 918, .inl f10)))) H := hP
      obtain ⟨F13, hF14⟩ : ∃ G : Nat → va_E, G = va_up F (A 20) (.inl (cs 0, 918, .inl f10)) := ⟨_, rfl⟩
      rw [← hF14] at hP
      have hI : y_I K cs A F13 := by rw [hF14]; exact y_clA (i := 20) hA hI (by decide) b12
      have hfr : ∀ b, K b ∉ [70] → F13 b = F b := by rw [hF14]; exact s_fr hfr (y_k20 hA) (by decide)
      have oY15 : F13 a0 = .inr (7, y_fl A z0 q0) := by rw [hF14]; exact th_ne (th_kd ha0 (y_k20 hA) (by decide)) oY0
      have o16 : F13 (A 20) = .inl (cs 0, 918, .inl f10) := by rw [hF14]; exact th_up
      have u17 : ∀ j : Int, 0 ≤ j → y_c f10 j = if j = 7 then v9 else y_c f1 j := by rw [u11]; exact y_cu (by decide) (by decide)
      have h18 : (y_c f10 7).toInt = v9.toInt := by rw [u17 7 (by omega), if_pos (by omega)]
      exact K61 _ _ _ ⟨F13, _, rfl, lv_sub hl [0, 1, 2, 3, 4] rfl, hP, hS, hI, hfr, (fun k hk => (y_fiZ oY15 (s_sub (by decide) hk)).trans (hz0 k hk)), ⟨by omega, by omega⟩, (by rw [y_atE o16]; exact (y_K7_t (y_K7_r _) (y_K7_u u17 (by omega)))), (by first | (rw [y_atE o16]; omega) | rw [y_atE o16])⟩
    · have c6 := (ax_eq (n := 30) (by decide)).mp c6
      refine lv_sipush (v := 768) hx hb dX7_keepsLine_12 (by decide) ?_
      refine lv_istore (lv' := [(5, .int 768), (0, .ref a0), (1, .int x1), (2, .int x2), (3, .int x3), (4, .int x4)]) hx hb dX7_keepsLine_15 hl (by decide) rfl (fun ls hl => ?_)
      have h20 : (768 : Int32).toInt = 768 := by decide
      refine th_loop (fun n g H locs => ∃ (G : Nat → va_E) (ls : Array Slot) (w19 : Int32), g = F0 m 17 ls [] ∧ lv_has ls 6 [(0, .ref a0), (1, .int x1), (2, .int x2), (3, .int x3), (4, .int x4), (5, .int w19)] ∧ va_P (dC, dI) vwCl (va_pl L G) H ∧ va_S (fun q => q ∈ L) s.heap H locs ∧ y_I K cs A G ∧ (∀ b, K b ∉ [70] → G b = F b) ∧ (∀ k, k ∈ ([1, 2, 3, 4, 5, 6, 7, 8, 11, 15, 16, 19, 25, 26, 27, 31, 32] : List Nat) → y_fi G a0 k = z0 k) ∧ (768 ≤ w19.toInt ∧ w19.toInt ≤ 913) ∧ (0 ≤ x1.toInt ∧ x1.toInt ≤ 3) ∧ (y_K7 f1 (y_at G (A 20))) ∧ ((y_c (y_at G (A 20)) 7).toInt = 30) ∧ n = (914 - w19.toInt).toNat) _ ⟨F, _, 768, rfl, lv_sub hl [1, 2, 3, 4, 5, 0] rfl, hP, hS, hI, hfr, (fun k hk => (y_fiZ oY0 (s_sub (by decide) hk)).trans (hz0 k hk)), (by decide), ⟨by omega, by omega⟩, (by rw [y_atE o2]; exact (y_K7_r _)), (by first | (rw [y_atE o2]; omega) | rw [y_atE o2]), rfl⟩ (fun n ih17 g H locs hq => ?_)
      obtain ⟨F25, ls, w19, rfl, hl, hP, hS, hI, hfr, hz0, h21, h22, h23, h24, hn⟩ := hq
      have oY26 : F25 a0 = .inr (7, y_fl A z0 q0) := (hfr _ (by rw [ha0]; decide)).trans oY0
      have hz0 : ∀ k, k ∈ ([1, 2, 3, 4, 5, 6, 7, 8, 11, 15, 16, 19, 25, 26, 27, 31, 32] : List Nat) → z0 k = z0 k := fun _ _ => rfl
      obtain ⟨f27, o28, b29⟩ := y_op20 hI
      replace h23 : (y_K7 f1 f27) := by have q9 := h23; rw [y_atE o28] at q9; exact q9
      replace h24 : ((y_c f27 7).toInt = 30) := by have q9 := h24; rw [y_atE o28] at q9; exact q9
      have hn_29 := hn
      refine lv_iload hx hb dX7_keepsLine_17 (lv_at hl 5 rfl) ?_
      refine lv_sipush (v := 913) hx hb dX7_keepsLine_19 (by decide) ?_
      refine lv_icmp_ge (tgt := 47) hx hb dX7_keepsLine_22 (by decide) (fun c30 => ?_) (fun c30 => ?_)
      · have c30 := (ax_ge (n := 913) (by decide)).mp c30
        refine lv_goto (tgt := 61) hx hb dX7_keepsLine_47 (by decide) ?_
        exact K61 _ _ _ ⟨F25, _, rfl, lv_sub hl [0, 1, 2, 3, 4] rfl, hP, hS, hI, hfr, (fun k hk => (y_fiZ oY26 (s_sub (by decide) hk)).trans (hz0 k hk)), ⟨by omega, by omega⟩, (by rw [y_atE o28]; exact h23), (by first | (rw [y_atE o28]; omega) | rw [y_atE o28])⟩
      · have c30 := mt (ax_ge (n := 913) (by decide)).mpr c30
        refine lv_aload_n hx hb dX7_keepsLine_25 rfl (lv_at hl 0 rfl) ?_
        refine th_get (D := (dC, dI)) (ci := 7) (v := .ref (A 20)) (C := RX7) (T := TX7) (N := 34) hx hb hts inX7 hown hK hP (hLK _ ha0 (by decide)) oY26 rfl 20 (by decide) (hts _ T_251) (fun _ h9 => h9) rfl dX7_keepsLine_26 ?_
        refine lv_iload hx hb dX7_keepsLine_29 (lv_at hl 5 rfl) ?_
        refine lv_aload_n hx hb dX7_keepsLine_31 rfl (lv_at hl 0 rfl) ?_
        refine th_get (D := (dC, dI)) (ci := 7) (v := .ref (A 20)) (C := RX7) (T := TX7) (N := 34) hx hb hts inX7 hown hK hP (hLK _ ha0 (by decide)) oY26 rfl 20 (by decide) (hts _ T_251) (fun _ h9 => h9) rfl dX7_keepsLine_32 ?_
        refine lv_iload hx hb dX7_keepsLine_35 (lv_at hl 5 rfl) ?_
        refine lv_iconst (v := 5) hx hb dX7_keepsLine_37 (by decide) ?_
        refine lv_iadd hx hb dX7_keepsLine_38 ?_
        refine lv_topi (fun v31 ev31 => ?_)
        have qv31 : v31.toInt = w19.toInt + 5 := by rw [ev31]; exact th_add rfl (by decide) ⟨by omega, by omega⟩
        refine th_iald hx hb hK hP (hLK _ (y_k20 hA) (by decide)) 0 o28 rfl (th_in ⟨by omega, by omega⟩) dX7_keepsLine_39 ?_
        refine lv_topi (fun v32 ev32 => ?_)
        refine th_iast hx hb hK hP hD hS (hLK _ (y_k20 hA) (by decide)) 0 o28 rfl (th_in ⟨by omega, by omega⟩) dX7_keepsLine_40 (fun H locs hP hS => ?_)
        obtain ⟨f33, u34⟩ : ∃ g : Nat → Int32, g = upd f27 (w19 : Int32).toNatClampNeg v32 := ⟨_, rfl⟩
        rw [← u34] at hP
        have b35 : y_bd 20 f33 := trivial
        have hP : va_P (dC, dI) vwCl (va_pl L (va_up F25 (A 20) (.inl (cs 0, 918, .inl f33)))) H := hP
        obtain ⟨F36, hF37⟩ : ∃ G : Nat → va_E, G = va_up F25 (A 20) (.inl (cs 0, 918, .inl f33)) := ⟨_, rfl⟩
        rw [← hF37] at hP
        have hI : y_I K cs A F36 := by rw [hF37]; exact y_clA (i := 20) hA hI (by decide) b35
        have hfr : ∀ b, K b ∉ [70] → F36 b = F b := by rw [hF37]; exact s_fr hfr (y_k20 hA) (by decide)
        have oY38 : F36 a0 = .inr (7, y_fl A z0 q0) := by rw [hF37]; exact th_ne (th_kd ha0 (y_k20 hA) (by decide)) oY26
        have o39 : F36 (A 20) = .inl (cs 0, 918, .inl f33) := by rw [hF37]; exact th_up
        have u40 : ∀ j : Int, 0 ≤ j → y_c f33 j = if j = w19.toInt then v32 else y_c f27 j := by rw [u34]; exact y_cu rfl (by omega)
        have h41 : (y_c f33 7).toInt = (y_c f27 7).toInt := by rw [u40 7 (by omega), if_neg (by omega)]
        obtain ⟨v42, ev42⟩ : ∃ y : Int32, w19 + 1 = y := ⟨_, rfl⟩
        have qv42 : v42.toInt = w19.toInt + 1 := by rw [← ev42]; exact th_add rfl (by decide) ⟨by omega, by omega⟩
        refine lv_iinc (v := v42) (lv' := [(5, .int v42), (0, .ref a0), (1, .int x1), (2, .int x2), (3, .int x3), (4, .int x4)]) hx hb dX7_keepsLine_41 hl (k := 5) rfl ev42 (by decide) rfl (fun ls hl => ?_)
        refine lv_goto (tgt := 17) hx hb dX7_keepsLine_44 (by decide) ?_
        exact ih17 _ _ _ _ (by omega) ⟨F36, _, v42, rfl, lv_sub hl [1, 2, 3, 4, 5, 0] rfl, hP, hS, hI, hfr, (fun k hk => (y_fiZ oY38 (s_sub (by decide) hk)).trans (hz0 k hk)), ⟨by omega, by omega⟩, ⟨by omega, by omega⟩, (by rw [y_atE o39]; exact (y_K7_t h23 (y_K7_u u40 (by omega)))), (by first | (rw [y_atE o39]; omega) | rw [y_atE o39]), rfl⟩
  · intro g H locs hq
    obtain ⟨F46, ls, rfl, hl, hP, hS, hI, hfr, hz0, h43, h44, h45⟩ := hq
    have oY47 : F46 a0 = .inr (7, y_fl A z0 q0) := (hfr _ (by rw [ha0]; decide)).trans oY0
    have hz0 : ∀ k, k ∈ ([1, 2, 3, 4, 5, 6, 7, 8, 11, 15, 16, 19, 25, 26, 27, 31, 32] : List Nat) → z0 k = z0 k := fun _ _ => rfl
    obtain ⟨f48, o49, b50⟩ := y_op20 hI
    replace h44 : (y_K7 f1 f48) := by have q9 := h44; rw [y_atE o49] at q9; exact q9
    replace h45 : (1 ≤ (y_c f48 7).toInt ∧ (y_c f48 7).toInt ≤ 30) := by have q9 := h45; rw [y_atE o49] at q9; exact q9
    refine lv_sipush (v := 768) hx hb dX7_keepsLine_61 (by decide) ?_
    refine lv_iconst (v := 5) hx hb dX7_keepsLine_64 (by decide) ?_
    refine lv_aload_n hx hb dX7_keepsLine_65 rfl (lv_at hl 0 rfl) ?_
    refine th_get (D := (dC, dI)) (ci := 7) (v := .ref (A 20)) (C := RX7) (T := TX7) (N := 34) hx hb hts inX7 hown hK hP (hLK _ ha0 (by decide)) oY47 rfl 20 (by decide) (hts _ T_251) (fun _ h9 => h9) rfl dX7_keepsLine_66 ?_
    refine lv_bipush (v := 7) hx hb dX7_keepsLine_69 (by decide) ?_
    refine th_iald hx hb hK hP (hLK _ (y_k20 hA) (by decide)) 0 o49 rfl (ax_in (by decide)) dX7_keepsLine_71 ?_
    refine lv_topi (fun v51 ev51 => ?_)
    have Ev51 : v51 = y_c f48 (7) := ev51.trans (y_ci (by decide))
    have tEv51 := congrArg Int32.toInt Ev51
    have h52 : 1 ≤ v51.toInt ∧ v51.toInt ≤ 30 := by have q9 : v51.toInt = (y_c f48 7).toInt := congrArg Int32.toInt (ev51.trans (y_ci (by decide))); omega
    refine lv_imul hx hb dX7_keepsLine_72 ?_
    refine lv_topi (fun v53 ev53 => ?_)
    have qv53 : v53.toInt = 5 * v51.toInt := by rw [ev53]; exact th_mul (by decide) rfl ⟨by omega, by omega⟩
    refine lv_iadd hx hb dX7_keepsLine_73 ?_
    refine lv_topi (fun v54 ev54 => ?_)
    have qv54 : v54.toInt = 768 + v53.toInt := by rw [ev54]; exact th_add (by decide) rfl ⟨by omega, by omega⟩
    refine lv_iconst (v := 5) hx hb dX7_keepsLine_74 (by decide) ?_
    refine lv_isub hx hb dX7_keepsLine_75 ?_
    refine lv_topi (fun v55 ev55 => ?_)
    have qv55 : v55.toInt = v54.toInt - 5 := by rw [ev55]; exact th_sub rfl (by decide) ⟨by omega, by omega⟩
    refine lv_istore (lv' := [(5, .int v55), (0, .ref a0), (1, .int x1), (2, .int x2), (3, .int x3), (4, .int x4)]) hx hb dX7_keepsLine_76 hl (by decide) rfl (fun ls hl => ?_)
    refine lv_aload_n hx hb dX7_keepsLine_78 rfl (lv_at hl 1 rfl) ?_
    refine th_get (D := (dC, dI)) (ci := 7) (v := .ref (A 20)) (C := RX7) (T := TX7) (N := 34) hx hb hts inX7 hown hK hP (hLK _ ha0 (by decide)) oY47 rfl 20 (by decide) (hts _ T_251) (fun _ h9 => h9) rfl dX7_keepsLine_79 ?_
    refine lv_iload hx hb dX7_keepsLine_82 (lv_at hl 0 rfl) ?_
    refine lv_aload_n hx hb dX7_keepsLine_84 rfl (lv_at hl 1 rfl) ?_
    refine th_get (D := (dC, dI)) (ci := 7) (v := .ref (A 20)) (C := RX7) (T := TX7) (N := 34) hx hb hts inX7 hown hK hP (hLK _ ha0 (by decide)) oY47 rfl 20 (by decide) (hts _ T_251) (fun _ h9 => h9) rfl dX7_keepsLine_85 ?_
    refine lv_iconst (v := 0) hx hb dX7_keepsLine_88 (by decide) ?_
    refine th_iald hx hb hK hP (hLK _ (y_k20 hA) (by decide)) 0 o49 rfl (ax_in (by decide)) dX7_keepsLine_89 ?_
    refine lv_topi (fun v56 ev56 => ?_)
    refine th_iast hx hb hK hP hD hS (hLK _ (y_k20 hA) (by decide)) 0 o49 rfl (th_in ⟨by omega, by omega⟩) dX7_keepsLine_90 (fun H locs hP hS => ?_)
    obtain ⟨f57, u58⟩ : ∃ g : Nat → Int32, g = upd f48 (v55 : Int32).toNatClampNeg v56 := ⟨_, rfl⟩
    rw [← u58] at hP
    have b59 : y_bd 20 f57 := trivial
    have hP : va_P (dC, dI) vwCl (va_pl L (va_up F46 (A 20) (.inl (cs 0, 918, .inl f57)))) H := hP
    obtain ⟨F60, hF61⟩ : ∃ G : Nat → va_E, G = va_up F46 (A 20) (.inl (cs 0, 918, .inl f57)) := ⟨_, rfl⟩
    rw [← hF61] at hP
    have hI : y_I K cs A F60 := by rw [hF61]; exact y_clA (i := 20) hA hI (by decide) b59
    have hfr : ∀ b, K b ∉ [70] → F60 b = F b := by rw [hF61]; exact s_fr hfr (y_k20 hA) (by decide)
    have oY62 : F60 a0 = .inr (7, y_fl A z0 q0) := by rw [hF61]; exact th_ne (th_kd ha0 (y_k20 hA) (by decide)) oY47
    have o63 : F60 (A 20) = .inl (cs 0, 918, .inl f57) := by rw [hF61]; exact th_up
    have u64 : ∀ j : Int, 0 ≤ j → y_c f57 j = if j = v55.toInt then v56 else y_c f48 j := by rw [u58]; exact y_cu rfl (by omega)
    have h65 : (y_c f57 7).toInt = (y_c f48 7).toInt := by rw [u64 7 (by omega), if_neg (by omega)]
    refine lv_aload_n hx hb dX7_keepsLine_91 rfl (lv_at hl 1 rfl) ?_
    refine th_get (D := (dC, dI)) (ci := 7) (v := .ref (A 20)) (C := RX7) (T := TX7) (N := 34) hx hb hts inX7 hown hK hP (hLK _ ha0 (by decide)) oY62 rfl 20 (by decide) (hts _ T_251) (fun _ h9 => h9) rfl dX7_keepsLine_92 ?_
    refine lv_iload hx hb dX7_keepsLine_95 (lv_at hl 0 rfl) ?_
    refine lv_iconst (v := 1) hx hb dX7_keepsLine_97 (by decide) ?_
    refine lv_iadd hx hb dX7_keepsLine_98 ?_
    refine lv_topi (fun v66 ev66 => ?_)
    have qv66 : v66.toInt = v55.toInt + 1 := by rw [ev66]; exact th_add rfl (by decide) ⟨by omega, by omega⟩
    refine lv_iload_n hx hb dX7_keepsLine_99 rfl (lv_at hl 2 rfl) ?_
    refine th_iast hx hb hK hP hD hS (hLK _ (y_k20 hA) (by decide)) 0 o63 rfl (th_in ⟨by omega, by omega⟩) dX7_keepsLine_100 (fun H locs hP hS => ?_)
    obtain ⟨f67, u68⟩ : ∃ g : Nat → Int32, g = upd f57 (v66 : Int32).toNatClampNeg x1 := ⟨_, rfl⟩
    rw [← u68] at hP
    have b69 : y_bd 20 f67 := trivial
    have hP : va_P (dC, dI) vwCl (va_pl L (va_up F60 (A 20) (.inl (cs 0, 918, .inl f67)))) H := hP
    obtain ⟨F70, hF71⟩ : ∃ G : Nat → va_E, G = va_up F60 (A 20) (.inl (cs 0, 918, .inl f67)) := ⟨_, rfl⟩
    rw [← hF71] at hP
    have hI : y_I K cs A F70 := by rw [hF71]; exact y_clA (i := 20) hA hI (by decide) b69
    have hfr : ∀ b, K b ∉ [70] → F70 b = F b := by rw [hF71]; exact s_fr hfr (y_k20 hA) (by decide)
    have oY72 : F70 a0 = .inr (7, y_fl A z0 q0) := by rw [hF71]; exact th_ne (th_kd ha0 (y_k20 hA) (by decide)) oY62
    have o73 : F70 (A 20) = .inl (cs 0, 918, .inl f67) := by rw [hF71]; exact th_up
    have u74 : ∀ j : Int, 0 ≤ j → y_c f67 j = if j = v66.toInt then x1 else y_c f57 j := by rw [u68]; exact y_cu rfl (by omega)
    have h75 : (y_c f67 7).toInt = (y_c f57 7).toInt := by rw [u74 7 (by omega), if_neg (by omega)]
    refine lv_aload_n hx hb dX7_keepsLine_101 rfl (lv_at hl 1 rfl) ?_
    refine th_get (D := (dC, dI)) (ci := 7) (v := .ref (A 20)) (C := RX7) (T := TX7) (N := 34) hx hb hts inX7 hown hK hP (hLK _ ha0 (by decide)) oY72 rfl 20 (by decide) (hts _ T_251) (fun _ h9 => h9) rfl dX7_keepsLine_102 ?_
    refine lv_iload hx hb dX7_keepsLine_105 (lv_at hl 0 rfl) ?_
    refine lv_iconst (v := 2) hx hb dX7_keepsLine_107 (by decide) ?_
    refine lv_iadd hx hb dX7_keepsLine_108 ?_
    refine lv_topi (fun v76 ev76 => ?_)
    have qv76 : v76.toInt = v55.toInt + 2 := by rw [ev76]; exact th_add rfl (by decide) ⟨by omega, by omega⟩
    refine lv_iload_n hx hb dX7_keepsLine_109 rfl (lv_at hl 3 rfl) ?_
    refine th_iast hx hb hK hP hD hS (hLK _ (y_k20 hA) (by decide)) 0 o73 rfl (th_in ⟨by omega, by omega⟩) dX7_keepsLine_110 (fun H locs hP hS => ?_)
    obtain ⟨f77, u78⟩ : ∃ g : Nat → Int32, g = upd f67 (v76 : Int32).toNatClampNeg x2 := ⟨_, rfl⟩
    rw [← u78] at hP
    have b79 : y_bd 20 f77 := trivial
    have hP : va_P (dC, dI) vwCl (va_pl L (va_up F70 (A 20) (.inl (cs 0, 918, .inl f77)))) H := hP
    obtain ⟨F80, hF81⟩ : ∃ G : Nat → va_E, G = va_up F70 (A 20) (.inl (cs 0, 918, .inl f77)) := ⟨_, rfl⟩
    rw [← hF81] at hP
    have hI : y_I K cs A F80 := by rw [hF81]; exact y_clA (i := 20) hA hI (by decide) b79
    have hfr : ∀ b, K b ∉ [70] → F80 b = F b := by rw [hF81]; exact s_fr hfr (y_k20 hA) (by decide)
    have oY82 : F80 a0 = .inr (7, y_fl A z0 q0) := by rw [hF81]; exact th_ne (th_kd ha0 (y_k20 hA) (by decide)) oY72
    have o83 : F80 (A 20) = .inl (cs 0, 918, .inl f77) := by rw [hF81]; exact th_up
    have u84 : ∀ j : Int, 0 ≤ j → y_c f77 j = if j = v76.toInt then x2 else y_c f67 j := by rw [u78]; exact y_cu rfl (by omega)
    have h85 : (y_c f77 7).toInt = (y_c f67 7).toInt := by rw [u84 7 (by omega), if_neg (by omega)]
    refine lv_aload_n hx hb dX7_keepsLine_111 rfl (lv_at hl 1 rfl) ?_
    refine th_get (D := (dC, dI)) (ci := 7) (v := .ref (A 20)) (C := RX7) (T := TX7) (N := 34) hx hb hts inX7 hown hK hP (hLK _ ha0 (by decide)) oY82 rfl 20 (by decide) (hts _ T_251) (fun _ h9 => h9) rfl dX7_keepsLine_112 ?_
    refine lv_iload hx hb dX7_keepsLine_115 (lv_at hl 0 rfl) ?_
    refine lv_iconst (v := 3) hx hb dX7_keepsLine_117 (by decide) ?_
    refine lv_iadd hx hb dX7_keepsLine_118 ?_
    refine lv_topi (fun v86 ev86 => ?_)
    have qv86 : v86.toInt = v55.toInt + 3 := by rw [ev86]; exact th_add rfl (by decide) ⟨by omega, by omega⟩
    refine lv_iload_n hx hb dX7_keepsLine_119 rfl (lv_at hl 4 rfl) ?_
    refine th_iast hx hb hK hP hD hS (hLK _ (y_k20 hA) (by decide)) 0 o83 rfl (th_in ⟨by omega, by omega⟩) dX7_keepsLine_120 (fun H locs hP hS => ?_)
    obtain ⟨f87, u88⟩ : ∃ g : Nat → Int32, g = upd f77 (v86 : Int32).toNatClampNeg x3 := ⟨_, rfl⟩
    rw [← u88] at hP
    have b89 : y_bd 20 f87 := trivial
    have hP : va_P (dC, dI) vwCl (va_pl L (va_up F80 (A 20) (.inl (cs 0, 918, .inl f87)))) H := hP
    obtain ⟨F90, hF91⟩ : ∃ G : Nat → va_E, G = va_up F80 (A 20) (.inl (cs 0, 918, .inl f87)) := ⟨_, rfl⟩
    rw [← hF91] at hP
    have hI : y_I K cs A F90 := by rw [hF91]; exact y_clA (i := 20) hA hI (by decide) b89
    have hfr : ∀ b, K b ∉ [70] → F90 b = F b := by rw [hF91]; exact s_fr hfr (y_k20 hA) (by decide)
    have oY92 : F90 a0 = .inr (7, y_fl A z0 q0) := by rw [hF91]; exact th_ne (th_kd ha0 (y_k20 hA) (by decide)) oY82
    have o93 : F90 (A 20) = .inl (cs 0, 918, .inl f87) := by rw [hF91]; exact th_up
    have u94 : ∀ j : Int, 0 ≤ j → y_c f87 j = if j = v86.toInt then x3 else y_c f77 j := by rw [u88]; exact y_cu rfl (by omega)
    have h95 : (y_c f87 7).toInt = (y_c f77 7).toInt := by rw [u94 7 (by omega), if_neg (by omega)]
    refine lv_aload_n hx hb dX7_keepsLine_121 rfl (lv_at hl 1 rfl) ?_
    refine th_get (D := (dC, dI)) (ci := 7) (v := .ref (A 20)) (C := RX7) (T := TX7) (N := 34) hx hb hts inX7 hown hK hP (hLK _ ha0 (by decide)) oY92 rfl 20 (by decide) (hts _ T_251) (fun _ h9 => h9) rfl dX7_keepsLine_122 ?_
    refine lv_iload hx hb dX7_keepsLine_125 (lv_at hl 0 rfl) ?_
    refine lv_iconst (v := 4) hx hb dX7_keepsLine_127 (by decide) ?_
    refine lv_iadd hx hb dX7_keepsLine_128 ?_
    refine lv_topi (fun v96 ev96 => ?_)
    have qv96 : v96.toInt = v55.toInt + 4 := by rw [ev96]; exact th_add rfl (by decide) ⟨by omega, by omega⟩
    refine lv_iload hx hb dX7_keepsLine_129 (lv_at hl 5 rfl) ?_
    refine th_iast hx hb hK hP hD hS (hLK _ (y_k20 hA) (by decide)) 0 o93 rfl (th_in ⟨by omega, by omega⟩) dX7_keepsLine_131 (fun H locs hP hS => ?_)
    obtain ⟨f97, u98⟩ : ∃ g : Nat → Int32, g = upd f87 (v96 : Int32).toNatClampNeg x4 := ⟨_, rfl⟩
    rw [← u98] at hP
    have b99 : y_bd 20 f97 := trivial
    have hP : va_P (dC, dI) vwCl (va_pl L (va_up F90 (A 20) (.inl (cs 0, 918, .inl f97)))) H := hP
    obtain ⟨F100, hF101⟩ : ∃ G : Nat → va_E, G = va_up F90 (A 20) (.inl (cs 0, 918, .inl f97)) := ⟨_, rfl⟩
    rw [← hF101] at hP
    have hI : y_I K cs A F100 := by rw [hF101]; exact y_clA (i := 20) hA hI (by decide) b99
    have hfr : ∀ b, K b ∉ [70] → F100 b = F b := by rw [hF101]; exact s_fr hfr (y_k20 hA) (by decide)
    have oY102 : F100 a0 = .inr (7, y_fl A z0 q0) := by rw [hF101]; exact th_ne (th_kd ha0 (y_k20 hA) (by decide)) oY92
    have o103 : F100 (A 20) = .inl (cs 0, 918, .inl f97) := by rw [hF101]; exact th_up
    have u104 : ∀ j : Int, 0 ≤ j → y_c f97 j = if j = v96.toInt then x4 else y_c f87 j := by rw [u98]; exact y_cu rfl (by omega)
    have h105 : (y_c f97 7).toInt = (y_c f87 7).toInt := by rw [u104 7 (by omega), if_neg (by omega)]
    exact W.vret hx hb hr (fun t ht hW => ⟨⟨F100, rfl, ⟨trivial, trivial, hI, hfr, fun k hk => (y_fiZ oY102 (s_sub (by decide) hk)).trans ((hz0 k hk).trans (y_fiZ oY0 (s_sub (by decide) hk)).symm), (by rw [y_atE o2, y_atE o103]; exact ⟨(y_K7_t (y_K7_t (y_K7_t (y_K7_t (y_K7_t h44 (y_K7_u u64 (by omega))) (y_K7_u u74 (by omega))) (y_K7_u u84 (by omega))) (y_K7_u u94 (by omega))) (y_K7_u u104 (by omega))), by omega, by omega⟩)⟩, by rw [ht]; exact hP, va_K.moved hW.alike hK⟩, hS.F ht⟩) hS.2.2 dX7_keepsLine_132

set_option maxHeartbeats 4000000 in
set_option maxRecDepth 100000 in
theorem y_X7_goes0 (l : Launch) (dC : Nat → ClassId) (dI : Nat → Nat → Nat) (sz : Nat) {L : List Nat} {K : Nat → Nat} {cs : Nat → ClassId} (hLK : ∀ a {k : Nat}, K a = k → k ≠ 0 → a ∈ L) (A : Nat → Nat) (hA : y_A K A) (F : Nat → va_E) (a0 : Nat) (x1 : Int32) (ha0 : K a0 = 9) (hx1 : 0 ≤ x1.toInt ∧ x1.toInt ≤ 3) (hI : y_I K cs A F) (hPG : y_PG (y_at F (A 13))) (hNG : y_NG (y_at F (A 13)) (y_at F (A 20))) (hxw : (x1.toInt < (y_c (y_at F (A 13)) 384).toInt)) (hgo : y_go (y_at F (A 20)) x1.toInt) : Met l yX7_goes0 (Cond.code yX7_goes0 cX7_goes0 6 none :: T0) ({ frames := 6, cells := 0, slots := 0, locals := 142 }) (va_Pc [.ref a0, .int x1] (s_W dC dI sz L F [(cs 0, .int), (cs 1, .byte), (cs 2, .long), (cs 3, .object RX5), (cs 4, .object RX4), (cs 5, .array .int), (cs 6, .char), (cs 7, .boolean)])) (va_Qv (fun (G : Nat → va_E) => True ∧ True ∧ y_I K cs A G ∧ (∀ b, K b ∉ [70, 71, 72] → G b = F b) ∧ (∀ k, k ∈ ([1, 2, 3, 4, 5, 6, 7, 8, 11, 15, 16, 19, 25, 26, 27, 31, 32] : List Nat) → y_fi G a0 k = y_fi F a0 k) ∧ (y_NG (y_at F (A 13)) (y_at G (A 20)) ∧ y_c (y_at G (A 20)) 3 = y_c (y_at F (A 20)) 3 ∧ y_c (y_at G (A 20)) 4 = y_c (y_at F (A 20)) 4)) (fun (G : Nat → va_E) (t : State) => va_P (dC, dI) vwCl (va_pl L G) t.heap ∧ va_K (dC, dI) vwCl [(cs 0, .int), (cs 1, .byte), (cs 2, .long), (cs 3, .object RX5), (cs 4, .object RX4), (cs 5, .array .int), (cs 6, .char), (cs 7, .boolean)] t) (fun q => q ∈ L)) 0 0 (fun q => q ∈ L) := by
  refine Met.ofW (cc := cX7_goes0) (maxL := 6) (ret := none) (by decide) rfl ?_
  intro p e s m args below meth c s₁ B hml hv
  obtain ⟨rfl, hsz, hP, hK, hD, hN⟩ := hv
  have hx := B.exec
  have hb := B.bytes
  have hr := B.returns
  have hts : ∀ w ∈ T0, w.before _ s = true := fun w h => atoms_spec (ws := Cond.code yX7_goes0 cX7_goes0 6 none :: T0) B.pre w (List.mem_cons_of_mem _ h)
  have hown : s.vm.findClass RX7 = some m.cls := findClass_of_methodNamed B.named
  have hlocks := B.notSynchronized
  have hS : va_S (fun q => q ∈ L) s.heap s.heap [] := va_S.rf
  have hfr : ∀ b, K b ∉ [70, 71, 72] → F b = F b := fun _ _ => rfl
  have hl := lv_entry ([.ref a0, .int x1]) (n := 6) (Nat.le_of_ble_eq_true rfl)
  rw [lg_entry_eq]
  generalize (lg_sl ([.ref a0, .int x1]) ++ List.replicate (6 - (lg_sl ([.ref a0, .int x1])).length) Slot.unset).toArray = ls at hl ⊢
  have hl : lv_has ls 6 [(0, .ref a0), (1, .int x1)] := hl
  refine s_gen hP hS (fun H locs hP hS => ?_)
  obtain ⟨z0, q0, oY0, bz0, bq0⟩ := y_opY hI ha0
  have hz0 : ∀ k, k ∈ ([1, 2, 3, 4, 5, 6, 7, 8, 11, 15, 16, 19, 25, 26, 27, 31, 32] : List Nat) → z0 k = z0 k := fun _ _ => rfl
  obtain ⟨f1, o2, b3⟩ := y_op13 hI
  obtain ⟨f4, o5, b6⟩ := y_op20 hI
  replace hPG : y_PG f1 := by have q9 := hPG; rw [y_atE o2] at q9; exact q9
  replace hNG : y_NG f1 f4 := by have q9 := hNG; rw [y_atE o2, y_atE o5] at q9; exact q9
  replace hxw : (x1.toInt < (y_c f1 384).toInt) := by have q9 := hxw; rw [y_atE o2] at q9; exact q9
  replace hgo : y_go f4 x1.toInt := by have q9 := hgo; rw [y_atE o5] at q9; exact q9
  have hL := y_P0L hPG.1
  have hW := y_P0W hPG.1
  have hnn := And.intro hNG.1 (And.intro hNG.2.1 (And.intro hNG.2.2.1 hNG.2.2.2.1))
  have hNW := hNG.2.2.2.2 x1.toInt (by omega) hxw
  have hnw := hNW.1.2.2
  refine th_join (fun g H locs => ∃ (G : Nat → va_E) (ls : Array Slot) (w7 : Int32) (w8 : Int32) (w9 : Int32), g = F0 m 124 ls [] ∧ lv_has ls 6 [(0, .ref a0), (1, .int x1), (2, .int w7), (3, .int w8), (4, .int w9)] ∧ va_P (dC, dI) vwCl (va_pl L G) H ∧ va_S (fun q => q ∈ L) s.heap H locs ∧ y_I K cs A G ∧ (∀ b, K b ∉ [70, 71, 72] → G b = F b) ∧ (∀ k, k ∈ ([1, 2, 3, 4, 5, 6, 7, 8, 11, 15, 16, 19, 25, 26, 27, 31, 32] : List Nat) → y_fi G a0 k = z0 k) ∧ True ∧ (0 ≤ w8.toInt ∧ w8.toInt ≤ 39) ∧ (0 ≤ w9.toInt ∧ w9.toInt ≤ 15) ∧ (0 ≤ x1.toInt ∧ x1.toInt ≤ 3) ∧ (y_NG f1 (y_at G (A 20))) ∧ (y_TG f4 x1.toInt w7) ∧ (w8.toInt < (y_c f1 387).toInt ∧ w9.toInt = (y_c f1 (8 * w8.toInt)).toInt) ∧ (y_c (y_at G (A 20)) (107 + 6 * x1.toInt) = y_c f4 (107 + 6 * x1.toInt) ∧ y_c (y_at G (A 20)) (109 + 6 * x1.toInt) = y_c f4 (109 + 6 * x1.toInt) ∧ y_c (y_at G (A 20)) 3 = y_c f4 3 ∧ y_c (y_at G (A 20)) 4 = y_c f4 4) ∧ (0 < (y_c f4 (109 + 6 * x1.toInt)).toInt → y_c (y_at G (A 20)) (287 + 48 * x1.toInt + 3 * (y_c f4 (109 + 6 * x1.toInt)).toInt) = y_c f4 (287 + 48 * x1.toInt + 3 * (y_c f4 (109 + 6 * x1.toInt)).toInt))) (fun K124 => ?_) ?_
  refine th_join (fun g H locs => ∃ (G : Nat → va_E) (ls : Array Slot) (w10 : Int32) (w11 : Int32) (w12 : Int32) (w13 : Int32), g = F0 m 52 ls [] ∧ lv_has ls 6 [(0, .ref a0), (1, .int x1), (2, .int w10), (3, .int w11), (4, .int w12), (5, .int w13)] ∧ va_P (dC, dI) vwCl (va_pl L G) H ∧ va_S (fun q => q ∈ L) s.heap H locs ∧ y_I K cs A G ∧ (∀ b, K b ∉ [70, 71, 72] → G b = F b) ∧ (∀ k, k ∈ ([1, 2, 3, 4, 5, 6, 7, 8, 11, 15, 16, 19, 25, 26, 27, 31, 32] : List Nat) → y_fi G a0 k = z0 k) ∧ True ∧ (0 ≤ w11.toInt ∧ w11.toInt ≤ 39) ∧ (0 ≤ w12.toInt ∧ w12.toInt ≤ 15) ∧ True ∧ (0 ≤ x1.toInt ∧ x1.toInt ≤ 3) ∧ (y_E f4 (y_at G (A 20))) ∧ (0 ≤ (y_c (y_at G (A 20)) 7).toInt ∧ (y_c (y_at G (A 20)) 7).toInt ≤ 30) ∧ (y_TG f4 x1.toInt w10) ∧ (w11.toInt < (y_c f1 387).toInt ∧ w12.toInt = (y_c f1 (8 * w11.toInt)).toInt)) (fun K52 => ?_) ?_
  · refine lv_aload_n hx hb dX7_goes0_0 rfl (lv_at hl 0 rfl) ?_
    refine lv_iload_n hx hb dX7_goes0_1 rfl (lv_at hl 1 rfl) ?_
    have rg14 : 0 ≤ x1.toInt ∧ x1.toInt ≤ 3 := ⟨by omega, by omega⟩
    refine va_calli (va_runV (As := [.int x1]) (rest := []) ⟨hx, hb, hml, hown, hts⟩ (y_X7_together l dC dI H.size hLK A hA F a0 x1 ha0 rg14 hI (by rw [y_atE o5]; exact hNW.1)) (cwV 1 hts (ax_gV T_1061 T_1063 T_1064 T_265 T_1062) rfl rfl rfl (by decide +kernel) ⟨Nat.le_of_ble_eq_true rfl, Nat.le_of_ble_eq_true rfl⟩) ⟨fun a U g mk q => ⟨q.1, s_pc (U := U) rfl rfl q.2⟩, s_recv hK hP (hLK _ ha0 (by decide)) (ci := 7) rfl oY0, fun U hU hW => ⟨rfl, s_pw hU hW hP hK hD hN⟩⟩ rfl rfl hl.1 rfl (lv_room (Nat.le_of_ble_eq_true rfl)) dX7_goes0_2 ⟨Nat.zero_le _, Nat.zero_le _⟩) hS (fun q _ h => h) (fun q h => h) (fun r16 F17 t H1 locs ht hvm hw hB hz1 hk1 hS => ?_)
    obtain ⟨hP, hK1⟩ := hB
    rw [ht] at hP
    generalize H1 = H at hP hS ⊢
    clear hz1 hk1 hvm hK1
    obtain ⟨h18, h20, hI, hfr1, hzf, h19⟩ := hw
    have o21 : F17 (A 13) = .inl (cs 0, 400, .inl f1) := (hfr1 _ (by rw [(y_k13 hA)]; decide)).trans o2
    have o22 : F17 (A 20) = .inl (cs 0, 918, .inl f4) := (hfr1 _ (by rw [(y_k20 hA)]; decide)).trans o5
    have oY23 : F17 a0 = .inr (7, y_fl A z0 q0) := (hfr1 _ (by rw [ha0]; decide)).trans oY0
    have hfr : ∀ b, K b ∉ [70, 71, 72] → F17 b = F b := fun b hb9 => (hfr1 b (fun q => hb9 (s_sub (by decide) q))).trans (hfr b hb9)
    replace h19 : (y_TG f4 x1.toInt r16) := by have q9 := h19; rw [y_atE o5] at q9; exact q9
    refine lv_istore_n (lv' := [(2, .int r16), (0, .ref a0), (1, .int x1)]) hx hb dX7_goes0_5 rfl hl (by decide) rfl (fun ls hl => ?_)
    refine lv_aload_n hx hb dX7_goes0_6 rfl (lv_at hl 1 rfl) ?_
    refine lv_iload_n hx hb dX7_goes0_7 rfl (lv_at hl 2 rfl) ?_
    refine va_calli (va_runV (As := [.int x1]) (rest := []) ⟨hx, hb, hml, hown, hts⟩ (y_X7_lineOf l dC dI H.size hLK A hA F17 a0 x1 ha0 rg14 hI (by rw [y_atE o21, y_atE o22]; exact hNW) (by rw [y_atE o22]; exact hgo)) (cwV 1 hts (ax_gV T_1127 T_1129 T_1130 T_265 T_1128) rfl rfl rfl (by decide +kernel) ⟨Nat.le_of_ble_eq_true rfl, Nat.le_of_ble_eq_true rfl⟩) ⟨fun a U g mk q => ⟨q.1, s_pc (U := U) rfl rfl q.2⟩, s_recv hK hP (hLK _ ha0 (by decide)) (ci := 7) rfl oY23, fun U hU hW => ⟨rfl, s_pw hU hW hP hK hD hN⟩⟩ rfl rfl hl.1 rfl (lv_room (Nat.le_of_ble_eq_true rfl)) dX7_goes0_8 ⟨Nat.zero_le _, Nat.zero_le _⟩) hS (fun q _ h => h) (fun q h => h) (fun r25 F26 t H1 locs ht hvm hw hB hz1 hk1 hS => ?_)
    obtain ⟨hP, hK1⟩ := hB
    rw [ht] at hP
    generalize H1 = H at hP hS ⊢
    clear hz1 hk1 hvm hK1
    obtain ⟨h27, h29, hI, hfr1, hzf, h28⟩ := hw
    have o30 : F26 (A 13) = .inl (cs 0, 400, .inl f1) := (hfr1 _ (by rw [(y_k13 hA)]; decide)).trans o21
    have o31 : F26 (A 20) = .inl (cs 0, 918, .inl f4) := (hfr1 _ (by rw [(y_k20 hA)]; decide)).trans o22
    have oY32 : F26 a0 = .inr (7, y_fl A z0 q0) := (hfr1 _ (by rw [ha0]; decide)).trans oY23
    have hfr : ∀ b, K b ∉ [70, 71, 72] → F26 b = F b := fun b hb9 => (hfr1 b (fun q => hb9 (s_sub (by decide) q))).trans (hfr b hb9)
    replace h28 : (0 ≤ r25.toInt ∧ r25.toInt < (y_c f1 387).toInt) := by have q9 := h28; rw [y_atE o21] at q9; exact q9
    have h33 : 0 ≤ r25.toInt ∧ r25.toInt ≤ 39 := ⟨by omega, by omega⟩
    refine lv_istore_n (lv' := [(3, .int r25), (2, .int r16), (0, .ref a0), (1, .int x1)]) hx hb dX7_goes0_11 rfl hl (by decide) rfl (fun ls hl => ?_)
    refine lv_aload_n hx hb dX7_goes0_12 rfl (lv_at hl 2 rfl) ?_
    refine lv_iload_n hx hb dX7_goes0_13 rfl (lv_at hl 0 rfl) ?_
    refine lv_iconst (v := 0) hx hb dX7_goes0_14 (by decide) ?_
    have hrg := hPG.1.1.1 r25.toInt (by omega) (by omega)
    unfold y_rg at hrg
    have rg34 : 0 ≤ r25.toInt ∧ r25.toInt ≤ 40 := ⟨by omega, by omega⟩
    refine va_calli (va_runV (As := [.int r25, .int 0]) (rest := []) ⟨hx, hb, hml, hown, hts⟩ (y_X7_of l dC dI H.size hLK A hA F26 a0 r25 0 ha0 rg34 (by decide) hI) (cwV 2 hts (ax_gV T_1131 T_1133 T_1134 T_265 T_1132) rfl rfl rfl (by decide +kernel) ⟨Nat.le_of_ble_eq_true rfl, Nat.le_of_ble_eq_true rfl⟩) ⟨fun a U g mk q => ⟨q.1, s_pc (U := U) rfl rfl q.2⟩, s_recv hK hP (hLK _ ha0 (by decide)) (ci := 7) rfl oY32, fun U hU hW => ⟨rfl, s_pw hU hW hP hK hD hN⟩⟩ rfl rfl hl.1 rfl (lv_room (Nat.le_of_ble_eq_true rfl)) dX7_goes0_15 ⟨Nat.zero_le _, Nat.zero_le _⟩) hS (fun q _ h => h) (fun q h => h) (fun r36 F37 t H1 locs ht hvm hw hB hz1 hk1 hS => ?_)
    obtain ⟨hP, hK1⟩ := hB
    rw [ht] at hP
    generalize H1 = H at hP hS ⊢
    clear hz1 hk1 hvm hK1
    obtain ⟨h38, h40, hI, hfr1, hzf, h39⟩ := hw
    have o41 : F37 (A 13) = .inl (cs 0, 400, .inl f1) := (hfr1 _ (by rw [(y_k13 hA)]; decide)).trans o30
    have o42 : F37 (A 20) = .inl (cs 0, 918, .inl f4) := (hfr1 _ (by rw [(y_k20 hA)]; decide)).trans o31
    have oY43 : F37 a0 = .inr (7, y_fl A z0 q0) := (hfr1 _ (by rw [ha0]; decide)).trans oY32
    have hfr : ∀ b, K b ∉ [70, 71, 72] → F37 b = F b := fun b hb9 => (hfr1 b (fun q => hb9 (s_sub (by decide) q))).trans (hfr b hb9)
    replace h39 : (r36 = y_c f1 (8 * r25.toInt + 0)) := by have q9 := h39; rw [y_atE o30] at q9; exact q9
    have h39 : r36 = y_c f1 (8 * r25.toInt) := h39.trans (congrArg (y_c f1) (by omega))
    have h44 := congrArg Int32.toInt h39
    have h45 : 0 ≤ r36.toInt ∧ r36.toInt ≤ 15 := by have q9 := congrArg Int32.toInt h39; exact ⟨by omega, by omega⟩
    refine lv_istore (lv' := [(4, .int r36), (3, .int r25), (2, .int r16), (0, .ref a0), (1, .int x1)]) hx hb dX7_goes0_18 hl (by decide) rfl (fun ls hl => ?_)
    refine lv_aload_n hx hb dX7_goes0_20 rfl (lv_at hl 3 rfl) ?_
    refine lv_iload_n hx hb dX7_goes0_21 rfl (lv_at hl 4 rfl) ?_
    refine lv_iload_n hx hb dX7_goes0_22 rfl (lv_at hl 1 rfl) ?_
    refine lv_iload_n hx hb dX7_goes0_23 rfl (lv_at hl 2 rfl) ?_
    have rg46 : 0 ≤ r25.toInt ∧ r25.toInt ≤ 39 := ⟨by omega, by omega⟩
    refine va_calli (va_runV (As := [.int x1, .int r25, .int r16]) (rest := []) ⟨hx, hb, hml, hown, hts⟩ (y_X7_takes0 l dC dI H.size hLK A hA F37 a0 x1 r25 r16 ha0 rg14 rg46 hI (by rw [y_atE o41]; exact hPG) (by first | (rw [y_atE o41]; omega) | rw [y_atE o41])) (cwV 3 hts (ax_gV T_1135 T_1137 T_1138 T_265 T_1136) rfl rfl rfl (by decide +kernel) ⟨Nat.le_of_ble_eq_true rfl, Nat.le_of_ble_eq_true rfl⟩) ⟨fun a U g mk q => ⟨q.1, s_pc (U := U) rfl rfl q.2⟩, s_recv hK hP (hLK _ ha0 (by decide)) (ci := 7) rfl oY43, fun U hU hW => ⟨rfl, s_pw hU hW hP hK hD hN⟩⟩ rfl rfl hl.1 rfl (lv_room (Nat.le_of_ble_eq_true rfl)) dX7_goes0_24 ⟨Nat.zero_le _, Nat.zero_le _⟩) hS (fun q _ h => h) (fun q h => h) (fun r48 F49 t H1 locs ht hvm hw hB hz1 hk1 hS => ?_)
    obtain ⟨hP, hK1⟩ := hB
    rw [ht] at hP
    generalize H1 = H at hP hS ⊢
    clear hz1 hk1 hvm hK1
    obtain ⟨h50, h52, hI, hfr1, hzf, h51⟩ := hw
    have o53 : F49 (A 13) = .inl (cs 0, 400, .inl f1) := (hfr1 _ (by rw [(y_k13 hA)]; decide)).trans o41
    have o54 : F49 (A 20) = .inl (cs 0, 918, .inl f4) := (hfr1 _ (by rw [(y_k20 hA)]; decide)).trans o42
    have oY55 : F49 a0 = .inr (7, y_fl A z0 q0) := (hfr1 _ (by rw [ha0]; decide)).trans oY43
    have hfr : ∀ b, K b ∉ [70, 71, 72] → F49 b = F b := fun b hb9 => (hfr1 b (fun q => hb9 (s_sub (by decide) q))).trans (hfr b hb9)
    refine lv_istore (lv' := [(5, .int r48), (4, .int r36), (3, .int r25), (2, .int r16), (0, .ref a0), (1, .int x1)]) hx hb dX7_goes0_27 hl (by decide) rfl (fun ls hl => ?_)
    refine lv_aload_n hx hb dX7_goes0_29 rfl (lv_at hl 4 rfl) ?_
    refine lv_iload_n hx hb dX7_goes0_30 rfl (lv_at hl 5 rfl) ?_
    refine lv_iload_n hx hb dX7_goes0_31 rfl (lv_at hl 2 rfl) ?_
    refine lv_iload_n hx hb dX7_goes0_32 rfl (lv_at hl 3 rfl) ?_
    refine lv_iload hx hb dX7_goes0_33 (lv_at hl 0 rfl) ?_
    refine va_callv (va_runV (As := [.int x1, .int r25, .int r16, .int r48]) (rest := []) ⟨hx, hb, hml, hown, hts⟩ (y_X7_keepsLine l dC dI H.size hLK A hA F49 a0 x1 r25 r16 r48 ha0 rg14 hI (by rw [y_atE o54]; exact ⟨by omega, by omega⟩)) (cwV 4 hts (ax_gV T_1139 T_1141 T_1142 T_265 T_1140) rfl rfl rfl (by decide +kernel) ⟨Nat.le_of_ble_eq_true rfl, Nat.le_of_ble_eq_true rfl⟩) ⟨fun a U g mk q => ⟨q.1, s_pc (U := U) rfl rfl q.2⟩, s_recv hK hP (hLK _ ha0 (by decide)) (ci := 7) rfl oY55, fun U hU hW => ⟨rfl, s_pw hU hW hP hK hD hN⟩⟩ rfl rfl hl.1 rfl (lv_room (Nat.le_of_ble_eq_true rfl)) dX7_goes0_35 ⟨Nat.zero_le _, Nat.zero_le _⟩) hS (fun q _ h => h) (fun q h => h) (fun F57 t H1 locs ht hvm hw hB hz1 hk1 hS => ?_)
    obtain ⟨hP, hK1⟩ := hB
    rw [ht] at hP
    generalize H1 = H at hP hS ⊢
    clear hz1 hk1 hvm hK1
    obtain ⟨h58, h60, hI, hfr1, hzf, h59⟩ := hw
    have o61 : F57 (A 13) = .inl (cs 0, 400, .inl f1) := (hfr1 _ (by rw [(y_k13 hA)]; decide)).trans o53
    have oY62 : F57 a0 = .inr (7, y_fl A z0 q0) := (hfr1 _ (by rw [ha0]; decide)).trans oY55
    have hfr : ∀ b, K b ∉ [70, 71, 72] → F57 b = F b := fun b hb9 => (hfr1 b (fun q => hb9 (s_sub (by decide) q))).trans (hfr b hb9)
    obtain ⟨f63, o64, b65⟩ := y_op20 hI
    replace h59 : (y_K7 f4 f63 ∧ (0 ≤ (y_c f63 7).toInt ∧ (y_c f63 7).toInt ≤ 30)) := by have q9 := h59; rw [y_atE o54, y_atE o64] at q9; exact q9
    have h66 := h59.2
    refine lv_iload hx hb dX7_goes0_38 (lv_at hl 1 rfl) ?_
    refine lv_bipush (v := 12) hx hb dX7_goes0_40 (by decide) ?_
    refine lv_icmp_ge (tgt := 52) hx hb dX7_goes0_42 (by decide) (fun c67 => ?_) (fun c67 => ?_)
    · have c67 := (ax_ge (n := 12) (by decide)).mp c67
      exact K52 _ _ _ ⟨F57, _, r16, r25, r36, r48, rfl, lv_sub hl [4, 5, 3, 2, 1, 0] rfl, hP, hS, hI, hfr, (fun k hk => (y_fiZ oY62 (s_sub (by decide) hk)).trans (hz0 k hk)), trivial, ⟨by omega, by omega⟩, ⟨by omega, by omega⟩, trivial, ⟨by omega, by omega⟩, (by rw [y_atE o64]; exact h59.1.1), (by first | (rw [y_atE o64]; omega) | rw [y_atE o64]), (show (y_TG f4 x1.toInt r16) from h19), (by omega)⟩
    · have c67 := mt (ax_ge (n := 12) (by decide)).mpr c67
      refine lv_aload_n hx hb dX7_goes0_45 rfl (lv_at hl 4 rfl) ?_
      refine lv_iload_n hx hb dX7_goes0_46 rfl (lv_at hl 5 rfl) ?_
      refine lv_iload_n hx hb dX7_goes0_47 rfl (lv_at hl 2 rfl) ?_
      refine lv_iload_n hx hb dX7_goes0_48 rfl (lv_at hl 3 rfl) ?_
      refine va_callv (va_runV (As := [.int x1, .int r25, .int r16]) (rest := []) ⟨hx, hb, hml, hown, hts⟩ (y_X7_works l dC dI H.size hLK A hA F57 a0 x1 r25 r16 ha0 rg14 rg46 hI (by rw [y_atE o61]; exact hPG) (by first | (rw [y_atE o61]; omega) | rw [y_atE o61])) (cwV 3 hts (ax_gV T_1143 T_1145 T_1146 T_265 T_1144) rfl rfl rfl (by decide +kernel) ⟨Nat.le_of_ble_eq_true rfl, Nat.le_of_ble_eq_true rfl⟩) ⟨fun a U g mk q => ⟨q.1, s_pc (U := U) rfl rfl q.2⟩, s_recv hK hP (hLK _ ha0 (by decide)) (ci := 7) rfl oY62, fun U hU hW => ⟨rfl, s_pw hU hW hP hK hD hN⟩⟩ rfl rfl hl.1 rfl (lv_room (Nat.le_of_ble_eq_true rfl)) dX7_goes0_49 ⟨Nat.zero_le _, Nat.zero_le _⟩) hS (fun q _ h => h) (fun q h => h) (fun F69 t H1 locs ht hvm hw hB hz1 hk1 hS => ?_)
      obtain ⟨hP, hK1⟩ := hB
      rw [ht] at hP
      generalize H1 = H at hP hS ⊢
      clear hz1 hk1 hvm hK1
      obtain ⟨h70, h72, hI, hfr1, hzf, h71⟩ := hw
      have o73 : F69 (A 13) = .inl (cs 0, 400, .inl f1) := (hfr1 _ (by rw [(y_k13 hA)]; decide)).trans o61
      have oY74 : F69 a0 = .inr (7, y_fl A z0 q0) := (hfr1 _ (by rw [ha0]; decide)).trans oY62
      have hfr : ∀ b, K b ∉ [70, 71, 72] → F69 b = F b := fun b hb9 => (hfr1 b (fun q => hb9 (s_sub (by decide) q))).trans (hfr b hb9)
      obtain ⟨f75, o76, b77⟩ := y_op20 hI
      replace h71 : (y_E6 f63 f75) := by have q9 := h71; rw [y_atE o64, y_atE o76] at q9; exact q9
      have h78 := congrArg Int32.toInt h71.2.2
      exact K52 _ _ _ ⟨F69, _, r16, r25, r36, r48, rfl, lv_sub hl [4, 5, 3, 2, 1, 0] rfl, hP, hS, hI, hfr, (fun k hk => (y_fiZ oY74 (s_sub (by decide) hk)).trans (hz0 k hk)), trivial, ⟨by omega, by omega⟩, ⟨by omega, by omega⟩, trivial, ⟨by omega, by omega⟩, (by rw [y_atE o76]; exact (y_E_t h59.1.1 h71.1)), (by first | (rw [y_atE o76]; omega) | rw [y_atE o76]), (show (y_TG f4 x1.toInt r16) from h19), (by omega)⟩
  · intro g H locs hq
    obtain ⟨F88, ls, w10, w11, w12, w13, rfl, hl, hP, hS, hI, hfr, hz0, h79, h80, h81, h82, h83, h84, h85, h86, h87⟩ := hq
    have o89 : F88 (A 13) = .inl (cs 0, 400, .inl f1) := (hfr _ (by rw [(y_k13 hA)]; decide)).trans o2
    have oY90 : F88 a0 = .inr (7, y_fl A z0 q0) := (hfr _ (by rw [ha0]; decide)).trans oY0
    have hz0 : ∀ k, k ∈ ([1, 2, 3, 4, 5, 6, 7, 8, 11, 15, 16, 19, 25, 26, 27, 31, 32] : List Nat) → z0 k = z0 k := fun _ _ => rfl
    obtain ⟨f91, o92, b93⟩ := y_op20 hI
    replace h84 : (y_E f4 f91) := by have q9 := h84; rw [y_atE o92] at q9; exact q9
    replace h85 : (0 ≤ (y_c f91 7).toInt ∧ (y_c f91 7).toInt ≤ 30) := by have q9 := h85; rw [y_atE o92] at q9; exact q9
    refine lv_aload_n hx hb dX7_goes0_52 rfl (lv_at hl 0 rfl) ?_
    refine th_get (D := (dC, dI)) (ci := 7) (v := .ref (A 20)) (C := RX7) (T := TX7) (N := 34) hx hb hts inX7 hown hK hP (hLK _ ha0 (by decide)) oY90 rfl 20 (by decide) (hts _ T_251) (fun _ h9 => h9) rfl dX7_goes0_53 ?_
    refine lv_iload_n hx hb dX7_goes0_56 rfl (lv_at hl 1 rfl) ?_
    refine lv_iconst (v := 0) hx hb dX7_goes0_57 (by decide) ?_
    have rg94 : 0 ≤ x1.toInt ∧ x1.toInt ≤ 3 := ⟨by omega, by omega⟩
    refine va_calli (va_runS (As := [.int x1, .int 0]) (rest := [.ref (A 20)]) ⟨hx, hb, hml, hown, hts⟩ (y_X7_warpAt l dC dI H.size F88 x1 0 rg94 (by decide)) (cwS 2 hts (ax_gS T_1021 T_1023 T_265 T_1022) rfl rfl rfl (by decide +kernel) ⟨Nat.le_of_ble_eq_true rfl, Nat.le_of_ble_eq_true rfl⟩) ⟨fun a U g mk q => ⟨q.1, s_pc (U := U) rfl rfl q.2⟩, fun U hU hW => ⟨rfl, s_pw hU hW hP hK hD hN⟩⟩ rfl rfl hl.1 rfl (lv_room (Nat.le_of_ble_eq_true rfl)) dX7_goes0_58 ⟨Nat.zero_le _, Nat.zero_le _⟩) hS (fun q _ h => h) (fun q h => h) (fun r96 F97 t H1 locs ht hvm hw hB hz1 hk1 hS => ?_)
    obtain ⟨hP, hK1⟩ := hB
    rw [ht] at hP
    generalize H1 = H at hP hS ⊢
    clear hz1 hk1 hvm hK1
    obtain ⟨h98, h100, hG9, h99⟩ := hw
    rw [hG9] at hP
    replace h99 : (r96.toInt = 104 + 6 * x1.toInt + 0) := by have q9 := h99; exact q9
    refine lv_aload_n hx hb dX7_goes0_61 rfl (lv_at hl 0 rfl) ?_
    refine th_get (D := (dC, dI)) (ci := 7) (v := .ref (A 20)) (C := RX7) (T := TX7) (N := 34) hx hb hts inX7 hown hK hP (hLK _ ha0 (by decide)) oY90 rfl 20 (by decide) (hts _ T_251) (fun _ h9 => h9) rfl dX7_goes0_62 ?_
    refine lv_iconst (v := 0) hx hb dX7_goes0_65 (by decide) ?_
    refine th_iald hx hb hK hP (hLK _ (y_k20 hA) (by decide)) 0 o92 rfl (ax_in (by decide)) dX7_goes0_66 ?_
    refine lv_topi (fun v101 ev101 => ?_)
    refine lv_iload hx hb dX7_goes0_67 (lv_at hl 5 rfl) ?_
    refine lv_iadd hx hb dX7_goes0_69 ?_
    refine lv_topi (fun v102 ev102 => ?_)
    refine th_iast hx hb hK hP hD hS (hLK _ (y_k20 hA) (by decide)) 0 o92 rfl (th_in ⟨by omega, by omega⟩) dX7_goes0_70 (fun H locs hP hS => ?_)
    obtain ⟨f103, u104⟩ : ∃ g : Nat → Int32, g = upd f91 (r96 : Int32).toNatClampNeg v102 := ⟨_, rfl⟩
    rw [← u104] at hP
    have b105 : y_bd 20 f103 := trivial
    have hP : va_P (dC, dI) vwCl (va_pl L (va_up F88 (A 20) (.inl (cs 0, 918, .inl f103)))) H := hP
    obtain ⟨F106, hF107⟩ : ∃ G : Nat → va_E, G = va_up F88 (A 20) (.inl (cs 0, 918, .inl f103)) := ⟨_, rfl⟩
    rw [← hF107] at hP
    have hI : y_I K cs A F106 := by rw [hF107]; exact y_clA (i := 20) hA hI (by decide) b105
    have hfr : ∀ b, K b ∉ [70, 71, 72] → F106 b = F b := by rw [hF107]; exact s_fr hfr (y_k20 hA) (by decide)
    have o108 : F106 (A 13) = .inl (cs 0, 400, .inl f1) := by rw [hF107]; exact th_ne (th_kd (y_k13 hA) (y_k20 hA) (by decide)) o89
    have oY109 : F106 a0 = .inr (7, y_fl A z0 q0) := by rw [hF107]; exact th_ne (th_kd ha0 (y_k20 hA) (by decide)) oY90
    have o110 : F106 (A 20) = .inl (cs 0, 918, .inl f103) := by rw [hF107]; exact th_up
    have u111 : ∀ j : Int, 0 ≤ j → y_c f103 j = if j = r96.toInt then v102 else y_c f91 j := by rw [u104]; exact y_cu rfl (by omega)
    have h112 : (y_c f103 7).toInt = (y_c f91 7).toInt := by rw [u111 7 (by omega), if_neg (by omega)]
    refine lv_aload_n hx hb dX7_goes0_71 rfl (lv_at hl 0 rfl) ?_
    refine th_get (D := (dC, dI)) (ci := 7) (v := .ref (A 20)) (C := RX7) (T := TX7) (N := 34) hx hb hts inX7 hown hK hP (hLK _ ha0 (by decide)) oY109 rfl 20 (by decide) (hts _ T_251) (fun _ h9 => h9) rfl dX7_goes0_72 ?_
    refine lv_iload_n hx hb dX7_goes0_75 rfl (lv_at hl 1 rfl) ?_
    refine lv_iconst (v := 2) hx hb dX7_goes0_76 (by decide) ?_
    refine va_calli (va_runS (As := [.int x1, .int 2]) (rest := [.ref (A 20)]) ⟨hx, hb, hml, hown, hts⟩ (y_X7_warpAt l dC dI H.size F106 x1 2 rg94 (by decide)) (cwS 2 hts (ax_gS T_1021 T_1023 T_265 T_1022) rfl rfl rfl (by decide +kernel) ⟨Nat.le_of_ble_eq_true rfl, Nat.le_of_ble_eq_true rfl⟩) ⟨fun a U g mk q => ⟨q.1, s_pc (U := U) rfl rfl q.2⟩, fun U hU hW => ⟨rfl, s_pw hU hW hP hK hD hN⟩⟩ rfl rfl hl.1 rfl (lv_room (Nat.le_of_ble_eq_true rfl)) dX7_goes0_77 ⟨Nat.zero_le _, Nat.zero_le _⟩) hS (fun q _ h => h) (fun q h => h) (fun r114 F115 t H1 locs ht hvm hw hB hz1 hk1 hS => ?_)
    obtain ⟨hP, hK1⟩ := hB
    rw [ht] at hP
    generalize H1 = H at hP hS ⊢
    clear hz1 hk1 hvm hK1
    obtain ⟨h116, h118, hG9, h117⟩ := hw
    rw [hG9] at hP
    replace h117 : (r114.toInt = 104 + 6 * x1.toInt + 2) := by have q9 := h117; exact q9
    refine lv_dup2_11 hx hb dX7_goes0_80 rfl rfl ?_
    refine th_iald hx hb hK hP (hLK _ (y_k20 hA) (by decide)) 0 o110 rfl (th_in ⟨by omega, by omega⟩) dX7_goes0_81 ?_
    refine lv_topi (fun v119 ev119 => ?_)
    refine lv_iconst (v := 1) hx hb dX7_goes0_82 (by decide) ?_
    refine lv_iadd hx hb dX7_goes0_83 ?_
    refine lv_topi (fun v120 ev120 => ?_)
    refine th_iast hx hb hK hP hD hS (hLK _ (y_k20 hA) (by decide)) 0 o110 rfl (th_in ⟨by omega, by omega⟩) dX7_goes0_84 (fun H locs hP hS => ?_)
    obtain ⟨f121, u122⟩ : ∃ g : Nat → Int32, g = upd f103 (r114 : Int32).toNatClampNeg v120 := ⟨_, rfl⟩
    rw [← u122] at hP
    have b123 : y_bd 20 f121 := trivial
    have hP : va_P (dC, dI) vwCl (va_pl L (va_up F106 (A 20) (.inl (cs 0, 918, .inl f121)))) H := hP
    obtain ⟨F124, hF125⟩ : ∃ G : Nat → va_E, G = va_up F106 (A 20) (.inl (cs 0, 918, .inl f121)) := ⟨_, rfl⟩
    rw [← hF125] at hP
    have hI : y_I K cs A F124 := by rw [hF125]; exact y_clA (i := 20) hA hI (by decide) b123
    have hfr : ∀ b, K b ∉ [70, 71, 72] → F124 b = F b := by rw [hF125]; exact s_fr hfr (y_k20 hA) (by decide)
    have o126 : F124 (A 13) = .inl (cs 0, 400, .inl f1) := by rw [hF125]; exact th_ne (th_kd (y_k13 hA) (y_k20 hA) (by decide)) o108
    have oY127 : F124 a0 = .inr (7, y_fl A z0 q0) := by rw [hF125]; exact th_ne (th_kd ha0 (y_k20 hA) (by decide)) oY109
    have o128 : F124 (A 20) = .inl (cs 0, 918, .inl f121) := by rw [hF125]; exact th_up
    have u129 : ∀ j : Int, 0 ≤ j → y_c f121 j = if j = r114.toInt then v120 else y_c f103 j := by rw [u122]; exact y_cu rfl (by omega)
    have h130 : (y_c f121 7).toInt = (y_c f103 7).toInt := by rw [u129 7 (by omega), if_neg (by omega)]
    refine lv_aload_n hx hb dX7_goes0_85 rfl (lv_at hl 0 rfl) ?_
    refine th_get (D := (dC, dI)) (ci := 7) (v := .ref (A 20)) (C := RX7) (T := TX7) (N := 34) hx hb hts inX7 hown hK hP (hLK _ ha0 (by decide)) oY127 rfl 20 (by decide) (hts _ T_251) (fun _ h9 => h9) rfl dX7_goes0_86 ?_
    refine lv_iconst (v := 1) hx hb dX7_goes0_89 (by decide) ?_
    refine lv_dup2_11 hx hb dX7_goes0_90 rfl rfl ?_
    refine th_iald hx hb hK hP (hLK _ (y_k20 hA) (by decide)) 0 o128 rfl (ax_in (by decide)) dX7_goes0_91 ?_
    refine lv_topi (fun v131 ev131 => ?_)
    refine lv_iconst (v := 1) hx hb dX7_goes0_92 (by decide) ?_
    refine lv_iadd hx hb dX7_goes0_93 ?_
    refine lv_topi (fun v132 ev132 => ?_)
    refine th_iast hx hb hK hP hD hS (hLK _ (y_k20 hA) (by decide)) 0 o128 rfl (ax_in (by decide)) dX7_goes0_94 (fun H locs hP hS => ?_)
    obtain ⟨f133, u134⟩ : ∃ g : Nat → Int32, g = upd f121 (1 : Int32).toNatClampNeg v132 := ⟨_, rfl⟩
    rw [← u134] at hP
    have b135 : y_bd 20 f133 := trivial
    have hP : va_P (dC, dI) vwCl (va_pl L (va_up F124 (A 20) (.inl (cs 0, 918, .inl f133)))) H := hP
    obtain ⟨F136, hF137⟩ : ∃ G : Nat → va_E, G = va_up F124 (A 20) (.inl (cs 0, 918, .inl f133)) := ⟨_, rfl⟩
    rw [← hF137] at hP
    have hI : y_I K cs A F136 := by rw [hF137]; exact y_clA (i := 20) hA hI (by decide) b135
    have hfr : ∀ b, K b ∉ [70, 71, 72] → F136 b = F b := by rw [hF137]; exact s_fr hfr (y_k20 hA) (by decide)
    have o138 : F136 (A 13) = .inl (cs 0, 400, .inl f1) := by rw [hF137]; exact th_ne (th_kd (y_k13 hA) (y_k20 hA) (by decide)) o126
    have oY139 : F136 a0 = .inr (7, y_fl A z0 q0) := by rw [hF137]; exact th_ne (th_kd ha0 (y_k20 hA) (by decide)) oY127
    have o140 : F136 (A 20) = .inl (cs 0, 918, .inl f133) := by rw [hF137]; exact th_up
    have u141 : ∀ j : Int, 0 ≤ j → y_c f133 j = if j = 1 then v132 else y_c f121 j := by rw [u134]; exact y_cu (by decide) (by decide)
    have h142 : (y_c f133 7).toInt = (y_c f121 7).toInt := by rw [u141 7 (by omega), if_neg (by omega)]
    refine lv_aload_n hx hb dX7_goes0_95 rfl (lv_at hl 0 rfl) ?_
    refine th_get (D := (dC, dI)) (ci := 7) (v := .ref (A 20)) (C := RX7) (T := TX7) (N := 34) hx hb hts inX7 hown hK hP (hLK _ ha0 (by decide)) oY139 rfl 20 (by decide) (hts _ T_251) (fun _ h9 => h9) rfl dX7_goes0_96 ?_
    refine lv_bipush (v := 6) hx hb dX7_goes0_99 (by decide) ?_
    refine lv_iload_n hx hb dX7_goes0_101 rfl (lv_at hl 1 rfl) ?_
    refine th_iast hx hb hK hP hD hS (hLK _ (y_k20 hA) (by decide)) 0 o140 rfl (ax_in (by decide)) dX7_goes0_102 (fun H locs hP hS => ?_)
    obtain ⟨f143, u144⟩ : ∃ g : Nat → Int32, g = upd f133 (6 : Int32).toNatClampNeg x1 := ⟨_, rfl⟩
    rw [← u144] at hP
    have b145 : y_bd 20 f143 := trivial
    have hP : va_P (dC, dI) vwCl (va_pl L (va_up F136 (A 20) (.inl (cs 0, 918, .inl f143)))) H := hP
    obtain ⟨F146, hF147⟩ : ∃ G : Nat → va_E, G = va_up F136 (A 20) (.inl (cs 0, 918, .inl f143)) := ⟨_, rfl⟩
    rw [← hF147] at hP
    have hI : y_I K cs A F146 := by rw [hF147]; exact y_clA (i := 20) hA hI (by decide) b145
    have hfr : ∀ b, K b ∉ [70, 71, 72] → F146 b = F b := by rw [hF147]; exact s_fr hfr (y_k20 hA) (by decide)
    have o148 : F146 (A 13) = .inl (cs 0, 400, .inl f1) := by rw [hF147]; exact th_ne (th_kd (y_k13 hA) (y_k20 hA) (by decide)) o138
    have oY149 : F146 a0 = .inr (7, y_fl A z0 q0) := by rw [hF147]; exact th_ne (th_kd ha0 (y_k20 hA) (by decide)) oY139
    have o150 : F146 (A 20) = .inl (cs 0, 918, .inl f143) := by rw [hF147]; exact th_up
    have u151 : ∀ j : Int, 0 ≤ j → y_c f143 j = if j = 6 then x1 else y_c f133 j := by rw [u144]; exact y_cu (by decide) (by decide)
    have h152 : (y_c f143 7).toInt = (y_c f133 7).toInt := by rw [u151 7 (by omega), if_neg (by omega)]
    have hE := (y_E_t (y_E_t (y_E_t (y_E_t h84 (y_E_u u111 (by omega))) (y_E_u u129 (by omega))) (y_E_u u141 (by omega))) (y_E_u u151 (by omega)))
    have hNG2 : y_NG f1 f143 := y_NGe hE hNG (by rw [u151 6 (by omega), if_pos (by omega)]; exact ⟨by omega, by omega⟩) ⟨by omega, by omega⟩ (by omega)
    have hc1 : y_c f143 (107 + 6 * x1.toInt) = y_c f4 (107 + 6 * x1.toInt) := hE _ (by omega) (by omega)
    have hc2 : y_c f143 (109 + 6 * x1.toInt) = y_c f4 (109 + 6 * x1.toInt) := hE _ (by omega) (by omega)
    have hc3 : y_c f143 3 = y_c f4 3 := hE _ (by omega) (by omega)
    have hc4 : y_c f143 4 = y_c f4 4 := hE _ (by omega) (by omega)
    have hc5 : 0 < (y_c f4 (109 + 6 * x1.toInt)).toInt → y_c f143 (287 + 48 * x1.toInt + 3 * (y_c f4 (109 + 6 * x1.toInt)).toInt) = y_c f4 (287 + 48 * x1.toInt + 3 * (y_c f4 (109 + 6 * x1.toInt)).toInt) := fun h9 => hE _ (by omega) (by omega)
    refine lv_iload hx hb dX7_goes0_103 (lv_at hl 4 rfl) ?_
    refine lv_bipush (v := 13) hx hb dX7_goes0_105 (by decide) ?_
    refine lv_icmp_ne (tgt := 124) hx hb dX7_goes0_107 (by decide) (fun c153 => ?_) (fun c153 => ?_)
    · have c153 := mt (ax_eq (n := 13) (by decide)).mpr c153
      exact K124 _ _ _ ⟨F146, _, w10, w11, w12, rfl, lv_sub hl [0, 1, 2, 3, 4] rfl, hP, hS, hI, hfr, (fun k hk => (y_fiZ oY149 (s_sub (by decide) hk)).trans (hz0 k hk)), trivial, ⟨by omega, by omega⟩, ⟨by omega, by omega⟩, ⟨by omega, by omega⟩, (by rw [y_atE o150]; exact hNG2), (show (y_TG f4 x1.toInt w10) from h86), (by omega), (by rw [y_atE o150]; exact ⟨hc1, hc2, hc3, hc4⟩), (by rw [y_atE o150]; exact hc5)⟩
    · have c153 := (ax_eq (n := 13) (by decide)).mp c153
      refine lv_aload_n hx hb dX7_goes0_110 rfl (lv_at hl 0 rfl) ?_
      refine th_get (D := (dC, dI)) (ci := 7) (v := .ref (A 20)) (C := RX7) (T := TX7) (N := 34) hx hb hts inX7 hown hK hP (hLK _ ha0 (by decide)) oY149 rfl 20 (by decide) (hts _ T_251) (fun _ h9 => h9) rfl dX7_goes0_111 ?_
      refine lv_iload_n hx hb dX7_goes0_114 rfl (lv_at hl 1 rfl) ?_
      refine lv_iconst (v := 4) hx hb dX7_goes0_115 (by decide) ?_
      refine va_calli (va_runS (As := [.int x1, .int 4]) (rest := [.ref (A 20)]) ⟨hx, hb, hml, hown, hts⟩ (y_X7_warpAt l dC dI H.size F146 x1 4 rg94 (by decide)) (cwS 2 hts (ax_gS T_1021 T_1023 T_265 T_1022) rfl rfl rfl (by decide +kernel) ⟨Nat.le_of_ble_eq_true rfl, Nat.le_of_ble_eq_true rfl⟩) ⟨fun a U g mk q => ⟨q.1, s_pc (U := U) rfl rfl q.2⟩, fun U hU hW => ⟨rfl, s_pw hU hW hP hK hD hN⟩⟩ rfl rfl hl.1 rfl (lv_room (Nat.le_of_ble_eq_true rfl)) dX7_goes0_116 ⟨Nat.zero_le _, Nat.zero_le _⟩) hS (fun q _ h => h) (fun q h => h) (fun r155 F156 t H1 locs ht hvm hw hB hz1 hk1 hS => ?_)
      obtain ⟨hP, hK1⟩ := hB
      rw [ht] at hP
      generalize H1 = H at hP hS ⊢
      clear hz1 hk1 hvm hK1
      obtain ⟨h157, h159, hG9, h158⟩ := hw
      rw [hG9] at hP
      replace h158 : (r155.toInt = 104 + 6 * x1.toInt + 4) := by have q9 := h158; exact q9
      refine lv_dup2_11 hx hb dX7_goes0_119 rfl rfl ?_
      refine th_iald hx hb hK hP (hLK _ (y_k20 hA) (by decide)) 0 o150 rfl (th_in ⟨by omega, by omega⟩) dX7_goes0_120 ?_
      refine lv_topi (fun v160 ev160 => ?_)
      have Ev160 : v160 = y_c f143 (108 + 6 * x1.toInt) := ev160.trans (y_ci (by omega))
      have tEv160 := congrArg Int32.toInt Ev160
      refine lv_iload_n hx hb dX7_goes0_121 rfl (lv_at hl 2 rfl) ?_
      refine lv_ior hx hb dX7_goes0_122 ?_
      refine lv_topi (fun v161 ev161 => ?_)
      refine th_iast hx hb hK hP hD hS (hLK _ (y_k20 hA) (by decide)) 0 o150 rfl (th_in ⟨by omega, by omega⟩) dX7_goes0_123 (fun H locs hP hS => ?_)
      obtain ⟨f162, u163⟩ : ∃ g : Nat → Int32, g = upd f143 (r155 : Int32).toNatClampNeg v161 := ⟨_, rfl⟩
      rw [← u163] at hP
      have b164 : y_bd 20 f162 := trivial
      have hP : va_P (dC, dI) vwCl (va_pl L (va_up F146 (A 20) (.inl (cs 0, 918, .inl f162)))) H := hP
      obtain ⟨F165, hF166⟩ : ∃ G : Nat → va_E, G = va_up F146 (A 20) (.inl (cs 0, 918, .inl f162)) := ⟨_, rfl⟩
      rw [← hF166] at hP
      have hI : y_I K cs A F165 := by rw [hF166]; exact y_clA (i := 20) hA hI (by decide) b164
      have hfr : ∀ b, K b ∉ [70, 71, 72] → F165 b = F b := by rw [hF166]; exact s_fr hfr (y_k20 hA) (by decide)
      have o167 : F165 (A 13) = .inl (cs 0, 400, .inl f1) := by rw [hF166]; exact th_ne (th_kd (y_k13 hA) (y_k20 hA) (by decide)) o148
      have oY168 : F165 a0 = .inr (7, y_fl A z0 q0) := by rw [hF166]; exact th_ne (th_kd ha0 (y_k20 hA) (by decide)) oY149
      have o169 : F165 (A 20) = .inl (cs 0, 918, .inl f162) := by rw [hF166]; exact th_up
      have u170 : ∀ j : Int, 0 ≤ j → y_c f162 j = if j = r155.toInt then v161 else y_c f143 j := by rw [u163]; exact y_cu rfl (by omega)
      have hor9 : y_sub v161 (y_c f143 (107 + 6 * x1.toInt)) := fun i9 h9 => by rw [ev161, b_or, Bool.or_eq_true] at h9; rcases h9 with q9 | q9; rw [Ev160] at q9; exact (hNG2.2.2.2.2 x1.toInt (by omega) hxw).1.2.1 i9 q9; rw [hc1]; exact h86.1 i9 q9
      obtain ⟨k171a, k171b⟩ := y_wait ⟨by omega, by omega⟩ u170 (by omega) hor9 (hNG2.2.2.2.2 x1.toInt (by omega) hxw)
      have k171c := y_NGw ⟨by omega, by omega⟩ k171b hNG2 k171a (by omega)
      have hc1 : y_c f162 (107 + 6 * x1.toInt) = y_c f4 (107 + 6 * x1.toInt) := by rw [u170 _ (by omega), if_neg (by omega)]; exact hc1
      have hc2 : y_c f162 (109 + 6 * x1.toInt) = y_c f4 (109 + 6 * x1.toInt) := by rw [u170 _ (by omega), if_neg (by omega)]; exact hc2
      have hc3 : y_c f162 (3) = y_c f4 (3) := by rw [u170 _ (by omega), if_neg (by omega)]; exact hc3
      have hc4 : y_c f162 (4) = y_c f4 (4) := by rw [u170 _ (by omega), if_neg (by omega)]; exact hc4
      have hc5 : 0 < (y_c f4 (109 + 6 * x1.toInt)).toInt → y_c f162 (287 + 48 * x1.toInt + 3 * (y_c f4 (109 + 6 * x1.toInt)).toInt) = y_c f4 (287 + 48 * x1.toInt + 3 * (y_c f4 (109 + 6 * x1.toInt)).toInt) := fun h9 => by rw [u170 _ (by omega), if_neg (by omega)]; exact hc5 h9
      exact K124 _ _ _ ⟨F165, _, w10, w11, w12, rfl, lv_sub hl [0, 1, 2, 3, 4] rfl, hP, hS, hI, hfr, (fun k hk => (y_fiZ oY168 (s_sub (by decide) hk)).trans (hz0 k hk)), trivial, ⟨by omega, by omega⟩, ⟨by omega, by omega⟩, ⟨by omega, by omega⟩, (by rw [y_atE o169]; exact k171c), (show (y_TG f4 x1.toInt w10) from h86), (by omega), (by rw [y_atE o169]; exact ⟨hc1, hc2, hc3, hc4⟩), (by rw [y_atE o169]; exact hc5)⟩
  · intro g H locs hq
    obtain ⟨F181, ls, w7, w8, w9, rfl, hl, hP, hS, hI, hfr, hz0, h172, h173, h174, h175, h176, h177, h178, h179, h180⟩ := hq
    have o182 : F181 (A 13) = .inl (cs 0, 400, .inl f1) := (hfr _ (by rw [(y_k13 hA)]; decide)).trans o2
    have oY183 : F181 a0 = .inr (7, y_fl A z0 q0) := (hfr _ (by rw [ha0]; decide)).trans oY0
    have hz0 : ∀ k, k ∈ ([1, 2, 3, 4, 5, 6, 7, 8, 11, 15, 16, 19, 25, 26, 27, 31, 32] : List Nat) → z0 k = z0 k := fun _ _ => rfl
    obtain ⟨f184, o185, b186⟩ := y_op20 hI
    replace h176 : (y_NG f1 f184) := by have q9 := h176; rw [y_atE o185] at q9; exact q9
    replace h179 : (y_c f184 (107 + 6 * x1.toInt) = y_c f4 (107 + 6 * x1.toInt) ∧ y_c f184 (109 + 6 * x1.toInt) = y_c f4 (109 + 6 * x1.toInt) ∧ y_c f184 3 = y_c f4 3 ∧ y_c f184 4 = y_c f4 4) := by have q9 := h179; rw [y_atE o185] at q9; exact q9
    replace h180 : (0 < (y_c f4 (109 + 6 * x1.toInt)).toInt → y_c f184 (287 + 48 * x1.toInt + 3 * (y_c f4 (109 + 6 * x1.toInt)).toInt) = y_c f4 (287 + 48 * x1.toInt + 3 * (y_c f4 (109 + 6 * x1.toInt)).toInt)) := by have q9 := h180; rw [y_atE o185] at q9; exact q9
    obtain ⟨hc1, hc2, hc3, hc4⟩ := h179
    have hc5 := h180
    have hm3 := congrArg Int32.toInt hc3
    have hNWg := h176.2.2.2.2 x1.toInt (by omega) hxw
    have htz := h177.2.2.2.mpr hgo
    refine lv_aload_n hx hb dX7_goes0_124 rfl (lv_at hl 0 rfl) ?_
    refine th_get (D := (dC, dI)) (ci := 7) (v := .ref (A 20)) (C := RX7) (T := TX7) (N := 34) hx hb hts inX7 hown hK hP (hLK _ ha0 (by decide)) oY183 rfl 20 (by decide) (hts _ T_251) (fun _ h9 => h9) rfl dX7_goes0_125 ?_
    refine lv_iconst (v := 3) hx hb dX7_goes0_128 (by decide) ?_
    refine th_iald hx hb hK hP (hLK _ (y_k20 hA) (by decide)) 0 o185 rfl (ax_in (by decide)) dX7_goes0_129 ?_
    refine lv_topi (fun v187 ev187 => ?_)
    have Ev187 : v187 = y_c f184 (3) := ev187.trans (y_ci (by decide))
    have tEv187 := congrArg Int32.toInt Ev187
    refine lv_iconst (v := 1) hx hb dX7_goes0_130 (by decide) ?_
    refine lv_icmp_ne (tgt := 144) hx hb dX7_goes0_131 (by decide) (fun c188 => ?_) (fun c188 => ?_)
    · have c188 := mt (ax_eq (n := 1) (by decide)).mpr c188
      refine lv_iload hx hb dX7_goes0_144 (lv_at hl 4 rfl) ?_
      refine lv_bipush (v := 13) hx hb dX7_goes0_146 (by decide) ?_
      refine lv_icmp_eq (tgt := 158) hx hb dX7_goes0_148 (by decide) (fun c189 => ?_) (fun c189 => ?_)
      · have c189 := (ax_eq (n := 13) (by decide)).mp c189
        exact W.vret hx hb hr (fun t ht hW => ⟨⟨F181, rfl, ⟨trivial, trivial, hI, hfr, fun k hk => (y_fiZ oY183 (s_sub (by decide) hk)).trans ((hz0 k hk).trans (y_fiZ oY0 (s_sub (by decide) hk)).symm), (by rw [y_atE o2, y_atE o185, y_atE o5]; exact ⟨h176, hc3, hc4⟩)⟩, by rw [ht]; exact hP, va_K.moved hW.alike hK⟩, hS.F ht⟩) hS.2.2 dX7_goes0_158
      · have c189 := mt (ax_eq (n := 13) (by decide)).mpr c189
        refine lv_aload_n hx hb dX7_goes0_151 rfl (lv_at hl 0 rfl) ?_
        refine lv_iload_n hx hb dX7_goes0_152 rfl (lv_at hl 1 rfl) ?_
        refine lv_iload_n hx hb dX7_goes0_153 rfl (lv_at hl 3 rfl) ?_
        refine lv_iload_n hx hb dX7_goes0_154 rfl (lv_at hl 2 rfl) ?_
        have rg190 : 0 ≤ x1.toInt ∧ x1.toInt ≤ 3 := ⟨by omega, by omega⟩
        have rg191 : 0 ≤ w8.toInt ∧ w8.toInt ≤ 39 := ⟨by omega, by omega⟩
        refine va_callv (va_runV (As := [.int x1, .int w8, .int w7]) (rest := []) ⟨hx, hb, hml, hown, hts⟩ (y_X7_goesByStack l dC dI H.size hLK A hA F181 a0 x1 w8 w7 ha0 rg190 rg191 hI (by rw [y_atE o182]; exact hPG) (by first | (rw [y_atE o182]; omega) | rw [y_atE o182]) (by rw [y_atE o185]; exact hNWg.1) (by rw [y_atE o182, y_atE o185]; exact (hNWg.2.1 (by omega)).1) (by rw [y_atE o185]; rw [hc2]; have q9 := (h177.2.2.1 (by omega)).resolve_left htz; rw [hc5 q9.1]; exact q9)) (cwV 3 hts (ax_gV T_1151 T_1153 T_1154 T_265 T_1152) rfl rfl rfl (by decide +kernel) ⟨Nat.le_of_ble_eq_true rfl, Nat.le_of_ble_eq_true rfl⟩) ⟨fun a U g mk q => ⟨q.1, s_pc (U := U) rfl rfl q.2⟩, s_recv hK hP (hLK _ ha0 (by decide)) (ci := 7) rfl oY183, fun U hU hW => ⟨rfl, s_pw hU hW hP hK hD hN⟩⟩ rfl rfl hl.1 rfl (lv_room (Nat.le_of_ble_eq_true rfl)) dX7_goes0_155 ⟨Nat.zero_le _, Nat.zero_le _⟩) hS (fun q _ h => h) (fun q h => h) (fun F193 t H1 locs ht hvm hw hB hz1 hk1 hS => ?_)
        obtain ⟨hP, hK1⟩ := hB
        rw [ht] at hP
        generalize H1 = H at hP hS ⊢
        clear hz1 hk1 hvm hK1
        obtain ⟨h194, h196, hI, hfr1, hzf, h195⟩ := hw
        have o197 : F193 (A 13) = .inl (cs 0, 400, .inl f1) := (hfr1 _ (by rw [(y_k13 hA)]; decide)).trans o182
        have oY198 : F193 a0 = .inr (7, y_fl A z0 q0) := (hfr1 _ (by rw [ha0]; decide)).trans oY183
        have hfr : ∀ b, K b ∉ [70, 71, 72] → F193 b = F b := fun b hb9 => (hfr1 b (fun q => hb9 (s_sub (by decide) q))).trans (hfr b hb9)
        obtain ⟨f199, o200, b201⟩ := y_op20 hI
        replace h195 : (y_W0 f199 x1.toInt ∧ y_Ws (y_c f1 387).toInt f199 x1.toInt ∧ y_Wt (y_c f1 387).toInt f199 x1.toInt ∧ y_fw x1.toInt f184 f199) := by have q9 := h195; rw [y_atE o200, y_atE o182, y_atE o185] at q9; exact q9
        exact W.vret hx hb hr (fun t ht hW => ⟨⟨F193, rfl, ⟨trivial, trivial, hI, hfr, fun k hk => (y_fiZ oY198 (s_sub (by decide) hk)).trans ((hz0 k hk).trans (y_fiZ oY0 (s_sub (by decide) hk)).symm), (by rw [y_atE o2, y_atE o200, y_atE o5]; exact ⟨y_NGw ⟨by omega, by omega⟩ h195.2.2.2 h176 (y_NW0 (by rw [(congrArg Int32.toInt (y_fw3 (by omega) h195.2.2.2))]; omega) h195.1 h195.2.1 h195.2.2.1) (by omega), (y_fw3 (by omega) h195.2.2.2).trans hc3, (h195.2.2.2 4 (by omega) (by omega) (by omega) (by omega)).trans hc4⟩)⟩, by rw [ht]; exact hP, va_K.moved hW.alike hK⟩, hS.F ht⟩) hS.2.2 dX7_goes0_158
    · have c188 := (ax_eq (n := 1) (by decide)).mp c188
      refine lv_aload_n hx hb dX7_goes0_134 rfl (lv_at hl 0 rfl) ?_
      refine lv_iload_n hx hb dX7_goes0_135 rfl (lv_at hl 1 rfl) ?_
      refine lv_iload_n hx hb dX7_goes0_136 rfl (lv_at hl 3 rfl) ?_
      refine lv_iload_n hx hb dX7_goes0_137 rfl (lv_at hl 2 rfl) ?_
      have rg202 : 0 ≤ x1.toInt ∧ x1.toInt ≤ 3 := ⟨by omega, by omega⟩
      have rg203 : 0 ≤ w8.toInt ∧ w8.toInt ≤ 39 := ⟨by omega, by omega⟩
      refine va_callv (va_runV (As := [.int x1, .int w8, .int w7]) (rest := []) ⟨hx, hb, hml, hown, hts⟩ (y_X7_goesFair l dC dI H.size hLK A hA F181 a0 x1 w8 w7 ha0 rg202 rg203 hI (by rw [y_atE o182]; exact hPG) (by first | (rw [y_atE o182]; omega) | rw [y_atE o182]) (by rw [y_atE o185]; exact hNWg.1) (by rw [y_atE o182, y_atE o185]; exact (hNWg.2.2 (by omega))) (by first | (rw [y_atE o185]; omega) | rw [y_atE o185]) (by rw [y_atE o185]; exact ⟨htz, by rw [hc1]; exact h177.1⟩)) (cwV 3 hts (ax_gV T_1147 T_1149 T_1150 T_265 T_1148) rfl rfl rfl (by decide +kernel) ⟨Nat.le_of_ble_eq_true rfl, Nat.le_of_ble_eq_true rfl⟩) ⟨fun a U g mk q => ⟨q.1, s_pc (U := U) rfl rfl q.2⟩, s_recv hK hP (hLK _ ha0 (by decide)) (ci := 7) rfl oY183, fun U hU hW => ⟨rfl, s_pw hU hW hP hK hD hN⟩⟩ rfl rfl hl.1 rfl (lv_room (Nat.le_of_ble_eq_true rfl)) dX7_goes0_138 ⟨Nat.zero_le _, Nat.zero_le _⟩) hS (fun q _ h => h) (fun q h => h) (fun F205 t H1 locs ht hvm hw hB hz1 hk1 hS => ?_)
      obtain ⟨hP, hK1⟩ := hB
      rw [ht] at hP
      generalize H1 = H at hP hS ⊢
      clear hz1 hk1 hvm hK1
      obtain ⟨h206, h208, hI, hfr1, hzf, h207⟩ := hw
      have o209 : F205 (A 13) = .inl (cs 0, 400, .inl f1) := (hfr1 _ (by rw [(y_k13 hA)]; decide)).trans o182
      have oY210 : F205 a0 = .inr (7, y_fl A z0 q0) := (hfr1 _ (by rw [ha0]; decide)).trans oY183
      have hfr : ∀ b, K b ∉ [70, 71, 72] → F205 b = F b := fun b hb9 => (hfr1 b (fun q => hb9 (s_sub (by decide) q))).trans (hfr b hb9)
      obtain ⟨f211, o212, b213⟩ := y_op20 hI
      replace h207 : (y_W0 f211 x1.toInt ∧ y_Wf (y_c f1 387).toInt f211 x1.toInt ∧ y_fw x1.toInt f184 f211) := by have q9 := h207; rw [y_atE o212, y_atE o182, y_atE o185] at q9; exact q9
      refine lv_goto (tgt := 158) hx hb dX7_goes0_141 (by decide) ?_
      exact W.vret hx hb hr (fun t ht hW => ⟨⟨F205, rfl, ⟨trivial, trivial, hI, hfr, fun k hk => (y_fiZ oY210 (s_sub (by decide) hk)).trans ((hz0 k hk).trans (y_fiZ oY0 (s_sub (by decide) hk)).symm), (by rw [y_atE o2, y_atE o212, y_atE o5]; exact ⟨y_NGw ⟨by omega, by omega⟩ h207.2.2 h176 (y_NW1 (by rw [(congrArg Int32.toInt (y_fw3 (by omega) h207.2.2))]; omega) h207.1 h207.2.1) (by omega), (y_fw3 (by omega) h207.2.2).trans hc3, (h207.2.2 4 (by omega) (by omega) (by omega) (by omega)).trans hc4⟩)⟩, by rw [ht]; exact hP, va_K.moved hW.alike hK⟩, hS.F ht⟩) hS.2.2 dX7_goes0_158
