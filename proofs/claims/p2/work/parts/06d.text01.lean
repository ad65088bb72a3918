set_option maxHeartbeats 4000000 in
set_option maxRecDepth 100000 in
theorem y_X7_look (l : Launch) (dC : Nat → ClassId) (dI : Nat → Nat → Nat) (sz : Nat) {L : List Nat} {K : Nat → Nat} {cs : Nat → ClassId} (hLK : ∀ a {k : Nat}, K a = k → k ≠ 0 → a ∈ L) (A : Nat → Nat) (hA : y_A K A) (F : Nat → va_E) (a0 : Nat) (ha0 : K a0 = 9) (hI : y_I K cs A F) : Met l yX7_look (Cond.code yX7_look cX7_look 1 (some .int) :: T0) ({ frames := 0, cells := 0, slots := 0, locals := 0 }) (va_Pc [.ref a0] (s_W dC dI sz L F [(cs 0, .int), (cs 1, .byte), (cs 2, .long), (cs 3, .object RX5), (cs 4, .object RX4), (cs 5, .array .int), (cs 6, .char), (cs 7, .boolean)])) (va_Qi (fun (r : Int32) (G : Nat → va_E) => True ∧ True ∧ y_I K cs A G ∧ (∀ b, K b ∉ [9] → G b = F b) ∧ (∀ k, k ∈ ([1, 3, 4, 5, 6, 7, 8, 11, 15, 16, 19, 25, 26, 27, 31, 32] : List Nat) → y_fi G a0 k = y_fi F a0 k) ∧ (r.toInt = -1 ∨ (y_fi G a0 2).toInt < (y_fi G a0 3).toInt)) (fun (G : Nat → va_E) (t : State) => va_P (dC, dI) vwCl (va_pl L G) t.heap ∧ va_K (dC, dI) vwCl [(cs 0, .int), (cs 1, .byte), (cs 2, .long), (cs 3, .object RX5), (cs 4, .object RX4), (cs 5, .array .int), (cs 6, .char), (cs 7, .boolean)] t) (fun q => q ∈ L)) 0 0 (fun q => q ∈ L) := by
  refine Met.ofW (cc := cX7_look) (maxL := 1) (ret := (some .int)) (by decide) rfl ?_
  intro p e s m args below meth c s₁ B hml hv
  obtain ⟨rfl, hsz, hP, hK, hD, hN⟩ := hv
  have hx := B.exec
  have hb := B.bytes
  have hr := B.returns
  have hts : ∀ w ∈ T0, w.before _ s = true := fun w h => atoms_spec (ws := Cond.code yX7_look cX7_look 1 (some .int) :: T0) B.pre w (List.mem_cons_of_mem _ h)
  have hown : s.vm.findClass RX7 = some m.cls := findClass_of_methodNamed B.named
  have hlocks := B.notSynchronized
  have hS : va_S (fun q => q ∈ L) s.heap s.heap [] := va_S.rf
  have hfr : ∀ b, K b ∉ [9] → F b = F b := fun _ _ => rfl
  have hl := lv_entry ([.ref a0]) (n := 1) (Nat.le_of_ble_eq_true rfl)
  rw [lg_entry_eq]
  generalize (lg_sl ([.ref a0]) ++ List.replicate (1 - (lg_sl ([.ref a0])).length) Slot.unset).toArray = ls at hl ⊢
  have hl : lv_has ls 1 [(0, .ref a0)] := hl
  refine s_gen hP hS (fun H locs hP hS => ?_)
  obtain ⟨z0, q0, oY0, bz0, bq0⟩ := y_opY hI ha0
  have hz0 : ∀ k, k ∈ ([1, 3, 4, 5, 6, 7, 8, 11, 15, 16, 19, 25, 26, 27, 31, 32] : List Nat) → z0 k = z0 k := fun _ _ => rfl
  obtain ⟨v1, ev1⟩ : ∃ y : Int32, y = z0 2 := ⟨_, rfl⟩
  have qv1 : 0 ≤ v1.toInt ∧ v1.toInt ≤ 1600 := by rw [ev1]; exact y_bY2 bz0
  have eF_2 := ev1
  obtain ⟨v2, ev2⟩ : ∃ y : Int32, y = z0 3 := ⟨_, rfl⟩
  have qv2 : 0 ≤ v2.toInt ∧ v2.toInt ≤ 1600 := by rw [ev2]; exact y_bY3 bz0
  have eF_3 := ev2
  have e0_v1 := ev1
  have e0_v2 := ev2
  refine th_loop (fun n g H locs => ∃ (G : Nat → va_E) (ls : Array Slot), g = F0 m 0 ls [] ∧ lv_has ls 1 [(0, .ref a0)] ∧ va_P (dC, dI) vwCl (va_pl L G) H ∧ va_S (fun q => q ∈ L) s.heap H locs ∧ y_I K cs A G ∧ (∀ b, K b ∉ [9] → G b = F b) ∧ (∀ k, k ∈ ([1, 3, 4, 5, 6, 7, 8, 11, 15, 16, 19, 25, 26, 27, 31, 32] : List Nat) → y_fi G a0 k = z0 k) ∧ n = (1601 - (y_fi G a0 2).toInt).toNat) _ ⟨F, _, rfl, lv_sub hl [0] rfl, hP, hS, hI, hfr, (fun k hk => (y_fiZ oY0 (s_sub (by decide) hk)).trans (hz0 k hk)), rfl⟩ (fun n ih0 g H locs hq => ?_)
  obtain ⟨F3, ls, rfl, hl, hP, hS, hI, hfr, hz0, hn⟩ := hq
  obtain ⟨z4, q5, oY6, bz7, bq8⟩ := y_opY hI ha0
  have hz0 : ∀ k, k ∈ ([1, 3, 4, 5, 6, 7, 8, 11, 15, 16, 19, 25, 26, 27, 31, 32] : List Nat) → z4 k = z0 k := fun k hk => (y_fiZ oY6 (s_sub (by decide) hk)).symm.trans (hz0 k hk)
  have ev2 : v2 = z4 3 := e0_v2.trans (hz0 3 (by decide)).symm
  obtain ⟨v9, ev9⟩ : ∃ y : Int32, y = z4 2 := ⟨_, rfl⟩
  have qv9 : 0 ≤ v9.toInt ∧ v9.toInt ≤ 1600 := by rw [ev9]; exact y_bY2 bz7
  replace hn : n = (1601 - v9.toInt).toNat := by have q9 := hn; rw [y_fiZ oY6 (k := 2) (by decide), ← ev9] at q9; exact q9
  have hn_9 := hn
  have h10 : (z4 2).toInt = v9.toInt := by rw [ev9]
  refine lv_aload_n hx hb dX7_look_0 rfl (lv_at hl 0 rfl) ?_
  refine th_get (D := (dC, dI)) (ci := 7) (v := .int (z4 2)) (C := RX7) (T := TX7) (N := 34) hx hb hts inX7 hown hK hP (hLK _ ha0 (by decide)) oY6 rfl 2 (by decide) (hts _ T_272) (fun _ h9 => h9) rfl dX7_look_1 ?_
  refine ax_eqi (y := v9) ev9.symm ?_
  refine lv_aload_n hx hb dX7_look_4 rfl (lv_at hl 0 rfl) ?_
  refine th_get (D := (dC, dI)) (ci := 7) (v := .int (z4 3)) (C := RX7) (T := TX7) (N := 34) hx hb hts inX7 hown hK hP (hLK _ ha0 (by decide)) oY6 rfl 3 (by decide) (hts _ T_273) (fun _ h9 => h9) rfl dX7_look_5 ?_
  refine ax_eqi (y := v2) ev2.symm ?_
  refine lv_icmp_ge (tgt := 52) hx hb dX7_look_8 (by decide) (fun c11 => ?_) (fun c11 => ?_)
  · have c11 := Int32.le_iff_toInt_le.mp c11
    refine lv_aload_n hx hb dX7_look_52 rfl (lv_at hl 0 rfl) ?_
    refine th_get (D := (dC, dI)) (ci := 7) (v := .int (z4 2)) (C := RX7) (T := TX7) (N := 34) hx hb hts inX7 hown hK hP (hLK _ ha0 (by decide)) oY6 rfl 2 (by decide) (hts _ T_272) (fun _ h9 => h9) rfl dX7_look_53 ?_
    refine ax_eqi (y := v9) ev9.symm ?_
    refine lv_aload_n hx hb dX7_look_56 rfl (lv_at hl 0 rfl) ?_
    refine th_get (D := (dC, dI)) (ci := 7) (v := .int (z4 3)) (C := RX7) (T := TX7) (N := 34) hx hb hts inX7 hown hK hP (hLK _ ha0 (by decide)) oY6 rfl 3 (by decide) (hts _ T_273) (fun _ h9 => h9) rfl dX7_look_57 ?_
    refine ax_eqi (y := v2) ev2.symm ?_
    refine lv_icmp_ge (tgt := 75) hx hb dX7_look_60 (by decide) (fun c12 => ?_) (fun c12 => ?_)
    · have c12 := Int32.le_iff_toInt_le.mp c12
      refine lv_iconst (v := (-1)) hx hb dX7_look_75 (by decide) ?_
      have h13 : ((-1) : Int32).toInt = (-1) := by decide
      exact W.iret (v := (-1)) hx hb hr (fun t ht hW => ⟨⟨(-1), F3, rfl, ⟨trivial, trivial, hI, hfr, fun k hk => (y_fiZ oY6 (s_sub (by decide) hk)).trans ((hz0 k hk).trans (y_fiZ oY0 (s_sub (by decide) hk)).symm), (by rw [y_fiZ oY6 (k := 2) (by decide), ← ev9, y_fiZ oY6 (k := 3) (by decide), ← ev2]; exact Or.inl (by decide))⟩, by rw [ht]; exact hP, va_K.moved hW.alike hK⟩, hS.F ht⟩) hS.2.2 dX7_look_76
    · have c12 := mt Int32.le_iff_toInt_le.mpr c12
      refine lv_aload_n hx hb dX7_look_63 rfl (lv_at hl 0 rfl) ?_
      refine th_get (D := (dC, dI)) (ci := 7) (v := .ref (A 0)) (C := RX7) (T := TX7) (N := 34) hx hb hts inX7 hown hK hP (hLK _ ha0 (by decide)) oY6 rfl 0 (by decide) (hts _ T_240) (fun _ h9 => h9) rfl dX7_look_64 ?_
      refine lv_aload_n hx hb dX7_look_67 rfl (lv_at hl 0 rfl) ?_
      refine th_get (D := (dC, dI)) (ci := 7) (v := .int (z4 2)) (C := RX7) (T := TX7) (N := 34) hx hb hts inX7 hown hK hP (hLK _ ha0 (by decide)) oY6 rfl 2 (by decide) (hts _ T_272) (fun _ h9 => h9) rfl dX7_look_68 ?_
      refine ax_eqi (y := v9) ev9.symm ?_
      obtain ⟨f14, o15, b16⟩ := y_op0 hI
      refine th_iald hx hb hK hP (hLK _ (y_k0 hA) (by decide)) 0 o15 rfl (th_in ⟨by omega, by omega⟩) dX7_look_71 ?_
      refine lv_topi (fun v17 ev17 => ?_)
      refine lv_goto (tgt := 76) hx hb dX7_look_72 (by decide) ?_
      exact W.iret (v := v17) hx hb hr (fun t ht hW => ⟨⟨v17, F3, rfl, ⟨trivial, trivial, hI, hfr, fun k hk => (y_fiZ oY6 (s_sub (by decide) hk)).trans ((hz0 k hk).trans (y_fiZ oY0 (s_sub (by decide) hk)).symm), (by first | (rw [y_fiZ oY6 (k := 2) (by decide), ← ev9, y_fiZ oY6 (k := 3) (by decide), ← ev2]; omega) | rw [y_fiZ oY6 (k := 2) (by decide), ← ev9, y_fiZ oY6 (k := 3) (by decide), ← ev2])⟩, by rw [ht]; exact hP, va_K.moved hW.alike hK⟩, hS.F ht⟩) hS.2.2 dX7_look_76
  · have c11 := mt Int32.le_iff_toInt_le.mpr c11
    refine lv_aload_n hx hb dX7_look_11 rfl (lv_at hl 0 rfl) ?_
    refine th_get (D := (dC, dI)) (ci := 7) (v := .ref (A 0)) (C := RX7) (T := TX7) (N := 34) hx hb hts inX7 hown hK hP (hLK _ ha0 (by decide)) oY6 rfl 0 (by decide) (hts _ T_240) (fun _ h9 => h9) rfl dX7_look_12 ?_
    refine lv_aload_n hx hb dX7_look_15 rfl (lv_at hl 0 rfl) ?_
    refine th_get (D := (dC, dI)) (ci := 7) (v := .int (z4 2)) (C := RX7) (T := TX7) (N := 34) hx hb hts inX7 hown hK hP (hLK _ ha0 (by decide)) oY6 rfl 2 (by decide) (hts _ T_272) (fun _ h9 => h9) rfl dX7_look_16 ?_
    refine ax_eqi (y := v9) ev9.symm ?_
    obtain ⟨f18, o19, b20⟩ := y_op0 hI
    refine th_iald hx hb hK hP (hLK _ (y_k0 hA) (by decide)) 0 o19 rfl (th_in ⟨by omega, by omega⟩) dX7_look_19 ?_
    refine lv_topi (fun v21 ev21 => ?_)
    refine lv_bipush (v := 10) hx hb dX7_look_20 (by decide) ?_
    refine lv_icmp_eq (tgt := 39) hx hb dX7_look_22 (by decide) (fun c22 => ?_) (fun c22 => ?_)
    · have c22 := (ax_eq (n := 10) (by decide)).mp c22
      refine lv_aload_n hx hb dX7_look_39 rfl (lv_at hl 0 rfl) ?_
      refine lv_dup hx hb dX7_look_40 rfl ?_
      refine th_get (D := (dC, dI)) (ci := 7) (v := .int (z4 2)) (C := RX7) (T := TX7) (N := 34) hx hb hts inX7 hown hK hP (hLK _ ha0 (by decide)) oY6 rfl 2 (by decide) (hts _ T_272) (fun _ h9 => h9) rfl dX7_look_41 ?_
      refine ax_eqi (y := v9) ev9.symm ?_
      refine lv_iconst (v := 1) hx hb dX7_look_44 (by decide) ?_
      refine lv_iadd hx hb dX7_look_45 ?_
      refine lv_topi (fun v23 ev23 => ?_)
      have qv23 : v23.toInt = v9.toInt + 1 := by rw [ev23]; exact th_add rfl (by decide) ⟨by omega, by omega⟩
      refine th_put (D := (dC, dI)) (ci := 7) (v := .int v23) (ty := .int) (C := RX7) (T := TX7) (N := 34) hx hb hts inX7 tyX7 tyX7_ok nmX7 hown hK hP hD hS (hLK _ ha0 (by decide)) oY6 rfl 2 (by decide) (hts _ T_272) (fun _ h9 => h9) rfl (by decide +kernel) rfl rfl (Nat.le_of_ble_eq_true rfl) dX7_look_46 (fun H locs hP hS => ?_)
      rw [y_fs2] at hP
      obtain ⟨z24, hz25⟩ : ∃ g : Nat → Int32, g = upd z4 2 v23 := ⟨_, rfl⟩
      rw [← hz25] at hP
      have bz26 : y_bY z24 := by rw [hz25]; exact y_bp2 bz7 ⟨by omega, by omega⟩
      have hP : va_P (dC, dI) vwCl (va_pl L (va_up F3 a0 (.inr (7, y_fl A z24 q5)))) H := hP
      obtain ⟨F27, hF28⟩ : ∃ G : Nat → va_E, G = va_up F3 a0 (.inr (7, y_fl A z24 q5)) := ⟨_, rfl⟩
      rw [← hF28] at hP
      have hI : y_I K cs A F27 := by rw [hF28]; exact y_clY hA hI ha0 bz26 bq8
      have hfr : ∀ b, K b ∉ [9] → F27 b = F b := by rw [hF28]; exact s_fr hfr ha0 (by decide)
      have o29 : F27 (A 0) = .inl (cs 0, 1600, .inl f18) := by rw [hF28]; exact th_ne (th_kd (y_k0 hA) ha0 (by decide)) o19
      have oY30 : F27 a0 = .inr (7, y_fl A z24 q5) := by rw [hF28]; exact th_up
      have hz0 : ∀ k, k ∈ ([1, 3, 4, 5, 6, 7, 8, 11, 15, 16, 19, 25, 26, 27, 31, 32] : List Nat) → z24 k = z0 k := fun k hk => by rw [hz25]; exact (y_un (fun q => absurd hk (by rw [q]; decide))).trans (hz0 k hk)
      have ev2 : v2 = z24 3 := by rw [hz25]; exact ev2.trans (y_un (by decide)).symm
      obtain ⟨v31, ev31⟩ : ∃ y : Int32, y = z24 2 := ⟨_, rfl⟩
      have qv31 : v31.toInt = v23.toInt := by rw [ev31, hz25, y_ue]
      refine lv_goto (tgt := 0) hx hb dX7_look_49 (by decide) ?_
      have h32 : (y_fi F27 a0 2).toInt = v31.toInt := by rw [y_fiZ oY30 (k := 2) (by decide), ← ev31]
      exact ih0 _ _ _ _ (by omega) ⟨F27, _, rfl, lv_sub hl [0] rfl, hP, hS, hI, hfr, (fun k hk => (y_fiZ oY30 (s_sub (by decide) hk)).trans (hz0 k hk)), rfl⟩
    · have c22 := mt (ax_eq (n := 10) (by decide)).mpr c22
      refine lv_aload_n hx hb dX7_look_25 rfl (lv_at hl 0 rfl) ?_
      refine th_get (D := (dC, dI)) (ci := 7) (v := .ref (A 0)) (C := RX7) (T := TX7) (N := 34) hx hb hts inX7 hown hK hP (hLK _ ha0 (by decide)) oY6 rfl 0 (by decide) (hts _ T_240) (fun _ h9 => h9) rfl dX7_look_26 ?_
      refine lv_aload_n hx hb dX7_look_29 rfl (lv_at hl 0 rfl) ?_
      refine th_get (D := (dC, dI)) (ci := 7) (v := .int (z4 2)) (C := RX7) (T := TX7) (N := 34) hx hb hts inX7 hown hK hP (hLK _ ha0 (by decide)) oY6 rfl 2 (by decide) (hts _ T_272) (fun _ h9 => h9) rfl dX7_look_30 ?_
      refine ax_eqi (y := v9) ev9.symm ?_
      refine th_iald hx hb hK hP (hLK _ (y_k0 hA) (by decide)) 0 o19 rfl (th_in ⟨by omega, by omega⟩) dX7_look_33 ?_
      refine lv_topi (fun v33 ev33 => ?_)
      refine lv_bipush (v := 32) hx hb dX7_look_34 (by decide) ?_
      refine lv_icmp_ne (tgt := 52) hx hb dX7_look_36 (by decide) (fun c34 => ?_) (fun c34 => ?_)
      · have c34 := mt (ax_eq (n := 32) (by decide)).mpr c34
        refine lv_aload_n hx hb dX7_look_52 rfl (lv_at hl 0 rfl) ?_
        refine th_get (D := (dC, dI)) (ci := 7) (v := .int (z4 2)) (C := RX7) (T := TX7) (N := 34) hx hb hts inX7 hown hK hP (hLK _ ha0 (by decide)) oY6 rfl 2 (by decide) (hts _ T_272) (fun _ h9 => h9) rfl dX7_look_53 ?_
        refine ax_eqi (y := v9) ev9.symm ?_
        refine lv_aload_n hx hb dX7_look_56 rfl (lv_at hl 0 rfl) ?_
        refine th_get (D := (dC, dI)) (ci := 7) (v := .int (z4 3)) (C := RX7) (T := TX7) (N := 34) hx hb hts inX7 hown hK hP (hLK _ ha0 (by decide)) oY6 rfl 3 (by decide) (hts _ T_273) (fun _ h9 => h9) rfl dX7_look_57 ?_
        refine ax_eqi (y := v2) ev2.symm ?_
        refine lv_icmp_ge (tgt := 75) hx hb dX7_look_60 (by decide) (fun c35 => ?_) (fun c35 => ?_)
        · have c35 := Int32.le_iff_toInt_le.mp c35
          refine lv_iconst (v := (-1)) hx hb dX7_look_75 (by decide) ?_
          have h36 : ((-1) : Int32).toInt = (-1) := by decide
          exact W.iret (v := (-1)) hx hb hr (fun t ht hW => ⟨⟨(-1), F3, rfl, ⟨trivial, trivial, hI, hfr, fun k hk => (y_fiZ oY6 (s_sub (by decide) hk)).trans ((hz0 k hk).trans (y_fiZ oY0 (s_sub (by decide) hk)).symm), (by rw [y_fiZ oY6 (k := 2) (by decide), ← ev9, y_fiZ oY6 (k := 3) (by decide), ← ev2]; exact Or.inl (by decide))⟩, by rw [ht]; exact hP, va_K.moved hW.alike hK⟩, hS.F ht⟩) hS.2.2 dX7_look_76
        · have c35 := mt Int32.le_iff_toInt_le.mpr c35
          refine lv_aload_n hx hb dX7_look_63 rfl (lv_at hl 0 rfl) ?_
          refine th_get (D := (dC, dI)) (ci := 7) (v := .ref (A 0)) (C := RX7) (T := TX7) (N := 34) hx hb hts inX7 hown hK hP (hLK _ ha0 (by decide)) oY6 rfl 0 (by decide) (hts _ T_240) (fun _ h9 => h9) rfl dX7_look_64 ?_
          refine lv_aload_n hx hb dX7_look_67 rfl (lv_at hl 0 rfl) ?_
          refine th_get (D := (dC, dI)) (ci := 7) (v := .int (z4 2)) (C := RX7) (T := TX7) (N := 34) hx hb hts inX7 hown hK hP (hLK _ ha0 (by decide)) oY6 rfl 2 (by decide) (hts _ T_272) (fun _ h9 => h9) rfl dX7_look_68 ?_
          refine ax_eqi (y := v9) ev9.symm ?_
          refine th_iald hx hb hK hP (hLK _ (y_k0 hA) (by decide)) 0 o19 rfl (th_in ⟨by omega, by omega⟩) dX7_look_71 ?_
          refine lv_topi (fun v37 ev37 => ?_)
          refine lv_goto (tgt := 76) hx hb dX7_look_72 (by decide) ?_
          exact W.iret (v := v37) hx hb hr (fun t ht hW => ⟨⟨v37, F3, rfl, ⟨trivial, trivial, hI, hfr, fun k hk => (y_fiZ oY6 (s_sub (by decide) hk)).trans ((hz0 k hk).trans (y_fiZ oY0 (s_sub (by decide) hk)).symm), (by first | (rw [y_fiZ oY6 (k := 2) (by decide), ← ev9, y_fiZ oY6 (k := 3) (by decide), ← ev2]; omega) | rw [y_fiZ oY6 (k := 2) (by decide), ← ev9, y_fiZ oY6 (k := 3) (by decide), ← ev2])⟩, by rw [ht]; exact hP, va_K.moved hW.alike hK⟩, hS.F ht⟩) hS.2.2 dX7_look_76
      · have c34 := (ax_eq (n := 32) (by decide)).mp c34
        refine lv_aload_n hx hb dX7_look_39 rfl (lv_at hl 0 rfl) ?_
        refine lv_dup hx hb dX7_look_40 rfl ?_
        refine th_get (D := (dC, dI)) (ci := 7) (v := .int (z4 2)) (C := RX7) (T := TX7) (N := 34) hx hb hts inX7 hown hK hP (hLK _ ha0 (by decide)) oY6 rfl 2 (by decide) (hts _ T_272) (fun _ h9 => h9) rfl dX7_look_41 ?_
        refine ax_eqi (y := v9) ev9.symm ?_
        refine lv_iconst (v := 1) hx hb dX7_look_44 (by decide) ?_
        refine lv_iadd hx hb dX7_look_45 ?_
        refine lv_topi (fun v38 ev38 => ?_)
        have qv38 : v38.toInt = v9.toInt + 1 := by rw [ev38]; exact th_add rfl (by decide) ⟨by omega, by omega⟩
        refine th_put (D := (dC, dI)) (ci := 7) (v := .int v38) (ty := .int) (C := RX7) (T := TX7) (N := 34) hx hb hts inX7 tyX7 tyX7_ok nmX7 hown hK hP hD hS (hLK _ ha0 (by decide)) oY6 rfl 2 (by decide) (hts _ T_272) (fun _ h9 => h9) rfl (by decide +kernel) rfl rfl (Nat.le_of_ble_eq_true rfl) dX7_look_46 (fun H locs hP hS => ?_)
        rw [y_fs2] at hP
        obtain ⟨z39, hz40⟩ : ∃ g : Nat → Int32, g = upd z4 2 v38 := ⟨_, rfl⟩
        rw [← hz40] at hP
        have bz41 : y_bY z39 := by rw [hz40]; exact y_bp2 bz7 ⟨by omega, by omega⟩
        have hP : va_P (dC, dI) vwCl (va_pl L (va_up F3 a0 (.inr (7, y_fl A z39 q5)))) H := hP
        obtain ⟨F42, hF43⟩ : ∃ G : Nat → va_E, G = va_up F3 a0 (.inr (7, y_fl A z39 q5)) := ⟨_, rfl⟩
        rw [← hF43] at hP
        have hI : y_I K cs A F42 := by rw [hF43]; exact y_clY hA hI ha0 bz41 bq8
        have hfr : ∀ b, K b ∉ [9] → F42 b = F b := by rw [hF43]; exact s_fr hfr ha0 (by decide)
        have o44 : F42 (A 0) = .inl (cs 0, 1600, .inl f18) := by rw [hF43]; exact th_ne (th_kd (y_k0 hA) ha0 (by decide)) o19
        have oY45 : F42 a0 = .inr (7, y_fl A z39 q5) := by rw [hF43]; exact th_up
        have hz0 : ∀ k, k ∈ ([1, 3, 4, 5, 6, 7, 8, 11, 15, 16, 19, 25, 26, 27, 31, 32] : List Nat) → z39 k = z0 k := fun k hk => by rw [hz40]; exact (y_un (fun q => absurd hk (by rw [q]; decide))).trans (hz0 k hk)
        have ev2 : v2 = z39 3 := by rw [hz40]; exact ev2.trans (y_un (by decide)).symm
        obtain ⟨v46, ev46⟩ : ∃ y : Int32, y = z39 2 := ⟨_, rfl⟩
        have qv46 : v46.toInt = v38.toInt := by rw [ev46, hz40, y_ue]
        refine lv_goto (tgt := 0) hx hb dX7_look_49 (by decide) ?_
        have h47 : (y_fi F42 a0 2).toInt = v46.toInt := by rw [y_fiZ oY45 (k := 2) (by decide), ← ev46]
        exact ih0 _ _ _ _ (by omega) ⟨F42, _, rfl, lv_sub hl [0] rfl, hP, hS, hI, hfr, (fun k hk => (y_fiZ oY45 (s_sub (by decide) hk)).trans (hz0 k hk)), rfl⟩

set_option maxHeartbeats 4000000 in
set_option maxRecDepth 100000 in
theorem y_X7_isWordHere (l : Launch) (dC : Nat → ClassId) (dI : Nat → Nat → Nat) (sz : Nat) {L : List Nat} {K : Nat → Nat} {cs : Nat → ClassId} (hLK : ∀ a {k : Nat}, K a = k → k ≠ 0 → a ∈ L) (A : Nat → Nat) (hA : y_A K A) (F : Nat → va_E) (a0 : Nat) (ha0 : K a0 = 9) (hI : y_I K cs A F) : Met l yX7_isWordHere (Cond.code yX7_isWordHere cX7_isWordHere 1 (some .boolean) :: T0) ({ frames := 1, cells := 0, slots := 0, locals := 20 }) (va_Pc [.ref a0] (s_W dC dI sz L F [(cs 0, .int), (cs 1, .byte), (cs 2, .long), (cs 3, .object RX5), (cs 4, .object RX4), (cs 5, .array .int), (cs 6, .char), (cs 7, .boolean)])) (va_Qi (fun (r : Int32) (G : Nat → va_E) => (0 ≤ r.toInt ∧ r.toInt ≤ 1) ∧ True ∧ y_I K cs A G ∧ (∀ b, K b ∉ [9] → G b = F b) ∧ (∀ k, k ∈ ([1, 3, 4, 5, 6, 7, 8, 11, 15, 16, 19, 25, 26, 27, 31, 32] : List Nat) → y_fi G a0 k = y_fi F a0 k) ∧ (r.toInt = 0 ∨ (y_fi G a0 2).toInt < (y_fi G a0 3).toInt)) (fun (G : Nat → va_E) (t : State) => va_P (dC, dI) vwCl (va_pl L G) t.heap ∧ va_K (dC, dI) vwCl [(cs 0, .int), (cs 1, .byte), (cs 2, .long), (cs 3, .object RX5), (cs 4, .object RX4), (cs 5, .array .int), (cs 6, .char), (cs 7, .boolean)] t) (fun q => q ∈ L)) 0 0 (fun q => q ∈ L) := by
  refine Met.ofW (cc := cX7_isWordHere) (maxL := 1) (ret := (some .boolean)) (by decide) rfl ?_
  intro p e s m args below meth c s₁ B hml hv
  obtain ⟨rfl, hsz, hP, hK, hD, hN⟩ := hv
  have hx := B.exec
  have hb := B.bytes
  have hr := B.returns
  have hts : ∀ w ∈ T0, w.before _ s = true := fun w h => atoms_spec (ws := Cond.code yX7_isWordHere cX7_isWordHere 1 (some .boolean) :: T0) B.pre w (List.mem_cons_of_mem _ h)
  have hown : s.vm.findClass RX7 = some m.cls := findClass_of_methodNamed B.named
  have hlocks := B.notSynchronized
  have hS : va_S (fun q => q ∈ L) s.heap s.heap [] := va_S.rf
  have hfr : ∀ b, K b ∉ [9] → F b = F b := fun _ _ => rfl
  have hl := lv_entry ([.ref a0]) (n := 1) (Nat.le_of_ble_eq_true rfl)
  rw [lg_entry_eq]
  generalize (lg_sl ([.ref a0]) ++ List.replicate (1 - (lg_sl ([.ref a0])).length) Slot.unset).toArray = ls at hl ⊢
  have hl : lv_has ls 1 [(0, .ref a0)] := hl
  refine s_gen hP hS (fun H locs hP hS => ?_)
  obtain ⟨z0, q0, oY0, bz0, bq0⟩ := y_opY hI ha0
  have hz0 : ∀ k, k ∈ ([1, 3, 4, 5, 6, 7, 8, 11, 15, 16, 19, 25, 26, 27, 31, 32] : List Nat) → z0 k = z0 k := fun _ _ => rfl
  obtain ⟨v1, ev1⟩ : ∃ y : Int32, y = z0 2 := ⟨_, rfl⟩
  have qv1 : 0 ≤ v1.toInt ∧ v1.toInt ≤ 1600 := by rw [ev1]; exact y_bY2 bz0
  have eF_2 := ev1
  obtain ⟨v2, ev2⟩ : ∃ y : Int32, y = z0 3 := ⟨_, rfl⟩
  have qv2 : 0 ≤ v2.toInt ∧ v2.toInt ≤ 1600 := by rw [ev2]; exact y_bY3 bz0
  have eF_3 := ev2
  have e0_v1 := ev1
  have e0_v2 := ev2
  refine lv_aload_n hx hb dX7_isWordHere_0 rfl (lv_at hl 0 rfl) ?_
  refine th_get (D := (dC, dI)) (ci := 7) (v := .int (z0 5)) (C := RX7) (T := TX7) (N := 34) hx hb hts inX7 hown hK hP (hLK _ ha0 (by decide)) oY0 rfl 5 (by decide) (hts _ T_274) (fun _ h9 => h9) rfl dX7_isWordHere_1 ?_
  refine lv_topi (fun v3 ev3 => ?_)
  refine lv_if_ne (tgt := 32) hx hb dX7_isWordHere_4 (by decide) (fun c4 => ?_) (fun c4 => ?_)
  · have c4 := mt (ax_eq (n := 0) (by decide)).mpr c4
    refine lv_iconst (v := 0) hx hb dX7_isWordHere_32 (by decide) ?_
    have h5 : (0 : Int32).toInt = 0 := by decide
    exact W.zret (v := 0) (ty := .boolean) hx hb hr (by decide) (fun t ht hW => ⟨⟨0, F, rfl, ⟨(by decide), trivial, hI, hfr, fun k hk => (y_fiZ oY0 (s_sub (by decide) hk)).trans ((hz0 k hk).trans (y_fiZ oY0 (s_sub (by decide) hk)).symm), (by rw [y_fiZ oY0 (k := 2) (by decide), ← ev1, y_fiZ oY0 (k := 3) (by decide), ← ev2]; exact Or.inl (by decide))⟩, by rw [ht]; exact hP, va_K.moved hW.alike hK⟩, hS.F ht⟩) hS.2.2 dX7_isWordHere_33
  · have c4 := (ax_eq (n := 0) (by decide)).mp c4
    refine lv_aload_n hx hb dX7_isWordHere_7 rfl (lv_at hl 0 rfl) ?_
    refine va_calli (va_runV (As := []) (rest := []) ⟨hx, hb, hml, hown, hts⟩ (y_X7_look l dC dI H.size hLK A hA F a0 ha0 hI) (cwV 0 hts (ax_gV T_275 T_276 T_277 T_265 T_22) rfl rfl rfl (by decide +kernel) ⟨Nat.le_of_ble_eq_true rfl, Nat.le_of_ble_eq_true rfl⟩) ⟨fun a U g mk q => ⟨q.1, s_pc (U := U) rfl rfl q.2⟩, s_recv hK hP (hLK _ ha0 (by decide)) (ci := 7) rfl oY0, fun U hU hW => ⟨rfl, s_pw hU hW hP hK hD hN⟩⟩ rfl rfl hl.1 rfl (lv_room (Nat.le_of_ble_eq_true rfl)) dX7_isWordHere_8 ⟨Nat.zero_le _, Nat.zero_le _⟩) hS (fun q _ h => h) (fun q h => h) (fun r7 F8 t H1 locs ht hvm hw hB hz1 hk1 hS => ?_)
    obtain ⟨hP, hK1⟩ := hB
    rw [ht] at hP
    generalize H1 = H at hP hS ⊢
    clear hz1 hk1 hvm hK1
    obtain ⟨h9, h11, hI, hfr1, hzf, h10⟩ := hw
    obtain ⟨z12, q13, oY14, bz15, bq16⟩ := y_opY hI ha0
    have hzf : ∀ k, k ∈ ([1, 3, 4, 5, 6, 7, 8, 11, 15, 16, 19, 25, 26, 27, 31, 32] : List Nat) → z12 k = z0 k := fun k hk => by have q9 := hzf k hk; rw [y_fiZ oY14 (s_sub (by decide) hk), y_fiZ oY0 (s_sub (by decide) hk)] at q9; exact q9
    have hz0 : ∀ k, k ∈ ([1, 3, 4, 5, 6, 7, 8, 11, 15, 16, 19, 25, 26, 27, 31, 32] : List Nat) → z12 k = z0 k := fun k hk => (hzf k (s_sub (by decide) hk)).trans (hz0 k hk)
    have ev2 : v2 = z12 3 := ev2.trans (hzf 3 (by decide)).symm
    have ev3 : v3 = z12 5 := ev3.trans (hzf 5 (by decide)).symm
    have hfr : ∀ b, K b ∉ [9] → F8 b = F b := fun b hb9 => (hfr1 b (fun q => hb9 (s_sub (by decide) q))).trans (hfr b hb9)
    obtain ⟨v17, ev17⟩ : ∃ y : Int32, y = z12 2 := ⟨_, rfl⟩
    have qv17 : 0 ≤ v17.toInt ∧ v17.toInt ≤ 1600 := by rw [ev17]; exact y_bY2 bz15
    replace h10 : (r7.toInt = -1 ∨ v17.toInt < v2.toInt) := by have q9 := h10; rw [y_fiZ oY14 (k := 2) (by decide), ← ev17, y_fiZ oY14 (k := 3) (by decide), ← ev2] at q9; exact q9
    refine va_calli (va_runS (As := [.int r7]) (rest := []) ⟨hx, hb, hml, hown, hts⟩ (y_X7_isLetter l dC dI H.size F8 r7) (cwS 1 hts (ax_gS T_278 T_279 T_265 T_23) rfl rfl rfl (by decide +kernel) ⟨Nat.le_of_ble_eq_true rfl, Nat.le_of_ble_eq_true rfl⟩) ⟨fun a U g mk q => ⟨q.1, s_pc (U := U) rfl rfl q.2⟩, fun U hU hW => ⟨rfl, s_pw hU hW hP hK hD hN⟩⟩ rfl rfl hl.1 rfl (lv_room (Nat.le_of_ble_eq_true rfl)) dX7_isWordHere_11 ⟨Nat.zero_le _, Nat.zero_le _⟩) hS (fun q _ h => h) (fun q h => h) (fun r19 F20 t H1 locs ht hvm hw hB hz1 hk1 hS => ?_)
    obtain ⟨hP, hK1⟩ := hB
    rw [ht] at hP
    generalize H1 = H at hP hS ⊢
    clear hz1 hk1 hvm hK1
    obtain ⟨h21, h23, hG9, h22⟩ := hw
    rw [hG9] at hP
    refine lv_if_eq (tgt := 32) hx hb dX7_isWordHere_14 (by decide) (fun c24 => ?_) (fun c24 => ?_)
    · have c24 := (ax_eq (n := 0) (by decide)).mp c24
      refine lv_iconst (v := 0) hx hb dX7_isWordHere_32 (by decide) ?_
      have h25 : (0 : Int32).toInt = 0 := by decide
      exact W.zret (v := 0) (ty := .boolean) hx hb hr (by decide) (fun t ht hW => ⟨⟨0, F8, rfl, ⟨(by decide), trivial, hI, hfr, fun k hk => (y_fiZ oY14 (s_sub (by decide) hk)).trans ((hz0 k hk).trans (y_fiZ oY0 (s_sub (by decide) hk)).symm), (by rw [y_fiZ oY14 (k := 2) (by decide), ← ev17, y_fiZ oY14 (k := 3) (by decide), ← ev2]; exact Or.inl (by decide))⟩, by rw [ht]; exact hP, va_K.moved hW.alike hK⟩, hS.F ht⟩) hS.2.2 dX7_isWordHere_33
    · have c24 := mt (ax_eq (n := 0) (by decide)).mpr c24
      have h26 := h23 (fun q => c24 (by rw [q]; decide))
      refine lv_aload_n hx hb dX7_isWordHere_17 rfl (lv_at hl 0 rfl) ?_
      refine th_get (D := (dC, dI)) (ci := 7) (v := .int (z12 2)) (C := RX7) (T := TX7) (N := 34) hx hb hts inX7 hown hK hP (hLK _ ha0 (by decide)) oY14 rfl 2 (by decide) (hts _ T_272) (fun _ h9 => h9) rfl dX7_isWordHere_18 ?_
      refine ax_eqi (y := v17) ev17.symm ?_
      refine lv_aload_n hx hb dX7_isWordHere_21 rfl (lv_at hl 0 rfl) ?_
      refine th_get (D := (dC, dI)) (ci := 7) (v := .int (z12 4)) (C := RX7) (T := TX7) (N := 34) hx hb hts inX7 hown hK hP (hLK _ ha0 (by decide)) oY14 rfl 4 (by decide) (hts _ T_296) (fun _ h9 => h9) rfl dX7_isWordHere_22 ?_
      refine lv_topi (fun v27 ev27 => ?_)
      refine lv_icmp_eq (tgt := 32) hx hb dX7_isWordHere_25 (by decide) (fun c28 => ?_) (fun c28 => ?_)
      · have c28 := Int32.toInt_inj.symm.mp c28
        refine lv_iconst (v := 0) hx hb dX7_isWordHere_32 (by decide) ?_
        have h29 : (0 : Int32).toInt = 0 := by decide
        exact W.zret (v := 0) (ty := .boolean) hx hb hr (by decide) (fun t ht hW => ⟨⟨0, F8, rfl, ⟨(by decide), trivial, hI, hfr, fun k hk => (y_fiZ oY14 (s_sub (by decide) hk)).trans ((hz0 k hk).trans (y_fiZ oY0 (s_sub (by decide) hk)).symm), (by rw [y_fiZ oY14 (k := 2) (by decide), ← ev17, y_fiZ oY14 (k := 3) (by decide), ← ev2]; exact Or.inl (by decide))⟩, by rw [ht]; exact hP, va_K.moved hW.alike hK⟩, hS.F ht⟩) hS.2.2 dX7_isWordHere_33
      · have c28 := mt Int32.toInt_inj.symm.mpr c28
        refine lv_iconst (v := 1) hx hb dX7_isWordHere_28 (by decide) ?_
        refine lv_goto (tgt := 33) hx hb dX7_isWordHere_29 (by decide) ?_
        have h30 : (1 : Int32).toInt = 1 := by decide
        exact W.zret (v := 1) (ty := .boolean) hx hb hr (by decide) (fun t ht hW => ⟨⟨1, F8, rfl, ⟨(by decide), trivial, hI, hfr, fun k hk => (y_fiZ oY14 (s_sub (by decide) hk)).trans ((hz0 k hk).trans (y_fiZ oY0 (s_sub (by decide) hk)).symm), (by rw [y_fiZ oY14 (k := 2) (by decide), ← ev17, y_fiZ oY14 (k := 3) (by decide), ← ev2]; exact Or.inr (by omega))⟩, by rw [ht]; exact hP, va_K.moved hW.alike hK⟩, hS.F ht⟩) hS.2.2 dX7_isWordHere_33

set_option maxHeartbeats 4000000 in
set_option maxRecDepth 100000 in
theorem y_X7_takesSign (l : Launch) (dC : Nat → ClassId) (dI : Nat → Nat → Nat) (sz : Nat) {L : List Nat} {K : Nat → Nat} {cs : Nat → ClassId} (hLK : ∀ a {k : Nat}, K a = k → k ≠ 0 → a ∈ L) (A : Nat → Nat) (hA : y_A K A) (F : Nat → va_E) (a0 : Nat) (x1 : Int32) (ha0 : K a0 = 9) (hx1 : 0 ≤ x1.toInt ∧ x1.toInt ≤ 127) (hI : y_I K cs A F) : Met l yX7_takesSign (Cond.code yX7_takesSign cX7_takesSign 2 (some .boolean) :: T0) ({ frames := 1, cells := 0, slots := 0, locals := 20 }) (va_Pc [.ref a0, .int x1] (s_W dC dI sz L F [(cs 0, .int), (cs 1, .byte), (cs 2, .long), (cs 3, .object RX5), (cs 4, .object RX4), (cs 5, .array .int), (cs 6, .char), (cs 7, .boolean)])) (va_Qi (fun (r : Int32) (G : Nat → va_E) => (0 ≤ r.toInt ∧ r.toInt ≤ 1) ∧ True ∧ y_I K cs A G ∧ (∀ b, K b ∉ [9] → G b = F b) ∧ (∀ k, k ∈ ([1, 3, 4, 5, 6, 7, 8, 11, 15, 16, 19, 25, 26, 27, 31, 32] : List Nat) → y_fi G a0 k = y_fi F a0 k) ∧ True) (fun (G : Nat → va_E) (t : State) => va_P (dC, dI) vwCl (va_pl L G) t.heap ∧ va_K (dC, dI) vwCl [(cs 0, .int), (cs 1, .byte), (cs 2, .long), (cs 3, .object RX5), (cs 4, .object RX4), (cs 5, .array .int), (cs 6, .char), (cs 7, .boolean)] t) (fun q => q ∈ L)) 0 0 (fun q => q ∈ L) := by
  refine Met.ofW (cc := cX7_takesSign) (maxL := 2) (ret := (some .boolean)) (by decide) rfl ?_
  intro p e s m args below meth c s₁ B hml hv
  obtain ⟨rfl, hsz, hP, hK, hD, hN⟩ := hv
  have hx := B.exec
  have hb := B.bytes
  have hr := B.returns
  have hts : ∀ w ∈ T0, w.before _ s = true := fun w h => atoms_spec (ws := Cond.code yX7_takesSign cX7_takesSign 2 (some .boolean) :: T0) B.pre w (List.mem_cons_of_mem _ h)
  have hown : s.vm.findClass RX7 = some m.cls := findClass_of_methodNamed B.named
  have hlocks := B.notSynchronized
  have hS : va_S (fun q => q ∈ L) s.heap s.heap [] := va_S.rf
  have hfr : ∀ b, K b ∉ [9] → F b = F b := fun _ _ => rfl
  have hl := lv_entry ([.ref a0, .int x1]) (n := 2) (Nat.le_of_ble_eq_true rfl)
  rw [lg_entry_eq]
  generalize (lg_sl ([.ref a0, .int x1]) ++ List.replicate (2 - (lg_sl ([.ref a0, .int x1])).length) Slot.unset).toArray = ls at hl ⊢
  have hl : lv_has ls 2 [(0, .ref a0), (1, .int x1)] := hl
  refine s_gen hP hS (fun H locs hP hS => ?_)
  obtain ⟨z0, q0, oY0, bz0, bq0⟩ := y_opY hI ha0
  have hz0 : ∀ k, k ∈ ([1, 3, 4, 5, 6, 7, 8, 11, 15, 16, 19, 25, 26, 27, 31, 32] : List Nat) → z0 k = z0 k := fun _ _ => rfl
  refine lv_aload_n hx hb dX7_takesSign_0 rfl (lv_at hl 0 rfl) ?_
  refine th_get (D := (dC, dI)) (ci := 7) (v := .int (z0 5)) (C := RX7) (T := TX7) (N := 34) hx hb hts inX7 hown hK hP (hLK _ ha0 (by decide)) oY0 rfl 5 (by decide) (hts _ T_274) (fun _ h9 => h9) rfl dX7_takesSign_1 ?_
  refine lv_topi (fun v1 ev1 => ?_)
  refine lv_if_ne (tgt := 15) hx hb dX7_takesSign_4 (by decide) (fun c2 => ?_) (fun c2 => ?_)
  · have c2 := mt (ax_eq (n := 0) (by decide)).mpr c2
    refine lv_iconst (v := 0) hx hb dX7_takesSign_15 (by decide) ?_
    have h3 : (0 : Int32).toInt = 0 := by decide
    exact W.zret (v := 0) (ty := .boolean) hx hb hr (by decide) (fun t ht hW => ⟨⟨0, F, rfl, ⟨(by decide), trivial, hI, hfr, fun k hk => (y_fiZ oY0 (s_sub (by decide) hk)).trans ((hz0 k hk).trans (y_fiZ oY0 (s_sub (by decide) hk)).symm), trivial⟩, by rw [ht]; exact hP, va_K.moved hW.alike hK⟩, hS.F ht⟩) hS.2.2 dX7_takesSign_16
  · have c2 := (ax_eq (n := 0) (by decide)).mp c2
    refine lv_aload_n hx hb dX7_takesSign_7 rfl (lv_at hl 0 rfl) ?_
    refine va_calli (va_runV (As := []) (rest := []) ⟨hx, hb, hml, hown, hts⟩ (y_X7_look l dC dI H.size hLK A hA F a0 ha0 hI) (cwV 0 hts (ax_gV T_275 T_276 T_277 T_265 T_22) rfl rfl rfl (by decide +kernel) ⟨Nat.le_of_ble_eq_true rfl, Nat.le_of_ble_eq_true rfl⟩) ⟨fun a U g mk q => ⟨q.1, s_pc (U := U) rfl rfl q.2⟩, s_recv hK hP (hLK _ ha0 (by decide)) (ci := 7) rfl oY0, fun U hU hW => ⟨rfl, s_pw hU hW hP hK hD hN⟩⟩ rfl rfl hl.1 rfl (lv_room (Nat.le_of_ble_eq_true rfl)) dX7_takesSign_8 ⟨Nat.zero_le _, Nat.zero_le _⟩) hS (fun q _ h => h) (fun q h => h) (fun r5 F6 t H1 locs ht hvm hw hB hz1 hk1 hS => ?_)
    obtain ⟨hP, hK1⟩ := hB
    rw [ht] at hP
    generalize H1 = H at hP hS ⊢
    clear hz1 hk1 hvm hK1
    obtain ⟨h7, h9, hI, hfr1, hzf, h8⟩ := hw
    obtain ⟨z10, q11, oY12, bz13, bq14⟩ := y_opY hI ha0
    have hzf : ∀ k, k ∈ ([1, 3, 4, 5, 6, 7, 8, 11, 15, 16, 19, 25, 26, 27, 31, 32] : List Nat) → z10 k = z0 k := fun k hk => by have q9 := hzf k hk; rw [y_fiZ oY12 (s_sub (by decide) hk), y_fiZ oY0 (s_sub (by decide) hk)] at q9; exact q9
    have hz0 : ∀ k, k ∈ ([1, 3, 4, 5, 6, 7, 8, 11, 15, 16, 19, 25, 26, 27, 31, 32] : List Nat) → z10 k = z0 k := fun k hk => (hzf k (s_sub (by decide) hk)).trans (hz0 k hk)
    have ev1 : v1 = z10 5 := ev1.trans (hzf 5 (by decide)).symm
    have hfr : ∀ b, K b ∉ [9] → F6 b = F b := fun b hb9 => (hfr1 b (fun q => hb9 (s_sub (by decide) q))).trans (hfr b hb9)
    obtain ⟨v15, ev15⟩ : ∃ y : Int32, y = z10 2 := ⟨_, rfl⟩
    have qv15 : 0 ≤ v15.toInt ∧ v15.toInt ≤ 1600 := by rw [ev15]; exact y_bY2 bz13
    obtain ⟨v16, ev16⟩ : ∃ y : Int32, y = z10 3 := ⟨_, rfl⟩
    have qv16 : 0 ≤ v16.toInt ∧ v16.toInt ≤ 1600 := by rw [ev16]; exact y_bY3 bz13
    replace h8 : (r5.toInt = -1 ∨ v15.toInt < v16.toInt) := by have q9 := h8; rw [y_fiZ oY12 (k := 2) (by decide), ← ev15, y_fiZ oY12 (k := 3) (by decide), ← ev16] at q9; exact q9
    refine lv_iload_n hx hb dX7_takesSign_11 rfl (lv_at hl 1 rfl) ?_
    refine lv_icmp_eq (tgt := 17) hx hb dX7_takesSign_12 (by decide) (fun c17 => ?_) (fun c17 => ?_)
    · have c17 := Int32.toInt_inj.symm.mp c17
      refine lv_aload_n hx hb dX7_takesSign_17 rfl (lv_at hl 0 rfl) ?_
      refine lv_dup hx hb dX7_takesSign_18 rfl ?_
      refine th_get (D := (dC, dI)) (ci := 7) (v := .int (z10 2)) (C := RX7) (T := TX7) (N := 34) hx hb hts inX7 hown hK hP (hLK _ ha0 (by decide)) oY12 rfl 2 (by decide) (hts _ T_272) (fun _ h9 => h9) rfl dX7_takesSign_19 ?_
      refine ax_eqi (y := v15) ev15.symm ?_
      refine lv_iconst (v := 1) hx hb dX7_takesSign_22 (by decide) ?_
      refine lv_iadd hx hb dX7_takesSign_23 ?_
      refine lv_topi (fun v18 ev18 => ?_)
      have qv18 : v18.toInt = v15.toInt + 1 := by rw [ev18]; exact th_add rfl (by decide) ⟨by omega, by omega⟩
      refine th_put (D := (dC, dI)) (ci := 7) (v := .int v18) (ty := .int) (C := RX7) (T := TX7) (N := 34) hx hb hts inX7 tyX7 tyX7_ok nmX7 hown hK hP hD hS (hLK _ ha0 (by decide)) oY12 rfl 2 (by decide) (hts _ T_272) (fun _ h9 => h9) rfl (by decide +kernel) rfl rfl (Nat.le_of_ble_eq_true rfl) dX7_takesSign_24 (fun H locs hP hS => ?_)
      rw [y_fs2] at hP
      obtain ⟨z19, hz20⟩ : ∃ g : Nat → Int32, g = upd z10 2 v18 := ⟨_, rfl⟩
      rw [← hz20] at hP
      have bz21 : y_bY z19 := by rw [hz20]; exact y_bp2 bz13 ⟨by omega, by omega⟩
      have hP : va_P (dC, dI) vwCl (va_pl L (va_up F6 a0 (.inr (7, y_fl A z19 q11)))) H := hP
      obtain ⟨F22, hF23⟩ : ∃ G : Nat → va_E, G = va_up F6 a0 (.inr (7, y_fl A z19 q11)) := ⟨_, rfl⟩
      rw [← hF23] at hP
      have hI : y_I K cs A F22 := by rw [hF23]; exact y_clY hA hI ha0 bz21 bq14
      have hfr : ∀ b, K b ∉ [9] → F22 b = F b := by rw [hF23]; exact s_fr hfr ha0 (by decide)
      have oY24 : F22 a0 = .inr (7, y_fl A z19 q11) := by rw [hF23]; exact th_up
      have hz0 : ∀ k, k ∈ ([1, 3, 4, 5, 6, 7, 8, 11, 15, 16, 19, 25, 26, 27, 31, 32] : List Nat) → z19 k = z0 k := fun k hk => by rw [hz20]; exact (y_un (fun q => absurd hk (by rw [q]; decide))).trans (hz0 k hk)
      have ev1 : v1 = z19 5 := by rw [hz20]; exact ev1.trans (y_un (by decide)).symm
      have ev16 : v16 = z19 3 := by rw [hz20]; exact ev16.trans (y_un (by decide)).symm
      obtain ⟨v25, ev25⟩ : ∃ y : Int32, y = z19 2 := ⟨_, rfl⟩
      have qv25 : v25.toInt = v18.toInt := by rw [ev25, hz20, y_ue]
      refine lv_iconst (v := 1) hx hb dX7_takesSign_27 (by decide) ?_
      have h26 : (1 : Int32).toInt = 1 := by decide
      exact W.zret (v := 1) (ty := .boolean) hx hb hr (by decide) (fun t ht hW => ⟨⟨1, F22, rfl, ⟨(by decide), trivial, hI, hfr, fun k hk => (y_fiZ oY24 (s_sub (by decide) hk)).trans ((hz0 k hk).trans (y_fiZ oY0 (s_sub (by decide) hk)).symm), trivial⟩, by rw [ht]; exact hP, va_K.moved hW.alike hK⟩, hS.F ht⟩) hS.2.2 dX7_takesSign_28
    · have c17 := mt Int32.toInt_inj.symm.mpr c17
      refine lv_iconst (v := 0) hx hb dX7_takesSign_15 (by decide) ?_
      have h27 : (0 : Int32).toInt = 0 := by decide
      exact W.zret (v := 0) (ty := .boolean) hx hb hr (by decide) (fun t ht hW => ⟨⟨0, F6, rfl, ⟨(by decide), trivial, hI, hfr, fun k hk => (y_fiZ oY12 (s_sub (by decide) hk)).trans ((hz0 k hk).trans (y_fiZ oY0 (s_sub (by decide) hk)).symm), trivial⟩, by rw [ht]; exact hP, va_K.moved hW.alike hK⟩, hS.F ht⟩) hS.2.2 dX7_takesSign_16

set_option maxHeartbeats 4000000 in
set_option maxRecDepth 100000 in
theorem y_X7_asksSign (l : Launch) (dC : Nat → ClassId) (dI : Nat → Nat → Nat) (sz : Nat) {L : List Nat} {K : Nat → Nat} {cs : Nat → ClassId} (hLK : ∀ a {k : Nat}, K a = k → k ≠ 0 → a ∈ L) (A : Nat → Nat) (hA : y_A K A) (F : Nat → va_E) (a0 : Nat) (x1 : Int32) (ha0 : K a0 = 9) (hx1 : 0 ≤ x1.toInt ∧ x1.toInt ≤ 127) (hI : y_I K cs A F) : Met l yX7_asksSign (Cond.code yX7_asksSign cX7_asksSign 2 none :: T0) ({ frames := 2, cells := 0, slots := 0, locals := 41 }) (va_Pc [.ref a0, .int x1] (s_W dC dI sz L F [(cs 0, .int), (cs 1, .byte), (cs 2, .long), (cs 3, .object RX5), (cs 4, .object RX4), (cs 5, .array .int), (cs 6, .char), (cs 7, .boolean)])) (va_Qv (fun (G : Nat → va_E) => True ∧ True ∧ y_I K cs A G ∧ (∀ b, K b ∉ [9] → G b = F b) ∧ (∀ k, k ∈ ([1, 3, 4, 7, 8, 11, 15, 16, 19, 25, 26, 27, 31, 32] : List Nat) → y_fi G a0 k = y_fi F a0 k) ∧ ((y_fi F a0 5).toInt = 0 ∨ ¬ (y_fi G a0 5).toInt = 0)) (fun (G : Nat → va_E) (t : State) => va_P (dC, dI) vwCl (va_pl L G) t.heap ∧ va_K (dC, dI) vwCl [(cs 0, .int), (cs 1, .byte), (cs 2, .long), (cs 3, .object RX5), (cs 4, .object RX4), (cs 5, .array .int), (cs 6, .char), (cs 7, .boolean)] t) (fun q => q ∈ L)) 0 0 (fun q => q ∈ L) := by
  refine Met.ofW (cc := cX7_asksSign) (maxL := 2) (ret := none) (by decide) rfl ?_
  intro p e s m args below meth c s₁ B hml hv
  obtain ⟨rfl, hsz, hP, hK, hD, hN⟩ := hv
  have hx := B.exec
  have hb := B.bytes
  have hr := B.returns
  have hts : ∀ w ∈ T0, w.before _ s = true := fun w h => atoms_spec (ws := Cond.code yX7_asksSign cX7_asksSign 2 none :: T0) B.pre w (List.mem_cons_of_mem _ h)
  have hown : s.vm.findClass RX7 = some m.cls := findClass_of_methodNamed B.named
  have hlocks := B.notSynchronized
  have hS : va_S (fun q => q ∈ L) s.heap s.heap [] := va_S.rf
  have hfr : ∀ b, K b ∉ [9] → F b = F b := fun _ _ => rfl
  have hl := lv_entry ([.ref a0, .int x1]) (n := 2) (Nat.le_of_ble_eq_true rfl)
  rw [lg_entry_eq]
  generalize (lg_sl ([.ref a0, .int x1]) ++ List.replicate (2 - (lg_sl ([.ref a0, .int x1])).length) Slot.unset).toArray = ls at hl ⊢
  have hl : lv_has ls 2 [(0, .ref a0), (1, .int x1)] := hl
  refine s_gen hP hS (fun H locs hP hS => ?_)
  obtain ⟨z0, q0, oY0, bz0, bq0⟩ := y_opY hI ha0
  have hz0 : ∀ k, k ∈ ([1, 3, 4, 7, 8, 11, 15, 16, 19, 25, 26, 27, 31, 32] : List Nat) → z0 k = z0 k := fun _ _ => rfl
  obtain ⟨v1, ev1⟩ : ∃ y : Int32, y = z0 5 := ⟨_, rfl⟩
  have eF_5 := ev1
  have e0_v1 := ev1
  refine lv_aload_n hx hb dX7_asksSign_0 rfl (lv_at hl 0 rfl) ?_
  refine th_get (D := (dC, dI)) (ci := 7) (v := .int (z0 5)) (C := RX7) (T := TX7) (N := 34) hx hb hts inX7 hown hK hP (hLK _ ha0 (by decide)) oY0 rfl 5 (by decide) (hts _ T_274) (fun _ h9 => h9) rfl dX7_asksSign_1 ?_
  refine ax_eqi (y := v1) ev1.symm ?_
  refine lv_if_ne (tgt := 24) hx hb dX7_asksSign_4 (by decide) (fun c2 => ?_) (fun c2 => ?_)
  · have c2 := mt (ax_eq (n := 0) (by decide)).mpr c2
    exact W.vret hx hb hr (fun t ht hW => ⟨⟨F, rfl, ⟨trivial, trivial, hI, hfr, fun k hk => (y_fiZ oY0 (s_sub (by decide) hk)).trans ((hz0 k hk).trans (y_fiZ oY0 (s_sub (by decide) hk)).symm), (by first | (rw [y_fiZ oY0 (k := 5) (by decide), ← eF_5]; omega) | rw [y_fiZ oY0 (k := 5) (by decide), ← eF_5])⟩, by rw [ht]; exact hP, va_K.moved hW.alike hK⟩, hS.F ht⟩) hS.2.2 dX7_asksSign_24
  · have c2 := (ax_eq (n := 0) (by decide)).mp c2
    refine lv_aload_n hx hb dX7_asksSign_7 rfl (lv_at hl 0 rfl) ?_
    refine lv_iload_n hx hb dX7_asksSign_8 rfl (lv_at hl 1 rfl) ?_
    have rg3 : 0 ≤ x1.toInt ∧ x1.toInt ≤ 127 := ⟨by omega, by omega⟩
    refine va_calli (va_runV (As := [.int x1]) (rest := []) ⟨hx, hb, hml, hown, hts⟩ (y_X7_takesSign l dC dI H.size hLK A hA F a0 x1 ha0 rg3 hI) (cwV 1 hts (ax_gV T_1009 T_1011 T_1012 T_265 T_1010) rfl rfl rfl (by decide +kernel) ⟨Nat.le_of_ble_eq_true rfl, Nat.le_of_ble_eq_true rfl⟩) ⟨fun a U g mk q => ⟨q.1, s_pc (U := U) rfl rfl q.2⟩, s_recv hK hP (hLK _ ha0 (by decide)) (ci := 7) rfl oY0, fun U hU hW => ⟨rfl, s_pw hU hW hP hK hD hN⟩⟩ rfl rfl hl.1 rfl (lv_room (Nat.le_of_ble_eq_true rfl)) dX7_asksSign_9 ⟨Nat.zero_le _, Nat.zero_le _⟩) hS (fun q _ h => h) (fun q h => h) (fun r5 F6 t H1 locs ht hvm hw hB hz1 hk1 hS => ?_)
    obtain ⟨hP, hK1⟩ := hB
    rw [ht] at hP
    generalize H1 = H at hP hS ⊢
    clear hz1 hk1 hvm hK1
    obtain ⟨h7, h9, hI, hfr1, hzf, h8⟩ := hw
    obtain ⟨z10, q11, oY12, bz13, bq14⟩ := y_opY hI ha0
    have hzf : ∀ k, k ∈ ([1, 3, 4, 5, 6, 7, 8, 11, 15, 16, 19, 25, 26, 27, 31, 32] : List Nat) → z10 k = z0 k := fun k hk => by have q9 := hzf k hk; rw [y_fiZ oY12 (s_sub (by decide) hk), y_fiZ oY0 (s_sub (by decide) hk)] at q9; exact q9
    have hz0 : ∀ k, k ∈ ([1, 3, 4, 7, 8, 11, 15, 16, 19, 25, 26, 27, 31, 32] : List Nat) → z10 k = z0 k := fun k hk => (hzf k (s_sub (by decide) hk)).trans (hz0 k hk)
    have ev1 : v1 = z10 5 := ev1.trans (hzf 5 (by decide)).symm
    have hfr : ∀ b, K b ∉ [9] → F6 b = F b := fun b hb9 => (hfr1 b (fun q => hb9 (s_sub (by decide) q))).trans (hfr b hb9)
    refine lv_if_ne (tgt := 24) hx hb dX7_asksSign_12 (by decide) (fun c15 => ?_) (fun c15 => ?_)
    · have c15 := mt (ax_eq (n := 0) (by decide)).mpr c15
      exact W.vret hx hb hr (fun t ht hW => ⟨⟨F6, rfl, ⟨trivial, trivial, hI, hfr, fun k hk => (y_fiZ oY12 (s_sub (by decide) hk)).trans ((hz0 k hk).trans (y_fiZ oY0 (s_sub (by decide) hk)).symm), (by first | (rw [y_fiZ oY0 (k := 5) (by decide), ← eF_5, y_fiZ oY12 (k := 5) (by decide), ← ev1]; omega) | rw [y_fiZ oY0 (k := 5) (by decide), ← eF_5, y_fiZ oY12 (k := 5) (by decide), ← ev1])⟩, by rw [ht]; exact hP, va_K.moved hW.alike hK⟩, hS.F ht⟩) hS.2.2 dX7_asksSign_24
    · have c15 := (ax_eq (n := 0) (by decide)).mp c15
      refine lv_aload_n hx hb dX7_asksSign_15 rfl (lv_at hl 0 rfl) ?_
      refine lv_iconst (v := 1) hx hb dX7_asksSign_16 (by decide) ?_
      refine lv_aload_n hx hb dX7_asksSign_17 rfl (lv_at hl 0 rfl) ?_
      refine th_get (D := (dC, dI)) (ci := 7) (v := .int (z10 2)) (C := RX7) (T := TX7) (N := 34) hx hb hts inX7 hown hK hP (hLK _ ha0 (by decide)) oY12 rfl 2 (by decide) (hts _ T_272) (fun _ h9 => h9) rfl dX7_asksSign_18 ?_
      refine lv_topi (fun v16 ev16 => ?_)
      have qv16 : 0 ≤ v16.toInt ∧ v16.toInt ≤ 1600 := by rw [ev16]; exact y_bY2 bz13
      refine va_callv (va_runV (As := [.int 1, .int v16]) (rest := []) ⟨hx, hb, hml, hown, hts⟩ (y_X7_fail l dC dI H.size hLK A hA F6 a0 1 v16 ha0 (by decide) hI) (cwV 2 hts (ax_gV T_290 T_291 T_292 T_265 T_27) rfl rfl rfl (by decide +kernel) ⟨Nat.le_of_ble_eq_true rfl, Nat.le_of_ble_eq_true rfl⟩) ⟨fun a U g mk q => ⟨q.1, s_pc (U := U) rfl rfl q.2⟩, s_recv hK hP (hLK _ ha0 (by decide)) (ci := 7) rfl oY12, fun U hU hW => ⟨rfl, s_pw hU hW hP hK hD hN⟩⟩ rfl rfl hl.1 rfl (lv_room (Nat.le_of_ble_eq_true rfl)) dX7_asksSign_21 ⟨Nat.zero_le _, Nat.zero_le _⟩) hS (fun q _ h => h) (fun q h => h) (fun F18 t H1 locs ht hvm hw hB hz1 hk1 hS => ?_)
      obtain ⟨hP, hK1⟩ := hB
      rw [ht] at hP
      generalize H1 = H at hP hS ⊢
      clear hz1 hk1 hvm hK1
      obtain ⟨h19, h21, hI, hfr1, hzf, h20⟩ := hw
      obtain ⟨z22, q23, oY24, bz25, bq26⟩ := y_opY hI ha0
      have hzf : ∀ k, k ∈ ([1, 2, 3, 4, 7, 8, 11, 15, 16, 19, 25, 26, 27, 31, 32] : List Nat) → z22 k = z10 k := fun k hk => by have q9 := hzf k hk; rw [y_fiZ oY24 (s_sub (by decide) hk), y_fiZ oY12 (s_sub (by decide) hk)] at q9; exact q9
      have hz0 : ∀ k, k ∈ ([1, 3, 4, 7, 8, 11, 15, 16, 19, 25, 26, 27, 31, 32] : List Nat) → z22 k = z0 k := fun k hk => (hzf k (s_sub (by decide) hk)).trans (hz0 k hk)
      have ev16 : v16 = z22 2 := ev16.trans (hzf 2 (by decide)).symm
      have hfr : ∀ b, K b ∉ [9] → F18 b = F b := fun b hb9 => (hfr1 b (fun q => hb9 (s_sub (by decide) q))).trans (hfr b hb9)
      obtain ⟨v27, ev27⟩ : ∃ y : Int32, y = z22 5 := ⟨_, rfl⟩
      replace h20 : (¬ v27.toInt = 0) := by have q9 := h20; rw [y_fiZ oY24 (k := 5) (by decide), ← ev27] at q9; exact q9
      exact W.vret hx hb hr (fun t ht hW => ⟨⟨F18, rfl, ⟨trivial, trivial, hI, hfr, fun k hk => (y_fiZ oY24 (s_sub (by decide) hk)).trans ((hz0 k hk).trans (y_fiZ oY0 (s_sub (by decide) hk)).symm), (by first | (rw [y_fiZ oY0 (k := 5) (by decide), ← eF_5, y_fiZ oY24 (k := 5) (by decide), ← ev27]; omega) | rw [y_fiZ oY0 (k := 5) (by decide), ← eF_5, y_fiZ oY24 (k := 5) (by decide), ← ev27])⟩, by rw [ht]; exact hP, va_K.moved hW.alike hK⟩, hS.F ht⟩) hS.2.2 dX7_asksSign_24
