set_option maxHeartbeats 4000000 in
set_option maxRecDepth 100000 in
theorem y_X7_undo (l : Launch) (dC : Nat → ClassId) (dI : Nat → Nat → Nat) (sz : Nat) {L : List Nat} {K : Nat → Nat} {cs : Nat → ClassId} (hLK : ∀ a {k : Nat}, K a = k → k ≠ 0 → a ∈ L) (A : Nat → Nat) (hA : y_A K A) (F : Nat → va_E) (a0 : Nat) (ha0 : K a0 = 9) (hI : y_I K cs A F) (hT : y_T (y_fi F a0 15) (y_at F (A 13)) (y_at F (A 20)) (y_at F (A 30)) (y_fi F a0 31) (y_fi F a0 32)) : Met l yX7_undo (Cond.code yX7_undo cX7_undo 2 (some .boolean) :: T0) ({ frames := 1, cells := 0, slots := 0, locals := 21 }) (va_Pc [.ref a0] (s_W dC dI sz L F [(cs 0, .int), (cs 1, .byte), (cs 2, .long), (cs 3, .object RX5), (cs 4, .object RX4), (cs 5, .array .int), (cs 6, .char), (cs 7, .boolean)])) (va_Qi (fun (r : Int32) (G : Nat → va_E) => (0 ≤ r.toInt ∧ r.toInt ≤ 1) ∧ True ∧ y_I K cs A G ∧ (∀ b, K b ∉ [9, 59, 70] → G b = F b) ∧ (∀ k, k ∈ ([1, 2, 3, 4, 5, 6, 7, 8, 11, 15, 16, 19, 25, 26, 27] : List Nat) → y_fi G a0 k = y_fi F a0 k) ∧ (y_T (y_fi G a0 15) (y_at G (A 13)) (y_at G (A 20)) (y_at G (A 30)) (y_fi G a0 31) (y_fi G a0 32))) (fun (G : Nat → va_E) (t : State) => va_P (dC, dI) vwCl (va_pl L G) t.heap ∧ va_K (dC, dI) vwCl [(cs 0, .int), (cs 1, .byte), (cs 2, .long), (cs 3, .object RX5), (cs 4, .object RX4), (cs 5, .array .int), (cs 6, .char), (cs 7, .boolean)] t) (fun q => q ∈ L)) 0 0 (fun q => q ∈ L) := by
  refine Met.ofW (cc := cX7_undo) (maxL := 2) (ret := (some .boolean)) (by decide) rfl ?_
  intro p e s m args below meth c s₁ B hml hv
  obtain ⟨rfl, hsz, hP, hK, hD, hN⟩ := hv
  have hx := B.exec
  have hb := B.bytes
  have hr := B.returns
  have hts : ∀ w ∈ T0, w.before _ s = true := fun w h => atoms_spec (ws := Cond.code yX7_undo cX7_undo 2 (some .boolean) :: T0) B.pre w (List.mem_cons_of_mem _ h)
  have hown : s.vm.findClass RX7 = some m.cls := findClass_of_methodNamed B.named
  have hlocks := B.notSynchronized
  have hS : va_S (fun q => q ∈ L) s.heap s.heap [] := va_S.rf
  have hfr : ∀ b, K b ∉ [9, 59, 70] → F b = F b := fun _ _ => rfl
  have hl := lv_entry ([.ref a0]) (n := 2) (Nat.le_of_ble_eq_true rfl)
  rw [lg_entry_eq]
  generalize (lg_sl ([.ref a0]) ++ List.replicate (2 - (lg_sl ([.ref a0])).length) Slot.unset).toArray = ls at hl ⊢
  have hl : lv_has ls 2 [(0, .ref a0)] := hl
  refine s_gen hP hS (fun H locs hP hS => ?_)
  obtain ⟨z0, q0, oY0, bz0, bq0⟩ := y_opY hI ha0
  have hz0 : ∀ k, k ∈ ([1, 2, 3, 4, 5, 6, 7, 8, 11, 15, 16, 19, 25, 26, 27] : List Nat) → z0 k = z0 k := fun _ _ => rfl
  obtain ⟨f1, o2, b3⟩ := y_op13 hI
  obtain ⟨f4, o5, b6⟩ := y_op20 hI
  obtain ⟨f7, o8, b9⟩ := y_op30 hI
  obtain ⟨v10, ev10⟩ : ∃ y : Int32, y = z0 15 := ⟨_, rfl⟩
  have qv10 : 0 ≤ v10.toInt ∧ v10.toInt ≤ 1 := by rw [ev10]; exact y_bY15 bz0
  have eF_15 := ev10
  obtain ⟨v11, ev11⟩ : ∃ y : Int32, y = z0 31 := ⟨_, rfl⟩
  have qv11 : 0 ≤ v11.toInt ∧ v11.toInt ≤ 20 := by rw [ev11]; exact y_bY31 bz0
  have eF_31 := ev11
  obtain ⟨v12, ev12⟩ : ∃ y : Int32, y = z0 32 := ⟨_, rfl⟩
  have qv12 : 0 ≤ v12.toInt ∧ v12.toInt ≤ 19 := by rw [ev12]; exact y_bY32 bz0
  have eF_32 := ev12
  replace hT : y_T v10 f1 f4 f7 v11 v12 := by have q9 := hT; rw [y_fiZ oY0 (k := 15) (by decide), ← ev10, y_atE o2, y_atE o5, y_atE o8, y_fiZ oY0 (k := 31) (by decide), ← ev11, y_fiZ oY0 (k := 32) (by decide), ← ev12] at q9; exact q9
  have e0_v10 := ev10
  have e0_v11 := ev11
  have e0_v12 := ev12
  refine lv_aload_n hx hb dX7_undo_0 rfl (lv_at hl 0 rfl) ?_
  refine th_get (D := (dC, dI)) (ci := 7) (v := .int (z0 31)) (C := RX7) (T := TX7) (N := 34) hx hb hts inX7 hown hK hP (hLK _ ha0 (by decide)) oY0 rfl 31 (by decide) (hts _ T_323) (fun _ h9 => h9) rfl dX7_undo_1 ?_
  refine ax_eqi (y := v11) ev11.symm ?_
  refine lv_if_ne (tgt := 13) hx hb dX7_undo_4 (by decide) (fun c13 => ?_) (fun c13 => ?_)
  · have c13 := mt (ax_eq (n := 0) (by decide)).mpr c13
    obtain ⟨htd, hPG, hNG, hUG⟩ := y_TU hT c13
    have hL := y_P0L hPG.1
    have hW := y_P0W hPG.1
    have hnn := And.intro hNG.1 (And.intro hNG.2.1 (And.intro hNG.2.2.1 hNG.2.2.2.1))
    refine lv_iconst (v := 0) hx hb dX7_undo_13 (by decide) ?_
    refine lv_istore_n (lv' := [(1, .int 0), (0, .ref a0)]) hx hb dX7_undo_14 rfl hl (by decide) rfl (fun ls hl => ?_)
    have h15 : (0 : Int32).toInt = 0 := by decide
    refine th_loop (fun n g H locs => ∃ (G : Nat → va_E) (ls : Array Slot) (w14 : Int32), g = F0 m 15 ls [] ∧ lv_has ls 2 [(0, .ref a0), (1, .int w14)] ∧ va_P (dC, dI) vwCl (va_pl L G) H ∧ va_S (fun q => q ∈ L) s.heap H locs ∧ y_I K cs A G ∧ (∀ b, K b ∉ [9, 59, 70] → G b = F b) ∧ (∀ k, k ∈ ([1, 2, 3, 4, 5, 6, 7, 8, 11, 15, 16, 19, 25, 26, 27] : List Nat) → y_fi G a0 k = z0 k) ∧ (0 ≤ w14.toInt ∧ w14.toInt ≤ 918) ∧ (∀ j : Int, 0 ≤ j → j < w14.toInt → y_c (y_at G (A 20)) j = y_c f7 (918 * v12.toInt + j)) ∧ ((y_fi G a0 32).toInt = v12.toInt ∧ (y_fi G a0 31).toInt = v11.toInt) ∧ n = (919 - w14.toInt).toNat) _ ⟨F, _, 0, rfl, lv_sub hl [1, 0] rfl, hP, hS, hI, hfr, (fun k hk => (y_fiZ oY0 (s_sub (by decide) hk)).trans (hz0 k hk)), (by decide), (by rw [y_atE o5]; exact (fun j h0 h1 => absurd h1 (by omega))), (by first | (rw [y_fiZ oY0 (k := 32) (by decide), ← ev12, y_fiZ oY0 (k := 31) (by decide), ← ev11]; omega) | rw [y_fiZ oY0 (k := 32) (by decide), ← ev12, y_fiZ oY0 (k := 31) (by decide), ← ev11]), rfl⟩ (fun n ih15 g H locs hq => ?_)
    obtain ⟨F19, ls, w14, rfl, hl, hP, hS, hI, hfr, hz0, h16, h17, h18, hn⟩ := hq
    have o20 : F19 (A 13) = .inl (cs 0, 400, .inl f1) := (hfr _ (by rw [(y_k13 hA)]; decide)).trans o2
    have o21 : F19 (A 30) = .inl (cs 0, 18360, .inl f7) := (hfr _ (by rw [(y_k30 hA)]; decide)).trans o8
    obtain ⟨z22, q23, oY24, bz25, bq26⟩ := y_opY hI ha0
    have hz0 : ∀ k, k ∈ ([1, 2, 3, 4, 5, 6, 7, 8, 11, 15, 16, 19, 25, 26, 27] : List Nat) → z22 k = z0 k := fun k hk => (y_fiZ oY24 (s_sub (by decide) hk)).symm.trans (hz0 k hk)
    have ev10 : v10 = z22 15 := e0_v10.trans (hz0 15 (by decide)).symm
    obtain ⟨f27, o28, b29⟩ := y_op20 hI
    replace h17 : (∀ j : Int, 0 ≤ j → j < w14.toInt → y_c f27 j = y_c f7 (918 * v12.toInt + j)) := by have q9 := h17; rw [y_atE o28] at q9; exact q9
    obtain ⟨v30, ev30⟩ : ∃ y : Int32, y = z22 32 := ⟨_, rfl⟩
    have qv30 : 0 ≤ v30.toInt ∧ v30.toInt ≤ 19 := by rw [ev30]; exact y_bY32 bz25
    obtain ⟨v31, ev31⟩ : ∃ y : Int32, y = z22 31 := ⟨_, rfl⟩
    have qv31 : 0 ≤ v31.toInt ∧ v31.toInt ≤ 20 := by rw [ev31]; exact y_bY31 bz25
    replace h18 : (v30.toInt = v12.toInt ∧ v31.toInt = v11.toInt) := by have q9 := h18; rw [y_fiZ oY24 (k := 32) (by decide), ← ev30, y_fiZ oY24 (k := 31) (by decide), ← ev31] at q9; exact q9
    have hn_31 := hn
    refine lv_iload_n hx hb dX7_undo_15 rfl (lv_at hl 1 rfl) ?_
    refine lv_sipush (v := 918) hx hb dX7_undo_16 (by decide) ?_
    refine lv_icmp_ge (tgt := 49) hx hb dX7_undo_19 (by decide) (fun c32 => ?_) (fun c32 => ?_)
    · have c32 := (ax_ge (n := 918) (by decide)).mp c32
      refine lv_aload_n hx hb dX7_undo_49 rfl (lv_at hl 0 rfl) ?_
      refine lv_aload_n hx hb dX7_undo_50 rfl (lv_at hl 0 rfl) ?_
      refine th_get (D := (dC, dI)) (ci := 7) (v := .int (z22 32)) (C := RX7) (T := TX7) (N := 34) hx hb hts inX7 hown hK hP (hLK _ ha0 (by decide)) oY24 rfl 32 (by decide) (hts _ T_1232) (fun _ h9 => h9) rfl dX7_undo_51 ?_
      refine ax_eqi (y := v30) ev30.symm ?_
      refine lv_bipush (v := 20) hx hb dX7_undo_54 (by decide) ?_
      refine lv_iadd hx hb dX7_undo_56 ?_
      refine lv_topi (fun v33 ev33 => ?_)
      have qv33 : v33.toInt = v30.toInt + 20 := by rw [ev33]; exact th_add rfl (by decide) ⟨by omega, by omega⟩
      refine lv_iconst (v := 1) hx hb dX7_undo_57 (by decide) ?_
      refine lv_isub hx hb dX7_undo_58 ?_
      refine lv_topi (fun v34 ev34 => ?_)
      have qv34 : v34.toInt = v33.toInt - 1 := by rw [ev34]; exact th_sub rfl (by decide) ⟨by omega, by omega⟩
      refine lv_bipush (v := 20) hx hb dX7_undo_59 (by decide) ?_
      refine lv_irem hx hb dX7_undo_61 (by decide) ?_
      refine lv_topi (fun v35 ev35 => ?_)
      have qv35 : v35.toInt = v34.toInt % 20 := by rw [ev35]; exact th_rem rfl (by decide) (by omega) (by decide)
      refine th_put (D := (dC, dI)) (ci := 7) (v := .int v35) (ty := .int) (C := RX7) (T := TX7) (N := 34) hx hb hts inX7 tyX7 tyX7_ok nmX7 hown hK hP hD hS (hLK _ ha0 (by decide)) oY24 rfl 32 (by decide) (hts _ T_1232) (fun _ h9 => h9) rfl (by decide +kernel) rfl rfl (Nat.le_of_ble_eq_true rfl) dX7_undo_62 (fun H locs hP hS => ?_)
      rw [y_fs32] at hP
      obtain ⟨z36, hz37⟩ : ∃ g : Nat → Int32, g = upd z22 32 v35 := ⟨_, rfl⟩
      rw [← hz37] at hP
      have bz38 : y_bY z36 := by rw [hz37]; exact y_bp32 bz25 ⟨by omega, by omega⟩
      have hP : va_P (dC, dI) vwCl (va_pl L (va_up F19 a0 (.inr (7, y_fl A z36 q23)))) H := hP
      obtain ⟨F39, hF40⟩ : ∃ G : Nat → va_E, G = va_up F19 a0 (.inr (7, y_fl A z36 q23)) := ⟨_, rfl⟩
      rw [← hF40] at hP
      have hI : y_I K cs A F39 := by rw [hF40]; exact y_clY hA hI ha0 bz38 bq26
      have hfr : ∀ b, K b ∉ [9, 59, 70] → F39 b = F b := by rw [hF40]; exact s_fr hfr ha0 (by decide)
      have o41 : F39 (A 13) = .inl (cs 0, 400, .inl f1) := by rw [hF40]; exact th_ne (th_kd (y_k13 hA) ha0 (by decide)) o20
      have o42 : F39 (A 30) = .inl (cs 0, 18360, .inl f7) := by rw [hF40]; exact th_ne (th_kd (y_k30 hA) ha0 (by decide)) o21
      have o43 : F39 (A 20) = .inl (cs 0, 918, .inl f27) := by rw [hF40]; exact th_ne (th_kd (y_k20 hA) ha0 (by decide)) o28
      have oY44 : F39 a0 = .inr (7, y_fl A z36 q23) := by rw [hF40]; exact th_up
      have hz0 : ∀ k, k ∈ ([1, 2, 3, 4, 5, 6, 7, 8, 11, 15, 16, 19, 25, 26, 27] : List Nat) → z36 k = z0 k := fun k hk => by rw [hz37]; exact (y_un (fun q => absurd hk (by rw [q]; decide))).trans (hz0 k hk)
      have ev10 : v10 = z36 15 := by rw [hz37]; exact ev10.trans (y_un (by decide)).symm
      have ev31 : v31 = z36 31 := by rw [hz37]; exact ev31.trans (y_un (by decide)).symm
      obtain ⟨v45, ev45⟩ : ∃ y : Int32, y = z36 32 := ⟨_, rfl⟩
      have qv45 : v45.toInt = v35.toInt := by rw [ev45, hz37, y_ue]
      refine lv_aload_n hx hb dX7_undo_65 rfl (lv_at hl 0 rfl) ?_
      refine lv_dup hx hb dX7_undo_66 rfl ?_
      refine th_get (D := (dC, dI)) (ci := 7) (v := .int (z36 31)) (C := RX7) (T := TX7) (N := 34) hx hb hts inX7 hown hK hP (hLK _ ha0 (by decide)) oY44 rfl 31 (by decide) (hts _ T_323) (fun _ h9 => h9) rfl dX7_undo_67 ?_
      refine ax_eqi (y := v31) ev31.symm ?_
      refine lv_iconst (v := 1) hx hb dX7_undo_70 (by decide) ?_
      refine lv_isub hx hb dX7_undo_71 ?_
      refine lv_topi (fun v46 ev46 => ?_)
      have qv46 : v46.toInt = v31.toInt - 1 := by rw [ev46]; exact th_sub rfl (by decide) ⟨by omega, by omega⟩
      refine th_put (D := (dC, dI)) (ci := 7) (v := .int v46) (ty := .int) (C := RX7) (T := TX7) (N := 34) hx hb hts inX7 tyX7 tyX7_ok nmX7 hown hK hP hD hS (hLK _ ha0 (by decide)) oY44 rfl 31 (by decide) (hts _ T_323) (fun _ h9 => h9) rfl (by decide +kernel) rfl rfl (Nat.le_of_ble_eq_true rfl) dX7_undo_72 (fun H locs hP hS => ?_)
      rw [y_fs31] at hP
      obtain ⟨z47, hz48⟩ : ∃ g : Nat → Int32, g = upd z36 31 v46 := ⟨_, rfl⟩
      rw [← hz48] at hP
      have bz49 : y_bY z47 := by rw [hz48]; exact y_bp31 bz38 ⟨by omega, by omega⟩
      have hP : va_P (dC, dI) vwCl (va_pl L (va_up F39 a0 (.inr (7, y_fl A z47 q23)))) H := hP
      obtain ⟨F50, hF51⟩ : ∃ G : Nat → va_E, G = va_up F39 a0 (.inr (7, y_fl A z47 q23)) := ⟨_, rfl⟩
      rw [← hF51] at hP
      have hI : y_I K cs A F50 := by rw [hF51]; exact y_clY hA hI ha0 bz49 bq26
      have hfr : ∀ b, K b ∉ [9, 59, 70] → F50 b = F b := by rw [hF51]; exact s_fr hfr ha0 (by decide)
      have o52 : F50 (A 13) = .inl (cs 0, 400, .inl f1) := by rw [hF51]; exact th_ne (th_kd (y_k13 hA) ha0 (by decide)) o41
      have o53 : F50 (A 30) = .inl (cs 0, 18360, .inl f7) := by rw [hF51]; exact th_ne (th_kd (y_k30 hA) ha0 (by decide)) o42
      have o54 : F50 (A 20) = .inl (cs 0, 918, .inl f27) := by rw [hF51]; exact th_ne (th_kd (y_k20 hA) ha0 (by decide)) o43
      have oY55 : F50 a0 = .inr (7, y_fl A z47 q23) := by rw [hF51]; exact th_up
      have hz0 : ∀ k, k ∈ ([1, 2, 3, 4, 5, 6, 7, 8, 11, 15, 16, 19, 25, 26, 27] : List Nat) → z47 k = z0 k := fun k hk => by rw [hz48]; exact (y_un (fun q => absurd hk (by rw [q]; decide))).trans (hz0 k hk)
      have ev10 : v10 = z47 15 := by rw [hz48]; exact ev10.trans (y_un (by decide)).symm
      have ev45 : v45 = z47 32 := by rw [hz48]; exact ev45.trans (y_un (by decide)).symm
      obtain ⟨v56, ev56⟩ : ∃ y : Int32, y = z47 31 := ⟨_, rfl⟩
      have qv56 : v56.toInt = v46.toInt := by rw [ev56, hz48, y_ue]
      refine lv_iconst (v := 1) hx hb dX7_undo_75 (by decide) ?_
      have h57 : (1 : Int32).toInt = 1 := by decide
      exact W.zret (v := 1) (ty := .boolean) hx hb hr (by decide) (fun t ht hW => ⟨⟨1, F50, rfl, ⟨(by decide), trivial, hI, hfr, fun k hk => (y_fiZ oY55 (s_sub (by decide) hk)).trans ((hz0 k hk).trans (y_fiZ oY0 (s_sub (by decide) hk)).symm), (by rw [y_fiZ oY55 (k := 15) (by decide), ← ev10, y_atE o52, y_atE o54, y_atE o53, y_fiZ oY55 (k := 31) (by decide), ← ev56, y_fiZ oY55 (k := 32) (by decide), ← ev45]; exact (Or.inr ⟨by omega, hPG, y_NGcp (fun j h0 h1 => by rw [y_slc h0]; exact h17 j h0 (by omega)) (by omega) (y_UGt ⟨by omega, by omega⟩ (by omega) hUG), by rw [show v56.toInt = v11.toInt - 1 by omega]; exact y_UGs ⟨by omega, by omega⟩ (by omega) hUG⟩))⟩, by rw [ht]; exact hP, va_K.moved hW.alike hK⟩, hS.F ht⟩) hS.2.2 dX7_undo_76
    · have c32 := mt (ax_ge (n := 918) (by decide)).mpr c32
      refine lv_aload_n hx hb dX7_undo_22 rfl (lv_at hl 0 rfl) ?_
      refine th_get (D := (dC, dI)) (ci := 7) (v := .ref (A 20)) (C := RX7) (T := TX7) (N := 34) hx hb hts inX7 hown hK hP (hLK _ ha0 (by decide)) oY24 rfl 20 (by decide) (hts _ T_251) (fun _ h9 => h9) rfl dX7_undo_23 ?_
      refine lv_iload_n hx hb dX7_undo_26 rfl (lv_at hl 1 rfl) ?_
      refine lv_aload_n hx hb dX7_undo_27 rfl (lv_at hl 0 rfl) ?_
      refine th_get (D := (dC, dI)) (ci := 7) (v := .ref (A 30)) (C := RX7) (T := TX7) (N := 34) hx hb hts inX7 hown hK hP (hLK _ ha0 (by decide)) oY24 rfl 30 (by decide) (hts _ T_259) (fun _ h9 => h9) rfl dX7_undo_28 ?_
      refine lv_sipush (v := 918) hx hb dX7_undo_31 (by decide) ?_
      refine lv_aload_n hx hb dX7_undo_34 rfl (lv_at hl 0 rfl) ?_
      refine th_get (D := (dC, dI)) (ci := 7) (v := .int (z22 32)) (C := RX7) (T := TX7) (N := 34) hx hb hts inX7 hown hK hP (hLK _ ha0 (by decide)) oY24 rfl 32 (by decide) (hts _ T_1232) (fun _ h9 => h9) rfl dX7_undo_35 ?_
      refine ax_eqi (y := v30) ev30.symm ?_
      refine lv_imul hx hb dX7_undo_38 ?_
      refine lv_topi (fun v58 ev58 => ?_)
      have qv58 : v58.toInt = 918 * v30.toInt := by rw [ev58]; exact th_mul (by decide) rfl ⟨by omega, by omega⟩
      refine lv_iload_n hx hb dX7_undo_39 rfl (lv_at hl 1 rfl) ?_
      refine lv_iadd hx hb dX7_undo_40 ?_
      refine lv_topi (fun v59 ev59 => ?_)
      have qv59 : v59.toInt = v58.toInt + w14.toInt := by rw [ev59]; exact th_add rfl rfl ⟨by omega, by omega⟩
      refine th_iald hx hb hK hP (hLK _ (y_k30 hA) (by decide)) 0 o21 rfl (th_in ⟨by omega, by omega⟩) dX7_undo_41 ?_
      refine lv_topi (fun v60 ev60 => ?_)
      have Ev60 : v60 = y_c f7 (918 * v12.toInt + w14.toInt) := ev60.trans (y_ci (by omega))
      have tEv60 := congrArg Int32.toInt Ev60
      refine th_iast hx hb hK hP hD hS (hLK _ (y_k20 hA) (by decide)) 0 o28 rfl (th_in ⟨by omega, by omega⟩) dX7_undo_42 (fun H locs hP hS => ?_)
      obtain ⟨f61, u62⟩ : ∃ g : Nat → Int32, g = upd f27 (w14 : Int32).toNatClampNeg v60 := ⟨_, rfl⟩
      rw [← u62] at hP
      have b63 : y_bd 20 f61 := trivial
      have hP : va_P (dC, dI) vwCl (va_pl L (va_up F19 (A 20) (.inl (cs 0, 918, .inl f61)))) H := hP
      obtain ⟨F64, hF65⟩ : ∃ G : Nat → va_E, G = va_up F19 (A 20) (.inl (cs 0, 918, .inl f61)) := ⟨_, rfl⟩
      rw [← hF65] at hP
      have hI : y_I K cs A F64 := by rw [hF65]; exact y_clA (i := 20) hA hI (by decide) b63
      have hfr : ∀ b, K b ∉ [9, 59, 70] → F64 b = F b := by rw [hF65]; exact s_fr hfr (y_k20 hA) (by decide)
      have o66 : F64 (A 13) = .inl (cs 0, 400, .inl f1) := by rw [hF65]; exact th_ne (th_kd (y_k13 hA) (y_k20 hA) (by decide)) o20
      have o67 : F64 (A 30) = .inl (cs 0, 18360, .inl f7) := by rw [hF65]; exact th_ne (th_kd (y_k30 hA) (y_k20 hA) (by decide)) o21
      have oY68 : F64 a0 = .inr (7, y_fl A z22 q23) := by rw [hF65]; exact th_ne (th_kd ha0 (y_k20 hA) (by decide)) oY24
      have o69 : F64 (A 20) = .inl (cs 0, 918, .inl f61) := by rw [hF65]; exact th_up
      have u70 : ∀ j : Int, 0 ≤ j → y_c f61 j = if j = w14.toInt then v60 else y_c f27 j := by rw [u62]; exact y_cu rfl (by omega)
      obtain ⟨v71, ev71⟩ : ∃ y : Int32, w14 + 1 = y := ⟨_, rfl⟩
      have qv71 : v71.toInt = w14.toInt + 1 := by rw [← ev71]; exact th_add rfl (by decide) ⟨by omega, by omega⟩
      refine lv_iinc (v := v71) (lv' := [(1, .int v71), (0, .ref a0)]) hx hb dX7_undo_43 hl (k := 1) rfl ev71 (by decide) rfl (fun ls hl => ?_)
      refine lv_goto (tgt := 15) hx hb dX7_undo_46 (by decide) ?_
      exact ih15 _ _ _ _ (by omega) ⟨F64, _, v71, rfl, lv_sub hl [1, 0] rfl, hP, hS, hI, hfr, (fun k hk => (y_fiZ oY68 (s_sub (by decide) hk)).trans (hz0 k hk)), ⟨by omega, by omega⟩, (by rw [y_atE o69]; exact (fun j h0 h1 => by rw [u70 j h0]; split; rename_i q9; rw [q9]; exact Ev60; exact h17 j h0 (by omega))), (by first | (rw [y_fiZ oY68 (k := 32) (by decide), ← ev30, y_fiZ oY68 (k := 31) (by decide), ← ev31]; omega) | rw [y_fiZ oY68 (k := 32) (by decide), ← ev30, y_fiZ oY68 (k := 31) (by decide), ← ev31]), rfl⟩
  · have c13 := (ax_eq (n := 0) (by decide)).mp c13
    refine lv_aload_n hx hb dX7_undo_7 rfl (lv_at hl 0 rfl) ?_
    refine lv_iconst (v := 4) hx hb dX7_undo_8 (by decide) ?_
    refine va_calli (va_runV (As := [.int 4]) (rest := []) ⟨hx, hb, hml, hown, hts⟩ (y_X7_isRefused l dC dI H.size hLK A hA F a0 4 ha0 (by decide) hI) (cwV 1 hts (ax_gV T_262 T_263 T_264 T_265 T_20) rfl rfl rfl (by decide +kernel) ⟨Nat.le_of_ble_eq_true rfl, Nat.le_of_ble_eq_true rfl⟩) ⟨fun a U g mk q => ⟨q.1, s_pc (U := U) rfl rfl q.2⟩, s_recv hK hP (hLK _ ha0 (by decide)) (ci := 7) rfl oY0, fun U hU hW => ⟨rfl, s_pw hU hW hP hK hD hN⟩⟩ rfl rfl hl.1 rfl (lv_room (Nat.le_of_ble_eq_true rfl)) dX7_undo_9 ⟨Nat.zero_le _, Nat.zero_le _⟩) hS (fun q _ h => h) (fun q h => h) (fun r73 F74 t H1 locs ht hvm hw hB hz1 hk1 hS => ?_)
    obtain ⟨hP, hK1⟩ := hB
    rw [ht] at hP
    generalize H1 = H at hP hS ⊢
    clear hz1 hk1 hvm hK1
    obtain ⟨h75, h77, hI, hfr1, hzf, h76⟩ := hw
    have o78 : F74 (A 13) = .inl (cs 0, 400, .inl f1) := (hfr1 _ (by rw [(y_k13 hA)]; decide)).trans o2
    have o79 : F74 (A 20) = .inl (cs 0, 918, .inl f4) := (hfr1 _ (by rw [(y_k20 hA)]; decide)).trans o5
    have o80 : F74 (A 30) = .inl (cs 0, 18360, .inl f7) := (hfr1 _ (by rw [(y_k30 hA)]; decide)).trans o8
    have oY81 : F74 a0 = .inr (7, y_fl A z0 q0) := (hfr1 _ (by rw [ha0]; decide)).trans oY0
    have hfr : ∀ b, K b ∉ [9, 59, 70] → F74 b = F b := fun b hb9 => (hfr1 b (fun q => hb9 (s_sub (by decide) q))).trans (hfr b hb9)
    exact W.zret (v := r73) (ty := .boolean) hx hb hr (th_nz ⟨by omega, by omega⟩) (fun t ht hW => ⟨⟨r73, F74, rfl, ⟨⟨by omega, by omega⟩, trivial, hI, hfr, fun k hk => (y_fiZ oY81 (s_sub (by decide) hk)).trans ((hz0 k hk).trans (y_fiZ oY0 (s_sub (by decide) hk)).symm), (by rw [y_fiZ oY81 (k := 15) (by decide), ← ev10, y_atE o78, y_atE o79, y_atE o80, y_fiZ oY81 (k := 31) (by decide), ← ev11, y_fiZ oY81 (k := 32) (by decide), ← ev12]; exact hT)⟩, by rw [ht]; exact hP, va_K.moved hW.alike hK⟩, hS.F ht⟩) hS.2.2 dX7_undo_12

set_option maxHeartbeats 4000000 in
set_option maxRecDepth 100000 in
theorem y_X7_cycles (l : Launch) (dC : Nat → ClassId) (dI : Nat → Nat → Nat) (sz : Nat) {L : List Nat} {K : Nat → Nat} {cs : Nat → ClassId} (hLK : ∀ a {k : Nat}, K a = k → k ≠ 0 → a ∈ L) (A : Nat → Nat) (hA : y_A K A) (F : Nat → va_E) (a0 : Nat) (x1 : Int32) (ha0 : K a0 = 9) (hI : y_I K cs A F) (hT : y_T (y_fi F a0 15) (y_at F (A 13)) (y_at F (A 20)) (y_at F (A 30)) (y_fi F a0 31) (y_fi F a0 32)) : Met l yX7_cycles (Cond.code yX7_cycles cX7_cycles 4 (some .int) :: T0) ({ frames := 8, cells := 0, slots := 0, locals := 188 }) (va_Pc [.ref a0, .int x1] (s_W dC dI sz L F [(cs 0, .int), (cs 1, .byte), (cs 2, .long), (cs 3, .object RX5), (cs 4, .object RX4), (cs 5, .array .int), (cs 6, .char), (cs 7, .boolean)])) (va_Qi (fun (r : Int32) (G : Nat → va_E) => True ∧ True ∧ y_I K cs A G ∧ (∀ b, K b ∉ [9, 59, 70, 71, 72, 80] → G b = F b) ∧ (∀ k, k ∈ ([1, 2, 3, 4, 5, 6, 7, 8, 11, 15, 16, 19, 25, 26, 27] : List Nat) → y_fi G a0 k = y_fi F a0 k) ∧ (y_T (y_fi G a0 15) (y_at G (A 13)) (y_at G (A 20)) (y_at G (A 30)) (y_fi G a0 31) (y_fi G a0 32))) (fun (G : Nat → va_E) (t : State) => va_P (dC, dI) vwCl (va_pl L G) t.heap ∧ va_K (dC, dI) vwCl [(cs 0, .int), (cs 1, .byte), (cs 2, .long), (cs 3, .object RX5), (cs 4, .object RX4), (cs 5, .array .int), (cs 6, .char), (cs 7, .boolean)] t) (fun q => q ∈ L)) 0 0 (fun q => q ∈ L) := by
  refine Met.ofW (cc := cX7_cycles) (maxL := 4) (ret := (some .int)) (by decide) rfl ?_
  intro p e s m args below meth c s₁ B hml hv
  obtain ⟨rfl, hsz, hP, hK, hD, hN⟩ := hv
  have hx := B.exec
  have hb := B.bytes
  have hr := B.returns
  have hts : ∀ w ∈ T0, w.before _ s = true := fun w h => atoms_spec (ws := Cond.code yX7_cycles cX7_cycles 4 (some .int) :: T0) B.pre w (List.mem_cons_of_mem _ h)
  have hown : s.vm.findClass RX7 = some m.cls := findClass_of_methodNamed B.named
  have hlocks := B.notSynchronized
  have hS : va_S (fun q => q ∈ L) s.heap s.heap [] := va_S.rf
  have hfr : ∀ b, K b ∉ [9, 59, 70, 71, 72, 80] → F b = F b := fun _ _ => rfl
  have hl := lv_entry ([.ref a0, .int x1]) (n := 4) (Nat.le_of_ble_eq_true rfl)
  rw [lg_entry_eq]
  generalize (lg_sl ([.ref a0, .int x1]) ++ List.replicate (4 - (lg_sl ([.ref a0, .int x1])).length) Slot.unset).toArray = ls at hl ⊢
  have hl : lv_has ls 4 [(0, .ref a0), (1, .int x1)] := hl
  refine s_gen hP hS (fun H locs hP hS => ?_)
  obtain ⟨z0, q0, oY0, bz0, bq0⟩ := y_opY hI ha0
  have hz0 : ∀ k, k ∈ ([1, 2, 3, 4, 5, 6, 7, 8, 11, 15, 16, 19, 25, 26, 27] : List Nat) → z0 k = z0 k := fun _ _ => rfl
  obtain ⟨f1, o2, b3⟩ := y_op13 hI
  obtain ⟨f4, o5, b6⟩ := y_op20 hI
  obtain ⟨f7, o8, b9⟩ := y_op30 hI
  obtain ⟨v10, ev10⟩ : ∃ y : Int32, y = z0 15 := ⟨_, rfl⟩
  have qv10 : 0 ≤ v10.toInt ∧ v10.toInt ≤ 1 := by rw [ev10]; exact y_bY15 bz0
  have eF_15 := ev10
  obtain ⟨v11, ev11⟩ : ∃ y : Int32, y = z0 31 := ⟨_, rfl⟩
  have qv11 : 0 ≤ v11.toInt ∧ v11.toInt ≤ 20 := by rw [ev11]; exact y_bY31 bz0
  have eF_31 := ev11
  obtain ⟨v12, ev12⟩ : ∃ y : Int32, y = z0 32 := ⟨_, rfl⟩
  have qv12 : 0 ≤ v12.toInt ∧ v12.toInt ≤ 19 := by rw [ev12]; exact y_bY32 bz0
  have eF_32 := ev12
  replace hT : y_T v10 f1 f4 f7 v11 v12 := by have q9 := hT; rw [y_fiZ oY0 (k := 15) (by decide), ← ev10, y_atE o2, y_atE o5, y_atE o8, y_fiZ oY0 (k := 31) (by decide), ← ev11, y_fiZ oY0 (k := 32) (by decide), ← ev12] at q9; exact q9
  have e0_v10 := ev10
  have e0_v11 := ev11
  have e0_v12 := ev12
  refine lv_aload_n hx hb dX7_cycles_0 rfl (lv_at hl 0 rfl) ?_
  refine th_get (D := (dC, dI)) (ci := 7) (v := .int (z0 15)) (C := RX7) (T := TX7) (N := 34) hx hb hts inX7 hown hK hP (hLK _ ha0 (by decide)) oY0 rfl 15 (by decide) (hts _ T_271) (fun _ h9 => h9) rfl dX7_cycles_1 ?_
  refine ax_eqi (y := v10) ev10.symm ?_
  refine lv_if_eq (tgt := 33) hx hb dX7_cycles_4 (by decide) (fun c13 => ?_) (fun c13 => ?_)
  · have c13 := (ax_eq (n := 0) (by decide)).mp c13
    refine lv_aload_n hx hb dX7_cycles_33 rfl (lv_at hl 0 rfl) ?_
    refine lv_iconst (v := 2) hx hb dX7_cycles_34 (by decide) ?_
    refine va_calli (va_runV (As := [.int 2]) (rest := []) ⟨hx, hb, hml, hown, hts⟩ (y_X7_refuses l dC dI H.size hLK A hA F a0 2 ha0 (by decide) hI) (cwV 1 hts (ax_gV T_310 T_311 T_312 T_265 T_33) rfl rfl rfl (by decide +kernel) ⟨Nat.le_of_ble_eq_true rfl, Nat.le_of_ble_eq_true rfl⟩) ⟨fun a U g mk q => ⟨q.1, s_pc (U := U) rfl rfl q.2⟩, s_recv hK hP (hLK _ ha0 (by decide)) (ci := 7) rfl oY0, fun U hU hW => ⟨rfl, s_pw hU hW hP hK hD hN⟩⟩ rfl rfl hl.1 rfl (lv_room (Nat.le_of_ble_eq_true rfl)) dX7_cycles_35 ⟨Nat.zero_le _, Nat.zero_le _⟩) hS (fun q _ h => h) (fun q h => h) (fun r15 F16 t H1 locs ht hvm hw hB hz1 hk1 hS => ?_)
    obtain ⟨hP, hK1⟩ := hB
    rw [ht] at hP
    generalize H1 = H at hP hS ⊢
    clear hz1 hk1 hvm hK1
    obtain ⟨h17, h19, hI, hfr1, hzf, h18⟩ := hw
    have o20 : F16 (A 13) = .inl (cs 0, 400, .inl f1) := (hfr1 _ (by rw [(y_k13 hA)]; decide)).trans o2
    have o21 : F16 (A 20) = .inl (cs 0, 918, .inl f4) := (hfr1 _ (by rw [(y_k20 hA)]; decide)).trans o5
    have o22 : F16 (A 30) = .inl (cs 0, 18360, .inl f7) := (hfr1 _ (by rw [(y_k30 hA)]; decide)).trans o8
    have oY23 : F16 a0 = .inr (7, y_fl A z0 q0) := (hfr1 _ (by rw [ha0]; decide)).trans oY0
    have hfr : ∀ b, K b ∉ [9, 59, 70, 71, 72, 80] → F16 b = F b := fun b hb9 => (hfr1 b (fun q => hb9 (s_sub (by decide) q))).trans (hfr b hb9)
    exact W.iret (v := r15) hx hb hr (fun t ht hW => ⟨⟨r15, F16, rfl, ⟨trivial, trivial, hI, hfr, fun k hk => (y_fiZ oY23 (s_sub (by decide) hk)).trans ((hz0 k hk).trans (y_fiZ oY0 (s_sub (by decide) hk)).symm), (by rw [y_fiZ oY23 (k := 15) (by decide), ← ev10, y_atE o20, y_atE o21, y_atE o22, y_fiZ oY23 (k := 31) (by decide), ← ev11, y_fiZ oY23 (k := 32) (by decide), ← ev12]; exact hT)⟩, by rw [ht]; exact hP, va_K.moved hW.alike hK⟩, hS.F ht⟩) hS.2.2 dX7_cycles_38
  · have c13 := mt (ax_eq (n := 0) (by decide)).mpr c13
    obtain ⟨htd, hPG, hNG, hUG⟩ := y_TT hT (by omega)
    have hL := y_P0L hPG.1
    have hW := y_P0W hPG.1
    have hnn := And.intro hNG.1 (And.intro hNG.2.1 (And.intro hNG.2.2.1 hNG.2.2.2.1))
    refine lv_iload_n hx hb dX7_cycles_7 rfl (lv_at hl 1 rfl) ?_
    refine lv_i2l hx hb dX7_cycles_8 rfl ?_
    refine lv_topl (fun v24 ev24 => ?_)
    have qv24 : v24.toInt = x1.toInt := y_i2l ev24
    refine lv_lconst (v := 1) hx hb dX7_cycles_9 (by decide) ?_
    refine lv_ldc2 hx hb hown (hts _ T_1094) dX7_cycles_10 ?_
    refine va_calli (va_runS (As := [.long v24, .long 1, .long 400]) (rest := []) ⟨hx, hb, hml, hown, hts⟩ (y_X7_isIn l dC dI H.size F v24 1 400) (cwS 3 hts (ax_gS T_267 T_268 T_265 T_21) rfl rfl rfl (by decide +kernel) ⟨Nat.le_of_ble_eq_true rfl, Nat.le_of_ble_eq_true rfl⟩) ⟨fun a U g mk q => ⟨q.1, s_pc (U := U) rfl rfl q.2⟩, fun U hU hW => ⟨rfl, s_pw hU hW hP hK hD hN⟩⟩ rfl rfl hl.1 rfl (lv_room (Nat.le_of_ble_eq_true rfl)) dX7_cycles_13 ⟨Nat.zero_le _, Nat.zero_le _⟩) hS (fun q _ h => h) (fun q h => h) (fun r26 F27 t H1 locs ht hvm hw hB hz1 hk1 hS => ?_)
    obtain ⟨hP, hK1⟩ := hB
    rw [ht] at hP
    generalize H1 = H at hP hS ⊢
    clear hz1 hk1 hvm hK1
    obtain ⟨h28, h30, hG9, h29⟩ := hw
    rw [hG9] at hP
    replace h29 : ((r26.toInt = 0 ∧ (v24.toInt < 1 ∨ 400 < v24.toInt)) ∨ (r26.toInt = 1 ∧ 1 ≤ v24.toInt ∧ v24.toInt ≤ 400)) := by have q9 := h29; exact q9
    refine lv_if_eq (tgt := 33) hx hb dX7_cycles_16 (by decide) (fun c31 => ?_) (fun c31 => ?_)
    · have c31 := (ax_eq (n := 0) (by decide)).mp c31
      refine lv_aload_n hx hb dX7_cycles_33 rfl (lv_at hl 0 rfl) ?_
      refine lv_iconst (v := 2) hx hb dX7_cycles_34 (by decide) ?_
      refine va_calli (va_runV (As := [.int 2]) (rest := []) ⟨hx, hb, hml, hown, hts⟩ (y_X7_refuses l dC dI H.size hLK A hA F a0 2 ha0 (by decide) hI) (cwV 1 hts (ax_gV T_310 T_311 T_312 T_265 T_33) rfl rfl rfl (by decide +kernel) ⟨Nat.le_of_ble_eq_true rfl, Nat.le_of_ble_eq_true rfl⟩) ⟨fun a U g mk q => ⟨q.1, s_pc (U := U) rfl rfl q.2⟩, s_recv hK hP (hLK _ ha0 (by decide)) (ci := 7) rfl oY0, fun U hU hW => ⟨rfl, s_pw hU hW hP hK hD hN⟩⟩ rfl rfl hl.1 rfl (lv_room (Nat.le_of_ble_eq_true rfl)) dX7_cycles_35 ⟨Nat.zero_le _, Nat.zero_le _⟩) hS (fun q _ h => h) (fun q h => h) (fun r33 F34 t H1 locs ht hvm hw hB hz1 hk1 hS => ?_)
      obtain ⟨hP, hK1⟩ := hB
      rw [ht] at hP
      generalize H1 = H at hP hS ⊢
      clear hz1 hk1 hvm hK1
      obtain ⟨h35, h37, hI, hfr1, hzf, h36⟩ := hw
      have o38 : F34 (A 13) = .inl (cs 0, 400, .inl f1) := (hfr1 _ (by rw [(y_k13 hA)]; decide)).trans o2
      have o39 : F34 (A 20) = .inl (cs 0, 918, .inl f4) := (hfr1 _ (by rw [(y_k20 hA)]; decide)).trans o5
      have o40 : F34 (A 30) = .inl (cs 0, 18360, .inl f7) := (hfr1 _ (by rw [(y_k30 hA)]; decide)).trans o8
      have oY41 : F34 a0 = .inr (7, y_fl A z0 q0) := (hfr1 _ (by rw [ha0]; decide)).trans oY0
      have hfr : ∀ b, K b ∉ [9, 59, 70, 71, 72, 80] → F34 b = F b := fun b hb9 => (hfr1 b (fun q => hb9 (s_sub (by decide) q))).trans (hfr b hb9)
      exact W.iret (v := r33) hx hb hr (fun t ht hW => ⟨⟨r33, F34, rfl, ⟨trivial, trivial, hI, hfr, fun k hk => (y_fiZ oY41 (s_sub (by decide) hk)).trans ((hz0 k hk).trans (y_fiZ oY0 (s_sub (by decide) hk)).symm), (by rw [y_fiZ oY41 (k := 15) (by decide), ← ev10, y_atE o38, y_atE o39, y_atE o40, y_fiZ oY41 (k := 31) (by decide), ← ev11, y_fiZ oY41 (k := 32) (by decide), ← ev12]; exact hT)⟩, by rw [ht]; exact hP, va_K.moved hW.alike hK⟩, hS.F ht⟩) hS.2.2 dX7_cycles_38
    · have c31 := mt (ax_eq (n := 0) (by decide)).mpr c31
      refine lv_aload_n hx hb dX7_cycles_19 rfl (lv_at hl 0 rfl) ?_
      refine th_get (D := (dC, dI)) (ci := 7) (v := .ref (A 20)) (C := RX7) (T := TX7) (N := 34) hx hb hts inX7 hown hK hP (hLK _ ha0 (by decide)) oY0 rfl 20 (by decide) (hts _ T_251) (fun _ h9 => h9) rfl dX7_cycles_20 ?_
      refine lv_iconst (v := 0) hx hb dX7_cycles_23 (by decide) ?_
      refine th_iald hx hb hK hP (hLK _ (y_k20 hA) (by decide)) 0 o5 rfl (ax_in (by decide)) dX7_cycles_24 ?_
      refine lv_topi (fun v42 ev42 => ?_)
      refine lv_iload_n hx hb dX7_cycles_25 rfl (lv_at hl 1 rfl) ?_
      refine lv_iadd hx hb dX7_cycles_26 ?_
      refine lv_topi (fun v43 ev43 => ?_)
      refine lv_sipush (v := 9999) hx hb dX7_cycles_27 (by decide) ?_
      refine lv_icmp_le (tgt := 39) hx hb dX7_cycles_30 (by decide) (fun c44 => ?_) (fun c44 => ?_)
      · have c44 := (ax_le (n := 9999) (by decide)).mp c44
        refine lv_aload_n hx hb dX7_cycles_39 rfl (lv_at hl 0 rfl) ?_
        refine va_callv (va_runV (As := []) (rest := []) ⟨hx, hb, hml, hown, hts⟩ (y_X7_keeps l dC dI H.size hLK A hA F a0 ha0 hI (by rw [y_atE o2]; exact hPG) (by rw [y_atE o2, y_atE o5]; exact hNG) (by rw [y_atE o2, y_atE o8, y_fiZ oY0 (k := 31) (by decide), ← ev11, y_fiZ oY0 (k := 32) (by decide), ← ev12]; exact hUG)) (cwV 0 hts (ax_gV T_1013 T_1015 T_1016 T_265 T_1014) rfl rfl rfl (by decide +kernel) ⟨Nat.le_of_ble_eq_true rfl, Nat.le_of_ble_eq_true rfl⟩) ⟨fun a U g mk q => ⟨q.1, s_pc (U := U) rfl rfl q.2⟩, s_recv hK hP (hLK _ ha0 (by decide)) (ci := 7) rfl oY0, fun U hU hW => ⟨rfl, s_pw hU hW hP hK hD hN⟩⟩ rfl rfl hl.1 rfl (lv_room (Nat.le_of_ble_eq_true rfl)) dX7_cycles_40 ⟨Nat.zero_le _, Nat.zero_le _⟩) hS (fun q _ h => h) (fun q h => h) (fun F46 t H1 locs ht hvm hw hB hz1 hk1 hS => ?_)
        obtain ⟨hP, hK1⟩ := hB
        rw [ht] at hP
        generalize H1 = H at hP hS ⊢
        clear hz1 hk1 hvm hK1
        obtain ⟨h47, h49, hI, hfr1, hzf, h48⟩ := hw
        have o50 : F46 (A 13) = .inl (cs 0, 400, .inl f1) := (hfr1 _ (by rw [(y_k13 hA)]; decide)).trans o2
        have o51 : F46 (A 20) = .inl (cs 0, 918, .inl f4) := (hfr1 _ (by rw [(y_k20 hA)]; decide)).trans o5
        obtain ⟨z52, q53, oY54, bz55, bq56⟩ := y_opY hI ha0
        have hzf : ∀ k, k ∈ ([1, 2, 3, 4, 5, 6, 7, 8, 11, 15, 16, 19, 25, 26, 27] : List Nat) → z52 k = z0 k := fun k hk => by have q9 := hzf k hk; rw [y_fiZ oY54 (s_sub (by decide) hk), y_fiZ oY0 (s_sub (by decide) hk)] at q9; exact q9
        have hz0 : ∀ k, k ∈ ([1, 2, 3, 4, 5, 6, 7, 8, 11, 15, 16, 19, 25, 26, 27] : List Nat) → z52 k = z0 k := fun k hk => (hzf k (s_sub (by decide) hk)).trans (hz0 k hk)
        have ev10 : v10 = z52 15 := ev10.trans (hzf 15 (by decide)).symm
        have hfr : ∀ b, K b ∉ [9, 59, 70, 71, 72, 80] → F46 b = F b := fun b hb9 => (hfr1 b (fun q => hb9 (s_sub (by decide) q))).trans (hfr b hb9)
        obtain ⟨f57, o58, b59⟩ := y_op30 hI
        obtain ⟨v60, ev60⟩ : ∃ y : Int32, y = z52 31 := ⟨_, rfl⟩
        have qv60 : 0 ≤ v60.toInt ∧ v60.toInt ≤ 20 := by rw [ev60]; exact y_bY31 bz55
        obtain ⟨v61, ev61⟩ : ∃ y : Int32, y = z52 32 := ⟨_, rfl⟩
        have qv61 : 0 ≤ v61.toInt ∧ v61.toInt ≤ 19 := by rw [ev61]; exact y_bY32 bz55
        replace h48 : (y_UG f1 f57 v60.toInt v61.toInt) := by have q9 := h48; rw [y_atE o2, y_atE o58, y_fiZ oY54 (k := 31) (by decide), ← ev60, y_fiZ oY54 (k := 32) (by decide), ← ev61] at q9; exact q9
        refine lv_aload_n hx hb dX7_cycles_43 rfl (lv_at hl 0 rfl) ?_
        refine th_get (D := (dC, dI)) (ci := 7) (v := .ref (A 20)) (C := RX7) (T := TX7) (N := 34) hx hb hts inX7 hown hK hP (hLK _ ha0 (by decide)) oY54 rfl 20 (by decide) (hts _ T_251) (fun _ h9 => h9) rfl dX7_cycles_44 ?_
        refine lv_iconst (v := 1) hx hb dX7_cycles_47 (by decide) ?_
        refine th_iald hx hb hK hP (hLK _ (y_k20 hA) (by decide)) 0 o51 rfl (ax_in (by decide)) dX7_cycles_48 ?_
        refine lv_topi (fun v62 ev62 => ?_)
        refine lv_istore_n (lv' := [(2, .int v62), (0, .ref a0), (1, .int x1)]) hx hb dX7_cycles_49 rfl hl (by decide) rfl (fun ls hl => ?_)
        refine lv_iconst (v := 0) hx hb dX7_cycles_50 (by decide) ?_
        refine lv_istore_n (lv' := [(3, .int 0), (2, .int v62), (0, .ref a0), (1, .int x1)]) hx hb dX7_cycles_51 rfl hl (by decide) rfl (fun ls hl => ?_)
        have h64 : (0 : Int32).toInt = 0 := by decide
        refine th_loop (fun n g H locs => ∃ (G : Nat → va_E) (ls : Array Slot) (w63 : Int32), g = F0 m 52 ls [] ∧ lv_has ls 4 [(0, .ref a0), (1, .int x1), (2, .int v62), (3, .int w63)] ∧ va_P (dC, dI) vwCl (va_pl L G) H ∧ va_S (fun q => q ∈ L) s.heap H locs ∧ y_I K cs A G ∧ (∀ b, K b ∉ [9, 59, 70, 71, 72, 80] → G b = F b) ∧ (∀ k, k ∈ ([1, 2, 3, 4, 5, 6, 7, 8, 11, 15, 16, 19, 25, 26, 27] : List Nat) → y_fi G a0 k = z0 k) ∧ (0 ≤ w63.toInt ∧ w63.toInt ≤ 400) ∧ (y_NG f1 (y_at G (A 20))) ∧ (y_UG f1 (y_at G (A 30)) (y_fi G a0 31).toInt (y_fi G a0 32).toInt) ∧ n = (401 - w63.toInt).toNat) _ ⟨F46, _, 0, rfl, lv_sub hl [2, 3, 1, 0] rfl, hP, hS, hI, hfr, (fun k hk => (y_fiZ oY54 (s_sub (by decide) hk)).trans (hz0 k hk)), (by decide), (by rw [y_atE o51]; exact hNG), (by rw [y_atE o58, y_fiZ oY54 (k := 31) (by decide), ← ev60, y_fiZ oY54 (k := 32) (by decide), ← ev61]; exact h48), rfl⟩ (fun n ih52 g H locs hq => ?_)
        obtain ⟨F68, ls, w63, rfl, hl, hP, hS, hI, hfr, hz0, h65, h66, h67, hn⟩ := hq
        have o69 : F68 (A 13) = .inl (cs 0, 400, .inl f1) := (hfr _ (by rw [(y_k13 hA)]; decide)).trans o2
        obtain ⟨z70, q71, oY72, bz73, bq74⟩ := y_opY hI ha0
        have hz0 : ∀ k, k ∈ ([1, 2, 3, 4, 5, 6, 7, 8, 11, 15, 16, 19, 25, 26, 27] : List Nat) → z70 k = z0 k := fun k hk => (y_fiZ oY72 (s_sub (by decide) hk)).symm.trans (hz0 k hk)
        have ev10 : v10 = z70 15 := e0_v10.trans (hz0 15 (by decide)).symm
        obtain ⟨f75, o76, b77⟩ := y_op20 hI
        replace h66 : (y_NG f1 f75) := by have q9 := h66; rw [y_atE o76] at q9; exact q9
        obtain ⟨f78, o79, b80⟩ := y_op30 hI
        obtain ⟨v81, ev81⟩ : ∃ y : Int32, y = z70 31 := ⟨_, rfl⟩
        have qv81 : 0 ≤ v81.toInt ∧ v81.toInt ≤ 20 := by rw [ev81]; exact y_bY31 bz73
        obtain ⟨v82, ev82⟩ : ∃ y : Int32, y = z70 32 := ⟨_, rfl⟩
        have qv82 : 0 ≤ v82.toInt ∧ v82.toInt ≤ 19 := by rw [ev82]; exact y_bY32 bz73
        replace h67 : (y_UG f1 f78 v81.toInt v82.toInt) := by have q9 := h67; rw [y_atE o79, y_fiZ oY72 (k := 31) (by decide), ← ev81, y_fiZ oY72 (k := 32) (by decide), ← ev82] at q9; exact q9
        have hn_82 := hn
        refine lv_iload_n hx hb dX7_cycles_52 rfl (lv_at hl 3 rfl) ?_
        refine lv_iload_n hx hb dX7_cycles_53 rfl (lv_at hl 1 rfl) ?_
        have h83 : 1 ≤ x1.toInt ∧ x1.toInt ≤ 400 := ⟨by omega, by omega⟩
        refine lv_icmp_ge (tgt := 67) hx hb dX7_cycles_54 (by decide) (fun c84 => ?_) (fun c84 => ?_)
        · have c84 := Int32.le_iff_toInt_le.mp c84
          refine lv_aload_n hx hb dX7_cycles_67 rfl (lv_at hl 0 rfl) ?_
          refine th_get (D := (dC, dI)) (ci := 7) (v := .ref (A 20)) (C := RX7) (T := TX7) (N := 34) hx hb hts inX7 hown hK hP (hLK _ ha0 (by decide)) oY72 rfl 20 (by decide) (hts _ T_251) (fun _ h9 => h9) rfl dX7_cycles_68 ?_
          refine lv_iconst (v := 1) hx hb dX7_cycles_71 (by decide) ?_
          refine th_iald hx hb hK hP (hLK _ (y_k20 hA) (by decide)) 0 o76 rfl (ax_in (by decide)) dX7_cycles_72 ?_
          refine lv_topi (fun v85 ev85 => ?_)
          refine lv_iload_n hx hb dX7_cycles_73 rfl (lv_at hl 2 rfl) ?_
          refine lv_isub hx hb dX7_cycles_74 ?_
          refine lv_topi (fun v86 ev86 => ?_)
          exact W.iret (v := v86) hx hb hr (fun t ht hW => ⟨⟨v86, F68, rfl, ⟨trivial, trivial, hI, hfr, fun k hk => (y_fiZ oY72 (s_sub (by decide) hk)).trans ((hz0 k hk).trans (y_fiZ oY0 (s_sub (by decide) hk)).symm), (by rw [y_fiZ oY72 (k := 15) (by decide), ← ev10, y_atE o69, y_atE o76, y_atE o79, y_fiZ oY72 (k := 31) (by decide), ← ev81, y_fiZ oY72 (k := 32) (by decide), ← ev82]; exact (Or.inr ⟨by omega, hPG, h66, h67⟩))⟩, by rw [ht]; exact hP, va_K.moved hW.alike hK⟩, hS.F ht⟩) hS.2.2 dX7_cycles_75
        · have c84 := mt Int32.le_iff_toInt_le.mpr c84
          refine lv_aload_n hx hb dX7_cycles_57 rfl (lv_at hl 0 rfl) ?_
          refine va_callv (va_runV (As := []) (rest := []) ⟨hx, hb, hml, hown, hts⟩ (y_X7_aCycle l dC dI H.size hLK A hA F68 a0 ha0 hI (by rw [y_atE o69]; exact hPG) (by rw [y_atE o69, y_atE o76]; exact h66)) (cwV 0 hts (ax_gV T_1070 T_1072 T_1073 T_265 T_1071) rfl rfl rfl (by decide +kernel) ⟨Nat.le_of_ble_eq_true rfl, Nat.le_of_ble_eq_true rfl⟩) ⟨fun a U g mk q => ⟨q.1, s_pc (U := U) rfl rfl q.2⟩, s_recv hK hP (hLK _ ha0 (by decide)) (ci := 7) rfl oY72, fun U hU hW => ⟨rfl, s_pw hU hW hP hK hD hN⟩⟩ rfl rfl hl.1 rfl (lv_room (Nat.le_of_ble_eq_true rfl)) dX7_cycles_58 ⟨Nat.zero_le _, Nat.zero_le _⟩) hS (fun q _ h => h) (fun q h => h) (fun F88 t H1 locs ht hvm hw hB hz1 hk1 hS => ?_)
          obtain ⟨hP, hK1⟩ := hB
          rw [ht] at hP
          generalize H1 = H at hP hS ⊢
          clear hz1 hk1 hvm hK1
          obtain ⟨h89, h91, hI, hfr1, hzf, h90⟩ := hw
          have o92 : F88 (A 13) = .inl (cs 0, 400, .inl f1) := (hfr1 _ (by rw [(y_k13 hA)]; decide)).trans o69
          have o93 : F88 (A 30) = .inl (cs 0, 18360, .inl f78) := (hfr1 _ (by rw [(y_k30 hA)]; decide)).trans o79
          have oY94 : F88 a0 = .inr (7, y_fl A z70 q71) := (hfr1 _ (by rw [ha0]; decide)).trans oY72
          have hfr : ∀ b, K b ∉ [9, 59, 70, 71, 72, 80] → F88 b = F b := fun b hb9 => (hfr1 b (fun q => hb9 (s_sub (by decide) q))).trans (hfr b hb9)
          obtain ⟨f95, o96, b97⟩ := y_op20 hI
          replace h90 : (y_NG f1 f95 ∧ y_c f95 3 = y_c f75 3 ∧ y_c f95 4 = y_c f75 4) := by have q9 := h90; rw [y_atE o69, y_atE o96, y_atE o76] at q9; exact q9
          obtain ⟨v98, ev98⟩ : ∃ y : Int32, w63 + 1 = y := ⟨_, rfl⟩
          have qv98 : v98.toInt = w63.toInt + 1 := by rw [← ev98]; exact th_add rfl (by decide) ⟨by omega, by omega⟩
          refine lv_iinc (v := v98) (lv' := [(3, .int v98), (0, .ref a0), (1, .int x1), (2, .int v62)]) hx hb dX7_cycles_61 hl (k := 3) rfl ev98 (by decide) rfl (fun ls hl => ?_)
          refine lv_goto (tgt := 52) hx hb dX7_cycles_64 (by decide) ?_
          exact ih52 _ _ _ _ (by omega) ⟨F88, _, v98, rfl, lv_sub hl [1, 2, 3, 0] rfl, hP, hS, hI, hfr, (fun k hk => (y_fiZ oY94 (s_sub (by decide) hk)).trans (hz0 k hk)), ⟨by omega, by omega⟩, (by rw [y_atE o96]; exact h90.1), (by rw [y_atE o93, y_fiZ oY94 (k := 31) (by decide), ← ev81, y_fiZ oY94 (k := 32) (by decide), ← ev82]; exact h67), rfl⟩
      · have c44 := mt (ax_le (n := 9999) (by decide)).mpr c44
        refine lv_aload_n hx hb dX7_cycles_33 rfl (lv_at hl 0 rfl) ?_
        refine lv_iconst (v := 2) hx hb dX7_cycles_34 (by decide) ?_
        refine va_calli (va_runV (As := [.int 2]) (rest := []) ⟨hx, hb, hml, hown, hts⟩ (y_X7_refuses l dC dI H.size hLK A hA F a0 2 ha0 (by decide) hI) (cwV 1 hts (ax_gV T_310 T_311 T_312 T_265 T_33) rfl rfl rfl (by decide +kernel) ⟨Nat.le_of_ble_eq_true rfl, Nat.le_of_ble_eq_true rfl⟩) ⟨fun a U g mk q => ⟨q.1, s_pc (U := U) rfl rfl q.2⟩, s_recv hK hP (hLK _ ha0 (by decide)) (ci := 7) rfl oY0, fun U hU hW => ⟨rfl, s_pw hU hW hP hK hD hN⟩⟩ rfl rfl hl.1 rfl (lv_room (Nat.le_of_ble_eq_true rfl)) dX7_cycles_35 ⟨Nat.zero_le _, Nat.zero_le _⟩) hS (fun q _ h => h) (fun q h => h) (fun r100 F101 t H1 locs ht hvm hw hB hz1 hk1 hS => ?_)
        obtain ⟨hP, hK1⟩ := hB
        rw [ht] at hP
        generalize H1 = H at hP hS ⊢
        clear hz1 hk1 hvm hK1
        obtain ⟨h102, h104, hI, hfr1, hzf, h103⟩ := hw
        have o105 : F101 (A 13) = .inl (cs 0, 400, .inl f1) := (hfr1 _ (by rw [(y_k13 hA)]; decide)).trans o2
        have o106 : F101 (A 20) = .inl (cs 0, 918, .inl f4) := (hfr1 _ (by rw [(y_k20 hA)]; decide)).trans o5
        have o107 : F101 (A 30) = .inl (cs 0, 18360, .inl f7) := (hfr1 _ (by rw [(y_k30 hA)]; decide)).trans o8
        have oY108 : F101 a0 = .inr (7, y_fl A z0 q0) := (hfr1 _ (by rw [ha0]; decide)).trans oY0
        have hfr : ∀ b, K b ∉ [9, 59, 70, 71, 72, 80] → F101 b = F b := fun b hb9 => (hfr1 b (fun q => hb9 (s_sub (by decide) q))).trans (hfr b hb9)
        exact W.iret (v := r100) hx hb hr (fun t ht hW => ⟨⟨r100, F101, rfl, ⟨trivial, trivial, hI, hfr, fun k hk => (y_fiZ oY108 (s_sub (by decide) hk)).trans ((hz0 k hk).trans (y_fiZ oY0 (s_sub (by decide) hk)).symm), (by rw [y_fiZ oY108 (k := 15) (by decide), ← ev10, y_atE o105, y_atE o106, y_atE o107, y_fiZ oY108 (k := 31) (by decide), ← ev11, y_fiZ oY108 (k := 32) (by decide), ← ev12]; exact hT)⟩, by rw [ht]; exact hP, va_K.moved hW.alike hK⟩, hS.F ht⟩) hS.2.2 dX7_cycles_38

set_option maxHeartbeats 4000000 in
set_option maxRecDepth 100000 in
theorem y_X7_poke (l : Launch) (dC : Nat → ClassId) (dI : Nat → Nat → Nat) (sz : Nat) {L : List Nat} {K : Nat → Nat} {cs : Nat → ClassId} (hLK : ∀ a {k : Nat}, K a = k → k ≠ 0 → a ∈ L) (A : Nat → Nat) (hA : y_A K A) (F : Nat → va_E) (a0 : Nat) (x1 : Int32) (x2 : Int32) (x3 : Int32) (ha0 : K a0 = 9) (hx1 : 0 ≤ x1.toInt ∧ x1.toInt ≤ 1) (hI : y_I K cs A F) (hT : y_T (y_fi F a0 15) (y_at F (A 13)) (y_at F (A 20)) (y_at F (A 30)) (y_fi F a0 31) (y_fi F a0 32)) : Met l yX7_poke (Cond.code yX7_poke cX7_poke 6 (some .int) :: T0) ({ frames := 2, cells := 0, slots := 0, locals := 47 }) (va_Pc [.ref a0, .int x1, .int x2, .int x3] (s_W dC dI sz L F [(cs 0, .int), (cs 1, .byte), (cs 2, .long), (cs 3, .object RX5), (cs 4, .object RX4), (cs 5, .array .int), (cs 6, .char), (cs 7, .boolean)])) (va_Qi (fun (r : Int32) (G : Nat → va_E) => True ∧ True ∧ y_I K cs A G ∧ (∀ b, K b ∉ [9, 59, 70, 80] → G b = F b) ∧ (∀ k, k ∈ ([1, 2, 3, 4, 5, 6, 7, 8, 11, 15, 16, 19, 25, 26, 27] : List Nat) → y_fi G a0 k = y_fi F a0 k) ∧ (y_T (y_fi G a0 15) (y_at G (A 13)) (y_at G (A 20)) (y_at G (A 30)) (y_fi G a0 31) (y_fi G a0 32))) (fun (G : Nat → va_E) (t : State) => va_P (dC, dI) vwCl (va_pl L G) t.heap ∧ va_K (dC, dI) vwCl [(cs 0, .int), (cs 1, .byte), (cs 2, .long), (cs 3, .object RX5), (cs 4, .object RX4), (cs 5, .array .int), (cs 6, .char), (cs 7, .boolean)] t) (fun q => q ∈ L)) 0 0 (fun q => q ∈ L) := by
  refine Met.ofW (cc := cX7_poke) (maxL := 6) (ret := (some .int)) (by decide) rfl ?_
  intro p e s m args below meth c s₁ B hml hv
  obtain ⟨rfl, hsz, hP, hK, hD, hN⟩ := hv
  have hx := B.exec
  have hb := B.bytes
  have hr := B.returns
  have hts : ∀ w ∈ T0, w.before _ s = true := fun w h => atoms_spec (ws := Cond.code yX7_poke cX7_poke 6 (some .int) :: T0) B.pre w (List.mem_cons_of_mem _ h)
  have hown : s.vm.findClass RX7 = some m.cls := findClass_of_methodNamed B.named
  have hlocks := B.notSynchronized
  have hS : va_S (fun q => q ∈ L) s.heap s.heap [] := va_S.rf
  have hfr : ∀ b, K b ∉ [9, 59, 70, 80] → F b = F b := fun _ _ => rfl
  have hl := lv_entry ([.ref a0, .int x1, .int x2, .int x3]) (n := 6) (Nat.le_of_ble_eq_true rfl)
  rw [lg_entry_eq]
  generalize (lg_sl ([.ref a0, .int x1, .int x2, .int x3]) ++ List.replicate (6 - (lg_sl ([.ref a0, .int x1, .int x2, .int x3])).length) Slot.unset).toArray = ls at hl ⊢
  have hl : lv_has ls 6 [(0, .ref a0), (1, .int x1), (2, .int x2), (3, .int x3)] := hl
  refine s_gen hP hS (fun H locs hP hS => ?_)
  obtain ⟨z0, q0, oY0, bz0, bq0⟩ := y_opY hI ha0
  have hz0 : ∀ k, k ∈ ([1, 2, 3, 4, 5, 6, 7, 8, 11, 15, 16, 19, 25, 26, 27] : List Nat) → z0 k = z0 k := fun _ _ => rfl
  obtain ⟨f1, o2, b3⟩ := y_op13 hI
  obtain ⟨f4, o5, b6⟩ := y_op20 hI
  obtain ⟨f7, o8, b9⟩ := y_op30 hI
  obtain ⟨v10, ev10⟩ : ∃ y : Int32, y = z0 15 := ⟨_, rfl⟩
  have qv10 : 0 ≤ v10.toInt ∧ v10.toInt ≤ 1 := by rw [ev10]; exact y_bY15 bz0
  have eF_15 := ev10
  obtain ⟨v11, ev11⟩ : ∃ y : Int32, y = z0 31 := ⟨_, rfl⟩
  have qv11 : 0 ≤ v11.toInt ∧ v11.toInt ≤ 20 := by rw [ev11]; exact y_bY31 bz0
  have eF_31 := ev11
  obtain ⟨v12, ev12⟩ : ∃ y : Int32, y = z0 32 := ⟨_, rfl⟩
  have qv12 : 0 ≤ v12.toInt ∧ v12.toInt ≤ 19 := by rw [ev12]; exact y_bY32 bz0
  have eF_32 := ev12
  replace hT : y_T v10 f1 f4 f7 v11 v12 := by have q9 := hT; rw [y_fiZ oY0 (k := 15) (by decide), ← ev10, y_atE o2, y_atE o5, y_atE o8, y_fiZ oY0 (k := 31) (by decide), ← ev11, y_fiZ oY0 (k := 32) (by decide), ← ev12] at q9; exact q9
  have e0_v10 := ev10
  have e0_v11 := ev11
  have e0_v12 := ev12
  refine lv_aload_n hx hb dX7_poke_0 rfl (lv_at hl 0 rfl) ?_
  refine lv_iload_n hx hb dX7_poke_1 rfl (lv_at hl 1 rfl) ?_
  refine lv_iload_n hx hb dX7_poke_2 rfl (lv_at hl 2 rfl) ?_
  have rg13 : 0 ≤ x1.toInt ∧ x1.toInt ≤ 1 := ⟨by omega, by omega⟩
  have ep14_15 := ev10
  refine va_calli (va_runV (As := [.int x1, .int x2]) (rest := []) ⟨hx, hb, hml, hown, hts⟩ (y_X7_wordOf l dC dI H.size hLK A hA F a0 x1 x2 ha0 rg13 hI (by rw [y_fiZ oY0 (k := 15) (by decide), ← ev10, y_atE o2, y_atE o5, y_atE o8, y_fiZ oY0 (k := 31) (by decide), ← ev11, y_fiZ oY0 (k := 32) (by decide), ← ev12]; exact hT)) (cwV 2 hts (ax_gV T_320 T_321 T_322 T_265 T_36) rfl rfl rfl (by decide +kernel) ⟨Nat.le_of_ble_eq_true rfl, Nat.le_of_ble_eq_true rfl⟩) ⟨fun a U g mk q => ⟨q.1, s_pc (U := U) rfl rfl q.2⟩, s_recv hK hP (hLK _ ha0 (by decide)) (ci := 7) rfl oY0, fun U hU hW => ⟨rfl, s_pw hU hW hP hK hD hN⟩⟩ rfl rfl hl.1 rfl (lv_room (Nat.le_of_ble_eq_true rfl)) dX7_poke_3 ⟨Nat.zero_le _, Nat.zero_le _⟩) hS (fun q _ h => h) (fun q h => h) (fun r15 F16 t H1 locs ht hvm hw hB hz1 hk1 hS => ?_)
  obtain ⟨hP, hK1⟩ := hB
  rw [ht] at hP
  generalize H1 = H at hP hS ⊢
  clear hz1 hk1 hvm hK1
  obtain ⟨h17, h19, hI, hfr1, hzf, h18⟩ := hw
  have o20 : F16 (A 13) = .inl (cs 0, 400, .inl f1) := (hfr1 _ (by rw [(y_k13 hA)]; decide)).trans o2
  have o21 : F16 (A 20) = .inl (cs 0, 918, .inl f4) := (hfr1 _ (by rw [(y_k20 hA)]; decide)).trans o5
  have o22 : F16 (A 30) = .inl (cs 0, 18360, .inl f7) := (hfr1 _ (by rw [(y_k30 hA)]; decide)).trans o8
  have oY23 : F16 a0 = .inr (7, y_fl A z0 q0) := (hfr1 _ (by rw [ha0]; decide)).trans oY0
  have hfr : ∀ b, K b ∉ [9, 59, 70, 80] → F16 b = F b := fun b hb9 => (hfr1 b (fun q => hb9 (s_sub (by decide) q))).trans (hfr b hb9)
  replace h18 : ((r15.toInt = -1) ∨ (v10.toInt = 1 ∧ 0 ≤ r15.toInt ∧ r15.toInt ≤ 95)) := by have q9 := h18; rw [y_fiZ oY0 (k := 15) (by decide), ← ep14_15] at q9; exact q9
  refine lv_istore (lv' := [(4, .int r15), (0, .ref a0), (1, .int x1), (2, .int x2), (3, .int x3)]) hx hb dX7_poke_6 hl (by decide) rfl (fun ls hl => ?_)
  refine lv_iload hx hb dX7_poke_8 (lv_at hl 0 rfl) ?_
  refine lv_iconst (v := (-1)) hx hb dX7_poke_10 (by decide) ?_
  refine lv_icmp_eq (tgt := 28) hx hb dX7_poke_11 (by decide) (fun c24 => ?_) (fun c24 => ?_)
  · have c24 := (ax_eq (n := (-1)) (by decide)).mp c24
    refine lv_aload_n hx hb dX7_poke_28 rfl (lv_at hl 1 rfl) ?_
    refine lv_iconst (v := 3) hx hb dX7_poke_29 (by decide) ?_
    refine va_calli (va_runV (As := [.int 3]) (rest := []) ⟨hx, hb, hml, hown, hts⟩ (y_X7_refuses l dC dI H.size hLK A hA F16 a0 3 ha0 (by decide) hI) (cwV 1 hts (ax_gV T_310 T_311 T_312 T_265 T_33) rfl rfl rfl (by decide +kernel) ⟨Nat.le_of_ble_eq_true rfl, Nat.le_of_ble_eq_true rfl⟩) ⟨fun a U g mk q => ⟨q.1, s_pc (U := U) rfl rfl q.2⟩, s_recv hK hP (hLK _ ha0 (by decide)) (ci := 7) rfl oY23, fun U hU hW => ⟨rfl, s_pw hU hW hP hK hD hN⟩⟩ rfl rfl hl.1 rfl (lv_room (Nat.le_of_ble_eq_true rfl)) dX7_poke_30 ⟨Nat.zero_le _, Nat.zero_le _⟩) hS (fun q _ h => h) (fun q h => h) (fun r26 F27 t H1 locs ht hvm hw hB hz1 hk1 hS => ?_)
    obtain ⟨hP, hK1⟩ := hB
    rw [ht] at hP
    generalize H1 = H at hP hS ⊢
    clear hz1 hk1 hvm hK1
    obtain ⟨h28, h30, hI, hfr1, hzf, h29⟩ := hw
    have o31 : F27 (A 13) = .inl (cs 0, 400, .inl f1) := (hfr1 _ (by rw [(y_k13 hA)]; decide)).trans o20
    have o32 : F27 (A 20) = .inl (cs 0, 918, .inl f4) := (hfr1 _ (by rw [(y_k20 hA)]; decide)).trans o21
    have o33 : F27 (A 30) = .inl (cs 0, 18360, .inl f7) := (hfr1 _ (by rw [(y_k30 hA)]; decide)).trans o22
    have oY34 : F27 a0 = .inr (7, y_fl A z0 q0) := (hfr1 _ (by rw [ha0]; decide)).trans oY23
    have hfr : ∀ b, K b ∉ [9, 59, 70, 80] → F27 b = F b := fun b hb9 => (hfr1 b (fun q => hb9 (s_sub (by decide) q))).trans (hfr b hb9)
    refine lv_pop hx hb dX7_poke_33 rfl ?_
    refine lv_ldc (v := (-1000000)) hx hb hown (hts _ T_316) dX7_poke_34 ?_
    have h35 : ((-1000000) : Int32).toInt = (-1000000) := by decide
    exact W.iret (v := (-1000000)) hx hb hr (fun t ht hW => ⟨⟨(-1000000), F27, rfl, ⟨trivial, trivial, hI, hfr, fun k hk => (y_fiZ oY34 (s_sub (by decide) hk)).trans ((hz0 k hk).trans (y_fiZ oY0 (s_sub (by decide) hk)).symm), (by rw [y_fiZ oY34 (k := 15) (by decide), ← ev10, y_atE o31, y_atE o32, y_atE o33, y_fiZ oY34 (k := 31) (by decide), ← ev11, y_fiZ oY34 (k := 32) (by decide), ← ev12]; exact hT)⟩, by rw [ht]; exact hP, va_K.moved hW.alike hK⟩, hS.F ht⟩) hS.2.2 dX7_poke_36
  · have c24 := mt (ax_eq (n := (-1)) (by decide)).mpr c24
    have h36 : 0 ≤ r15.toInt ∧ r15.toInt ≤ 95 := ⟨by omega, by omega⟩
    have hwd := h18.resolve_left c24
    obtain ⟨htd, hPG, hNG, hUG⟩ := y_TT hT (by omega)
    have hL := y_P0L hPG.1
    have hW := y_P0W hPG.1
    have hnn := And.intro hNG.1 (And.intro hNG.2.1 (And.intro hNG.2.2.1 hNG.2.2.2.1))
    refine lv_iload_n hx hb dX7_poke_14 rfl (lv_at hl 4 rfl) ?_
    refine lv_i2l hx hb dX7_poke_15 rfl ?_
    refine lv_topl (fun v37 ev37 => ?_)
    have qv37 : v37.toInt = x3.toInt := y_i2l ev37
    refine lv_ldc2 hx hb hown (hts _ T_1039) dX7_poke_16 ?_
    refine lv_ldc2 hx hb hown (hts _ T_1038) dX7_poke_19 ?_
    refine va_calli (va_runS (As := [.long v37, .long (-9999), .long 9999]) (rest := []) ⟨hx, hb, hml, hown, hts⟩ (y_X7_isIn l dC dI H.size F16 v37 (-9999) 9999) (cwS 3 hts (ax_gS T_267 T_268 T_265 T_21) rfl rfl rfl (by decide +kernel) ⟨Nat.le_of_ble_eq_true rfl, Nat.le_of_ble_eq_true rfl⟩) ⟨fun a U g mk q => ⟨q.1, s_pc (U := U) rfl rfl q.2⟩, fun U hU hW => ⟨rfl, s_pw hU hW hP hK hD hN⟩⟩ rfl rfl hl.1 rfl (lv_room (Nat.le_of_ble_eq_true rfl)) dX7_poke_22 ⟨Nat.zero_le _, Nat.zero_le _⟩) hS (fun q _ h => h) (fun q h => h) (fun r39 F40 t H1 locs ht hvm hw hB hz1 hk1 hS => ?_)
    obtain ⟨hP, hK1⟩ := hB
    rw [ht] at hP
    generalize H1 = H at hP hS ⊢
    clear hz1 hk1 hvm hK1
    obtain ⟨h41, h43, hG9, h42⟩ := hw
    rw [hG9] at hP
    replace h42 : ((r39.toInt = 0 ∧ (v37.toInt < (-9999) ∨ 9999 < v37.toInt)) ∨ (r39.toInt = 1 ∧ (-9999) ≤ v37.toInt ∧ v37.toInt ≤ 9999)) := by have q9 := h42; exact q9
    refine lv_if_ne (tgt := 37) hx hb dX7_poke_25 (by decide) (fun c44 => ?_) (fun c44 => ?_)
    · have c44 := mt (ax_eq (n := 0) (by decide)).mpr c44
      refine lv_aload_n hx hb dX7_poke_37 rfl (lv_at hl 1 rfl) ?_
      refine va_callv (va_runV (As := []) (rest := []) ⟨hx, hb, hml, hown, hts⟩ (y_X7_keeps l dC dI H.size hLK A hA F16 a0 ha0 hI (by rw [y_atE o20]; exact hPG) (by rw [y_atE o20, y_atE o21]; exact hNG) (by rw [y_atE o20, y_atE o22, y_fiZ oY23 (k := 31) (by decide), ← ev11, y_fiZ oY23 (k := 32) (by decide), ← ev12]; exact hUG)) (cwV 0 hts (ax_gV T_1013 T_1015 T_1016 T_265 T_1014) rfl rfl rfl (by decide +kernel) ⟨Nat.le_of_ble_eq_true rfl, Nat.le_of_ble_eq_true rfl⟩) ⟨fun a U g mk q => ⟨q.1, s_pc (U := U) rfl rfl q.2⟩, s_recv hK hP (hLK _ ha0 (by decide)) (ci := 7) rfl oY23, fun U hU hW => ⟨rfl, s_pw hU hW hP hK hD hN⟩⟩ rfl rfl hl.1 rfl (lv_room (Nat.le_of_ble_eq_true rfl)) dX7_poke_38 ⟨Nat.zero_le _, Nat.zero_le _⟩) hS (fun q _ h => h) (fun q h => h) (fun F46 t H1 locs ht hvm hw hB hz1 hk1 hS => ?_)
      obtain ⟨hP, hK1⟩ := hB
      rw [ht] at hP
      generalize H1 = H at hP hS ⊢
      clear hz1 hk1 hvm hK1
      obtain ⟨h47, h49, hI, hfr1, hzf, h48⟩ := hw
      have o50 : F46 (A 13) = .inl (cs 0, 400, .inl f1) := (hfr1 _ (by rw [(y_k13 hA)]; decide)).trans o20
      have o51 : F46 (A 20) = .inl (cs 0, 918, .inl f4) := (hfr1 _ (by rw [(y_k20 hA)]; decide)).trans o21
      obtain ⟨z52, q53, oY54, bz55, bq56⟩ := y_opY hI ha0
      have hzf : ∀ k, k ∈ ([1, 2, 3, 4, 5, 6, 7, 8, 11, 15, 16, 19, 25, 26, 27] : List Nat) → z52 k = z0 k := fun k hk => by have q9 := hzf k hk; rw [y_fiZ oY54 (s_sub (by decide) hk), y_fiZ oY23 (s_sub (by decide) hk)] at q9; exact q9
      have hz0 : ∀ k, k ∈ ([1, 2, 3, 4, 5, 6, 7, 8, 11, 15, 16, 19, 25, 26, 27] : List Nat) → z52 k = z0 k := fun k hk => (hzf k (s_sub (by decide) hk)).trans (hz0 k hk)
      have ev10 : v10 = z52 15 := ev10.trans (hzf 15 (by decide)).symm
      have hfr : ∀ b, K b ∉ [9, 59, 70, 80] → F46 b = F b := fun b hb9 => (hfr1 b (fun q => hb9 (s_sub (by decide) q))).trans (hfr b hb9)
      obtain ⟨f57, o58, b59⟩ := y_op30 hI
      obtain ⟨v60, ev60⟩ : ∃ y : Int32, y = z52 31 := ⟨_, rfl⟩
      have qv60 : 0 ≤ v60.toInt ∧ v60.toInt ≤ 20 := by rw [ev60]; exact y_bY31 bz55
      obtain ⟨v61, ev61⟩ : ∃ y : Int32, y = z52 32 := ⟨_, rfl⟩
      have qv61 : 0 ≤ v61.toInt ∧ v61.toInt ≤ 19 := by rw [ev61]; exact y_bY32 bz55
      replace h48 : (y_UG f1 f57 v60.toInt v61.toInt) := by have q9 := h48; rw [y_atE o20, y_atE o58, y_fiZ oY54 (k := 31) (by decide), ← ev60, y_fiZ oY54 (k := 32) (by decide), ← ev61] at q9; exact q9
      refine lv_aload_n hx hb dX7_poke_41 rfl (lv_at hl 1 rfl) ?_
      refine th_get (D := (dC, dI)) (ci := 7) (v := .ref (A 20)) (C := RX7) (T := TX7) (N := 34) hx hb hts inX7 hown hK hP (hLK _ ha0 (by decide)) oY54 rfl 20 (by decide) (hts _ T_251) (fun _ h9 => h9) rfl dX7_poke_42 ?_
      refine lv_bipush (v := 8) hx hb dX7_poke_45 (by decide) ?_
      refine lv_iload hx hb dX7_poke_47 (lv_at hl 0 rfl) ?_
      refine lv_iadd hx hb dX7_poke_49 ?_
      refine lv_topi (fun v62 ev62 => ?_)
      have qv62 : v62.toInt = 8 + r15.toInt := by rw [ev62]; exact th_add (by decide) rfl ⟨by omega, by omega⟩
      refine th_iald hx hb hK hP (hLK _ (y_k20 hA) (by decide)) 0 o51 rfl (th_in ⟨by omega, by omega⟩) dX7_poke_50 ?_
      refine lv_topi (fun v63 ev63 => ?_)
      refine lv_istore (lv' := [(5, .int v63), (4, .int r15), (0, .ref a0), (1, .int x1), (2, .int x2), (3, .int x3)]) hx hb dX7_poke_51 hl (by decide) rfl (fun ls hl => ?_)
      refine lv_aload_n hx hb dX7_poke_53 rfl (lv_at hl 2 rfl) ?_
      refine th_get (D := (dC, dI)) (ci := 7) (v := .ref (A 20)) (C := RX7) (T := TX7) (N := 34) hx hb hts inX7 hown hK hP (hLK _ ha0 (by decide)) oY54 rfl 20 (by decide) (hts _ T_251) (fun _ h9 => h9) rfl dX7_poke_54 ?_
      refine lv_bipush (v := 8) hx hb dX7_poke_57 (by decide) ?_
      refine lv_iload hx hb dX7_poke_59 (lv_at hl 1 rfl) ?_
      refine lv_iadd hx hb dX7_poke_61 ?_
      refine lv_topi (fun v64 ev64 => ?_)
      have qv64 : v64.toInt = 8 + r15.toInt := by rw [ev64]; exact th_add (by decide) rfl ⟨by omega, by omega⟩
      refine lv_iload_n hx hb dX7_poke_62 rfl (lv_at hl 5 rfl) ?_
      refine th_iast hx hb hK hP hD hS (hLK _ (y_k20 hA) (by decide)) 0 o51 rfl (th_in ⟨by omega, by omega⟩) dX7_poke_63 (fun H locs hP hS => ?_)
      obtain ⟨f65, u66⟩ : ∃ g : Nat → Int32, g = upd f4 (v64 : Int32).toNatClampNeg x3 := ⟨_, rfl⟩
      rw [← u66] at hP
      have b67 : y_bd 20 f65 := trivial
      have hP : va_P (dC, dI) vwCl (va_pl L (va_up F46 (A 20) (.inl (cs 0, 918, .inl f65)))) H := hP
      obtain ⟨F68, hF69⟩ : ∃ G : Nat → va_E, G = va_up F46 (A 20) (.inl (cs 0, 918, .inl f65)) := ⟨_, rfl⟩
      rw [← hF69] at hP
      have hI : y_I K cs A F68 := by rw [hF69]; exact y_clA (i := 20) hA hI (by decide) b67
      have hfr : ∀ b, K b ∉ [9, 59, 70, 80] → F68 b = F b := by rw [hF69]; exact s_fr hfr (y_k20 hA) (by decide)
      have o70 : F68 (A 13) = .inl (cs 0, 400, .inl f1) := by rw [hF69]; exact th_ne (th_kd (y_k13 hA) (y_k20 hA) (by decide)) o50
      have o71 : F68 (A 30) = .inl (cs 0, 18360, .inl f57) := by rw [hF69]; exact th_ne (th_kd (y_k30 hA) (y_k20 hA) (by decide)) o58
      have oY72 : F68 a0 = .inr (7, y_fl A z52 q53) := by rw [hF69]; exact th_ne (th_kd ha0 (y_k20 hA) (by decide)) oY54
      have o73 : F68 (A 20) = .inl (cs 0, 918, .inl f65) := by rw [hF69]; exact th_up
      have u74 : ∀ j : Int, 0 ≤ j → y_c f65 j = if j = v64.toInt then x3 else y_c f4 j := by rw [u66]; exact y_cu rfl (by omega)
      have k75 : y_NG f1 f65 := y_NGe (y_E_u u74 (by omega)) hNG (by rw [u74 6 (by omega), if_neg (by omega)]; exact hNG.2.2.1) (by rw [u74 7 (by omega), if_neg (by omega)]; exact hNG.2.2.2.1) (by omega)
      refine lv_iload hx hb dX7_poke_64 (lv_at hl 0 rfl) ?_
      exact W.iret (v := v63) hx hb hr (fun t ht hW => ⟨⟨v63, F68, rfl, ⟨trivial, trivial, hI, hfr, fun k hk => (y_fiZ oY72 (s_sub (by decide) hk)).trans ((hz0 k hk).trans (y_fiZ oY0 (s_sub (by decide) hk)).symm), (by rw [y_fiZ oY72 (k := 15) (by decide), ← ev10, y_atE o70, y_atE o73, y_atE o71, y_fiZ oY72 (k := 31) (by decide), ← ev60, y_fiZ oY72 (k := 32) (by decide), ← ev61]; exact (Or.inr ⟨by omega, hPG, k75, h48⟩))⟩, by rw [ht]; exact hP, va_K.moved hW.alike hK⟩, hS.F ht⟩) hS.2.2 dX7_poke_66
    · have c44 := (ax_eq (n := 0) (by decide)).mp c44
      refine lv_aload_n hx hb dX7_poke_28 rfl (lv_at hl 1 rfl) ?_
      refine lv_iconst (v := 3) hx hb dX7_poke_29 (by decide) ?_
      refine va_calli (va_runV (As := [.int 3]) (rest := []) ⟨hx, hb, hml, hown, hts⟩ (y_X7_refuses l dC dI H.size hLK A hA F16 a0 3 ha0 (by decide) hI) (cwV 1 hts (ax_gV T_310 T_311 T_312 T_265 T_33) rfl rfl rfl (by decide +kernel) ⟨Nat.le_of_ble_eq_true rfl, Nat.le_of_ble_eq_true rfl⟩) ⟨fun a U g mk q => ⟨q.1, s_pc (U := U) rfl rfl q.2⟩, s_recv hK hP (hLK _ ha0 (by decide)) (ci := 7) rfl oY23, fun U hU hW => ⟨rfl, s_pw hU hW hP hK hD hN⟩⟩ rfl rfl hl.1 rfl (lv_room (Nat.le_of_ble_eq_true rfl)) dX7_poke_30 ⟨Nat.zero_le _, Nat.zero_le _⟩) hS (fun q _ h => h) (fun q h => h) (fun r77 F78 t H1 locs ht hvm hw hB hz1 hk1 hS => ?_)
      obtain ⟨hP, hK1⟩ := hB
      rw [ht] at hP
      generalize H1 = H at hP hS ⊢
      clear hz1 hk1 hvm hK1
      obtain ⟨h79, h81, hI, hfr1, hzf, h80⟩ := hw
      have o82 : F78 (A 13) = .inl (cs 0, 400, .inl f1) := (hfr1 _ (by rw [(y_k13 hA)]; decide)).trans o20
      have o83 : F78 (A 20) = .inl (cs 0, 918, .inl f4) := (hfr1 _ (by rw [(y_k20 hA)]; decide)).trans o21
      have o84 : F78 (A 30) = .inl (cs 0, 18360, .inl f7) := (hfr1 _ (by rw [(y_k30 hA)]; decide)).trans o22
      have oY85 : F78 a0 = .inr (7, y_fl A z0 q0) := (hfr1 _ (by rw [ha0]; decide)).trans oY23
      have hfr : ∀ b, K b ∉ [9, 59, 70, 80] → F78 b = F b := fun b hb9 => (hfr1 b (fun q => hb9 (s_sub (by decide) q))).trans (hfr b hb9)
      refine lv_pop hx hb dX7_poke_33 rfl ?_
      refine lv_ldc (v := (-1000000)) hx hb hown (hts _ T_316) dX7_poke_34 ?_
      have h86 : ((-1000000) : Int32).toInt = (-1000000) := by decide
      exact W.iret (v := (-1000000)) hx hb hr (fun t ht hW => ⟨⟨(-1000000), F78, rfl, ⟨trivial, trivial, hI, hfr, fun k hk => (y_fiZ oY85 (s_sub (by decide) hk)).trans ((hz0 k hk).trans (y_fiZ oY0 (s_sub (by decide) hk)).symm), (by rw [y_fiZ oY85 (k := 15) (by decide), ← ev10, y_atE o82, y_atE o83, y_atE o84, y_fiZ oY85 (k := 31) (by decide), ← ev11, y_fiZ oY85 (k := 32) (by decide), ← ev12]; exact hT)⟩, by rw [ht]; exact hP, va_K.moved hW.alike hK⟩, hS.F ht⟩) hS.2.2 dX7_poke_36
