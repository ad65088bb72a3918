set_option maxHeartbeats 4000000 in
set_option maxRecDepth 100000 in
theorem y_X7_program (l : Launch) (dC : Nat → ClassId) (dI : Nat → Nat → Nat) (sz : Nat) {L : List Nat} {K : Nat → Nat} {cs : Nat → ClassId} (hLK : ∀ a {k : Nat}, K a = k → k ≠ 0 → a ∈ L) (A : Nat → Nat) (hA : y_A K A) (F : Nat → va_E) (a0 : Nat) (ha0 : K a0 = 9) (hI : y_I K cs A F) (hT : y_T (y_fi F a0 15) (y_at F (A 13)) (y_at F (A 20)) (y_at F (A 30)) (y_fi F a0 31) (y_fi F a0 32)) : Met l yX7_program (Cond.code yX7_program cX7_program 2 (some .int) :: T0) ({ frames := 9, cells := 0, slots := 0, locals := 198 }) (va_Pc [.ref a0] (s_W dC dI sz L F [(cs 0, .int), (cs 1, .byte), (cs 2, .long), (cs 3, .object RX5), (cs 4, .object RX4), (cs 5, .array .int), (cs 6, .char), (cs 7, .boolean)])) (va_Qi (fun (r : Int32) (G : Nat → va_E) => True ∧ True ∧ y_I K cs A G ∧ (∀ b, K b ∉ [9, 59, 62, 63, 64, 67, 68, 70] → G b = F b) ∧ (∀ k, k ∈ ([25, 26, 27, 32] : List Nat) → y_fi G a0 k = y_fi F a0 k) ∧ ((y_T (y_fi G a0 15) (y_at G (A 13)) (y_at G (A 20)) (y_at G (A 30)) (y_fi G a0 31) (y_fi G a0 32)) ∧ (y_fi G a0 1).toInt = 0)) (fun (G : Nat → va_E) (t : State) => va_P (dC, dI) vwCl (va_pl L G) t.heap ∧ va_K (dC, dI) vwCl [(cs 0, .int), (cs 1, .byte), (cs 2, .long), (cs 3, .object RX5), (cs 4, .object RX4), (cs 5, .array .int), (cs 6, .char), (cs 7, .boolean)] t) (fun q => q ∈ L)) 0 0 (fun q => q ∈ L) := by
  refine Met.ofW (cc := cX7_program) (maxL := 2) (ret := (some .int)) (by decide) rfl ?_
  intro p e s m args below meth c s₁ B hml hv
  obtain ⟨rfl, hsz, hP, hK, hD, hN⟩ := hv
  have hx := B.exec
  have hb := B.bytes
  have hr := B.returns
  have hts : ∀ w ∈ T0, w.before _ s = true := fun w h => atoms_spec (ws := Cond.code yX7_program cX7_program 2 (some .int) :: T0) B.pre w (List.mem_cons_of_mem _ h)
  have hown : s.vm.findClass RX7 = some m.cls := findClass_of_methodNamed B.named
  have hlocks := B.notSynchronized
  have hS : va_S (fun q => q ∈ L) s.heap s.heap [] := va_S.rf
  have hfr : ∀ b, K b ∉ [9, 59, 62, 63, 64, 67, 68, 70] → F b = F b := fun _ _ => rfl
  have hl := lv_entry ([.ref a0]) (n := 2) (Nat.le_of_ble_eq_true rfl)
  rw [lg_entry_eq]
  generalize (lg_sl ([.ref a0]) ++ List.replicate (2 - (lg_sl ([.ref a0])).length) Slot.unset).toArray = ls at hl ⊢
  have hl : lv_has ls 2 [(0, .ref a0)] := hl
  refine s_gen hP hS (fun H locs hP hS => ?_)
  obtain ⟨z0, q0, oY0, bz0, bq0⟩ := y_opY hI ha0
  have hz0 : ∀ k, k ∈ ([25, 26, 27, 32] : List Nat) → z0 k = z0 k := fun _ _ => rfl
  obtain ⟨f1, o2, b3⟩ := y_op12 hI
  obtain ⟨f4, o5, b6⟩ := y_op13 hI
  obtain ⟨f7, o8, b9⟩ := y_op20 hI
  obtain ⟨f10, o11, b12⟩ := y_op30 hI
  obtain ⟨v13, ev13⟩ : ∃ y : Int32, y = z0 1 := ⟨_, rfl⟩
  have qv13 : 0 ≤ v13.toInt ∧ v13.toInt ≤ 1600 := by rw [ev13]; exact y_bY1 bz0
  have eF_1 := ev13
  obtain ⟨v14, ev14⟩ : ∃ y : Int32, y = z0 5 := ⟨_, rfl⟩
  have eF_5 := ev14
  obtain ⟨v15, ev15⟩ : ∃ y : Int32, y = z0 15 := ⟨_, rfl⟩
  have qv15 : 0 ≤ v15.toInt ∧ v15.toInt ≤ 1 := by rw [ev15]; exact y_bY15 bz0
  have eF_15 := ev15
  obtain ⟨v16, ev16⟩ : ∃ y : Int32, y = z0 31 := ⟨_, rfl⟩
  have qv16 : 0 ≤ v16.toInt ∧ v16.toInt ≤ 20 := by rw [ev16]; exact y_bY31 bz0
  have eF_31 := ev16
  obtain ⟨v17, ev17⟩ : ∃ y : Int32, y = z0 32 := ⟨_, rfl⟩
  have qv17 : 0 ≤ v17.toInt ∧ v17.toInt ≤ 19 := by rw [ev17]; exact y_bY32 bz0
  have eF_32 := ev17
  replace hT : y_T v15 f4 f7 f10 v16 v17 := by have q9 := hT; rw [y_fiZ oY0 (k := 15) (by decide), ← ev15, y_atE o5, y_atE o8, y_atE o11, y_fiZ oY0 (k := 31) (by decide), ← ev16, y_fiZ oY0 (k := 32) (by decide), ← ev17] at q9; exact q9
  have e0_v13 := ev13
  have e0_v14 := ev14
  have e0_v15 := ev15
  have e0_v16 := ev16
  have e0_v17 := ev17
  refine th_join (fun g H locs => ∃ (G : Nat → va_E) (ls : Array Slot), g = F0 m 131 ls [] ∧ lv_has ls 2 [(0, .ref a0)] ∧ va_P (dC, dI) vwCl (va_pl L G) H ∧ va_S (fun q => q ∈ L) s.heap H locs ∧ y_I K cs A G ∧ (∀ b, K b ∉ [9, 59, 62, 63, 64, 67, 68, 70] → G b = F b) ∧ (∀ k, k ∈ ([25, 26, 27, 32] : List Nat) → y_fi G a0 k = z0 k) ∧ (y_T (y_fi G a0 15) (y_at G (A 13)) (y_at G (A 20)) (y_at G (A 30)) (y_fi G a0 31) (y_fi G a0 32)) ∧ ((y_fi G a0 1).toInt = 0) ∧ ((y_fi G a0 5).toInt = 0 → y_DS (y_at G (A 12))) ∧ ((y_fi G a0 5).toInt = 0 → ¬ (y_c (y_at G (A 12)) 387).toInt = 0)) (fun K131 => ?_) ?_
  · refine lv_aload_n hx hb dX7_program_0 rfl (lv_at hl 0 rfl) ?_
    refine lv_aload_n hx hb dX7_program_1 rfl (lv_at hl 0 rfl) ?_
    refine th_get (D := (dC, dI)) (ci := 7) (v := .int (z0 1)) (C := RX7) (T := TX7) (N := 34) hx hb hts inX7 hown hK hP (hLK _ ha0 (by decide)) oY0 rfl 1 (by decide) (hts _ T_261) (fun _ h9 => h9) rfl dX7_program_2 ?_
    refine ax_eqi (y := v13) ev13.symm ?_
    refine th_put (D := (dC, dI)) (ci := 7) (v := .int v13) (ty := .int) (C := RX7) (T := TX7) (N := 34) hx hb hts inX7 tyX7 tyX7_ok nmX7 hown hK hP hD hS (hLK _ ha0 (by decide)) oY0 rfl 3 (by decide) (hts _ T_273) (fun _ h9 => h9) rfl (by decide +kernel) rfl rfl (Nat.le_of_ble_eq_true rfl) dX7_program_5 (fun H locs hP hS => ?_)
    rw [y_fs3] at hP
    obtain ⟨z18, hz19⟩ : ∃ g : Nat → Int32, g = upd z0 3 v13 := ⟨_, rfl⟩
    rw [← hz19] at hP
    have bz20 : y_bY z18 := by rw [hz19]; exact y_bp3 bz0 ⟨by omega, by omega⟩
    have hP : va_P (dC, dI) vwCl (va_pl L (va_up F a0 (.inr (7, y_fl A z18 q0)))) H := hP
    obtain ⟨F21, hF22⟩ : ∃ G : Nat → va_E, G = va_up F a0 (.inr (7, y_fl A z18 q0)) := ⟨_, rfl⟩
    rw [← hF22] at hP
    have hI : y_I K cs A F21 := by rw [hF22]; exact y_clY hA hI ha0 bz20 bq0
    have hfr : ∀ b, K b ∉ [9, 59, 62, 63, 64, 67, 68, 70] → F21 b = F b := by rw [hF22]; exact s_fr hfr ha0 (by decide)
    have o23 : F21 (A 12) = .inl (cs 0, 400, .inl f1) := by rw [hF22]; exact th_ne (th_kd (y_k12 hA) ha0 (by decide)) o2
    have o24 : F21 (A 13) = .inl (cs 0, 400, .inl f4) := by rw [hF22]; exact th_ne (th_kd (y_k13 hA) ha0 (by decide)) o5
    have o25 : F21 (A 20) = .inl (cs 0, 918, .inl f7) := by rw [hF22]; exact th_ne (th_kd (y_k20 hA) ha0 (by decide)) o8
    have o26 : F21 (A 30) = .inl (cs 0, 18360, .inl f10) := by rw [hF22]; exact th_ne (th_kd (y_k30 hA) ha0 (by decide)) o11
    have oY27 : F21 a0 = .inr (7, y_fl A z18 q0) := by rw [hF22]; exact th_up
    have hz0 : ∀ k, k ∈ ([25, 26, 27, 32] : List Nat) → z18 k = z0 k := fun k hk => by rw [hz19]; exact (y_un (fun q => absurd hk (by rw [q]; decide))).trans (hz0 k hk)
    have ev13 : v13 = z18 1 := by rw [hz19]; exact ev13.trans (y_un (by decide)).symm
    have ev14 : v14 = z18 5 := by rw [hz19]; exact ev14.trans (y_un (by decide)).symm
    have ev15 : v15 = z18 15 := by rw [hz19]; exact ev15.trans (y_un (by decide)).symm
    have ev16 : v16 = z18 31 := by rw [hz19]; exact ev16.trans (y_un (by decide)).symm
    have ev17 : v17 = z18 32 := by rw [hz19]; exact ev17.trans (y_un (by decide)).symm
    obtain ⟨v28, ev28⟩ : ∃ y : Int32, y = z18 3 := ⟨_, rfl⟩
    have qv28 : v28.toInt = v13.toInt := by rw [ev28, hz19, y_ue]
    refine lv_aload_n hx hb dX7_program_8 rfl (lv_at hl 0 rfl) ?_
    refine lv_iconst (v := 0) hx hb dX7_program_9 (by decide) ?_
    refine th_put (D := (dC, dI)) (ci := 7) (v := .int 0) (ty := .int) (C := RX7) (T := TX7) (N := 34) hx hb hts inX7 tyX7 tyX7_ok nmX7 hown hK hP hD hS (hLK _ ha0 (by decide)) oY27 rfl 1 (by decide) (hts _ T_261) (fun _ h9 => h9) rfl (by decide +kernel) rfl rfl (Nat.le_of_ble_eq_true rfl) dX7_program_10 (fun H locs hP hS => ?_)
    rw [y_fs1] at hP
    obtain ⟨z29, hz30⟩ : ∃ g : Nat → Int32, g = upd z18 1 0 := ⟨_, rfl⟩
    rw [← hz30] at hP
    have bz31 : y_bY z29 := by rw [hz30]; exact y_bp1 bz20 (by decide)
    have hP : va_P (dC, dI) vwCl (va_pl L (va_up F21 a0 (.inr (7, y_fl A z29 q0)))) H := hP
    obtain ⟨F32, hF33⟩ : ∃ G : Nat → va_E, G = va_up F21 a0 (.inr (7, y_fl A z29 q0)) := ⟨_, rfl⟩
    rw [← hF33] at hP
    have hI : y_I K cs A F32 := by rw [hF33]; exact y_clY hA hI ha0 bz31 bq0
    have hfr : ∀ b, K b ∉ [9, 59, 62, 63, 64, 67, 68, 70] → F32 b = F b := by rw [hF33]; exact s_fr hfr ha0 (by decide)
    have o34 : F32 (A 12) = .inl (cs 0, 400, .inl f1) := by rw [hF33]; exact th_ne (th_kd (y_k12 hA) ha0 (by decide)) o23
    have o35 : F32 (A 13) = .inl (cs 0, 400, .inl f4) := by rw [hF33]; exact th_ne (th_kd (y_k13 hA) ha0 (by decide)) o24
    have o36 : F32 (A 20) = .inl (cs 0, 918, .inl f7) := by rw [hF33]; exact th_ne (th_kd (y_k20 hA) ha0 (by decide)) o25
    have o37 : F32 (A 30) = .inl (cs 0, 18360, .inl f10) := by rw [hF33]; exact th_ne (th_kd (y_k30 hA) ha0 (by decide)) o26
    have oY38 : F32 a0 = .inr (7, y_fl A z29 q0) := by rw [hF33]; exact th_up
    have hz0 : ∀ k, k ∈ ([25, 26, 27, 32] : List Nat) → z29 k = z0 k := fun k hk => by rw [hz30]; exact (y_un (fun q => absurd hk (by rw [q]; decide))).trans (hz0 k hk)
    have ev14 : v14 = z29 5 := by rw [hz30]; exact ev14.trans (y_un (by decide)).symm
    have ev15 : v15 = z29 15 := by rw [hz30]; exact ev15.trans (y_un (by decide)).symm
    have ev16 : v16 = z29 31 := by rw [hz30]; exact ev16.trans (y_un (by decide)).symm
    have ev17 : v17 = z29 32 := by rw [hz30]; exact ev17.trans (y_un (by decide)).symm
    have ev28 : v28 = z29 3 := by rw [hz30]; exact ev28.trans (y_un (by decide)).symm
    obtain ⟨v39, ev39⟩ : ∃ y : Int32, y = z29 1 := ⟨_, rfl⟩
    have qv39 : v39.toInt = 0 := by rw [ev39, hz30, y_ue]; decide
    refine lv_aload_n hx hb dX7_program_13 rfl (lv_at hl 0 rfl) ?_
    refine lv_iconst (v := 0) hx hb dX7_program_14 (by decide) ?_
    refine th_put (D := (dC, dI)) (ci := 7) (v := .int 0) (ty := .int) (C := RX7) (T := TX7) (N := 34) hx hb hts inX7 tyX7 tyX7_ok nmX7 hown hK hP hD hS (hLK _ ha0 (by decide)) oY38 rfl 2 (by decide) (hts _ T_272) (fun _ h9 => h9) rfl (by decide +kernel) rfl rfl (Nat.le_of_ble_eq_true rfl) dX7_program_15 (fun H locs hP hS => ?_)
    rw [y_fs2] at hP
    obtain ⟨z40, hz41⟩ : ∃ g : Nat → Int32, g = upd z29 2 0 := ⟨_, rfl⟩
    rw [← hz41] at hP
    have bz42 : y_bY z40 := by rw [hz41]; exact y_bp2 bz31 (by decide)
    have hP : va_P (dC, dI) vwCl (va_pl L (va_up F32 a0 (.inr (7, y_fl A z40 q0)))) H := hP
    obtain ⟨F43, hF44⟩ : ∃ G : Nat → va_E, G = va_up F32 a0 (.inr (7, y_fl A z40 q0)) := ⟨_, rfl⟩
    rw [← hF44] at hP
    have hI : y_I K cs A F43 := by rw [hF44]; exact y_clY hA hI ha0 bz42 bq0
    have hfr : ∀ b, K b ∉ [9, 59, 62, 63, 64, 67, 68, 70] → F43 b = F b := by rw [hF44]; exact s_fr hfr ha0 (by decide)
    have o45 : F43 (A 12) = .inl (cs 0, 400, .inl f1) := by rw [hF44]; exact th_ne (th_kd (y_k12 hA) ha0 (by decide)) o34
    have o46 : F43 (A 13) = .inl (cs 0, 400, .inl f4) := by rw [hF44]; exact th_ne (th_kd (y_k13 hA) ha0 (by decide)) o35
    have o47 : F43 (A 20) = .inl (cs 0, 918, .inl f7) := by rw [hF44]; exact th_ne (th_kd (y_k20 hA) ha0 (by decide)) o36
    have o48 : F43 (A 30) = .inl (cs 0, 18360, .inl f10) := by rw [hF44]; exact th_ne (th_kd (y_k30 hA) ha0 (by decide)) o37
    have oY49 : F43 a0 = .inr (7, y_fl A z40 q0) := by rw [hF44]; exact th_up
    have hz0 : ∀ k, k ∈ ([25, 26, 27, 32] : List Nat) → z40 k = z0 k := fun k hk => by rw [hz41]; exact (y_un (fun q => absurd hk (by rw [q]; decide))).trans (hz0 k hk)
    have ev14 : v14 = z40 5 := by rw [hz41]; exact ev14.trans (y_un (by decide)).symm
    have ev15 : v15 = z40 15 := by rw [hz41]; exact ev15.trans (y_un (by decide)).symm
    have ev16 : v16 = z40 31 := by rw [hz41]; exact ev16.trans (y_un (by decide)).symm
    have ev17 : v17 = z40 32 := by rw [hz41]; exact ev17.trans (y_un (by decide)).symm
    have ev28 : v28 = z40 3 := by rw [hz41]; exact ev28.trans (y_un (by decide)).symm
    have ev39 : v39 = z40 1 := by rw [hz41]; exact ev39.trans (y_un (by decide)).symm
    obtain ⟨v50, ev50⟩ : ∃ y : Int32, y = z40 2 := ⟨_, rfl⟩
    have qv50 : v50.toInt = 0 := by rw [ev50, hz41, y_ue]; decide
    refine lv_aload_n hx hb dX7_program_18 rfl (lv_at hl 0 rfl) ?_
    refine lv_iconst (v := (-1)) hx hb dX7_program_19 (by decide) ?_
    refine th_put (D := (dC, dI)) (ci := 7) (v := .int (-1)) (ty := .int) (C := RX7) (T := TX7) (N := 34) hx hb hts inX7 tyX7 tyX7_ok nmX7 hown hK hP hD hS (hLK _ ha0 (by decide)) oY49 rfl 4 (by decide) (hts _ T_296) (fun _ h9 => h9) rfl (by decide +kernel) rfl rfl (Nat.le_of_ble_eq_true rfl) dX7_program_20 (fun H locs hP hS => ?_)
    rw [y_fs4] at hP
    obtain ⟨z51, hz52⟩ : ∃ g : Nat → Int32, g = upd z40 4 (-1) := ⟨_, rfl⟩
    rw [← hz52] at hP
    have bz53 : y_bY z51 := by rw [hz52]; exact y_bp4 bz42
    have hP : va_P (dC, dI) vwCl (va_pl L (va_up F43 a0 (.inr (7, y_fl A z51 q0)))) H := hP
    obtain ⟨F54, hF55⟩ : ∃ G : Nat → va_E, G = va_up F43 a0 (.inr (7, y_fl A z51 q0)) := ⟨_, rfl⟩
    rw [← hF55] at hP
    have hI : y_I K cs A F54 := by rw [hF55]; exact y_clY hA hI ha0 bz53 bq0
    have hfr : ∀ b, K b ∉ [9, 59, 62, 63, 64, 67, 68, 70] → F54 b = F b := by rw [hF55]; exact s_fr hfr ha0 (by decide)
    have o56 : F54 (A 12) = .inl (cs 0, 400, .inl f1) := by rw [hF55]; exact th_ne (th_kd (y_k12 hA) ha0 (by decide)) o45
    have o57 : F54 (A 13) = .inl (cs 0, 400, .inl f4) := by rw [hF55]; exact th_ne (th_kd (y_k13 hA) ha0 (by decide)) o46
    have o58 : F54 (A 20) = .inl (cs 0, 918, .inl f7) := by rw [hF55]; exact th_ne (th_kd (y_k20 hA) ha0 (by decide)) o47
    have o59 : F54 (A 30) = .inl (cs 0, 18360, .inl f10) := by rw [hF55]; exact th_ne (th_kd (y_k30 hA) ha0 (by decide)) o48
    have oY60 : F54 a0 = .inr (7, y_fl A z51 q0) := by rw [hF55]; exact th_up
    have hz0 : ∀ k, k ∈ ([25, 26, 27, 32] : List Nat) → z51 k = z0 k := fun k hk => by rw [hz52]; exact (y_un (fun q => absurd hk (by rw [q]; decide))).trans (hz0 k hk)
    have ev14 : v14 = z51 5 := by rw [hz52]; exact ev14.trans (y_un (by decide)).symm
    have ev15 : v15 = z51 15 := by rw [hz52]; exact ev15.trans (y_un (by decide)).symm
    have ev16 : v16 = z51 31 := by rw [hz52]; exact ev16.trans (y_un (by decide)).symm
    have ev17 : v17 = z51 32 := by rw [hz52]; exact ev17.trans (y_un (by decide)).symm
    have ev28 : v28 = z51 3 := by rw [hz52]; exact ev28.trans (y_un (by decide)).symm
    have ev39 : v39 = z51 1 := by rw [hz52]; exact ev39.trans (y_un (by decide)).symm
    have ev50 : v50 = z51 2 := by rw [hz52]; exact ev50.trans (y_un (by decide)).symm
    obtain ⟨v61, ev61⟩ : ∃ y : Int32, y = z51 4 := ⟨_, rfl⟩
    have qv61 : v61.toInt = (-1) := by rw [ev61, hz52, y_ue]; decide
    refine lv_aload_n hx hb dX7_program_23 rfl (lv_at hl 0 rfl) ?_
    refine lv_iconst (v := 0) hx hb dX7_program_24 (by decide) ?_
    refine th_put (D := (dC, dI)) (ci := 7) (v := .int 0) (ty := .int) (C := RX7) (T := TX7) (N := 34) hx hb hts inX7 tyX7 tyX7_ok nmX7 hown hK hP hD hS (hLK _ ha0 (by decide)) oY60 rfl 5 (by decide) (hts _ T_274) (fun _ h9 => h9) rfl (by decide +kernel) rfl rfl (Nat.le_of_ble_eq_true rfl) dX7_program_25 (fun H locs hP hS => ?_)
    rw [y_fs5] at hP
    obtain ⟨z62, hz63⟩ : ∃ g : Nat → Int32, g = upd z51 5 0 := ⟨_, rfl⟩
    rw [← hz63] at hP
    have bz64 : y_bY z62 := by rw [hz63]; exact y_bp5 bz53
    have hP : va_P (dC, dI) vwCl (va_pl L (va_up F54 a0 (.inr (7, y_fl A z62 q0)))) H := hP
    obtain ⟨F65, hF66⟩ : ∃ G : Nat → va_E, G = va_up F54 a0 (.inr (7, y_fl A z62 q0)) := ⟨_, rfl⟩
    rw [← hF66] at hP
    have hI : y_I K cs A F65 := by rw [hF66]; exact y_clY hA hI ha0 bz64 bq0
    have hfr : ∀ b, K b ∉ [9, 59, 62, 63, 64, 67, 68, 70] → F65 b = F b := by rw [hF66]; exact s_fr hfr ha0 (by decide)
    have o67 : F65 (A 12) = .inl (cs 0, 400, .inl f1) := by rw [hF66]; exact th_ne (th_kd (y_k12 hA) ha0 (by decide)) o56
    have o68 : F65 (A 13) = .inl (cs 0, 400, .inl f4) := by rw [hF66]; exact th_ne (th_kd (y_k13 hA) ha0 (by decide)) o57
    have o69 : F65 (A 20) = .inl (cs 0, 918, .inl f7) := by rw [hF66]; exact th_ne (th_kd (y_k20 hA) ha0 (by decide)) o58
    have o70 : F65 (A 30) = .inl (cs 0, 18360, .inl f10) := by rw [hF66]; exact th_ne (th_kd (y_k30 hA) ha0 (by decide)) o59
    have oY71 : F65 a0 = .inr (7, y_fl A z62 q0) := by rw [hF66]; exact th_up
    have hz0 : ∀ k, k ∈ ([25, 26, 27, 32] : List Nat) → z62 k = z0 k := fun k hk => by rw [hz63]; exact (y_un (fun q => absurd hk (by rw [q]; decide))).trans (hz0 k hk)
    have ev15 : v15 = z62 15 := by rw [hz63]; exact ev15.trans (y_un (by decide)).symm
    have ev16 : v16 = z62 31 := by rw [hz63]; exact ev16.trans (y_un (by decide)).symm
    have ev17 : v17 = z62 32 := by rw [hz63]; exact ev17.trans (y_un (by decide)).symm
    have ev28 : v28 = z62 3 := by rw [hz63]; exact ev28.trans (y_un (by decide)).symm
    have ev39 : v39 = z62 1 := by rw [hz63]; exact ev39.trans (y_un (by decide)).symm
    have ev50 : v50 = z62 2 := by rw [hz63]; exact ev50.trans (y_un (by decide)).symm
    have ev61 : v61 = z62 4 := by rw [hz63]; exact ev61.trans (y_un (by decide)).symm
    obtain ⟨v72, ev72⟩ : ∃ y : Int32, y = z62 5 := ⟨_, rfl⟩
    have qv72 : v72.toInt = 0 := by rw [ev72, hz63, y_ue]; decide
    refine lv_aload_n hx hb dX7_program_28 rfl (lv_at hl 0 rfl) ?_
    refine lv_iconst (v := (-1)) hx hb dX7_program_29 (by decide) ?_
    refine th_put (D := (dC, dI)) (ci := 7) (v := .int (-1)) (ty := .int) (C := RX7) (T := TX7) (N := 34) hx hb hts inX7 tyX7 tyX7_ok nmX7 hown hK hP hD hS (hLK _ ha0 (by decide)) oY71 rfl 6 (by decide) (hts _ T_286) (fun _ h9 => h9) rfl (by decide +kernel) rfl rfl (Nat.le_of_ble_eq_true rfl) dX7_program_30 (fun H locs hP hS => ?_)
    rw [y_fs6] at hP
    obtain ⟨z73, hz74⟩ : ∃ g : Nat → Int32, g = upd z62 6 (-1) := ⟨_, rfl⟩
    rw [← hz74] at hP
    have bz75 : y_bY z73 := by rw [hz74]; exact y_bp6 bz64
    have hP : va_P (dC, dI) vwCl (va_pl L (va_up F65 a0 (.inr (7, y_fl A z73 q0)))) H := hP
    obtain ⟨F76, hF77⟩ : ∃ G : Nat → va_E, G = va_up F65 a0 (.inr (7, y_fl A z73 q0)) := ⟨_, rfl⟩
    rw [← hF77] at hP
    have hI : y_I K cs A F76 := by rw [hF77]; exact y_clY hA hI ha0 bz75 bq0
    have hfr : ∀ b, K b ∉ [9, 59, 62, 63, 64, 67, 68, 70] → F76 b = F b := by rw [hF77]; exact s_fr hfr ha0 (by decide)
    have o78 : F76 (A 12) = .inl (cs 0, 400, .inl f1) := by rw [hF77]; exact th_ne (th_kd (y_k12 hA) ha0 (by decide)) o67
    have o79 : F76 (A 13) = .inl (cs 0, 400, .inl f4) := by rw [hF77]; exact th_ne (th_kd (y_k13 hA) ha0 (by decide)) o68
    have o80 : F76 (A 20) = .inl (cs 0, 918, .inl f7) := by rw [hF77]; exact th_ne (th_kd (y_k20 hA) ha0 (by decide)) o69
    have o81 : F76 (A 30) = .inl (cs 0, 18360, .inl f10) := by rw [hF77]; exact th_ne (th_kd (y_k30 hA) ha0 (by decide)) o70
    have oY82 : F76 a0 = .inr (7, y_fl A z73 q0) := by rw [hF77]; exact th_up
    have hz0 : ∀ k, k ∈ ([25, 26, 27, 32] : List Nat) → z73 k = z0 k := fun k hk => by rw [hz74]; exact (y_un (fun q => absurd hk (by rw [q]; decide))).trans (hz0 k hk)
    have ev15 : v15 = z73 15 := by rw [hz74]; exact ev15.trans (y_un (by decide)).symm
    have ev16 : v16 = z73 31 := by rw [hz74]; exact ev16.trans (y_un (by decide)).symm
    have ev17 : v17 = z73 32 := by rw [hz74]; exact ev17.trans (y_un (by decide)).symm
    have ev28 : v28 = z73 3 := by rw [hz74]; exact ev28.trans (y_un (by decide)).symm
    have ev39 : v39 = z73 1 := by rw [hz74]; exact ev39.trans (y_un (by decide)).symm
    have ev50 : v50 = z73 2 := by rw [hz74]; exact ev50.trans (y_un (by decide)).symm
    have ev61 : v61 = z73 4 := by rw [hz74]; exact ev61.trans (y_un (by decide)).symm
    have ev72 : v72 = z73 5 := by rw [hz74]; exact ev72.trans (y_un (by decide)).symm
    obtain ⟨v83, ev83⟩ : ∃ y : Int32, y = z73 6 := ⟨_, rfl⟩
    have qv83 : v83.toInt = (-1) := by rw [ev83, hz74, y_ue]; decide
    refine lv_iconst (v := 0) hx hb dX7_program_33 (by decide) ?_
    refine lv_istore_n (lv' := [(1, .int 0), (0, .ref a0)]) hx hb dX7_program_34 rfl hl (by decide) rfl (fun ls hl => ?_)
    have h85 : (0 : Int32).toInt = 0 := by decide
    refine th_loop (fun n g H locs => ∃ (G : Nat → va_E) (ls : Array Slot) (w84 : Int32), g = F0 m 35 ls [] ∧ lv_has ls 2 [(0, .ref a0), (1, .int w84)] ∧ va_P (dC, dI) vwCl (va_pl L G) H ∧ va_S (fun q => q ∈ L) s.heap H locs ∧ y_I K cs A G ∧ (∀ b, K b ∉ [9, 59, 62, 63, 64, 67, 68, 70] → G b = F b) ∧ (∀ k, k ∈ ([25, 26, 27, 32] : List Nat) → y_fi G a0 k = z0 k) ∧ (0 ≤ w84.toInt ∧ w84.toInt ≤ 400) ∧ (y_T (y_fi G a0 15) (y_at G (A 13)) (y_at G (A 20)) (y_at G (A 30)) (y_fi G a0 31) (y_fi G a0 32)) ∧ ((y_fi G a0 1).toInt = 0) ∧ (∀ j : Int, 0 ≤ j → j < w84.toInt → y_c (y_at G (A 12)) j = 0) ∧ n = (401 - w84.toInt).toNat) _ ⟨F76, _, 0, rfl, lv_sub hl [1, 0] rfl, hP, hS, hI, hfr, (fun k hk => (y_fiZ oY82 (s_sub (by decide) hk)).trans (hz0 k hk)), (by decide), (by rw [y_fiZ oY82 (k := 15) (by decide), ← ev15, y_atE o79, y_atE o80, y_atE o81, y_fiZ oY82 (k := 31) (by decide), ← ev16, y_fiZ oY82 (k := 32) (by decide), ← ev17]; exact hT), (by first | (rw [y_fiZ oY82 (k := 1) (by decide), ← ev39]; omega) | rw [y_fiZ oY82 (k := 1) (by decide), ← ev39]), (by rw [y_atE o78]; exact (fun j h0 h1 => absurd h1 (by omega))), rfl⟩ (fun n ih35 g H locs hq => ?_)
    obtain ⟨F90, ls, w84, rfl, hl, hP, hS, hI, hfr, hz0, h86, h87, h88, h89, hn⟩ := hq
    have o91 : F90 (A 30) = .inl (cs 0, 18360, .inl f10) := (hfr _ (by rw [(y_k30 hA)]; decide)).trans o11
    obtain ⟨z92, q93, oY94, bz95, bq96⟩ := y_opY hI ha0
    have hz0 : ∀ k, k ∈ ([25, 26, 27, 32] : List Nat) → z92 k = z0 k := fun k hk => (y_fiZ oY94 (s_sub (by decide) hk)).symm.trans (hz0 k hk)
    have ev17 : v17 = z92 32 := e0_v17.trans (hz0 32 (by decide)).symm
    obtain ⟨v97, ev97⟩ : ∃ y : Int32, y = z92 15 := ⟨_, rfl⟩
    have qv97 : 0 ≤ v97.toInt ∧ v97.toInt ≤ 1 := by rw [ev97]; exact y_bY15 bz95
    obtain ⟨f98, o99, b100⟩ := y_op13 hI
    obtain ⟨f101, o102, b103⟩ := y_op20 hI
    obtain ⟨v104, ev104⟩ : ∃ y : Int32, y = z92 31 := ⟨_, rfl⟩
    have qv104 : 0 ≤ v104.toInt ∧ v104.toInt ≤ 20 := by rw [ev104]; exact y_bY31 bz95
    replace h87 : (y_T v97 f98 f101 f10 v104 v17) := by have q9 := h87; rw [y_fiZ oY94 (k := 15) (by decide), ← ev97, y_atE o99, y_atE o102, y_atE o91, y_fiZ oY94 (k := 31) (by decide), ← ev104, y_fiZ oY94 (k := 32) (by decide), ← ev17] at q9; exact q9
    obtain ⟨v105, ev105⟩ : ∃ y : Int32, y = z92 1 := ⟨_, rfl⟩
    have qv105 : 0 ≤ v105.toInt ∧ v105.toInt ≤ 1600 := by rw [ev105]; exact y_bY1 bz95
    replace h88 : (v105.toInt = 0) := by have q9 := h88; rw [y_fiZ oY94 (k := 1) (by decide), ← ev105] at q9; exact q9
    obtain ⟨f106, o107, b108⟩ := y_op12 hI
    replace h89 : (∀ j : Int, 0 ≤ j → j < w84.toInt → y_c f106 j = 0) := by have q9 := h89; rw [y_atE o107] at q9; exact q9
    have hn_108 := hn
    refine lv_iload_n hx hb dX7_program_35 rfl (lv_at hl 1 rfl) ?_
    refine lv_sipush (v := 400) hx hb dX7_program_36 (by decide) ?_
    refine lv_icmp_ge (tgt := 55) hx hb dX7_program_39 (by decide) (fun c109 => ?_) (fun c109 => ?_)
    · have c109 := (ax_ge (n := 400) (by decide)).mp c109
      refine lv_aload_n hx hb dX7_program_55 rfl (lv_at hl 0 rfl) ?_
      refine lv_bipush (v := 20) hx hb dX7_program_56 (by decide) ?_
      obtain ⟨v110, ev110⟩ : ∃ y : Int32, y = z92 5 := ⟨_, rfl⟩
      have ep111_5 := ev110
      refine va_callv (va_runV (As := [.int 20]) (rest := []) ⟨hx, hb, hml, hown, hts⟩ (y_X7_asks l dC dI H.size hLK A hA F90 a0 20 ha0 hI) (cwV 1 hts (ax_gV T_297 T_298 T_299 T_265 T_29) rfl rfl rfl (by decide +kernel) ⟨Nat.le_of_ble_eq_true rfl, Nat.le_of_ble_eq_true rfl⟩) ⟨fun a U g mk q => ⟨q.1, s_pc (U := U) rfl rfl q.2⟩, s_recv hK hP (hLK _ ha0 (by decide)) (ci := 7) rfl oY94, fun U hU hW => ⟨rfl, s_pw hU hW hP hK hD hN⟩⟩ rfl rfl hl.1 rfl (lv_room (Nat.le_of_ble_eq_true rfl)) dX7_program_58 ⟨Nat.zero_le _, Nat.zero_le _⟩) hS (fun q _ h => h) (fun q h => h) (fun F112 t H1 locs ht hvm hw hB hz1 hk1 hS => ?_)
      obtain ⟨hP, hK1⟩ := hB
      rw [ht] at hP
      generalize H1 = H at hP hS ⊢
      clear hz1 hk1 hvm hK1
      obtain ⟨h113, h115, hI, hfr1, hzf, h114⟩ := hw
      have o116 : F112 (A 30) = .inl (cs 0, 18360, .inl f10) := (hfr1 _ (by rw [(y_k30 hA)]; decide)).trans o91
      have o117 : F112 (A 13) = .inl (cs 0, 400, .inl f98) := (hfr1 _ (by rw [(y_k13 hA)]; decide)).trans o99
      have o118 : F112 (A 20) = .inl (cs 0, 918, .inl f101) := (hfr1 _ (by rw [(y_k20 hA)]; decide)).trans o102
      have o119 : F112 (A 12) = .inl (cs 0, 400, .inl f106) := (hfr1 _ (by rw [(y_k12 hA)]; decide)).trans o107
      obtain ⟨z120, q121, oY122, bz123, bq124⟩ := y_opY hI ha0
      have hzf : ∀ k, k ∈ ([1, 3, 7, 8, 11, 15, 16, 19, 25, 26, 27, 31, 32] : List Nat) → z120 k = z92 k := fun k hk => by have q9 := hzf k hk; rw [y_fiZ oY122 (s_sub (by decide) hk), y_fiZ oY94 (s_sub (by decide) hk)] at q9; exact q9
      have hz0 : ∀ k, k ∈ ([25, 26, 27, 32] : List Nat) → z120 k = z0 k := fun k hk => (hzf k (s_sub (by decide) hk)).trans (hz0 k hk)
      have ev17 : v17 = z120 32 := ev17.trans (hzf 32 (by decide)).symm
      have ev97 : v97 = z120 15 := ev97.trans (hzf 15 (by decide)).symm
      have ev104 : v104 = z120 31 := ev104.trans (hzf 31 (by decide)).symm
      have ev105 : v105 = z120 1 := ev105.trans (hzf 1 (by decide)).symm
      have hfr : ∀ b, K b ∉ [9, 59, 62, 63, 64, 67, 68, 70] → F112 b = F b := fun b hb9 => (hfr1 b (fun q => hb9 (s_sub (by decide) q))).trans (hfr b hb9)
      obtain ⟨v125, ev125⟩ : ∃ y : Int32, y = z120 5 := ⟨_, rfl⟩
      replace h114 : (v110.toInt = 0 ∨ ¬ v125.toInt = 0) := by have q9 := h114; rw [y_fiZ oY94 (k := 5) (by decide), ← ep111_5, y_fiZ oY122 (k := 5) (by decide), ← ev125] at q9; exact q9
      refine lv_aload_n hx hb dX7_program_61 rfl (lv_at hl 0 rfl) ?_
      refine th_get (D := (dC, dI)) (ci := 7) (v := .ref (A 12)) (C := RX7) (T := TX7) (N := 34) hx hb hts inX7 hown hK hP (hLK _ ha0 (by decide)) oY122 rfl 12 (by decide) (hts _ T_245) (fun _ h9 => h9) rfl dX7_program_62 ?_
      refine lv_sipush (v := 384) hx hb dX7_program_65 (by decide) ?_
      refine lv_aload_n hx hb dX7_program_68 rfl (lv_at hl 0 rfl) ?_
      refine lv_iconst (v := 1) hx hb dX7_program_69 (by decide) ?_
      refine lv_iconst (v := 4) hx hb dX7_program_70 (by decide) ?_
      have ep126_5 := ev125
      refine va_calli (va_runV (As := [.int 1, .int 4]) (rest := [.int 384, .ref (A 12)]) ⟨hx, hb, hml, hown, hts⟩ (y_X7_number l dC dI H.size hLK A hA F112 a0 1 4 ha0 hI) (cwV 2 hts (ax_gV T_300 T_301 T_302 T_265 T_30) rfl rfl rfl (by decide +kernel) ⟨Nat.le_of_ble_eq_true rfl, Nat.le_of_ble_eq_true rfl⟩) ⟨fun a U g mk q => ⟨q.1, s_pc (U := U) rfl rfl q.2⟩, s_recv hK hP (hLK _ ha0 (by decide)) (ci := 7) rfl oY122, fun U hU hW => ⟨rfl, s_pw hU hW hP hK hD hN⟩⟩ rfl rfl hl.1 rfl (lv_room (Nat.le_of_ble_eq_true rfl)) dX7_program_71 ⟨Nat.zero_le _, Nat.zero_le _⟩) hS (fun q _ h => h) (fun q h => h) (fun r127 F128 t H1 locs ht hvm hw hB hz1 hk1 hS => ?_)
      obtain ⟨hP, hK1⟩ := hB
      rw [ht] at hP
      generalize H1 = H at hP hS ⊢
      clear hz1 hk1 hvm hK1
      obtain ⟨h129, h131, hI, hfr1, hzf, h130⟩ := hw
      have o132 : F128 (A 30) = .inl (cs 0, 18360, .inl f10) := (hfr1 _ (by rw [(y_k30 hA)]; decide)).trans o116
      have o133 : F128 (A 13) = .inl (cs 0, 400, .inl f98) := (hfr1 _ (by rw [(y_k13 hA)]; decide)).trans o117
      have o134 : F128 (A 20) = .inl (cs 0, 918, .inl f101) := (hfr1 _ (by rw [(y_k20 hA)]; decide)).trans o118
      have o135 : F128 (A 12) = .inl (cs 0, 400, .inl f106) := (hfr1 _ (by rw [(y_k12 hA)]; decide)).trans o119
      obtain ⟨z136, q137, oY138, bz139, bq140⟩ := y_opY hI ha0
      have hzf : ∀ k, k ∈ ([1, 3, 7, 8, 11, 15, 16, 19, 25, 26, 27, 31, 32] : List Nat) → z136 k = z120 k := fun k hk => by have q9 := hzf k hk; rw [y_fiZ oY138 (s_sub (by decide) hk), y_fiZ oY122 (s_sub (by decide) hk)] at q9; exact q9
      have hz0 : ∀ k, k ∈ ([25, 26, 27, 32] : List Nat) → z136 k = z0 k := fun k hk => (hzf k (s_sub (by decide) hk)).trans (hz0 k hk)
      have ev17 : v17 = z136 32 := ev17.trans (hzf 32 (by decide)).symm
      have ev97 : v97 = z136 15 := ev97.trans (hzf 15 (by decide)).symm
      have ev104 : v104 = z136 31 := ev104.trans (hzf 31 (by decide)).symm
      have ev105 : v105 = z136 1 := ev105.trans (hzf 1 (by decide)).symm
      have hfr : ∀ b, K b ∉ [9, 59, 62, 63, 64, 67, 68, 70] → F128 b = F b := fun b hb9 => (hfr1 b (fun q => hb9 (s_sub (by decide) q))).trans (hfr b hb9)
      obtain ⟨v141, ev141⟩ : ∃ y : Int32, y = z136 5 := ⟨_, rfl⟩
      replace h130 : ((v125.toInt = 0 ∨ ¬ v141.toInt = 0) ∧ (v141.toInt = 0 → 1 ≤ r127.toInt ∧ r127.toInt ≤ 4)) := by have q9 := h130; rw [y_fiZ oY122 (k := 5) (by decide), ← ep126_5, y_fiZ oY138 (k := 5) (by decide), ← ev141] at q9; exact q9
      refine th_iast hx hb hK hP hD hS (hLK _ (y_k12 hA) (by decide)) 0 o135 rfl (ax_in (by decide)) dX7_program_74 (fun H locs hP hS => ?_)
      obtain ⟨f142, u143⟩ : ∃ g : Nat → Int32, g = upd f106 (384 : Int32).toNatClampNeg r127 := ⟨_, rfl⟩
      rw [← u143] at hP
      have b144 : y_bd 12 f142 := by rw [u143]; exact th_updJ (P := fun y => 0 ≤ y.toInt ∧ y.toInt ≤ 40) b108 (fun q => absurd q (by decide))
      have hP : va_P (dC, dI) vwCl (va_pl L (va_up F128 (A 12) (.inl (cs 0, 400, .inl f142)))) H := hP
      obtain ⟨F145, hF146⟩ : ∃ G : Nat → va_E, G = va_up F128 (A 12) (.inl (cs 0, 400, .inl f142)) := ⟨_, rfl⟩
      rw [← hF146] at hP
      have hI : y_I K cs A F145 := by rw [hF146]; exact y_clA (i := 12) hA hI (by decide) b144
      have hfr : ∀ b, K b ∉ [9, 59, 62, 63, 64, 67, 68, 70] → F145 b = F b := by rw [hF146]; exact s_fr hfr (y_k12 hA) (by decide)
      have o147 : F145 (A 30) = .inl (cs 0, 18360, .inl f10) := by rw [hF146]; exact th_ne (th_kd (y_k30 hA) (y_k12 hA) (by decide)) o132
      have o148 : F145 (A 13) = .inl (cs 0, 400, .inl f98) := by rw [hF146]; exact th_ne (th_kd (y_k13 hA) (y_k12 hA) (by decide)) o133
      have o149 : F145 (A 20) = .inl (cs 0, 918, .inl f101) := by rw [hF146]; exact th_ne (th_kd (y_k20 hA) (y_k12 hA) (by decide)) o134
      have oY150 : F145 a0 = .inr (7, y_fl A z136 q137) := by rw [hF146]; exact th_ne (th_kd ha0 (y_k12 hA) (by decide)) oY138
      have o151 : F145 (A 12) = .inl (cs 0, 400, .inl f142) := by rw [hF146]; exact th_up
      have u152 : ∀ j : Int, 0 ≤ j → y_c f142 j = if j = 384 then r127 else y_c f106 j := by rw [u143]; exact y_cu (by decide) (by decide)
      have hz4 : ∀ j : Int, 0 ≤ j → j < 400 → y_c f142 j = if j = 384 then r127 else 0 := fun j h0 h1 => by rw [u152 j h0]; split; exact rfl; exact h89 j h0 (by omega)
      have hz0i : (0 : Int32).toInt = 0 := by decide
      have hds4 : v141.toInt = 0 → y_DS f142 := fun h9 => ⟨by rw [hz4 387 (by omega) (by omega), if_neg (by omega)]; intro i h0 h1; omega, by rw [hz4 384 (by omega) (by omega), if_pos rfl]; exact h130.2 h9, by rw [hz4 385 (by omega) (by omega), if_neg (by omega)]; decide, by rw [hz4 386 (by omega) (by omega), if_neg (by omega)]; decide⟩
      refine lv_aload_n hx hb dX7_program_75 rfl (lv_at hl 0 rfl) ?_
      refine lv_bipush (v := 59) hx hb dX7_program_76 (by decide) ?_
      have ep153_5 := ev141
      refine va_callv (va_runV (As := [.int 59]) (rest := []) ⟨hx, hb, hml, hown, hts⟩ (y_X7_asksSign l dC dI H.size hLK A hA F145 a0 59 ha0 (by decide) hI) (cwV 1 hts (ax_gV T_303 T_304 T_305 T_265 T_31) rfl rfl rfl (by decide +kernel) ⟨Nat.le_of_ble_eq_true rfl, Nat.le_of_ble_eq_true rfl⟩) ⟨fun a U g mk q => ⟨q.1, s_pc (U := U) rfl rfl q.2⟩, s_recv hK hP (hLK _ ha0 (by decide)) (ci := 7) rfl oY150, fun U hU hW => ⟨rfl, s_pw hU hW hP hK hD hN⟩⟩ rfl rfl hl.1 rfl (lv_room (Nat.le_of_ble_eq_true rfl)) dX7_program_78 ⟨Nat.zero_le _, Nat.zero_le _⟩) hS (fun q _ h => h) (fun q h => h) (fun F154 t H1 locs ht hvm hw hB hz1 hk1 hS => ?_)
      obtain ⟨hP, hK1⟩ := hB
      rw [ht] at hP
      generalize H1 = H at hP hS ⊢
      clear hz1 hk1 hvm hK1
      obtain ⟨h155, h157, hI, hfr1, hzf, h156⟩ := hw
      have o158 : F154 (A 30) = .inl (cs 0, 18360, .inl f10) := (hfr1 _ (by rw [(y_k30 hA)]; decide)).trans o147
      have o159 : F154 (A 13) = .inl (cs 0, 400, .inl f98) := (hfr1 _ (by rw [(y_k13 hA)]; decide)).trans o148
      have o160 : F154 (A 20) = .inl (cs 0, 918, .inl f101) := (hfr1 _ (by rw [(y_k20 hA)]; decide)).trans o149
      have o161 : F154 (A 12) = .inl (cs 0, 400, .inl f142) := (hfr1 _ (by rw [(y_k12 hA)]; decide)).trans o151
      obtain ⟨z162, q163, oY164, bz165, bq166⟩ := y_opY hI ha0
      have hzf : ∀ k, k ∈ ([1, 3, 4, 7, 8, 11, 15, 16, 19, 25, 26, 27, 31, 32] : List Nat) → z162 k = z136 k := fun k hk => by have q9 := hzf k hk; rw [y_fiZ oY164 (s_sub (by decide) hk), y_fiZ oY150 (s_sub (by decide) hk)] at q9; exact q9
      have hz0 : ∀ k, k ∈ ([25, 26, 27, 32] : List Nat) → z162 k = z0 k := fun k hk => (hzf k (s_sub (by decide) hk)).trans (hz0 k hk)
      have ev17 : v17 = z162 32 := ev17.trans (hzf 32 (by decide)).symm
      have ev97 : v97 = z162 15 := ev97.trans (hzf 15 (by decide)).symm
      have ev104 : v104 = z162 31 := ev104.trans (hzf 31 (by decide)).symm
      have ev105 : v105 = z162 1 := ev105.trans (hzf 1 (by decide)).symm
      have hfr : ∀ b, K b ∉ [9, 59, 62, 63, 64, 67, 68, 70] → F154 b = F b := fun b hb9 => (hfr1 b (fun q => hb9 (s_sub (by decide) q))).trans (hfr b hb9)
      obtain ⟨v167, ev167⟩ : ∃ y : Int32, y = z162 5 := ⟨_, rfl⟩
      replace h156 : (v141.toInt = 0 ∨ ¬ v167.toInt = 0) := by have q9 := h156; rw [y_fiZ oY150 (k := 5) (by decide), ← ep153_5, y_fiZ oY164 (k := 5) (by decide), ← ev167] at q9; exact q9
      have k168 : v167.toInt = 0 → y_DS f142 := fun h9 => hds4 (by omega)
      refine lv_aload_n hx hb dX7_program_81 rfl (lv_at hl 0 rfl) ?_
      refine lv_iconst (v := 1) hx hb dX7_program_82 (by decide) ?_
      refine th_put (D := (dC, dI)) (ci := 7) (v := .int 1) (ty := .int) (C := RX7) (T := TX7) (N := 34) hx hb hts inX7 tyX7 tyX7_ok nmX7 hown hK hP hD hS (hLK _ ha0 (by decide)) oY164 rfl 16 (by decide) (hts _ T_306) (fun _ h9 => h9) rfl (by decide +kernel) rfl rfl (Nat.le_of_ble_eq_true rfl) dX7_program_83 (fun H locs hP hS => ?_)
      rw [y_fs16] at hP
      obtain ⟨z169, hz170⟩ : ∃ g : Nat → Int32, g = upd z162 16 1 := ⟨_, rfl⟩
      rw [← hz170] at hP
      have bz171 : y_bY z169 := by rw [hz170]; exact y_bp16 bz165
      have hP : va_P (dC, dI) vwCl (va_pl L (va_up F154 a0 (.inr (7, y_fl A z169 q163)))) H := hP
      obtain ⟨F172, hF173⟩ : ∃ G : Nat → va_E, G = va_up F154 a0 (.inr (7, y_fl A z169 q163)) := ⟨_, rfl⟩
      rw [← hF173] at hP
      have hI : y_I K cs A F172 := by rw [hF173]; exact y_clY hA hI ha0 bz171 bq166
      have hfr : ∀ b, K b ∉ [9, 59, 62, 63, 64, 67, 68, 70] → F172 b = F b := by rw [hF173]; exact s_fr hfr ha0 (by decide)
      have o174 : F172 (A 30) = .inl (cs 0, 18360, .inl f10) := by rw [hF173]; exact th_ne (th_kd (y_k30 hA) ha0 (by decide)) o158
      have o175 : F172 (A 13) = .inl (cs 0, 400, .inl f98) := by rw [hF173]; exact th_ne (th_kd (y_k13 hA) ha0 (by decide)) o159
      have o176 : F172 (A 20) = .inl (cs 0, 918, .inl f101) := by rw [hF173]; exact th_ne (th_kd (y_k20 hA) ha0 (by decide)) o160
      have o177 : F172 (A 12) = .inl (cs 0, 400, .inl f142) := by rw [hF173]; exact th_ne (th_kd (y_k12 hA) ha0 (by decide)) o161
      have oY178 : F172 a0 = .inr (7, y_fl A z169 q163) := by rw [hF173]; exact th_up
      have hz0 : ∀ k, k ∈ ([25, 26, 27, 32] : List Nat) → z169 k = z0 k := fun k hk => by rw [hz170]; exact (y_un (fun q => absurd hk (by rw [q]; decide))).trans (hz0 k hk)
      have ev17 : v17 = z169 32 := by rw [hz170]; exact ev17.trans (y_un (by decide)).symm
      have ev97 : v97 = z169 15 := by rw [hz170]; exact ev97.trans (y_un (by decide)).symm
      have ev104 : v104 = z169 31 := by rw [hz170]; exact ev104.trans (y_un (by decide)).symm
      have ev105 : v105 = z169 1 := by rw [hz170]; exact ev105.trans (y_un (by decide)).symm
      have ev167 : v167 = z169 5 := by rw [hz170]; exact ev167.trans (y_un (by decide)).symm
      obtain ⟨v179, ev179⟩ : ∃ y : Int32, y = z169 16 := ⟨_, rfl⟩
      have qv179 : v179.toInt = 1 := by rw [ev179, hz170, y_ue]; decide
      refine th_loop (fun n g H locs => ∃ (G : Nat → va_E) (ls : Array Slot), g = F0 m 86 ls [] ∧ lv_has ls 2 [(0, .ref a0)] ∧ va_P (dC, dI) vwCl (va_pl L G) H ∧ va_S (fun q => q ∈ L) s.heap H locs ∧ y_I K cs A G ∧ (∀ b, K b ∉ [9, 59, 62, 63, 64, 67, 68, 70] → G b = F b) ∧ (∀ k, k ∈ ([25, 26, 27, 32] : List Nat) → y_fi G a0 k = z0 k) ∧ (y_T (y_fi G a0 15) (y_at G (A 13)) (y_at G (A 20)) (y_at G (A 30)) (y_fi G a0 31) (y_fi G a0 32)) ∧ ((y_fi G a0 1).toInt = 0) ∧ ((y_fi G a0 5).toInt = 0 → y_DS (y_at G (A 12))) ∧ ((1 ≤ (y_fi G a0 16).toInt ∧ (y_fi G a0 16).toInt ≤ 81) ∧ ((y_fi G a0 16).toInt = 81 → ¬ (y_fi G a0 5).toInt = 0)) ∧ n = (82 - (y_fi G a0 16).toInt).toNat) _ ⟨F172, _, rfl, lv_sub hl [0] rfl, hP, hS, hI, hfr, (fun k hk => (y_fiZ oY178 (s_sub (by decide) hk)).trans (hz0 k hk)), (by rw [y_fiZ oY178 (k := 15) (by decide), ← ev97, y_atE o175, y_atE o176, y_atE o174, y_fiZ oY178 (k := 31) (by decide), ← ev104, y_fiZ oY178 (k := 32) (by decide), ← ev17]; exact h87), (by first | (rw [y_fiZ oY178 (k := 1) (by decide), ← ev105]; omega) | rw [y_fiZ oY178 (k := 1) (by decide), ← ev105]), (by rw [y_fiZ oY178 (k := 5) (by decide), ← ev167, y_atE o177]; exact k168), (by first | (rw [y_fiZ oY178 (k := 16) (by decide), ← ev179, y_fiZ oY178 (k := 5) (by decide), ← ev167]; omega) | rw [y_fiZ oY178 (k := 16) (by decide), ← ev179, y_fiZ oY178 (k := 5) (by decide), ← ev167]), rfl⟩ (fun n ih86 g H locs hq => ?_)
      obtain ⟨F184, ls, rfl, hl, hP, hS, hI, hfr, hz0, h180, h181, h182, h183, hn⟩ := hq
      have o185 : F184 (A 30) = .inl (cs 0, 18360, .inl f10) := (hfr _ (by rw [(y_k30 hA)]; decide)).trans o11
      obtain ⟨z186, q187, oY188, bz189, bq190⟩ := y_opY hI ha0
      have hz0 : ∀ k, k ∈ ([25, 26, 27, 32] : List Nat) → z186 k = z0 k := fun k hk => (y_fiZ oY188 (s_sub (by decide) hk)).symm.trans (hz0 k hk)
      have ev17 : v17 = z186 32 := e0_v17.trans (hz0 32 (by decide)).symm
      obtain ⟨v191, ev191⟩ : ∃ y : Int32, y = z186 15 := ⟨_, rfl⟩
      have qv191 : 0 ≤ v191.toInt ∧ v191.toInt ≤ 1 := by rw [ev191]; exact y_bY15 bz189
      obtain ⟨f192, o193, b194⟩ := y_op13 hI
      obtain ⟨f195, o196, b197⟩ := y_op20 hI
      obtain ⟨v198, ev198⟩ : ∃ y : Int32, y = z186 31 := ⟨_, rfl⟩
      have qv198 : 0 ≤ v198.toInt ∧ v198.toInt ≤ 20 := by rw [ev198]; exact y_bY31 bz189
      replace h180 : (y_T v191 f192 f195 f10 v198 v17) := by have q9 := h180; rw [y_fiZ oY188 (k := 15) (by decide), ← ev191, y_atE o193, y_atE o196, y_atE o185, y_fiZ oY188 (k := 31) (by decide), ← ev198, y_fiZ oY188 (k := 32) (by decide), ← ev17] at q9; exact q9
      obtain ⟨v199, ev199⟩ : ∃ y : Int32, y = z186 1 := ⟨_, rfl⟩
      have qv199 : 0 ≤ v199.toInt ∧ v199.toInt ≤ 1600 := by rw [ev199]; exact y_bY1 bz189
      replace h181 : (v199.toInt = 0) := by have q9 := h181; rw [y_fiZ oY188 (k := 1) (by decide), ← ev199] at q9; exact q9
      obtain ⟨v200, ev200⟩ : ∃ y : Int32, y = z186 5 := ⟨_, rfl⟩
      obtain ⟨f201, o202, b203⟩ := y_op12 hI
      replace h182 : (v200.toInt = 0 → y_DS f201) := by have q9 := h182; rw [y_fiZ oY188 (k := 5) (by decide), ← ev200, y_atE o202] at q9; exact q9
      obtain ⟨v204, ev204⟩ : ∃ y : Int32, y = z186 16 := ⟨_, rfl⟩
      replace h183 : ((1 ≤ v204.toInt ∧ v204.toInt ≤ 81) ∧ (v204.toInt = 81 → ¬ v200.toInt = 0)) := by have q9 := h183; rw [y_fiZ oY188 (k := 16) (by decide), ← ev204, y_fiZ oY188 (k := 5) (by decide), ← ev200] at q9; exact q9
      replace hn : n = (82 - v204.toInt).toNat := by have q9 := hn; rw [y_fiZ oY188 (k := 16) (by decide), ← ev204] at q9; exact q9
      have hn_204 := hn
      have h205 : (z186 16).toInt = v204.toInt := by rw [ev204]
      refine lv_aload_n hx hb dX7_program_86 rfl (lv_at hl 0 rfl) ?_
      refine th_get (D := (dC, dI)) (ci := 7) (v := .int (z186 5)) (C := RX7) (T := TX7) (N := 34) hx hb hts inX7 hown hK hP (hLK _ ha0 (by decide)) oY188 rfl 5 (by decide) (hts _ T_274) (fun _ h9 => h9) rfl dX7_program_87 ?_
      refine ax_eqi (y := v200) ev200.symm ?_
      refine lv_if_ne (tgt := 108) hx hb dX7_program_90 (by decide) (fun c206 => ?_) (fun c206 => ?_)
      · have c206 := mt (ax_eq (n := 0) (by decide)).mpr c206
        refine lv_aload_n hx hb dX7_program_108 rfl (lv_at hl 0 rfl) ?_
        refine th_get (D := (dC, dI)) (ci := 7) (v := .int (z186 5)) (C := RX7) (T := TX7) (N := 34) hx hb hts inX7 hown hK hP (hLK _ ha0 (by decide)) oY188 rfl 5 (by decide) (hts _ T_274) (fun _ h9 => h9) rfl dX7_program_109 ?_
        refine ax_eqi (y := v200) ev200.symm ?_
        refine lv_if_ne (tgt := 131) hx hb dX7_program_112 (by decide) (fun c207 => ?_) (fun c207 => ?_)
        · have c207 := mt (ax_eq (n := 0) (by decide)).mpr c207
          exact K131 _ _ _ ⟨F184, _, rfl, lv_sub hl [0] rfl, hP, hS, hI, hfr, (fun k hk => (y_fiZ oY188 (s_sub (by decide) hk)).trans (hz0 k hk)), (by rw [y_fiZ oY188 (k := 15) (by decide), ← ev191, y_atE o193, y_atE o196, y_atE o185, y_fiZ oY188 (k := 31) (by decide), ← ev198, y_fiZ oY188 (k := 32) (by decide), ← ev17]; exact h180), (by first | (rw [y_fiZ oY188 (k := 1) (by decide), ← ev199]; omega) | rw [y_fiZ oY188 (k := 1) (by decide), ← ev199]), (by rw [y_fiZ oY188 (k := 5) (by decide), ← ev200, y_atE o202]; exact h182), (by first | (rw [y_fiZ oY188 (k := 5) (by decide), ← ev200, y_atE o202]; omega) | rw [y_fiZ oY188 (k := 5) (by decide), ← ev200, y_atE o202])⟩
        · have c207 := (ax_eq (n := 0) (by decide)).mp c207
          refine lv_aload_n hx hb dX7_program_115 rfl (lv_at hl 0 rfl) ?_
          refine va_calli (va_runV (As := []) (rest := []) ⟨hx, hb, hml, hown, hts⟩ (y_X7_drafted l dC dI H.size hLK A hA F184 a0 ha0 hI) (cwV 0 hts (ax_gV T_293 T_294 T_295 T_265 T_28) rfl rfl rfl (by decide +kernel) ⟨Nat.le_of_ble_eq_true rfl, Nat.le_of_ble_eq_true rfl⟩) ⟨fun a U g mk q => ⟨q.1, s_pc (U := U) rfl rfl q.2⟩, s_recv hK hP (hLK _ ha0 (by decide)) (ci := 7) rfl oY188, fun U hU hW => ⟨rfl, s_pw hU hW hP hK hD hN⟩⟩ rfl rfl hl.1 rfl (lv_room (Nat.le_of_ble_eq_true rfl)) dX7_program_116 ⟨Nat.zero_le _, Nat.zero_le _⟩) hS (fun q _ h => h) (fun q h => h) (fun r209 F210 t H1 locs ht hvm hw hB hz1 hk1 hS => ?_)
          obtain ⟨hP, hK1⟩ := hB
          rw [ht] at hP
          generalize H1 = H at hP hS ⊢
          clear hz1 hk1 hvm hK1
          obtain ⟨h211, h213, hI, hfr1, hzf, h212⟩ := hw
          have o214 : F210 (A 30) = .inl (cs 0, 18360, .inl f10) := (hfr1 _ (by rw [(y_k30 hA)]; decide)).trans o185
          have o215 : F210 (A 13) = .inl (cs 0, 400, .inl f192) := (hfr1 _ (by rw [(y_k13 hA)]; decide)).trans o193
          have o216 : F210 (A 20) = .inl (cs 0, 918, .inl f195) := (hfr1 _ (by rw [(y_k20 hA)]; decide)).trans o196
          have o217 : F210 (A 12) = .inl (cs 0, 400, .inl f201) := (hfr1 _ (by rw [(y_k12 hA)]; decide)).trans o202
          have oY218 : F210 a0 = .inr (7, y_fl A z186 q187) := (hfr1 _ (by rw [ha0]; decide)).trans oY188
          have hfr : ∀ b, K b ∉ [9, 59, 62, 63, 64, 67, 68, 70] → F210 b = F b := fun b hb9 => (hfr1 b (fun q => hb9 (s_sub (by decide) q))).trans (hfr b hb9)
          replace h212 : (r209 = y_c f201 387) := by have q9 := h212; rw [y_atE o202] at q9; exact q9
          have h219 := congrArg Int32.toInt h212
          refine lv_if_ne (tgt := 131) hx hb dX7_program_119 (by decide) (fun c220 => ?_) (fun c220 => ?_)
          · have c220 := mt (ax_eq (n := 0) (by decide)).mpr c220
            exact K131 _ _ _ ⟨F210, _, rfl, lv_sub hl [0] rfl, hP, hS, hI, hfr, (fun k hk => (y_fiZ oY218 (s_sub (by decide) hk)).trans (hz0 k hk)), (by rw [y_fiZ oY218 (k := 15) (by decide), ← ev191, y_atE o215, y_atE o216, y_atE o214, y_fiZ oY218 (k := 31) (by decide), ← ev198, y_fiZ oY218 (k := 32) (by decide), ← ev17]; exact h180), (by first | (rw [y_fiZ oY218 (k := 1) (by decide), ← ev199]; omega) | rw [y_fiZ oY218 (k := 1) (by decide), ← ev199]), (by rw [y_fiZ oY218 (k := 5) (by decide), ← ev200, y_atE o217]; exact h182), (by first | (rw [y_fiZ oY218 (k := 5) (by decide), ← ev200, y_atE o217]; omega) | rw [y_fiZ oY218 (k := 5) (by decide), ← ev200, y_atE o217])⟩
          · have c220 := (ax_eq (n := 0) (by decide)).mp c220
            refine lv_aload_n hx hb dX7_program_122 rfl (lv_at hl 0 rfl) ?_
            refine lv_iconst (v := 1) hx hb dX7_program_123 (by decide) ?_
            refine lv_aload_n hx hb dX7_program_124 rfl (lv_at hl 0 rfl) ?_
            refine th_get (D := (dC, dI)) (ci := 7) (v := .int (z186 3)) (C := RX7) (T := TX7) (N := 34) hx hb hts inX7 hown hK hP (hLK _ ha0 (by decide)) oY218 rfl 3 (by decide) (hts _ T_273) (fun _ h9 => h9) rfl dX7_program_125 ?_
            refine lv_topi (fun v221 ev221 => ?_)
            have qv221 : 0 ≤ v221.toInt ∧ v221.toInt ≤ 1600 := by rw [ev221]; exact y_bY3 bz189
            refine va_callv (va_runV (As := [.int 1, .int v221]) (rest := []) ⟨hx, hb, hml, hown, hts⟩ (y_X7_fail l dC dI H.size hLK A hA F210 a0 1 v221 ha0 (by decide) hI) (cwV 2 hts (ax_gV T_290 T_291 T_292 T_265 T_27) rfl rfl rfl (by decide +kernel) ⟨Nat.le_of_ble_eq_true rfl, Nat.le_of_ble_eq_true rfl⟩) ⟨fun a U g mk q => ⟨q.1, s_pc (U := U) rfl rfl q.2⟩, s_recv hK hP (hLK _ ha0 (by decide)) (ci := 7) rfl oY218, fun U hU hW => ⟨rfl, s_pw hU hW hP hK hD hN⟩⟩ rfl rfl hl.1 rfl (lv_room (Nat.le_of_ble_eq_true rfl)) dX7_program_128 ⟨Nat.zero_le _, Nat.zero_le _⟩) hS (fun q _ h => h) (fun q h => h) (fun F223 t H1 locs ht hvm hw hB hz1 hk1 hS => ?_)
            obtain ⟨hP, hK1⟩ := hB
            rw [ht] at hP
            generalize H1 = H at hP hS ⊢
            clear hz1 hk1 hvm hK1
            obtain ⟨h224, h226, hI, hfr1, hzf, h225⟩ := hw
            have o227 : F223 (A 30) = .inl (cs 0, 18360, .inl f10) := (hfr1 _ (by rw [(y_k30 hA)]; decide)).trans o214
            have o228 : F223 (A 13) = .inl (cs 0, 400, .inl f192) := (hfr1 _ (by rw [(y_k13 hA)]; decide)).trans o215
            have o229 : F223 (A 20) = .inl (cs 0, 918, .inl f195) := (hfr1 _ (by rw [(y_k20 hA)]; decide)).trans o216
            have o230 : F223 (A 12) = .inl (cs 0, 400, .inl f201) := (hfr1 _ (by rw [(y_k12 hA)]; decide)).trans o217
            obtain ⟨z231, q232, oY233, bz234, bq235⟩ := y_opY hI ha0
            have hzf : ∀ k, k ∈ ([1, 2, 3, 4, 7, 8, 11, 15, 16, 19, 25, 26, 27, 31, 32] : List Nat) → z231 k = z186 k := fun k hk => by have q9 := hzf k hk; rw [y_fiZ oY233 (s_sub (by decide) hk), y_fiZ oY218 (s_sub (by decide) hk)] at q9; exact q9
            have hz0 : ∀ k, k ∈ ([25, 26, 27, 32] : List Nat) → z231 k = z0 k := fun k hk => (hzf k (s_sub (by decide) hk)).trans (hz0 k hk)
            have ev17 : v17 = z231 32 := ev17.trans (hzf 32 (by decide)).symm
            have ev191 : v191 = z231 15 := ev191.trans (hzf 15 (by decide)).symm
            have ev198 : v198 = z231 31 := ev198.trans (hzf 31 (by decide)).symm
            have ev199 : v199 = z231 1 := ev199.trans (hzf 1 (by decide)).symm
            have ev204 : v204 = z231 16 := ev204.trans (hzf 16 (by decide)).symm
            have ev221 : v221 = z231 3 := ev221.trans (hzf 3 (by decide)).symm
            have hfr : ∀ b, K b ∉ [9, 59, 62, 63, 64, 67, 68, 70] → F223 b = F b := fun b hb9 => (hfr1 b (fun q => hb9 (s_sub (by decide) q))).trans (hfr b hb9)
            obtain ⟨v236, ev236⟩ : ∃ y : Int32, y = z231 5 := ⟨_, rfl⟩
            replace h225 : (¬ v236.toInt = 0) := by have q9 := h225; rw [y_fiZ oY233 (k := 5) (by decide), ← ev236] at q9; exact q9
            have k237 : v236.toInt = 0 → y_DS f201 := fun h9 => absurd h9 (by omega)
            exact K131 _ _ _ ⟨F223, _, rfl, lv_sub hl [0] rfl, hP, hS, hI, hfr, (fun k hk => (y_fiZ oY233 (s_sub (by decide) hk)).trans (hz0 k hk)), (by rw [y_fiZ oY233 (k := 15) (by decide), ← ev191, y_atE o228, y_atE o229, y_atE o227, y_fiZ oY233 (k := 31) (by decide), ← ev198, y_fiZ oY233 (k := 32) (by decide), ← ev17]; exact h180), (by first | (rw [y_fiZ oY233 (k := 1) (by decide), ← ev199]; omega) | rw [y_fiZ oY233 (k := 1) (by decide), ← ev199]), (by rw [y_fiZ oY233 (k := 5) (by decide), ← ev236, y_atE o230]; exact k237), (by first | (rw [y_fiZ oY233 (k := 5) (by decide), ← ev236, y_atE o230]; omega) | rw [y_fiZ oY233 (k := 5) (by decide), ← ev236, y_atE o230])⟩
      · have c206 := (ax_eq (n := 0) (by decide)).mp c206
        refine lv_aload_n hx hb dX7_program_93 rfl (lv_at hl 0 rfl) ?_
        refine va_calli (va_runV (As := []) (rest := []) ⟨hx, hb, hml, hown, hts⟩ (y_X7_look l dC dI H.size hLK A hA F184 a0 ha0 hI) (cwV 0 hts (ax_gV T_275 T_276 T_277 T_265 T_22) rfl rfl rfl (by decide +kernel) ⟨Nat.le_of_ble_eq_true rfl, Nat.le_of_ble_eq_true rfl⟩) ⟨fun a U g mk q => ⟨q.1, s_pc (U := U) rfl rfl q.2⟩, s_recv hK hP (hLK _ ha0 (by decide)) (ci := 7) rfl oY188, fun U hU hW => ⟨rfl, s_pw hU hW hP hK hD hN⟩⟩ rfl rfl hl.1 rfl (lv_room (Nat.le_of_ble_eq_true rfl)) dX7_program_94 ⟨Nat.zero_le _, Nat.zero_le _⟩) hS (fun q _ h => h) (fun q h => h) (fun r239 F240 t H1 locs ht hvm hw hB hz1 hk1 hS => ?_)
        obtain ⟨hP, hK1⟩ := hB
        rw [ht] at hP
        generalize H1 = H at hP hS ⊢
        clear hz1 hk1 hvm hK1
        obtain ⟨h241, h243, hI, hfr1, hzf, h242⟩ := hw
        have o244 : F240 (A 30) = .inl (cs 0, 18360, .inl f10) := (hfr1 _ (by rw [(y_k30 hA)]; decide)).trans o185
        have o245 : F240 (A 13) = .inl (cs 0, 400, .inl f192) := (hfr1 _ (by rw [(y_k13 hA)]; decide)).trans o193
        have o246 : F240 (A 20) = .inl (cs 0, 918, .inl f195) := (hfr1 _ (by rw [(y_k20 hA)]; decide)).trans o196
        have o247 : F240 (A 12) = .inl (cs 0, 400, .inl f201) := (hfr1 _ (by rw [(y_k12 hA)]; decide)).trans o202
        obtain ⟨z248, q249, oY250, bz251, bq252⟩ := y_opY hI ha0
        have hzf : ∀ k, k ∈ ([1, 3, 4, 5, 6, 7, 8, 11, 15, 16, 19, 25, 26, 27, 31, 32] : List Nat) → z248 k = z186 k := fun k hk => by have q9 := hzf k hk; rw [y_fiZ oY250 (s_sub (by decide) hk), y_fiZ oY188 (s_sub (by decide) hk)] at q9; exact q9
        have hz0 : ∀ k, k ∈ ([25, 26, 27, 32] : List Nat) → z248 k = z0 k := fun k hk => (hzf k (s_sub (by decide) hk)).trans (hz0 k hk)
        have ev17 : v17 = z248 32 := ev17.trans (hzf 32 (by decide)).symm
        have ev191 : v191 = z248 15 := ev191.trans (hzf 15 (by decide)).symm
        have ev198 : v198 = z248 31 := ev198.trans (hzf 31 (by decide)).symm
        have ev199 : v199 = z248 1 := ev199.trans (hzf 1 (by decide)).symm
        have ev200 : v200 = z248 5 := ev200.trans (hzf 5 (by decide)).symm
        have ev204 : v204 = z248 16 := ev204.trans (hzf 16 (by decide)).symm
        have hfr : ∀ b, K b ∉ [9, 59, 62, 63, 64, 67, 68, 70] → F240 b = F b := fun b hb9 => (hfr1 b (fun q => hb9 (s_sub (by decide) q))).trans (hfr b hb9)
        obtain ⟨v253, ev253⟩ : ∃ y : Int32, y = z248 2 := ⟨_, rfl⟩
        have qv253 : 0 ≤ v253.toInt ∧ v253.toInt ≤ 1600 := by rw [ev253]; exact y_bY2 bz251
        obtain ⟨v254, ev254⟩ : ∃ y : Int32, y = z248 3 := ⟨_, rfl⟩
        have qv254 : 0 ≤ v254.toInt ∧ v254.toInt ≤ 1600 := by rw [ev254]; exact y_bY3 bz251
        replace h242 : (r239.toInt = -1 ∨ v253.toInt < v254.toInt) := by have q9 := h242; rw [y_fiZ oY250 (k := 2) (by decide), ← ev253, y_fiZ oY250 (k := 3) (by decide), ← ev254] at q9; exact q9
        have k255 : v200.toInt = 0 → y_DS f201 := fun h9 => h182 (by omega)
        refine lv_iconst (v := (-1)) hx hb dX7_program_97 (by decide) ?_
        refine lv_icmp_eq (tgt := 108) hx hb dX7_program_98 (by decide) (fun c256 => ?_) (fun c256 => ?_)
        · have c256 := (ax_eq (n := (-1)) (by decide)).mp c256
          refine lv_aload_n hx hb dX7_program_108 rfl (lv_at hl 0 rfl) ?_
          refine th_get (D := (dC, dI)) (ci := 7) (v := .int (z248 5)) (C := RX7) (T := TX7) (N := 34) hx hb hts inX7 hown hK hP (hLK _ ha0 (by decide)) oY250 rfl 5 (by decide) (hts _ T_274) (fun _ h9 => h9) rfl dX7_program_109 ?_
          refine ax_eqi (y := v200) ev200.symm ?_
          refine lv_if_ne (tgt := 131) hx hb dX7_program_112 (by decide) (fun c257 => ?_) (fun c257 => ?_)
          · have c257 := mt (ax_eq (n := 0) (by decide)).mpr c257
            exact absurd c257 (by omega)
          · have c257 := (ax_eq (n := 0) (by decide)).mp c257
            refine lv_aload_n hx hb dX7_program_115 rfl (lv_at hl 0 rfl) ?_
            refine va_calli (va_runV (As := []) (rest := []) ⟨hx, hb, hml, hown, hts⟩ (y_X7_drafted l dC dI H.size hLK A hA F240 a0 ha0 hI) (cwV 0 hts (ax_gV T_293 T_294 T_295 T_265 T_28) rfl rfl rfl (by decide +kernel) ⟨Nat.le_of_ble_eq_true rfl, Nat.le_of_ble_eq_true rfl⟩) ⟨fun a U g mk q => ⟨q.1, s_pc (U := U) rfl rfl q.2⟩, s_recv hK hP (hLK _ ha0 (by decide)) (ci := 7) rfl oY250, fun U hU hW => ⟨rfl, s_pw hU hW hP hK hD hN⟩⟩ rfl rfl hl.1 rfl (lv_room (Nat.le_of_ble_eq_true rfl)) dX7_program_116 ⟨Nat.zero_le _, Nat.zero_le _⟩) hS (fun q _ h => h) (fun q h => h) (fun r259 F260 t H1 locs ht hvm hw hB hz1 hk1 hS => ?_)
            obtain ⟨hP, hK1⟩ := hB
            rw [ht] at hP
            generalize H1 = H at hP hS ⊢
            clear hz1 hk1 hvm hK1
            obtain ⟨h261, h263, hI, hfr1, hzf, h262⟩ := hw
            have o264 : F260 (A 30) = .inl (cs 0, 18360, .inl f10) := (hfr1 _ (by rw [(y_k30 hA)]; decide)).trans o244
            have o265 : F260 (A 13) = .inl (cs 0, 400, .inl f192) := (hfr1 _ (by rw [(y_k13 hA)]; decide)).trans o245
            have o266 : F260 (A 20) = .inl (cs 0, 918, .inl f195) := (hfr1 _ (by rw [(y_k20 hA)]; decide)).trans o246
            have o267 : F260 (A 12) = .inl (cs 0, 400, .inl f201) := (hfr1 _ (by rw [(y_k12 hA)]; decide)).trans o247
            have oY268 : F260 a0 = .inr (7, y_fl A z248 q249) := (hfr1 _ (by rw [ha0]; decide)).trans oY250
            have hfr : ∀ b, K b ∉ [9, 59, 62, 63, 64, 67, 68, 70] → F260 b = F b := fun b hb9 => (hfr1 b (fun q => hb9 (s_sub (by decide) q))).trans (hfr b hb9)
            replace h262 : (r259 = y_c f201 387) := by have q9 := h262; rw [y_atE o247] at q9; exact q9
            have h269 := congrArg Int32.toInt h262
            refine lv_if_ne (tgt := 131) hx hb dX7_program_119 (by decide) (fun c270 => ?_) (fun c270 => ?_)
            · have c270 := mt (ax_eq (n := 0) (by decide)).mpr c270
              exact K131 _ _ _ ⟨F260, _, rfl, lv_sub hl [0] rfl, hP, hS, hI, hfr, (fun k hk => (y_fiZ oY268 (s_sub (by decide) hk)).trans (hz0 k hk)), (by rw [y_fiZ oY268 (k := 15) (by decide), ← ev191, y_atE o265, y_atE o266, y_atE o264, y_fiZ oY268 (k := 31) (by decide), ← ev198, y_fiZ oY268 (k := 32) (by decide), ← ev17]; exact h180), (by first | (rw [y_fiZ oY268 (k := 1) (by decide), ← ev199]; omega) | rw [y_fiZ oY268 (k := 1) (by decide), ← ev199]), (by rw [y_fiZ oY268 (k := 5) (by decide), ← ev200, y_atE o267]; exact k255), (by first | (rw [y_fiZ oY268 (k := 5) (by decide), ← ev200, y_atE o267]; omega) | rw [y_fiZ oY268 (k := 5) (by decide), ← ev200, y_atE o267])⟩
            · have c270 := (ax_eq (n := 0) (by decide)).mp c270
              refine lv_aload_n hx hb dX7_program_122 rfl (lv_at hl 0 rfl) ?_
              refine lv_iconst (v := 1) hx hb dX7_program_123 (by decide) ?_
              refine lv_aload_n hx hb dX7_program_124 rfl (lv_at hl 0 rfl) ?_
              refine th_get (D := (dC, dI)) (ci := 7) (v := .int (z248 3)) (C := RX7) (T := TX7) (N := 34) hx hb hts inX7 hown hK hP (hLK _ ha0 (by decide)) oY268 rfl 3 (by decide) (hts _ T_273) (fun _ h9 => h9) rfl dX7_program_125 ?_
              refine ax_eqi (y := v254) ev254.symm ?_
              refine va_callv (va_runV (As := [.int 1, .int v254]) (rest := []) ⟨hx, hb, hml, hown, hts⟩ (y_X7_fail l dC dI H.size hLK A hA F260 a0 1 v254 ha0 (by decide) hI) (cwV 2 hts (ax_gV T_290 T_291 T_292 T_265 T_27) rfl rfl rfl (by decide +kernel) ⟨Nat.le_of_ble_eq_true rfl, Nat.le_of_ble_eq_true rfl⟩) ⟨fun a U g mk q => ⟨q.1, s_pc (U := U) rfl rfl q.2⟩, s_recv hK hP (hLK _ ha0 (by decide)) (ci := 7) rfl oY268, fun U hU hW => ⟨rfl, s_pw hU hW hP hK hD hN⟩⟩ rfl rfl hl.1 rfl (lv_room (Nat.le_of_ble_eq_true rfl)) dX7_program_128 ⟨Nat.zero_le _, Nat.zero_le _⟩) hS (fun q _ h => h) (fun q h => h) (fun F272 t H1 locs ht hvm hw hB hz1 hk1 hS => ?_)
              obtain ⟨hP, hK1⟩ := hB
              rw [ht] at hP
              generalize H1 = H at hP hS ⊢
              clear hz1 hk1 hvm hK1
              obtain ⟨h273, h275, hI, hfr1, hzf, h274⟩ := hw
              have o276 : F272 (A 30) = .inl (cs 0, 18360, .inl f10) := (hfr1 _ (by rw [(y_k30 hA)]; decide)).trans o264
              have o277 : F272 (A 13) = .inl (cs 0, 400, .inl f192) := (hfr1 _ (by rw [(y_k13 hA)]; decide)).trans o265
              have o278 : F272 (A 20) = .inl (cs 0, 918, .inl f195) := (hfr1 _ (by rw [(y_k20 hA)]; decide)).trans o266
              have o279 : F272 (A 12) = .inl (cs 0, 400, .inl f201) := (hfr1 _ (by rw [(y_k12 hA)]; decide)).trans o267
              obtain ⟨z280, q281, oY282, bz283, bq284⟩ := y_opY hI ha0
              have hzf : ∀ k, k ∈ ([1, 2, 3, 4, 7, 8, 11, 15, 16, 19, 25, 26, 27, 31, 32] : List Nat) → z280 k = z248 k := fun k hk => by have q9 := hzf k hk; rw [y_fiZ oY282 (s_sub (by decide) hk), y_fiZ oY268 (s_sub (by decide) hk)] at q9; exact q9
              have hz0 : ∀ k, k ∈ ([25, 26, 27, 32] : List Nat) → z280 k = z0 k := fun k hk => (hzf k (s_sub (by decide) hk)).trans (hz0 k hk)
              have ev17 : v17 = z280 32 := ev17.trans (hzf 32 (by decide)).symm
              have ev191 : v191 = z280 15 := ev191.trans (hzf 15 (by decide)).symm
              have ev198 : v198 = z280 31 := ev198.trans (hzf 31 (by decide)).symm
              have ev199 : v199 = z280 1 := ev199.trans (hzf 1 (by decide)).symm
              have ev204 : v204 = z280 16 := ev204.trans (hzf 16 (by decide)).symm
              have ev253 : v253 = z280 2 := ev253.trans (hzf 2 (by decide)).symm
              have ev254 : v254 = z280 3 := ev254.trans (hzf 3 (by decide)).symm
              have hfr : ∀ b, K b ∉ [9, 59, 62, 63, 64, 67, 68, 70] → F272 b = F b := fun b hb9 => (hfr1 b (fun q => hb9 (s_sub (by decide) q))).trans (hfr b hb9)
              obtain ⟨v285, ev285⟩ : ∃ y : Int32, y = z280 5 := ⟨_, rfl⟩
              replace h274 : (¬ v285.toInt = 0) := by have q9 := h274; rw [y_fiZ oY282 (k := 5) (by decide), ← ev285] at q9; exact q9
              have k286 : v285.toInt = 0 → y_DS f201 := fun h9 => absurd h9 (by omega)
              exact K131 _ _ _ ⟨F272, _, rfl, lv_sub hl [0] rfl, hP, hS, hI, hfr, (fun k hk => (y_fiZ oY282 (s_sub (by decide) hk)).trans (hz0 k hk)), (by rw [y_fiZ oY282 (k := 15) (by decide), ← ev191, y_atE o277, y_atE o278, y_atE o276, y_fiZ oY282 (k := 31) (by decide), ← ev198, y_fiZ oY282 (k := 32) (by decide), ← ev17]; exact h180), (by first | (rw [y_fiZ oY282 (k := 1) (by decide), ← ev199]; omega) | rw [y_fiZ oY282 (k := 1) (by decide), ← ev199]), (by rw [y_fiZ oY282 (k := 5) (by decide), ← ev285, y_atE o279]; exact k286), (by first | (rw [y_fiZ oY282 (k := 5) (by decide), ← ev285, y_atE o279]; omega) | rw [y_fiZ oY282 (k := 5) (by decide), ← ev285, y_atE o279])⟩
        · have c256 := mt (ax_eq (n := (-1)) (by decide)).mpr c256
          refine lv_aload_n hx hb dX7_program_101 rfl (lv_at hl 0 rfl) ?_
          have ep287_5 := ev200
          have ep287_16 := ev204
          refine va_callv (va_runV (As := []) (rest := []) ⟨hx, hb, hml, hown, hts⟩ (y_X7_statementTold l dC dI H.size hLK A hA F240 a0 ha0 hI (by rw [y_fiZ oY250 (k := 16) (by decide), ← ev204]; exact ⟨by omega, by omega⟩)) (cwV 0 hts (ax_gV T_1290 T_1292 T_1293 T_265 T_1291) rfl rfl rfl (by decide +kernel) ⟨Nat.le_of_ble_eq_true rfl, Nat.le_of_ble_eq_true rfl⟩) ⟨fun a U g mk q => ⟨q.1, s_pc (U := U) rfl rfl q.2⟩, s_recv hK hP (hLK _ ha0 (by decide)) (ci := 7) rfl oY250, fun U hU hW => ⟨rfl, s_pw hU hW hP hK hD hN⟩⟩ rfl rfl hl.1 rfl (lv_room (Nat.le_of_ble_eq_true rfl)) dX7_program_102 ⟨Nat.zero_le _, Nat.zero_le _⟩) hS (fun q _ h => h) (fun q h => h) (fun F288 t H1 locs ht hvm hw hB hz1 hk1 hS => ?_)
          obtain ⟨hP, hK1⟩ := hB
          rw [ht] at hP
          generalize H1 = H at hP hS ⊢
          clear hz1 hk1 hvm hK1
          obtain ⟨h289, h291, hI, hfr1, hzf, h290⟩ := hw
          have o292 : F288 (A 30) = .inl (cs 0, 18360, .inl f10) := (hfr1 _ (by rw [(y_k30 hA)]; decide)).trans o244
          have o293 : F288 (A 13) = .inl (cs 0, 400, .inl f192) := (hfr1 _ (by rw [(y_k13 hA)]; decide)).trans o245
          have o294 : F288 (A 20) = .inl (cs 0, 918, .inl f195) := (hfr1 _ (by rw [(y_k20 hA)]; decide)).trans o246
          obtain ⟨z295, q296, oY297, bz298, bq299⟩ := y_opY hI ha0
          have hzf : ∀ k, k ∈ ([1, 3, 7, 8, 15, 19, 25, 26, 27, 31, 32] : List Nat) → z295 k = z248 k := fun k hk => by have q9 := hzf k hk; rw [y_fiZ oY297 (s_sub (by decide) hk), y_fiZ oY250 (s_sub (by decide) hk)] at q9; exact q9
          have hz0 : ∀ k, k ∈ ([25, 26, 27, 32] : List Nat) → z295 k = z0 k := fun k hk => (hzf k (s_sub (by decide) hk)).trans (hz0 k hk)
          have ev17 : v17 = z295 32 := ev17.trans (hzf 32 (by decide)).symm
          have ev191 : v191 = z295 15 := ev191.trans (hzf 15 (by decide)).symm
          have ev198 : v198 = z295 31 := ev198.trans (hzf 31 (by decide)).symm
          have ev199 : v199 = z295 1 := ev199.trans (hzf 1 (by decide)).symm
          have ev254 : v254 = z295 3 := ev254.trans (hzf 3 (by decide)).symm
          have hfr : ∀ b, K b ∉ [9, 59, 62, 63, 64, 67, 68, 70] → F288 b = F b := fun b hb9 => (hfr1 b (fun q => hb9 (s_sub (by decide) q))).trans (hfr b hb9)
          obtain ⟨v300, ev300⟩ : ∃ y : Int32, y = z295 5 := ⟨_, rfl⟩
          obtain ⟨f301, o302, b303⟩ := y_op12 hI
          obtain ⟨v304, ev304⟩ : ∃ y : Int32, y = z295 16 := ⟨_, rfl⟩
          replace h290 : ((v200.toInt = 0 ∨ ¬ v300.toInt = 0) ∧ ((v200.toInt = 0 → y_DS f201) → v300.toInt = 0 → y_DS f301) ∧ v304.toInt = v204.toInt + 1 ∧ (v204.toInt = 80 → ¬ v300.toInt = 0)) := by have q9 := h290; rw [y_fiZ oY250 (k := 5) (by decide), ← ep287_5, y_fiZ oY297 (k := 5) (by decide), ← ev300, y_atE o247, y_atE o302, y_fiZ oY297 (k := 16) (by decide), ← ev304, y_fiZ oY250 (k := 16) (by decide), ← ep287_16] at q9; exact q9
          have k305 : v300.toInt = 0 → y_DS f301 := h290.2.1 (fun h9 => k255 (by omega))
          refine lv_goto (tgt := 86) hx hb dX7_program_105 (by decide) ?_
          have h306 : (y_fi F288 a0 16).toInt = v304.toInt := by rw [y_fiZ oY297 (k := 16) (by decide), ← ev304]
          exact ih86 _ _ _ _ (by omega) ⟨F288, _, rfl, lv_sub hl [0] rfl, hP, hS, hI, hfr, (fun k hk => (y_fiZ oY297 (s_sub (by decide) hk)).trans (hz0 k hk)), (by rw [y_fiZ oY297 (k := 15) (by decide), ← ev191, y_atE o293, y_atE o294, y_atE o292, y_fiZ oY297 (k := 31) (by decide), ← ev198, y_fiZ oY297 (k := 32) (by decide), ← ev17]; exact h180), (by first | (rw [y_fiZ oY297 (k := 1) (by decide), ← ev199]; omega) | rw [y_fiZ oY297 (k := 1) (by decide), ← ev199]), (by rw [y_fiZ oY297 (k := 5) (by decide), ← ev300, y_atE o302]; exact k305), (by first | (rw [y_fiZ oY297 (k := 16) (by decide), ← ev304, y_fiZ oY297 (k := 5) (by decide), ← ev300]; omega) | rw [y_fiZ oY297 (k := 16) (by decide), ← ev304, y_fiZ oY297 (k := 5) (by decide), ← ev300]), rfl⟩
    · have c109 := mt (ax_ge (n := 400) (by decide)).mpr c109
      refine lv_aload_n hx hb dX7_program_42 rfl (lv_at hl 0 rfl) ?_
      refine th_get (D := (dC, dI)) (ci := 7) (v := .ref (A 12)) (C := RX7) (T := TX7) (N := 34) hx hb hts inX7 hown hK hP (hLK _ ha0 (by decide)) oY94 rfl 12 (by decide) (hts _ T_245) (fun _ h9 => h9) rfl dX7_program_43 ?_
      refine lv_iload_n hx hb dX7_program_46 rfl (lv_at hl 1 rfl) ?_
      refine lv_iconst (v := 0) hx hb dX7_program_47 (by decide) ?_
      refine th_iast hx hb hK hP hD hS (hLK _ (y_k12 hA) (by decide)) 0 o107 rfl (th_in ⟨by omega, by omega⟩) dX7_program_48 (fun H locs hP hS => ?_)
      obtain ⟨f307, u308⟩ : ∃ g : Nat → Int32, g = upd f106 (w84 : Int32).toNatClampNeg 0 := ⟨_, rfl⟩
      rw [← u308] at hP
      have b309 : y_bd 12 f307 := by rw [u308]; exact th_updJ (P := fun y => 0 ≤ y.toInt ∧ y.toInt ≤ 40) b108 (fun _ => by decide)
      have hP : va_P (dC, dI) vwCl (va_pl L (va_up F90 (A 12) (.inl (cs 0, 400, .inl f307)))) H := hP
      obtain ⟨F310, hF311⟩ : ∃ G : Nat → va_E, G = va_up F90 (A 12) (.inl (cs 0, 400, .inl f307)) := ⟨_, rfl⟩
      rw [← hF311] at hP
      have hI : y_I K cs A F310 := by rw [hF311]; exact y_clA (i := 12) hA hI (by decide) b309
      have hfr : ∀ b, K b ∉ [9, 59, 62, 63, 64, 67, 68, 70] → F310 b = F b := by rw [hF311]; exact s_fr hfr (y_k12 hA) (by decide)
      have o312 : F310 (A 30) = .inl (cs 0, 18360, .inl f10) := by rw [hF311]; exact th_ne (th_kd (y_k30 hA) (y_k12 hA) (by decide)) o91
      have o313 : F310 (A 13) = .inl (cs 0, 400, .inl f98) := by rw [hF311]; exact th_ne (th_kd (y_k13 hA) (y_k12 hA) (by decide)) o99
      have o314 : F310 (A 20) = .inl (cs 0, 918, .inl f101) := by rw [hF311]; exact th_ne (th_kd (y_k20 hA) (y_k12 hA) (by decide)) o102
      have oY315 : F310 a0 = .inr (7, y_fl A z92 q93) := by rw [hF311]; exact th_ne (th_kd ha0 (y_k12 hA) (by decide)) oY94
      have o316 : F310 (A 12) = .inl (cs 0, 400, .inl f307) := by rw [hF311]; exact th_up
      have u317 : ∀ j : Int, 0 ≤ j → y_c f307 j = if j = w84.toInt then 0 else y_c f106 j := by rw [u308]; exact y_cu rfl (by omega)
      obtain ⟨v318, ev318⟩ : ∃ y : Int32, w84 + 1 = y := ⟨_, rfl⟩
      have qv318 : v318.toInt = w84.toInt + 1 := by rw [← ev318]; exact th_add rfl (by decide) ⟨by omega, by omega⟩
      refine lv_iinc (v := v318) (lv' := [(1, .int v318), (0, .ref a0)]) hx hb dX7_program_49 hl (k := 1) rfl ev318 (by decide) rfl (fun ls hl => ?_)
      refine lv_goto (tgt := 35) hx hb dX7_program_52 (by decide) ?_
      exact ih35 _ _ _ _ (by omega) ⟨F310, _, v318, rfl, lv_sub hl [1, 0] rfl, hP, hS, hI, hfr, (fun k hk => (y_fiZ oY315 (s_sub (by decide) hk)).trans (hz0 k hk)), ⟨by omega, by omega⟩, (by rw [y_fiZ oY315 (k := 15) (by decide), ← ev97, y_atE o313, y_atE o314, y_atE o312, y_fiZ oY315 (k := 31) (by decide), ← ev104, y_fiZ oY315 (k := 32) (by decide), ← ev17]; exact h87), (by first | (rw [y_fiZ oY315 (k := 1) (by decide), ← ev105]; omega) | rw [y_fiZ oY315 (k := 1) (by decide), ← ev105]), (by rw [y_atE o316]; exact (fun j h0 h1 => by rw [u317 j h0]; split; exact rfl; exact h89 j h0 (by omega))), rfl⟩
  · intro g H locs hq
    obtain ⟨F323, ls, rfl, hl, hP, hS, hI, hfr, hz0, h319, h320, h321, h322⟩ := hq
    have o324 : F323 (A 30) = .inl (cs 0, 18360, .inl f10) := (hfr _ (by rw [(y_k30 hA)]; decide)).trans o11
    obtain ⟨z325, q326, oY327, bz328, bq329⟩ := y_opY hI ha0
    have hz0 : ∀ k, k ∈ ([25, 26, 27, 32] : List Nat) → z325 k = z0 k := fun k hk => (y_fiZ oY327 (s_sub (by decide) hk)).symm.trans (hz0 k hk)
    have ev17 : v17 = z325 32 := e0_v17.trans (hz0 32 (by decide)).symm
    obtain ⟨v330, ev330⟩ : ∃ y : Int32, y = z325 15 := ⟨_, rfl⟩
    have qv330 : 0 ≤ v330.toInt ∧ v330.toInt ≤ 1 := by rw [ev330]; exact y_bY15 bz328
    obtain ⟨f331, o332, b333⟩ := y_op13 hI
    obtain ⟨f334, o335, b336⟩ := y_op20 hI
    obtain ⟨v337, ev337⟩ : ∃ y : Int32, y = z325 31 := ⟨_, rfl⟩
    have qv337 : 0 ≤ v337.toInt ∧ v337.toInt ≤ 20 := by rw [ev337]; exact y_bY31 bz328
    replace h319 : (y_T v330 f331 f334 f10 v337 v17) := by have q9 := h319; rw [y_fiZ oY327 (k := 15) (by decide), ← ev330, y_atE o332, y_atE o335, y_atE o324, y_fiZ oY327 (k := 31) (by decide), ← ev337, y_fiZ oY327 (k := 32) (by decide), ← ev17] at q9; exact q9
    obtain ⟨v338, ev338⟩ : ∃ y : Int32, y = z325 1 := ⟨_, rfl⟩
    have qv338 : 0 ≤ v338.toInt ∧ v338.toInt ≤ 1600 := by rw [ev338]; exact y_bY1 bz328
    replace h320 : (v338.toInt = 0) := by have q9 := h320; rw [y_fiZ oY327 (k := 1) (by decide), ← ev338] at q9; exact q9
    obtain ⟨v339, ev339⟩ : ∃ y : Int32, y = z325 5 := ⟨_, rfl⟩
    obtain ⟨f340, o341, b342⟩ := y_op12 hI
    replace h321 : (v339.toInt = 0 → y_DS f340) := by have q9 := h321; rw [y_fiZ oY327 (k := 5) (by decide), ← ev339, y_atE o341] at q9; exact q9
    replace h322 : (v339.toInt = 0 → ¬ (y_c f340 387).toInt = 0) := by have q9 := h322; rw [y_fiZ oY327 (k := 5) (by decide), ← ev339, y_atE o341] at q9; exact q9
    refine lv_aload_n hx hb dX7_program_131 rfl (lv_at hl 0 rfl) ?_
    have hnb : 0 ≤ (y_c f340 387).toInt ∧ (y_c f340 387).toInt ≤ 40 := b342
    have ep343_5 := ev339
    refine va_callv (va_runV (As := []) (rest := []) ⟨hx, hb, hml, hown, hts⟩ (y_X7_joins l dC dI H.size hLK A hA F323 a0 ha0 hI) (cwV 0 hts (ax_gV T_307 T_308 T_309 T_265 T_32) rfl rfl rfl (by decide +kernel) ⟨Nat.le_of_ble_eq_true rfl, Nat.le_of_ble_eq_true rfl⟩) ⟨fun a U g mk q => ⟨q.1, s_pc (U := U) rfl rfl q.2⟩, s_recv hK hP (hLK _ ha0 (by decide)) (ci := 7) rfl oY327, fun U hU hW => ⟨rfl, s_pw hU hW hP hK hD hN⟩⟩ rfl rfl hl.1 rfl (lv_room (Nat.le_of_ble_eq_true rfl)) dX7_program_132 ⟨Nat.zero_le _, Nat.zero_le _⟩) hS (fun q _ h => h) (fun q h => h) (fun F344 t H1 locs ht hvm hw hB hz1 hk1 hS => ?_)
    obtain ⟨hP, hK1⟩ := hB
    rw [ht] at hP
    generalize H1 = H at hP hS ⊢
    clear hz1 hk1 hvm hK1
    obtain ⟨h345, h347, hI, hfr1, hzf, h346⟩ := hw
    have o348 : F344 (A 30) = .inl (cs 0, 18360, .inl f10) := (hfr1 _ (by rw [(y_k30 hA)]; decide)).trans o324
    have o349 : F344 (A 13) = .inl (cs 0, 400, .inl f331) := (hfr1 _ (by rw [(y_k13 hA)]; decide)).trans o332
    have o350 : F344 (A 20) = .inl (cs 0, 918, .inl f334) := (hfr1 _ (by rw [(y_k20 hA)]; decide)).trans o335
    obtain ⟨z351, q352, oY353, bz354, bq355⟩ := y_opY hI ha0
    have hzf : ∀ k, k ∈ ([1, 2, 3, 4, 7, 8, 11, 15, 16, 19, 25, 26, 27, 31, 32] : List Nat) → z351 k = z325 k := fun k hk => by have q9 := hzf k hk; rw [y_fiZ oY353 (s_sub (by decide) hk), y_fiZ oY327 (s_sub (by decide) hk)] at q9; exact q9
    have hz0 : ∀ k, k ∈ ([25, 26, 27, 32] : List Nat) → z351 k = z0 k := fun k hk => (hzf k (s_sub (by decide) hk)).trans (hz0 k hk)
    have ev17 : v17 = z351 32 := ev17.trans (hzf 32 (by decide)).symm
    have ev330 : v330 = z351 15 := ev330.trans (hzf 15 (by decide)).symm
    have ev337 : v337 = z351 31 := ev337.trans (hzf 31 (by decide)).symm
    have ev338 : v338 = z351 1 := ev338.trans (hzf 1 (by decide)).symm
    have hfr : ∀ b, K b ∉ [9, 59, 62, 63, 64, 67, 68, 70] → F344 b = F b := fun b hb9 => (hfr1 b (fun q => hb9 (s_sub (by decide) q))).trans (hfr b hb9)
    obtain ⟨v356, ev356⟩ : ∃ y : Int32, y = z351 5 := ⟨_, rfl⟩
    obtain ⟨f357, o358, b359⟩ := y_op12 hI
    replace h346 : ((v339.toInt = 0 ∨ ¬ v356.toInt = 0) ∧ ((v339.toInt = 0 → y_DS f340) → v356.toInt = 0 → y_DS f357) ∧ (y_c f357 387).toInt = (y_c f340 387).toInt ∧ (v356.toInt = 0 → y_JG f357 (y_c f340 387).toInt (y_c f340 387).toInt)) := by have q9 := h346; rw [y_fiZ oY327 (k := 5) (by decide), ← ep343_5, y_fiZ oY353 (k := 5) (by decide), ← ev356, y_atE o341, y_atE o358] at q9; exact q9
    obtain ⟨k360a, k360b, k360c, k360d⟩ := h346
    have k360e : v356.toInt = 0 → y_DS f357 := k360b h321
    refine lv_aload_n hx hb dX7_program_135 rfl (lv_at hl 0 rfl) ?_
    refine lv_aload_n hx hb dX7_program_136 rfl (lv_at hl 0 rfl) ?_
    refine th_get (D := (dC, dI)) (ci := 7) (v := .int (z351 5)) (C := RX7) (T := TX7) (N := 34) hx hb hts inX7 hown hK hP (hLK _ ha0 (by decide)) oY353 rfl 5 (by decide) (hts _ T_274) (fun _ h9 => h9) rfl dX7_program_137 ?_
    refine ax_eqi (y := v356) ev356.symm ?_
    refine th_put (D := (dC, dI)) (ci := 7) (v := .int v356) (ty := .int) (C := RX7) (T := TX7) (N := 34) hx hb hts inX7 tyX7 tyX7_ok nmX7 hown hK hP hD hS (hLK _ ha0 (by decide)) oY353 rfl 7 (by decide) (hts _ T_269) (fun _ h9 => h9) rfl (by decide +kernel) rfl rfl (Nat.le_of_ble_eq_true rfl) dX7_program_140 (fun H locs hP hS => ?_)
    rw [y_fs7] at hP
    obtain ⟨z361, hz362⟩ : ∃ g : Nat → Int32, g = upd z351 7 v356 := ⟨_, rfl⟩
    rw [← hz362] at hP
    have bz363 : y_bY z361 := by rw [hz362]; exact y_bp7 bz354
    have hP : va_P (dC, dI) vwCl (va_pl L (va_up F344 a0 (.inr (7, y_fl A z361 q352)))) H := hP
    obtain ⟨F364, hF365⟩ : ∃ G : Nat → va_E, G = va_up F344 a0 (.inr (7, y_fl A z361 q352)) := ⟨_, rfl⟩
    rw [← hF365] at hP
    have hI : y_I K cs A F364 := by rw [hF365]; exact y_clY hA hI ha0 bz363 bq355
    have hfr : ∀ b, K b ∉ [9, 59, 62, 63, 64, 67, 68, 70] → F364 b = F b := by rw [hF365]; exact s_fr hfr ha0 (by decide)
    have o366 : F364 (A 30) = .inl (cs 0, 18360, .inl f10) := by rw [hF365]; exact th_ne (th_kd (y_k30 hA) ha0 (by decide)) o348
    have o367 : F364 (A 13) = .inl (cs 0, 400, .inl f331) := by rw [hF365]; exact th_ne (th_kd (y_k13 hA) ha0 (by decide)) o349
    have o368 : F364 (A 20) = .inl (cs 0, 918, .inl f334) := by rw [hF365]; exact th_ne (th_kd (y_k20 hA) ha0 (by decide)) o350
    have o369 : F364 (A 12) = .inl (cs 0, 400, .inl f357) := by rw [hF365]; exact th_ne (th_kd (y_k12 hA) ha0 (by decide)) o358
    have oY370 : F364 a0 = .inr (7, y_fl A z361 q352) := by rw [hF365]; exact th_up
    have hz0 : ∀ k, k ∈ ([25, 26, 27, 32] : List Nat) → z361 k = z0 k := fun k hk => by rw [hz362]; exact (y_un (fun q => absurd hk (by rw [q]; decide))).trans (hz0 k hk)
    have ev17 : v17 = z361 32 := by rw [hz362]; exact ev17.trans (y_un (by decide)).symm
    have ev330 : v330 = z361 15 := by rw [hz362]; exact ev330.trans (y_un (by decide)).symm
    have ev337 : v337 = z361 31 := by rw [hz362]; exact ev337.trans (y_un (by decide)).symm
    have ev338 : v338 = z361 1 := by rw [hz362]; exact ev338.trans (y_un (by decide)).symm
    have ev356 : v356 = z361 5 := by rw [hz362]; exact ev356.trans (y_un (by decide)).symm
    obtain ⟨v371, ev371⟩ : ∃ y : Int32, y = z361 7 := ⟨_, rfl⟩
    have qv371 : v371.toInt = v356.toInt := by rw [ev371, hz362, y_ue]
    refine lv_aload_n hx hb dX7_program_143 rfl (lv_at hl 0 rfl) ?_
    refine lv_aload_n hx hb dX7_program_144 rfl (lv_at hl 0 rfl) ?_
    refine th_get (D := (dC, dI)) (ci := 7) (v := .int (z361 6)) (C := RX7) (T := TX7) (N := 34) hx hb hts inX7 hown hK hP (hLK _ ha0 (by decide)) oY370 rfl 6 (by decide) (hts _ T_286) (fun _ h9 => h9) rfl dX7_program_145 ?_
    refine lv_topi (fun v372 ev372 => ?_)
    refine th_put (D := (dC, dI)) (ci := 7) (v := .int v372) (ty := .int) (C := RX7) (T := TX7) (N := 34) hx hb hts inX7 tyX7 tyX7_ok nmX7 hown hK hP hD hS (hLK _ ha0 (by decide)) oY370 rfl 8 (by decide) (hts _ T_241) (fun _ h9 => h9) rfl (by decide +kernel) rfl rfl (Nat.le_of_ble_eq_true rfl) dX7_program_148 (fun H locs hP hS => ?_)
    rw [y_fs8] at hP
    obtain ⟨z373, hz374⟩ : ∃ g : Nat → Int32, g = upd z361 8 v372 := ⟨_, rfl⟩
    rw [← hz374] at hP
    have bz375 : y_bY z373 := by rw [hz374]; exact y_bp8 bz363
    have hP : va_P (dC, dI) vwCl (va_pl L (va_up F364 a0 (.inr (7, y_fl A z373 q352)))) H := hP
    obtain ⟨F376, hF377⟩ : ∃ G : Nat → va_E, G = va_up F364 a0 (.inr (7, y_fl A z373 q352)) := ⟨_, rfl⟩
    rw [← hF377] at hP
    have hI : y_I K cs A F376 := by rw [hF377]; exact y_clY hA hI ha0 bz375 bq355
    have hfr : ∀ b, K b ∉ [9, 59, 62, 63, 64, 67, 68, 70] → F376 b = F b := by rw [hF377]; exact s_fr hfr ha0 (by decide)
    have o378 : F376 (A 30) = .inl (cs 0, 18360, .inl f10) := by rw [hF377]; exact th_ne (th_kd (y_k30 hA) ha0 (by decide)) o366
    have o379 : F376 (A 13) = .inl (cs 0, 400, .inl f331) := by rw [hF377]; exact th_ne (th_kd (y_k13 hA) ha0 (by decide)) o367
    have o380 : F376 (A 20) = .inl (cs 0, 918, .inl f334) := by rw [hF377]; exact th_ne (th_kd (y_k20 hA) ha0 (by decide)) o368
    have o381 : F376 (A 12) = .inl (cs 0, 400, .inl f357) := by rw [hF377]; exact th_ne (th_kd (y_k12 hA) ha0 (by decide)) o369
    have oY382 : F376 a0 = .inr (7, y_fl A z373 q352) := by rw [hF377]; exact th_up
    have hz0 : ∀ k, k ∈ ([25, 26, 27, 32] : List Nat) → z373 k = z0 k := fun k hk => by rw [hz374]; exact (y_un (fun q => absurd hk (by rw [q]; decide))).trans (hz0 k hk)
    have ev17 : v17 = z373 32 := by rw [hz374]; exact ev17.trans (y_un (by decide)).symm
    have ev330 : v330 = z373 15 := by rw [hz374]; exact ev330.trans (y_un (by decide)).symm
    have ev337 : v337 = z373 31 := by rw [hz374]; exact ev337.trans (y_un (by decide)).symm
    have ev338 : v338 = z373 1 := by rw [hz374]; exact ev338.trans (y_un (by decide)).symm
    have ev356 : v356 = z373 5 := by rw [hz374]; exact ev356.trans (y_un (by decide)).symm
    have ev371 : v371 = z373 7 := by rw [hz374]; exact ev371.trans (y_un (by decide)).symm
    have ev372 : v372 = z373 6 := by rw [hz374]; exact ev372.trans (y_un (by decide)).symm
    obtain ⟨v383, ev383⟩ : ∃ y : Int32, y = z373 8 := ⟨_, rfl⟩
    have qv383 : v383.toInt = v372.toInt := by rw [ev383, hz374, y_ue]
    refine lv_aload_n hx hb dX7_program_151 rfl (lv_at hl 0 rfl) ?_
    refine th_get (D := (dC, dI)) (ci := 7) (v := .int (z373 5)) (C := RX7) (T := TX7) (N := 34) hx hb hts inX7 hown hK hP (hLK _ ha0 (by decide)) oY382 rfl 5 (by decide) (hts _ T_274) (fun _ h9 => h9) rfl dX7_program_152 ?_
    refine ax_eqi (y := v356) ev356.symm ?_
    refine lv_if_eq (tgt := 164) hx hb dX7_program_155 (by decide) (fun c384 => ?_) (fun c384 => ?_)
    · have c384 := (ax_eq (n := 0) (by decide)).mp c384
      refine lv_aload_n hx hb dX7_program_164 rfl (lv_at hl 0 rfl) ?_
      refine va_callv (va_runV (As := []) (rest := []) ⟨hx, hb, hml, hown, hts⟩ (y_X7_stands l dC dI H.size hLK A hA F376 a0 ha0 hI (by rw [y_atE o381]; exact (k360e (by omega))) (by rw [y_atE o381]; exact (by rw [k360c]; exact k360d (by omega))) (by rw [y_atE o381]; exact (by rw [k360c]; exact ⟨by omega, by omega⟩))) (cwV 0 hts (ax_gV T_1294 T_1296 T_1297 T_265 T_1295) rfl rfl rfl (by decide +kernel) ⟨Nat.le_of_ble_eq_true rfl, Nat.le_of_ble_eq_true rfl⟩) ⟨fun a U g mk q => ⟨q.1, s_pc (U := U) rfl rfl q.2⟩, s_recv hK hP (hLK _ ha0 (by decide)) (ci := 7) rfl oY382, fun U hU hW => ⟨rfl, s_pw hU hW hP hK hD hN⟩⟩ rfl rfl hl.1 rfl (lv_room (Nat.le_of_ble_eq_true rfl)) dX7_program_165 ⟨Nat.zero_le _, Nat.zero_le _⟩) hS (fun q _ h => h) (fun q h => h) (fun F386 t H1 locs ht hvm hw hB hz1 hk1 hS => ?_)
      obtain ⟨hP, hK1⟩ := hB
      rw [ht] at hP
      generalize H1 = H at hP hS ⊢
      clear hz1 hk1 hvm hK1
      obtain ⟨h387, h389, hI, hfr1, hzf, h388⟩ := hw
      have o390 : F386 (A 30) = .inl (cs 0, 18360, .inl f10) := (hfr1 _ (by rw [(y_k30 hA)]; decide)).trans o378
      have o391 : F386 (A 12) = .inl (cs 0, 400, .inl f357) := (hfr1 _ (by rw [(y_k12 hA)]; decide)).trans o381
      obtain ⟨z392, q393, oY394, bz395, bq396⟩ := y_opY hI ha0
      have hzf : ∀ k, k ∈ ([1, 2, 3, 4, 5, 6, 7, 8, 11, 16, 25, 26, 27, 32] : List Nat) → z392 k = z373 k := fun k hk => by have q9 := hzf k hk; rw [y_fiZ oY394 (s_sub (by decide) hk), y_fiZ oY382 (s_sub (by decide) hk)] at q9; exact q9
      have hz0 : ∀ k, k ∈ ([25, 26, 27, 32] : List Nat) → z392 k = z0 k := fun k hk => (hzf k (s_sub (by decide) hk)).trans (hz0 k hk)
      have ev17 : v17 = z392 32 := ev17.trans (hzf 32 (by decide)).symm
      have ev338 : v338 = z392 1 := ev338.trans (hzf 1 (by decide)).symm
      have ev356 : v356 = z392 5 := ev356.trans (hzf 5 (by decide)).symm
      have ev371 : v371 = z392 7 := ev371.trans (hzf 7 (by decide)).symm
      have ev372 : v372 = z392 6 := ev372.trans (hzf 6 (by decide)).symm
      have ev383 : v383 = z392 8 := ev383.trans (hzf 8 (by decide)).symm
      have hfr : ∀ b, K b ∉ [9, 59, 62, 63, 64, 67, 68, 70] → F386 b = F b := fun b hb9 => (hfr1 b (fun q => hb9 (s_sub (by decide) q))).trans (hfr b hb9)
      obtain ⟨f397, o398, b399⟩ := y_op13 hI
      obtain ⟨f400, o401, b402⟩ := y_op20 hI
      obtain ⟨v403, ev403⟩ : ∃ y : Int32, y = z392 15 := ⟨_, rfl⟩
      have qv403 : 0 ≤ v403.toInt ∧ v403.toInt ≤ 1 := by rw [ev403]; exact y_bY15 bz395
      obtain ⟨v404, ev404⟩ : ∃ y : Int32, y = z392 31 := ⟨_, rfl⟩
      have qv404 : 0 ≤ v404.toInt ∧ v404.toInt ≤ 20 := by rw [ev404]; exact y_bY31 bz395
      replace h388 : ((y_PG f397 ∧ y_NG f397 f400) ∧ v403.toInt = 1 ∧ v404.toInt = 0) := by have q9 := h388; rw [y_atE o398, y_atE o401, y_fiZ oY394 (k := 15) (by decide), ← ev403, y_fiZ oY394 (k := 31) (by decide), ← ev404] at q9; exact q9
      refine lv_aload_n hx hb dX7_program_168 rfl (lv_at hl 0 rfl) ?_
      refine va_calli (va_runV (As := []) (rest := []) ⟨hx, hb, hml, hown, hts⟩ (y_X7_lines l dC dI H.size hLK A hA F386 a0 ha0 hI) (cwV 0 hts (ax_gV T_1030 T_1032 T_1033 T_265 T_1031) rfl rfl rfl (by decide +kernel) ⟨Nat.le_of_ble_eq_true rfl, Nat.le_of_ble_eq_true rfl⟩) ⟨fun a U g mk q => ⟨q.1, s_pc (U := U) rfl rfl q.2⟩, s_recv hK hP (hLK _ ha0 (by decide)) (ci := 7) rfl oY394, fun U hU hW => ⟨rfl, s_pw hU hW hP hK hD hN⟩⟩ rfl rfl hl.1 rfl (lv_room (Nat.le_of_ble_eq_true rfl)) dX7_program_169 ⟨Nat.zero_le _, Nat.zero_le _⟩) hS (fun q _ h => h) (fun q h => h) (fun r406 F407 t H1 locs ht hvm hw hB hz1 hk1 hS => ?_)
      obtain ⟨hP, hK1⟩ := hB
      rw [ht] at hP
      generalize H1 = H at hP hS ⊢
      clear hz1 hk1 hvm hK1
      obtain ⟨h408, h410, hI, hfr1, hzf, h409⟩ := hw
      have o411 : F407 (A 30) = .inl (cs 0, 18360, .inl f10) := (hfr1 _ (by rw [(y_k30 hA)]; decide)).trans o390
      have o412 : F407 (A 12) = .inl (cs 0, 400, .inl f357) := (hfr1 _ (by rw [(y_k12 hA)]; decide)).trans o391
      have o413 : F407 (A 13) = .inl (cs 0, 400, .inl f397) := (hfr1 _ (by rw [(y_k13 hA)]; decide)).trans o398
      have o414 : F407 (A 20) = .inl (cs 0, 918, .inl f400) := (hfr1 _ (by rw [(y_k20 hA)]; decide)).trans o401
      have oY415 : F407 a0 = .inr (7, y_fl A z392 q393) := (hfr1 _ (by rw [ha0]; decide)).trans oY394
      have hfr : ∀ b, K b ∉ [9, 59, 62, 63, 64, 67, 68, 70] → F407 b = F b := fun b hb9 => (hfr1 b (fun q => hb9 (s_sub (by decide) q))).trans (hfr b hb9)
      replace h409 : (r406 = y_c f397 387) := by have q9 := h409; rw [y_atE o398] at q9; exact q9
      have h416 := congrArg Int32.toInt h409
      exact W.iret (v := r406) hx hb hr (fun t ht hW => ⟨⟨r406, F407, rfl, ⟨trivial, trivial, hI, hfr, fun k hk => (y_fiZ oY415 (s_sub (by decide) hk)).trans ((hz0 k hk).trans (y_fiZ oY0 (s_sub (by decide) hk)).symm), (by rw [y_fiZ oY415 (k := 15) (by decide), ← ev403, y_atE o413, y_atE o414, y_atE o411, y_fiZ oY415 (k := 31) (by decide), ← ev404, y_fiZ oY415 (k := 32) (by decide), ← ev17, y_fiZ oY415 (k := 1) (by decide), ← ev338]; exact ⟨(Or.inr ⟨h388.2.1, h388.1.1, h388.1.2, by rw [h388.2.2]; exact y_UG0⟩), by first | assumption | omega⟩)⟩, by rw [ht]; exact hP, va_K.moved hW.alike hK⟩, hS.F ht⟩) hS.2.2 dX7_program_172
    · have c384 := mt (ax_eq (n := 0) (by decide)).mpr c384
      refine lv_aload_n hx hb dX7_program_158 rfl (lv_at hl 0 rfl) ?_
      refine lv_iconst (v := 1) hx hb dX7_program_159 (by decide) ?_
      refine va_calli (va_runV (As := [.int 1]) (rest := []) ⟨hx, hb, hml, hown, hts⟩ (y_X7_refuses l dC dI H.size hLK A hA F376 a0 1 ha0 (by decide) hI) (cwV 1 hts (ax_gV T_310 T_311 T_312 T_265 T_33) rfl rfl rfl (by decide +kernel) ⟨Nat.le_of_ble_eq_true rfl, Nat.le_of_ble_eq_true rfl⟩) ⟨fun a U g mk q => ⟨q.1, s_pc (U := U) rfl rfl q.2⟩, s_recv hK hP (hLK _ ha0 (by decide)) (ci := 7) rfl oY382, fun U hU hW => ⟨rfl, s_pw hU hW hP hK hD hN⟩⟩ rfl rfl hl.1 rfl (lv_room (Nat.le_of_ble_eq_true rfl)) dX7_program_160 ⟨Nat.zero_le _, Nat.zero_le _⟩) hS (fun q _ h => h) (fun q h => h) (fun r418 F419 t H1 locs ht hvm hw hB hz1 hk1 hS => ?_)
      obtain ⟨hP, hK1⟩ := hB
      rw [ht] at hP
      generalize H1 = H at hP hS ⊢
      clear hz1 hk1 hvm hK1
      obtain ⟨h420, h422, hI, hfr1, hzf, h421⟩ := hw
      have o423 : F419 (A 30) = .inl (cs 0, 18360, .inl f10) := (hfr1 _ (by rw [(y_k30 hA)]; decide)).trans o378
      have o424 : F419 (A 13) = .inl (cs 0, 400, .inl f331) := (hfr1 _ (by rw [(y_k13 hA)]; decide)).trans o379
      have o425 : F419 (A 20) = .inl (cs 0, 918, .inl f334) := (hfr1 _ (by rw [(y_k20 hA)]; decide)).trans o380
      have o426 : F419 (A 12) = .inl (cs 0, 400, .inl f357) := (hfr1 _ (by rw [(y_k12 hA)]; decide)).trans o381
      have oY427 : F419 a0 = .inr (7, y_fl A z373 q352) := (hfr1 _ (by rw [ha0]; decide)).trans oY382
      have hfr : ∀ b, K b ∉ [9, 59, 62, 63, 64, 67, 68, 70] → F419 b = F b := fun b hb9 => (hfr1 b (fun q => hb9 (s_sub (by decide) q))).trans (hfr b hb9)
      exact W.iret (v := r418) hx hb hr (fun t ht hW => ⟨⟨r418, F419, rfl, ⟨trivial, trivial, hI, hfr, fun k hk => (y_fiZ oY427 (s_sub (by decide) hk)).trans ((hz0 k hk).trans (y_fiZ oY0 (s_sub (by decide) hk)).symm), (by rw [y_fiZ oY427 (k := 15) (by decide), ← ev330, y_atE o424, y_atE o425, y_atE o423, y_fiZ oY427 (k := 31) (by decide), ← ev337, y_fiZ oY427 (k := 32) (by decide), ← ev17, y_fiZ oY427 (k := 1) (by decide), ← ev338]; exact ⟨h319, by first | assumption | omega⟩)⟩, by rw [ht]; exact hP, va_K.moved hW.alike hK⟩, hS.F ht⟩) hS.2.2 dX7_program_163
