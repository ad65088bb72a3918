set_option maxHeartbeats 4000000 in
set_option maxRecDepth 100000 in
/-- Warp(): five rows -/
theorem n_X5_init (l : Launch) (dC : Nat → ClassId) (dI : Nat → Nat → Nat) (sz : Nat) {cs : Nat → ClassId} (L : List Nat) (K : Nat → Nat) (F : Nat → va_E) (h0 : Nat) (hh : h0 ∈ L) (hI : s_I K cs 0 F) (hLk : ∀ a, K a ≠ 0 → a ∈ L) (hk : K h0 = 0) (o0 : F h0 = .inr (5, [.null, .null, .null, .null, .null, .int 0, .int 0, .int 0, .int 0, .int 0, .int 0])) : Met l yX5_init (Cond.code yX5_init cX5_init 1 none :: T0) ({ frames := 1, cells := 5, slots := 88, locals := 12 }) (va_Pc [.ref h0] (n_W dC dI sz L F [(cs 0, .int), (cs 1, .byte), (cs 2, .long), (cs 3, .object RX5), (cs 4, .object RX4), (cs 5, .array .int), (cs 6, .char), (cs 7, .boolean)])) (va_Qv (fun (u : List Nat × (Nat → Nat) × (Nat → va_E)) => n_Q cs L K F h0 6 [6, 30, 31, 32] u) (fun (u : List Nat × (Nat → Nat) × (Nat → va_E)) (t : State) => va_P (dC, dI) vwCl (va_pl u.1 u.2.2) t.heap ∧ va_K (dC, dI) vwCl [(cs 0, .int), (cs 1, .byte), (cs 2, .long), (cs 3, .object RX5), (cs 4, .object RX4), (cs 5, .array .int), (cs 6, .char), (cs 7, .boolean)] t ∧ ∀ G, va_D (n_A L sz) (va_pl u.1 G)) (n_A L sz)) 5 88 (n_A L sz) := by
  refine Met.ofW (cc := cX5_init) (maxL := 1) (ret := none) (by decide) rfl ?_
  intro p e s m args below meth c s₁ B hml hv
  obtain ⟨rfl, hsz, hP, hK, hD, hN⟩ := hv
  have hx := B.exec
  have hb := B.bytes
  have hr := B.returns
  have hts : ∀ w ∈ T0, w.before _ s = true := fun w h => atoms_spec (ws := Cond.code yX5_init cX5_init 1 none :: T0) B.pre w (List.mem_cons_of_mem _ h)
  have hown : s.vm.findClass RX5 = some m.cls := findClass_of_methodNamed B.named
  have hlocks := B.notSynchronized
  have hin : meth.name = "<init>" := (name_of_methodNamed B.named B.method).1
  subst hsz
  generalize hAe : n_A L s.heap.size = A at hD ⊢
  have hA : ∀ q : Nat, s.heap.size ≤ q → A q := fun q h => by rw [← hAe]; exact Or.inr h
  have hS : va_S A s.heap s.heap [] := va_S.rf
  have hl := lv_entry ([.ref h0]) (n := 1) (Nat.le_of_ble_eq_true rfl)
  rw [lg_entry_eq]
  generalize (lg_sl ([.ref h0]) ++ List.replicate (1 - (lg_sl ([.ref h0])).length) Slot.unset).toArray = ls at hl ⊢
  have hl : lv_has ls 1 [(0, .ref h0)] := hl
  have hsub : ∀ a ∈ L, a ∈ L := fun _ h => h
  have hfr : ∀ a ∈ L, a ≠ h0 → F a = F a ∧ K a = K a := fun _ _ _ => ⟨rfl, rfl⟩
  have hX : n_X K K := n_Xr K
  have hLk0 := hLk
  have hks : ∀ a, K a = K a ∨ K a ∈ [6, 30, 31, 32] := fun a => Or.inl rfl
  refine s_gen hP hS (fun H locs hP hS => ?_)
  refine lv_aload_n hx hb dX5_init_0 rfl (lv_at hl 0 rfl) ?_
  refine W.objInit hx hb hown (hts _ T_97) (hts _ T_98) (hts _ T_0) rfl (by rw [hml]; exact hl.1) rfl dX5_init_1 (Nat.le_of_ble_eq_true rfl) (Nat.le_of_ble_eq_true rfl) ?_
  refine W.eq (g2 := F0 m 4 ls []) rfl ?_
  refine lv_aload_n hx hb dX5_init_4 rfl (lv_at hl 0 rfl) ?_
  refine lv_bipush (v := 32) hx hb dX5_init_5 (by decide) ?_
  refine n_newa (atype := .int) (a0 := (32, .inl (fun _ => 0))) hx hb (hts _ T_99) rfl hK hP hD hS hA 0 rfl (fun _ => rfl) (by decide) (by decide) (Nat.le_of_ble_eq_true rfl) (Nat.le_of_ble_eq_true rfl) (Nat.le_of_ble_eq_true rfl) dX5_init_7 (fun q1 H hq hP hD hS => ?_)
  obtain ⟨L2, hL2⟩ : ∃ M, M = L ++ [q1] := ⟨_, rfl⟩
  rw [← hL2] at hP hD
  obtain ⟨F3, hF3⟩ : ∃ M : Nat → va_E, M = va_up F q1 (.inl (cs 0, 32, .inl (fun _ => 0))) := ⟨_, rfl⟩
  rw [← hF3] at hP
  obtain ⟨hI, hLk, hX1⟩ := n_add (c := 30) hI hLk hq (show ok_30 cs _ from ⟨_, rfl, trivial⟩)
  obtain ⟨K4, hK4⟩ : ∃ M, M = va_up K q1 30 := ⟨_, rfl⟩
  rw [← hK4, ← hF3] at hI
  rw [← hK4, ← hL2] at hLk
  rw [← hK4] at hX1
  have ne5 : q1 ≠ h0 := fun h => hq (h ▸ hh)
  have m6 : h0 ∈ L2 := by rw [hL2]; exact List.mem_append_left _ hh
  have k7 : K4 h0 = 0 := by rw [hK4]; exact th_ne (Ne.symm ne5) hk
  have o8 : F3 h0 = .inr (5, [.null, .null, .null, .null, .null, .int 0, .int 0, .int 0, .int 0, .int 0, .int 0]) := by rw [hF3]; exact th_ne (Ne.symm ne5) o0
  have m9 : q1 ∈ L2 := by rw [hL2]; exact List.mem_append_right _ (List.mem_singleton.mpr rfl)
  have o10 : F3 q1 = (.inl (cs 0, 32, .inl (fun _ => 0))) := by rw [hF3]; exact th_up
  have k11 : K4 q1 = 30 := by rw [hK4]; exact th_up
  have nl12 : q1 ∉ L := fun h => hq (hsub q1 h)
  have hfr : ∀ a ∈ L, a ≠ h0 → F3 a = F a ∧ K4 a = K a := fun a ha hne => ⟨by rw [hF3]; exact th_ne (fun h => nl12 (h ▸ ha)) (hfr a ha hne).1, by rw [hK4]; exact th_ne (fun h => nl12 (h ▸ ha)) (hfr a ha hne).2⟩
  have hsub : ∀ a ∈ L, a ∈ L2 := fun a ha => by rw [hL2]; exact List.mem_append_left _ (hsub a ha)
  have hX : n_X K K4 := n_Xt hX hX1
  have hks : ∀ a, K4 a = K a ∨ K4 a ∈ [6, 30, 31, 32] := fun a => by rw [hK4]; by_cases e9 : a = q1; (rw [e9, th_up]; right; decide); rw [show va_up K q1 30 a = K a from if_neg e9]; exact hks a
  refine W.widen (k := 1) (n := 32) (Nat.le_of_ble_eq_true rfl) (Nat.le_of_ble_eq_true rfl) ?_
  refine n_putF (D := (dC, dI)) (ci := 5) (v := .ref q1) (ty := .array .int) (C := RX5) (T := TX5) (N := 11) hx hb hts inX5 tyX5 tyX5_ok nmX5 hown hK hP hD hS m6 o8 rfl 0 (by decide) (hts _ T_100) (fun _ h9 => h9) rfl hin rfl (by decide +kernel) rfl rfl (Nat.le_of_ble_eq_true rfl) dX5_init_9 (fun H locs hP hS => ?_)
  have hP : va_P (dC, dI) vwCl (va_pl L2 (va_up F3 h0 (.inr (5, [.ref q1, .null, .null, .null, .null, .int 0, .int 0, .int 0, .int 0, .int 0, .int 0])))) H := hP
  obtain ⟨F13, hF13⟩ : ∃ M : Nat → va_E, M = va_up F3 h0 (.inr (5, [.ref q1, .null, .null, .null, .null, .int 0, .int 0, .int 0, .int 0, .int 0, .int 0])) := ⟨_, rfl⟩
  rw [← hF13] at hP
  have hI : s_I K4 cs 0 F13 := by rw [hF13]; exact n_put0 hI k7
  have o14 : F13 h0 = .inr (5, [.ref q1, .null, .null, .null, .null, .int 0, .int 0, .int 0, .int 0, .int 0, .int 0]) := by rw [hF13]; exact th_up
  have hfr : ∀ a ∈ L, a ≠ h0 → F13 a = F a ∧ K4 a = K a := fun a ha hne => ⟨by rw [hF13]; exact th_ne hne (hfr a ha hne).1, (hfr a ha hne).2⟩
  refine lv_aload_n hx hb dX5_init_12 rfl (lv_at hl 0 rfl) ?_
  refine lv_bipush (v := 8) hx hb dX5_init_13 (by decide) ?_
  refine n_newa (atype := .int) (a0 := (8, .inl (fun _ => 0))) hx hb (hts _ T_99) rfl hK hP hD hS hA 0 rfl (fun _ => rfl) (by decide) (by decide) (Nat.le_of_ble_eq_true rfl) (Nat.le_of_ble_eq_true rfl) (Nat.le_of_ble_eq_true rfl) dX5_init_15 (fun q15 H hq hP hD hS => ?_)
  obtain ⟨L16, hL16⟩ : ∃ M, M = L2 ++ [q15] := ⟨_, rfl⟩
  rw [← hL16] at hP hD
  obtain ⟨F17, hF17⟩ : ∃ M : Nat → va_E, M = va_up F13 q15 (.inl (cs 0, 8, .inl (fun _ => 0))) := ⟨_, rfl⟩
  rw [← hF17] at hP
  obtain ⟨hI, hLk, hX1⟩ := n_add (c := 31) hI hLk hq (show ok_31 cs _ from ⟨_, rfl, trivial⟩)
  obtain ⟨K18, hK18⟩ : ∃ M, M = va_up K4 q15 31 := ⟨_, rfl⟩
  rw [← hK18, ← hF17] at hI
  rw [← hK18, ← hL16] at hLk
  rw [← hK18] at hX1
  have ne19 : q15 ≠ h0 := fun h => hq (h ▸ m6)
  have ne20 : q15 ≠ q1 := fun h => hq (h ▸ m9)
  have m21 : h0 ∈ L16 := by rw [hL16]; exact List.mem_append_left _ m6
  have k22 : K18 h0 = 0 := by rw [hK18]; exact th_ne (Ne.symm ne19) k7
  have o23 : F17 h0 = .inr (5, [.ref q1, .null, .null, .null, .null, .int 0, .int 0, .int 0, .int 0, .int 0, .int 0]) := by rw [hF17]; exact th_ne (Ne.symm ne19) o14
  have m24 : q1 ∈ L16 := by rw [hL16]; exact List.mem_append_left _ m9
  have k25 : K18 q1 = 30 := by rw [hK18]; exact th_ne (Ne.symm ne20) k11
  have m26 : q15 ∈ L16 := by rw [hL16]; exact List.mem_append_right _ (List.mem_singleton.mpr rfl)
  have o27 : F17 q15 = (.inl (cs 0, 8, .inl (fun _ => 0))) := by rw [hF17]; exact th_up
  have k28 : K18 q15 = 31 := by rw [hK18]; exact th_up
  have nl29 : q15 ∉ L := fun h => hq (hsub q15 h)
  have hfr : ∀ a ∈ L, a ≠ h0 → F17 a = F a ∧ K18 a = K a := fun a ha hne => ⟨by rw [hF17]; exact th_ne (fun h => nl29 (h ▸ ha)) (hfr a ha hne).1, by rw [hK18]; exact th_ne (fun h => nl29 (h ▸ ha)) (hfr a ha hne).2⟩
  have hsub : ∀ a ∈ L, a ∈ L16 := fun a ha => by rw [hL16]; exact List.mem_append_left _ (hsub a ha)
  have hX : n_X K K18 := n_Xt hX hX1
  have hks : ∀ a, K18 a = K a ∨ K18 a ∈ [6, 30, 31, 32] := fun a => by rw [hK18]; by_cases e9 : a = q15; (rw [e9, th_up]; right; decide); rw [show va_up K4 q15 31 a = K4 a from if_neg e9]; exact hks a
  refine W.widen (k := 2) (n := 40) (Nat.le_of_ble_eq_true rfl) (Nat.le_of_ble_eq_true rfl) ?_
  refine n_putF (D := (dC, dI)) (ci := 5) (v := .ref q15) (ty := .array .int) (C := RX5) (T := TX5) (N := 11) hx hb hts inX5 tyX5 tyX5_ok nmX5 hown hK hP hD hS m21 o23 rfl 1 (by decide) (hts _ T_101) (fun _ h9 => h9) rfl hin rfl (by decide +kernel) rfl rfl (Nat.le_of_ble_eq_true rfl) dX5_init_17 (fun H locs hP hS => ?_)
  have hP : va_P (dC, dI) vwCl (va_pl L16 (va_up F17 h0 (.inr (5, [.ref q1, .ref q15, .null, .null, .null, .int 0, .int 0, .int 0, .int 0, .int 0, .int 0])))) H := hP
  obtain ⟨F30, hF30⟩ : ∃ M : Nat → va_E, M = va_up F17 h0 (.inr (5, [.ref q1, .ref q15, .null, .null, .null, .int 0, .int 0, .int 0, .int 0, .int 0, .int 0])) := ⟨_, rfl⟩
  rw [← hF30] at hP
  have hI : s_I K18 cs 0 F30 := by rw [hF30]; exact n_put0 hI k22
  have o31 : F30 h0 = .inr (5, [.ref q1, .ref q15, .null, .null, .null, .int 0, .int 0, .int 0, .int 0, .int 0, .int 0]) := by rw [hF30]; exact th_up
  have hfr : ∀ a ∈ L, a ≠ h0 → F30 a = F a ∧ K18 a = K a := fun a ha hne => ⟨by rw [hF30]; exact th_ne hne (hfr a ha hne).1, (hfr a ha hne).2⟩
  refine lv_aload_n hx hb dX5_init_20 rfl (lv_at hl 0 rfl) ?_
  refine lv_bipush (v := 16) hx hb dX5_init_21 (by decide) ?_
  refine n_newa (atype := .int) (a0 := (16, .inl (fun _ => 0))) hx hb (hts _ T_99) rfl hK hP hD hS hA 0 rfl (fun _ => rfl) (by decide) (by decide) (Nat.le_of_ble_eq_true rfl) (Nat.le_of_ble_eq_true rfl) (Nat.le_of_ble_eq_true rfl) dX5_init_23 (fun q32 H hq hP hD hS => ?_)
  obtain ⟨L33, hL33⟩ : ∃ M, M = L16 ++ [q32] := ⟨_, rfl⟩
  rw [← hL33] at hP hD
  obtain ⟨F34, hF34⟩ : ∃ M : Nat → va_E, M = va_up F30 q32 (.inl (cs 0, 16, .inl (fun _ => 0))) := ⟨_, rfl⟩
  rw [← hF34] at hP
  obtain ⟨hI, hLk, hX1⟩ := n_add (c := 32) hI hLk hq (show ok_32 cs _ from ⟨_, rfl, trivial⟩)
  obtain ⟨K35, hK35⟩ : ∃ M, M = va_up K18 q32 32 := ⟨_, rfl⟩
  rw [← hK35, ← hF34] at hI
  rw [← hK35, ← hL33] at hLk
  rw [← hK35] at hX1
  have ne36 : q32 ≠ h0 := fun h => hq (h ▸ m21)
  have ne37 : q32 ≠ q1 := fun h => hq (h ▸ m24)
  have ne38 : q32 ≠ q15 := fun h => hq (h ▸ m26)
  have m39 : h0 ∈ L33 := by rw [hL33]; exact List.mem_append_left _ m21
  have k40 : K35 h0 = 0 := by rw [hK35]; exact th_ne (Ne.symm ne36) k22
  have o41 : F34 h0 = .inr (5, [.ref q1, .ref q15, .null, .null, .null, .int 0, .int 0, .int 0, .int 0, .int 0, .int 0]) := by rw [hF34]; exact th_ne (Ne.symm ne36) o31
  have m42 : q1 ∈ L33 := by rw [hL33]; exact List.mem_append_left _ m24
  have k43 : K35 q1 = 30 := by rw [hK35]; exact th_ne (Ne.symm ne37) k25
  have m44 : q15 ∈ L33 := by rw [hL33]; exact List.mem_append_left _ m26
  have k45 : K35 q15 = 31 := by rw [hK35]; exact th_ne (Ne.symm ne38) k28
  have m46 : q32 ∈ L33 := by rw [hL33]; exact List.mem_append_right _ (List.mem_singleton.mpr rfl)
  have o47 : F34 q32 = (.inl (cs 0, 16, .inl (fun _ => 0))) := by rw [hF34]; exact th_up
  have k48 : K35 q32 = 32 := by rw [hK35]; exact th_up
  have nl49 : q32 ∉ L := fun h => hq (hsub q32 h)
  have hfr : ∀ a ∈ L, a ≠ h0 → F34 a = F a ∧ K35 a = K a := fun a ha hne => ⟨by rw [hF34]; exact th_ne (fun h => nl49 (h ▸ ha)) (hfr a ha hne).1, by rw [hK35]; exact th_ne (fun h => nl49 (h ▸ ha)) (hfr a ha hne).2⟩
  have hsub : ∀ a ∈ L, a ∈ L33 := fun a ha => by rw [hL33]; exact List.mem_append_left _ (hsub a ha)
  have hX : n_X K K35 := n_Xt hX hX1
  have hks : ∀ a, K35 a = K a ∨ K35 a ∈ [6, 30, 31, 32] := fun a => by rw [hK35]; by_cases e9 : a = q32; (rw [e9, th_up]; right; decide); rw [show va_up K18 q32 32 a = K18 a from if_neg e9]; exact hks a
  refine W.widen (k := 3) (n := 56) (Nat.le_of_ble_eq_true rfl) (Nat.le_of_ble_eq_true rfl) ?_
  refine n_putF (D := (dC, dI)) (ci := 5) (v := .ref q32) (ty := .array .int) (C := RX5) (T := TX5) (N := 11) hx hb hts inX5 tyX5 tyX5_ok nmX5 hown hK hP hD hS m39 o41 rfl 2 (by decide) (hts _ T_102) (fun _ h9 => h9) rfl hin rfl (by decide +kernel) rfl rfl (Nat.le_of_ble_eq_true rfl) dX5_init_25 (fun H locs hP hS => ?_)
  have hP : va_P (dC, dI) vwCl (va_pl L33 (va_up F34 h0 (.inr (5, [.ref q1, .ref q15, .ref q32, .null, .null, .int 0, .int 0, .int 0, .int 0, .int 0, .int 0])))) H := hP
  obtain ⟨F50, hF50⟩ : ∃ M : Nat → va_E, M = va_up F34 h0 (.inr (5, [.ref q1, .ref q15, .ref q32, .null, .null, .int 0, .int 0, .int 0, .int 0, .int 0, .int 0])) := ⟨_, rfl⟩
  rw [← hF50] at hP
  have hI : s_I K35 cs 0 F50 := by rw [hF50]; exact n_put0 hI k40
  have o51 : F50 h0 = .inr (5, [.ref q1, .ref q15, .ref q32, .null, .null, .int 0, .int 0, .int 0, .int 0, .int 0, .int 0]) := by rw [hF50]; exact th_up
  have hfr : ∀ a ∈ L, a ≠ h0 → F50 a = F a ∧ K35 a = K a := fun a ha hne => ⟨by rw [hF50]; exact th_ne hne (hfr a ha hne).1, (hfr a ha hne).2⟩
  refine lv_aload_n hx hb dX5_init_28 rfl (lv_at hl 0 rfl) ?_
  refine lv_bipush (v := 16) hx hb dX5_init_29 (by decide) ?_
  refine n_newa (atype := .int) (a0 := (16, .inl (fun _ => 0))) hx hb (hts _ T_99) rfl hK hP hD hS hA 0 rfl (fun _ => rfl) (by decide) (by decide) (Nat.le_of_ble_eq_true rfl) (Nat.le_of_ble_eq_true rfl) (Nat.le_of_ble_eq_true rfl) dX5_init_31 (fun q52 H hq hP hD hS => ?_)
  obtain ⟨L53, hL53⟩ : ∃ M, M = L33 ++ [q52] := ⟨_, rfl⟩
  rw [← hL53] at hP hD
  obtain ⟨F54, hF54⟩ : ∃ M : Nat → va_E, M = va_up F50 q52 (.inl (cs 0, 16, .inl (fun _ => 0))) := ⟨_, rfl⟩
  rw [← hF54] at hP
  obtain ⟨hI, hLk, hX1⟩ := n_add (c := 32) hI hLk hq (show ok_32 cs _ from ⟨_, rfl, trivial⟩)
  obtain ⟨K55, hK55⟩ : ∃ M, M = va_up K35 q52 32 := ⟨_, rfl⟩
  rw [← hK55, ← hF54] at hI
  rw [← hK55, ← hL53] at hLk
  rw [← hK55] at hX1
  have ne56 : q52 ≠ h0 := fun h => hq (h ▸ m39)
  have ne57 : q52 ≠ q1 := fun h => hq (h ▸ m42)
  have ne58 : q52 ≠ q15 := fun h => hq (h ▸ m44)
  have ne59 : q52 ≠ q32 := fun h => hq (h ▸ m46)
  have m60 : h0 ∈ L53 := by rw [hL53]; exact List.mem_append_left _ m39
  have k61 : K55 h0 = 0 := by rw [hK55]; exact th_ne (Ne.symm ne56) k40
  have o62 : F54 h0 = .inr (5, [.ref q1, .ref q15, .ref q32, .null, .null, .int 0, .int 0, .int 0, .int 0, .int 0, .int 0]) := by rw [hF54]; exact th_ne (Ne.symm ne56) o51
  have m63 : q1 ∈ L53 := by rw [hL53]; exact List.mem_append_left _ m42
  have k64 : K55 q1 = 30 := by rw [hK55]; exact th_ne (Ne.symm ne57) k43
  have m65 : q15 ∈ L53 := by rw [hL53]; exact List.mem_append_left _ m44
  have k66 : K55 q15 = 31 := by rw [hK55]; exact th_ne (Ne.symm ne58) k45
  have m67 : q32 ∈ L53 := by rw [hL53]; exact List.mem_append_left _ m46
  have k68 : K55 q32 = 32 := by rw [hK55]; exact th_ne (Ne.symm ne59) k48
  have m69 : q52 ∈ L53 := by rw [hL53]; exact List.mem_append_right _ (List.mem_singleton.mpr rfl)
  have o70 : F54 q52 = (.inl (cs 0, 16, .inl (fun _ => 0))) := by rw [hF54]; exact th_up
  have k71 : K55 q52 = 32 := by rw [hK55]; exact th_up
  have nl72 : q52 ∉ L := fun h => hq (hsub q52 h)
  have hfr : ∀ a ∈ L, a ≠ h0 → F54 a = F a ∧ K55 a = K a := fun a ha hne => ⟨by rw [hF54]; exact th_ne (fun h => nl72 (h ▸ ha)) (hfr a ha hne).1, by rw [hK55]; exact th_ne (fun h => nl72 (h ▸ ha)) (hfr a ha hne).2⟩
  have hsub : ∀ a ∈ L, a ∈ L53 := fun a ha => by rw [hL53]; exact List.mem_append_left _ (hsub a ha)
  have hX : n_X K K55 := n_Xt hX hX1
  have hks : ∀ a, K55 a = K a ∨ K55 a ∈ [6, 30, 31, 32] := fun a => by rw [hK55]; by_cases e9 : a = q52; (rw [e9, th_up]; right; decide); rw [show va_up K35 q52 32 a = K35 a from if_neg e9]; exact hks a
  refine W.widen (k := 4) (n := 72) (Nat.le_of_ble_eq_true rfl) (Nat.le_of_ble_eq_true rfl) ?_
  refine n_putF (D := (dC, dI)) (ci := 5) (v := .ref q52) (ty := .array .int) (C := RX5) (T := TX5) (N := 11) hx hb hts inX5 tyX5 tyX5_ok nmX5 hown hK hP hD hS m60 o62 rfl 3 (by decide) (hts _ T_103) (fun _ h9 => h9) rfl hin rfl (by decide +kernel) rfl rfl (Nat.le_of_ble_eq_true rfl) dX5_init_33 (fun H locs hP hS => ?_)
  have hP : va_P (dC, dI) vwCl (va_pl L53 (va_up F54 h0 (.inr (5, [.ref q1, .ref q15, .ref q32, .ref q52, .null, .int 0, .int 0, .int 0, .int 0, .int 0, .int 0])))) H := hP
  obtain ⟨F73, hF73⟩ : ∃ M : Nat → va_E, M = va_up F54 h0 (.inr (5, [.ref q1, .ref q15, .ref q32, .ref q52, .null, .int 0, .int 0, .int 0, .int 0, .int 0, .int 0])) := ⟨_, rfl⟩
  rw [← hF73] at hP
  have hI : s_I K55 cs 0 F73 := by rw [hF73]; exact n_put0 hI k61
  have o74 : F73 h0 = .inr (5, [.ref q1, .ref q15, .ref q32, .ref q52, .null, .int 0, .int 0, .int 0, .int 0, .int 0, .int 0]) := by rw [hF73]; exact th_up
  have hfr : ∀ a ∈ L, a ≠ h0 → F73 a = F a ∧ K55 a = K a := fun a ha hne => ⟨by rw [hF73]; exact th_ne hne (hfr a ha hne).1, (hfr a ha hne).2⟩
  refine lv_aload_n hx hb dX5_init_36 rfl (lv_at hl 0 rfl) ?_
  refine lv_bipush (v := 16) hx hb dX5_init_37 (by decide) ?_
  refine n_newa (atype := .int) (a0 := (16, .inl (fun _ => 0))) hx hb (hts _ T_99) rfl hK hP hD hS hA 0 rfl (fun _ => rfl) (by decide) (by decide) (Nat.le_of_ble_eq_true rfl) (Nat.le_of_ble_eq_true rfl) (Nat.le_of_ble_eq_true rfl) dX5_init_39 (fun q75 H hq hP hD hS => ?_)
  obtain ⟨L76, hL76⟩ : ∃ M, M = L53 ++ [q75] := ⟨_, rfl⟩
  rw [← hL76] at hP hD
  obtain ⟨F77, hF77⟩ : ∃ M : Nat → va_E, M = va_up F73 q75 (.inl (cs 0, 16, .inl (fun _ => 0))) := ⟨_, rfl⟩
  rw [← hF77] at hP
  obtain ⟨hI, hLk, hX1⟩ := n_add (c := 32) hI hLk hq (show ok_32 cs _ from ⟨_, rfl, trivial⟩)
  obtain ⟨K78, hK78⟩ : ∃ M, M = va_up K55 q75 32 := ⟨_, rfl⟩
  rw [← hK78, ← hF77] at hI
  rw [← hK78, ← hL76] at hLk
  rw [← hK78] at hX1
  have ne79 : q75 ≠ h0 := fun h => hq (h ▸ m60)
  have ne80 : q75 ≠ q1 := fun h => hq (h ▸ m63)
  have ne81 : q75 ≠ q15 := fun h => hq (h ▸ m65)
  have ne82 : q75 ≠ q32 := fun h => hq (h ▸ m67)
  have ne83 : q75 ≠ q52 := fun h => hq (h ▸ m69)
  have m84 : h0 ∈ L76 := by rw [hL76]; exact List.mem_append_left _ m60
  have k85 : K78 h0 = 0 := by rw [hK78]; exact th_ne (Ne.symm ne79) k61
  have o86 : F77 h0 = .inr (5, [.ref q1, .ref q15, .ref q32, .ref q52, .null, .int 0, .int 0, .int 0, .int 0, .int 0, .int 0]) := by rw [hF77]; exact th_ne (Ne.symm ne79) o74
  have m87 : q1 ∈ L76 := by rw [hL76]; exact List.mem_append_left _ m63
  have k88 : K78 q1 = 30 := by rw [hK78]; exact th_ne (Ne.symm ne80) k64
  have m89 : q15 ∈ L76 := by rw [hL76]; exact List.mem_append_left _ m65
  have k90 : K78 q15 = 31 := by rw [hK78]; exact th_ne (Ne.symm ne81) k66
  have m91 : q32 ∈ L76 := by rw [hL76]; exact List.mem_append_left _ m67
  have k92 : K78 q32 = 32 := by rw [hK78]; exact th_ne (Ne.symm ne82) k68
  have m93 : q52 ∈ L76 := by rw [hL76]; exact List.mem_append_left _ m69
  have k94 : K78 q52 = 32 := by rw [hK78]; exact th_ne (Ne.symm ne83) k71
  have m95 : q75 ∈ L76 := by rw [hL76]; exact List.mem_append_right _ (List.mem_singleton.mpr rfl)
  have o96 : F77 q75 = (.inl (cs 0, 16, .inl (fun _ => 0))) := by rw [hF77]; exact th_up
  have k97 : K78 q75 = 32 := by rw [hK78]; exact th_up
  have nl98 : q75 ∉ L := fun h => hq (hsub q75 h)
  have hfr : ∀ a ∈ L, a ≠ h0 → F77 a = F a ∧ K78 a = K a := fun a ha hne => ⟨by rw [hF77]; exact th_ne (fun h => nl98 (h ▸ ha)) (hfr a ha hne).1, by rw [hK78]; exact th_ne (fun h => nl98 (h ▸ ha)) (hfr a ha hne).2⟩
  have hsub : ∀ a ∈ L, a ∈ L76 := fun a ha => by rw [hL76]; exact List.mem_append_left _ (hsub a ha)
  have hX : n_X K K78 := n_Xt hX hX1
  have hks : ∀ a, K78 a = K a ∨ K78 a ∈ [6, 30, 31, 32] := fun a => by rw [hK78]; by_cases e9 : a = q75; (rw [e9, th_up]; right; decide); rw [show va_up K55 q75 32 a = K55 a from if_neg e9]; exact hks a
  refine W.widen (k := 5) (n := 88) (Nat.le_of_ble_eq_true rfl) (Nat.le_of_ble_eq_true rfl) ?_
  refine n_putF (D := (dC, dI)) (ci := 5) (v := .ref q75) (ty := .array .int) (C := RX5) (T := TX5) (N := 11) hx hb hts inX5 tyX5 tyX5_ok nmX5 hown hK hP hD hS m84 o86 rfl 4 (by decide) (hts _ T_104) (fun _ h9 => h9) rfl hin rfl (by decide +kernel) rfl rfl (Nat.le_of_ble_eq_true rfl) dX5_init_41 (fun H locs hP hS => ?_)
  have hP : va_P (dC, dI) vwCl (va_pl L76 (va_up F77 h0 (.inr (5, [.ref q1, .ref q15, .ref q32, .ref q52, .ref q75, .int 0, .int 0, .int 0, .int 0, .int 0, .int 0])))) H := hP
  obtain ⟨F99, hF99⟩ : ∃ M : Nat → va_E, M = va_up F77 h0 (.inr (5, [.ref q1, .ref q15, .ref q32, .ref q52, .ref q75, .int 0, .int 0, .int 0, .int 0, .int 0, .int 0])) := ⟨_, rfl⟩
  rw [← hF99] at hP
  have hI : s_I K78 cs 0 F99 := by rw [hF99]; exact n_put0 hI k85
  have o100 : F99 h0 = .inr (5, [.ref q1, .ref q15, .ref q32, .ref q52, .ref q75, .int 0, .int 0, .int 0, .int 0, .int 0, .int 0]) := by rw [hF99]; exact th_up
  have hfr : ∀ a ∈ L, a ≠ h0 → F99 a = F a ∧ K78 a = K a := fun a ha hne => ⟨by rw [hF99]; exact th_ne hne (hfr a ha hne).1, (hfr a ha hne).2⟩
  obtain ⟨hI, hLk, hX1⟩ := n_kind (c := 6) hI hLk m84 k85 (by rw [o100]; exact (show ok_6 (va_up K78 h0 6) cs 0 _ from ⟨q1, q15, q32, q52, q75, 0, 0, 0, 0, 0, 0, rfl, (n_Xc (n_Xu k85) (by decide) k88), (n_Xc (n_Xu k85) (by decide) k90), (n_Xc (n_Xu k85) (by decide) k92), (n_Xc (n_Xu k85) (by decide) k94), (n_Xc (n_Xu k85) (by decide) k97), ⟨by decide, by decide⟩, ⟨by decide, by decide⟩, trivial⟩))
  obtain ⟨K101, hK101⟩ : ∃ M, M = va_up K78 h0 6 := ⟨_, rfl⟩
  rw [← hK101] at hI hLk hX1
  have k102 : K101 q1 = 30 := by rw [hK101]; exact th_ne ne5 k88
  have k103 : K101 q15 = 31 := by rw [hK101]; exact th_ne ne19 k90
  have k104 : K101 q32 = 32 := by rw [hK101]; exact th_ne ne36 k92
  have k105 : K101 q52 = 32 := by rw [hK101]; exact th_ne ne56 k94
  have k106 : K101 q75 = 32 := by rw [hK101]; exact th_ne ne79 k97
  have k107 : K101 h0 = 6 := by rw [hK101]; exact th_up
  have hfr : ∀ a ∈ L, a ≠ h0 → F99 a = F a ∧ K101 a = K a := fun a ha hne => ⟨(hfr a ha hne).1, by rw [hK101]; exact th_ne hne (hfr a ha hne).2⟩
  have hX : n_X K K101 := n_Xt hX hX1
  have hks : ∀ a, K101 a = K a ∨ K101 a ∈ [6, 30, 31, 32] := fun a => by rw [hK101]; by_cases e9 : a = h0; (rw [e9, th_up]; right; decide); rw [show va_up K78 h0 6 a = K78 a from if_neg e9]; exact hks a
  exact W.vret hx hb hr (fun t ht hW => ⟨⟨(L76, K101, F99), rfl, ⟨hsub, hX, hfr, k107, hI, hLk, hks⟩, by rw [ht]; exact hP, va_K.moved hW.alike hK, hD⟩, hS.F ht⟩) hS.2.2 dX5_init_44

set_option maxHeartbeats 4000000 in
set_option maxRecDepth 100000 in
/-- State() -/
theorem n_X4_init (l : Launch) (dC : Nat → ClassId) (dI : Nat → Nat → Nat) (sz : Nat) {cs : Nat → ClassId} (L : List Nat) (K : Nat → Nat) (F : Nat → va_E) (h0 : Nat) (hh : h0 ∈ L) (hI : s_I K cs 0 F) (hLk : ∀ a, K a ≠ 0 → a ∈ L) (hk : K h0 = 0) (o0 : F h0 = .inr (4, [.null, .null, .null, .null, .null, .null, .null, .int 0, .int 0, .int 0, .int 0, .int 0, .int 0, .int 0, .int 0])) : Met l yX4_init (Cond.code yX4_init cX4_init 2 none :: T0) ({ frames := 2, cells := 31, slots := 934, locals := 32 }) (va_Pc [.ref h0] (n_W dC dI sz L F [(cs 0, .int), (cs 1, .byte), (cs 2, .long), (cs 3, .object RX5), (cs 4, .object RX4), (cs 5, .array .int), (cs 6, .char), (cs 7, .boolean)])) (va_Qv (fun (u : List Nat × (Nat → Nat) × (Nat → va_E)) => n_Q cs L K F h0 5 [5, 6, 24, 26, 27, 28, 29, 30, 31, 32] u) (fun (u : List Nat × (Nat → Nat) × (Nat → va_E)) (t : State) => va_P (dC, dI) vwCl (va_pl u.1 u.2.2) t.heap ∧ va_K (dC, dI) vwCl [(cs 0, .int), (cs 1, .byte), (cs 2, .long), (cs 3, .object RX5), (cs 4, .object RX4), (cs 5, .array .int), (cs 6, .char), (cs 7, .boolean)] t ∧ ∀ G, va_D (n_A L sz) (va_pl u.1 G)) (n_A L sz)) 31 934 (n_A L sz) := by
  refine Met.ofW (cc := cX4_init) (maxL := 2) (ret := none) (by decide) rfl ?_
  intro p e s m args below meth c s₁ B hml hv
  obtain ⟨rfl, hsz, hP, hK, hD, hN⟩ := hv
  have hx := B.exec
  have hb := B.bytes
  have hr := B.returns
  have hts : ∀ w ∈ T0, w.before _ s = true := fun w h => atoms_spec (ws := Cond.code yX4_init cX4_init 2 none :: T0) B.pre w (List.mem_cons_of_mem _ h)
  have hown : s.vm.findClass RX4 = some m.cls := findClass_of_methodNamed B.named
  have hlocks := B.notSynchronized
  have hin : meth.name = "<init>" := (name_of_methodNamed B.named B.method).1
  subst hsz
  generalize hAe : n_A L s.heap.size = A at hD ⊢
  have hA : ∀ q : Nat, s.heap.size ≤ q → A q := fun q h => by rw [← hAe]; exact Or.inr h
  have hS : va_S A s.heap s.heap [] := va_S.rf
  have hl := lv_entry ([.ref h0]) (n := 2) (Nat.le_of_ble_eq_true rfl)
  rw [lg_entry_eq]
  generalize (lg_sl ([.ref h0]) ++ List.replicate (2 - (lg_sl ([.ref h0])).length) Slot.unset).toArray = ls at hl ⊢
  have hl : lv_has ls 2 [(0, .ref h0)] := hl
  have hsub : ∀ a ∈ L, a ∈ L := fun _ h => h
  have hfr : ∀ a ∈ L, a ≠ h0 → F a = F a ∧ K a = K a := fun _ _ _ => ⟨rfl, rfl⟩
  have hX : n_X K K := n_Xr K
  have hLk0 := hLk
  have hks : ∀ a, K a = K a ∨ K a ∈ [5, 6, 24, 26, 27, 28, 29, 30, 31, 32] := fun a => Or.inl rfl
  refine s_gen hP hS (fun H locs hP hS => ?_)
  refine lv_aload_n hx hb dX4_init_0 rfl (lv_at hl 0 rfl) ?_
  refine W.objInit hx hb hown (hts _ T_105) (hts _ T_98) (hts _ T_0) rfl (by rw [hml]; exact hl.1) rfl dX4_init_1 (Nat.le_of_ble_eq_true rfl) (Nat.le_of_ble_eq_true rfl) ?_
  refine W.eq (g2 := F0 m 4 ls []) rfl ?_
  refine lv_aload_n hx hb dX4_init_4 rfl (lv_at hl 0 rfl) ?_
  refine lv_iconst (v := 4) hx hb dX4_init_5 (by decide) ?_
  refine n_newq (C := RX5) (N' := 4) hx hb hown (hts _ T_106) (ax_n0 hN) hK hP hD hS hA 3 rfl (by decide) (by decide) (Nat.le_of_ble_eq_true rfl) (Nat.le_of_ble_eq_true rfl) (Nat.le_of_ble_eq_true rfl) dX4_init_6 (fun q1 H hq hP hD hS => ?_)
  obtain ⟨L2, hL2⟩ : ∃ M, M = L ++ [q1] := ⟨_, rfl⟩
  rw [← hL2] at hP hD
  obtain ⟨F3, hF3⟩ : ∃ M : Nat → va_E, M = va_up F q1 (.inl (cs 3, 4, .inr (.inr (.inr (.inr (fun _ => none)))))) := ⟨_, rfl⟩
  rw [← hF3] at hP
  obtain ⟨hI, hLk, hX1⟩ := n_add (c := 0) hI hLk hq trivial
  obtain ⟨K4, hK4⟩ : ∃ M, M = va_up K q1 0 := ⟨_, rfl⟩
  rw [← hK4, ← hF3] at hI
  rw [← hK4, ← hL2] at hLk
  rw [← hK4] at hX1
  have ne5 : q1 ≠ h0 := fun h => hq (h ▸ hh)
  have m6 : h0 ∈ L2 := by rw [hL2]; exact List.mem_append_left _ hh
  have k7 : K4 h0 = 0 := by rw [hK4]; exact th_ne (Ne.symm ne5) hk
  have o8 : F3 h0 = .inr (4, [.null, .null, .null, .null, .null, .null, .null, .int 0, .int 0, .int 0, .int 0, .int 0, .int 0, .int 0, .int 0]) := by rw [hF3]; exact th_ne (Ne.symm ne5) o0
  have m9 : q1 ∈ L2 := by rw [hL2]; exact List.mem_append_right _ (List.mem_singleton.mpr rfl)
  have o10 : F3 q1 = (.inl (cs 3, 4, .inr (.inr (.inr (.inr (fun _ => none)))))) := by rw [hF3]; exact th_up
  have k11 : K4 q1 = 0 := by rw [hK4]; exact th_up
  have nl12 : q1 ∉ L := fun h => hq (hsub q1 h)
  have hfr : ∀ a ∈ L, a ≠ h0 → F3 a = F a ∧ K4 a = K a := fun a ha hne => ⟨by rw [hF3]; exact th_ne (fun h => nl12 (h ▸ ha)) (hfr a ha hne).1, by rw [hK4]; exact th_ne (fun h => nl12 (h ▸ ha)) (hfr a ha hne).2⟩
  have hsub : ∀ a ∈ L, a ∈ L2 := fun a ha => by rw [hL2]; exact List.mem_append_left _ (hsub a ha)
  have hX : n_X K K4 := n_Xt hX hX1
  have hks : ∀ a, K4 a = K a ∨ K4 a ∈ [5, 6, 24, 26, 27, 28, 29, 30, 31, 32] := fun a => by rw [hK4]; by_cases e9 : a = q1; (rw [e9, th_up]; left; exact (Classical.byContradiction (fun h => nl12 (hLk0 _ (fun h8 => h h8.symm))))); rw [show va_up K q1 0 a = K a from if_neg e9]; exact hks a
  refine W.widen (k := 1) (n := 4) (Nat.le_of_ble_eq_true rfl) (Nat.le_of_ble_eq_true rfl) ?_
  refine n_putF (D := (dC, dI)) (ci := 4) (v := .ref q1) (ty := .array (.object "LaneWarps$Warp")) (C := RX4) (T := TX4) (N := 15) hx hb hts inX4 tyX4 tyX4_ok nmX4 hown hK hP hD hS m6 o8 rfl 0 (by decide) (hts _ T_107) (fun _ h9 => h9) rfl hin rfl (by decide +kernel) rfl rfl (Nat.le_of_ble_eq_true rfl) dX4_init_9 (fun H locs hP hS => ?_)
  have hP : va_P (dC, dI) vwCl (va_pl L2 (va_up F3 h0 (.inr (4, [.ref q1, .null, .null, .null, .null, .null, .null, .int 0, .int 0, .int 0, .int 0, .int 0, .int 0, .int 0, .int 0])))) H := hP
  obtain ⟨F13, hF13⟩ : ∃ M : Nat → va_E, M = va_up F3 h0 (.inr (4, [.ref q1, .null, .null, .null, .null, .null, .null, .int 0, .int 0, .int 0, .int 0, .int 0, .int 0, .int 0, .int 0])) := ⟨_, rfl⟩
  rw [← hF13] at hP
  have hI : s_I K4 cs 0 F13 := by rw [hF13]; exact n_put0 hI k7
  have o14 : F13 q1 = .inl (cs 3, 4, .inr (.inr (.inr (.inr (fun _ => none))))) := by rw [hF13]; exact th_ne ne5 o10
  have o15 : F13 h0 = .inr (4, [.ref q1, .null, .null, .null, .null, .null, .null, .int 0, .int 0, .int 0, .int 0, .int 0, .int 0, .int 0, .int 0]) := by rw [hF13]; exact th_up
  have hfr : ∀ a ∈ L, a ≠ h0 → F13 a = F a ∧ K4 a = K a := fun a ha hne => ⟨by rw [hF13]; exact th_ne hne (hfr a ha hne).1, (hfr a ha hne).2⟩
  refine lv_aload_n hx hb dX4_init_12 rfl (lv_at hl 0 rfl) ?_
  refine lv_bipush (v := 64) hx hb dX4_init_13 (by decide) ?_
  refine n_newa (atype := .int) (a0 := (64, .inl (fun _ => 0))) hx hb (hts _ T_99) rfl hK hP hD hS hA 0 rfl (fun _ => rfl) (by decide) (by decide) (Nat.le_of_ble_eq_true rfl) (Nat.le_of_ble_eq_true rfl) (Nat.le_of_ble_eq_true rfl) dX4_init_15 (fun q16 H hq hP hD hS => ?_)
  obtain ⟨L17, hL17⟩ : ∃ M, M = L2 ++ [q16] := ⟨_, rfl⟩
  rw [← hL17] at hP hD
  obtain ⟨F18, hF18⟩ : ∃ M : Nat → va_E, M = va_up F13 q16 (.inl (cs 0, 64, .inl (fun _ => 0))) := ⟨_, rfl⟩
  rw [← hF18] at hP
  obtain ⟨hI, hLk, hX1⟩ := n_add (c := 24) hI hLk hq (show ok_24 cs _ from ⟨_, rfl, trivial⟩)
  obtain ⟨K19, hK19⟩ : ∃ M, M = va_up K4 q16 24 := ⟨_, rfl⟩
  rw [← hK19, ← hF18] at hI
  rw [← hK19, ← hL17] at hLk
  rw [← hK19] at hX1
  have ne20 : q16 ≠ h0 := fun h => hq (h ▸ m6)
  have ne21 : q16 ≠ q1 := fun h => hq (h ▸ m9)
  have m22 : h0 ∈ L17 := by rw [hL17]; exact List.mem_append_left _ m6
  have k23 : K19 h0 = 0 := by rw [hK19]; exact th_ne (Ne.symm ne20) k7
  have o24 : F18 h0 = .inr (4, [.ref q1, .null, .null, .null, .null, .null, .null, .int 0, .int 0, .int 0, .int 0, .int 0, .int 0, .int 0, .int 0]) := by rw [hF18]; exact th_ne (Ne.symm ne20) o15
  have m25 : q1 ∈ L17 := by rw [hL17]; exact List.mem_append_left _ m9
  have k26 : K19 q1 = 0 := by rw [hK19]; exact th_ne (Ne.symm ne21) k11
  have o27 : F18 q1 = .inl (cs 3, 4, .inr (.inr (.inr (.inr (fun _ => none))))) := by rw [hF18]; exact th_ne (Ne.symm ne21) o14
  have m28 : q16 ∈ L17 := by rw [hL17]; exact List.mem_append_right _ (List.mem_singleton.mpr rfl)
  have o29 : F18 q16 = (.inl (cs 0, 64, .inl (fun _ => 0))) := by rw [hF18]; exact th_up
  have k30 : K19 q16 = 24 := by rw [hK19]; exact th_up
  have nl31 : q16 ∉ L := fun h => hq (hsub q16 h)
  have hfr : ∀ a ∈ L, a ≠ h0 → F18 a = F a ∧ K19 a = K a := fun a ha hne => ⟨by rw [hF18]; exact th_ne (fun h => nl31 (h ▸ ha)) (hfr a ha hne).1, by rw [hK19]; exact th_ne (fun h => nl31 (h ▸ ha)) (hfr a ha hne).2⟩
  have hsub : ∀ a ∈ L, a ∈ L17 := fun a ha => by rw [hL17]; exact List.mem_append_left _ (hsub a ha)
  have hX : n_X K K19 := n_Xt hX hX1
  have hks : ∀ a, K19 a = K a ∨ K19 a ∈ [5, 6, 24, 26, 27, 28, 29, 30, 31, 32] := fun a => by rw [hK19]; by_cases e9 : a = q16; (rw [e9, th_up]; right; decide); rw [show va_up K4 q16 24 a = K4 a from if_neg e9]; exact hks a
  refine W.widen (k := 2) (n := 68) (Nat.le_of_ble_eq_true rfl) (Nat.le_of_ble_eq_true rfl) ?_
  refine n_putF (D := (dC, dI)) (ci := 4) (v := .ref q16) (ty := .array .int) (C := RX4) (T := TX4) (N := 15) hx hb hts inX4 tyX4 tyX4_ok nmX4 hown hK hP hD hS m22 o24 rfl 1 (by decide) (hts _ T_108) (fun _ h9 => h9) rfl hin rfl (by decide +kernel) rfl rfl (Nat.le_of_ble_eq_true rfl) dX4_init_17 (fun H locs hP hS => ?_)
  have hP : va_P (dC, dI) vwCl (va_pl L17 (va_up F18 h0 (.inr (4, [.ref q1, .ref q16, .null, .null, .null, .null, .null, .int 0, .int 0, .int 0, .int 0, .int 0, .int 0, .int 0, .int 0])))) H := hP
  obtain ⟨F32, hF32⟩ : ∃ M : Nat → va_E, M = va_up F18 h0 (.inr (4, [.ref q1, .ref q16, .null, .null, .null, .null, .null, .int 0, .int 0, .int 0, .int 0, .int 0, .int 0, .int 0, .int 0])) := ⟨_, rfl⟩
  rw [← hF32] at hP
  have hI : s_I K19 cs 0 F32 := by rw [hF32]; exact n_put0 hI k23
  have o33 : F32 q1 = .inl (cs 3, 4, .inr (.inr (.inr (.inr (fun _ => none))))) := by rw [hF32]; exact th_ne ne5 o27
  have o34 : F32 h0 = .inr (4, [.ref q1, .ref q16, .null, .null, .null, .null, .null, .int 0, .int 0, .int 0, .int 0, .int 0, .int 0, .int 0, .int 0]) := by rw [hF32]; exact th_up
  have hfr : ∀ a ∈ L, a ≠ h0 → F32 a = F a ∧ K19 a = K a := fun a ha hne => ⟨by rw [hF32]; exact th_ne hne (hfr a ha hne).1, (hfr a ha hne).2⟩
  refine lv_aload_n hx hb dX4_init_20 rfl (lv_at hl 0 rfl) ?_
  refine lv_bipush (v := 32) hx hb dX4_init_21 (by decide) ?_
  refine n_newa (atype := .int) (a0 := (32, .inl (fun _ => 0))) hx hb (hts _ T_99) rfl hK hP hD hS hA 0 rfl (fun _ => rfl) (by decide) (by decide) (Nat.le_of_ble_eq_true rfl) (Nat.le_of_ble_eq_true rfl) (Nat.le_of_ble_eq_true rfl) dX4_init_23 (fun q35 H hq hP hD hS => ?_)
  obtain ⟨L36, hL36⟩ : ∃ M, M = L17 ++ [q35] := ⟨_, rfl⟩
  rw [← hL36] at hP hD
  obtain ⟨F37, hF37⟩ : ∃ M : Nat → va_E, M = va_up F32 q35 (.inl (cs 0, 32, .inl (fun _ => 0))) := ⟨_, rfl⟩
  rw [← hF37] at hP
  obtain ⟨hI, hLk, hX1⟩ := n_add (c := 27) hI hLk hq (show ok_27 cs _ from ⟨_, rfl, trivial⟩)
  obtain ⟨K38, hK38⟩ : ∃ M, M = va_up K19 q35 27 := ⟨_, rfl⟩
  rw [← hK38, ← hF37] at hI
  rw [← hK38, ← hL36] at hLk
  rw [← hK38] at hX1
  have ne39 : q35 ≠ h0 := fun h => hq (h ▸ m22)
  have ne40 : q35 ≠ q1 := fun h => hq (h ▸ m25)
  have ne41 : q35 ≠ q16 := fun h => hq (h ▸ m28)
  have m42 : h0 ∈ L36 := by rw [hL36]; exact List.mem_append_left _ m22
  have k43 : K38 h0 = 0 := by rw [hK38]; exact th_ne (Ne.symm ne39) k23
  have o44 : F37 h0 = .inr (4, [.ref q1, .ref q16, .null, .null, .null, .null, .null, .int 0, .int 0, .int 0, .int 0, .int 0, .int 0, .int 0, .int 0]) := by rw [hF37]; exact th_ne (Ne.symm ne39) o34
  have m45 : q1 ∈ L36 := by rw [hL36]; exact List.mem_append_left _ m25
  have k46 : K38 q1 = 0 := by rw [hK38]; exact th_ne (Ne.symm ne40) k26
  have o47 : F37 q1 = .inl (cs 3, 4, .inr (.inr (.inr (.inr (fun _ => none))))) := by rw [hF37]; exact th_ne (Ne.symm ne40) o33
  have m48 : q16 ∈ L36 := by rw [hL36]; exact List.mem_append_left _ m28
  have k49 : K38 q16 = 24 := by rw [hK38]; exact th_ne (Ne.symm ne41) k30
  have m50 : q35 ∈ L36 := by rw [hL36]; exact List.mem_append_right _ (List.mem_singleton.mpr rfl)
  have o51 : F37 q35 = (.inl (cs 0, 32, .inl (fun _ => 0))) := by rw [hF37]; exact th_up
  have k52 : K38 q35 = 27 := by rw [hK38]; exact th_up
  have nl53 : q35 ∉ L := fun h => hq (hsub q35 h)
  have hfr : ∀ a ∈ L, a ≠ h0 → F37 a = F a ∧ K38 a = K a := fun a ha hne => ⟨by rw [hF37]; exact th_ne (fun h => nl53 (h ▸ ha)) (hfr a ha hne).1, by rw [hK38]; exact th_ne (fun h => nl53 (h ▸ ha)) (hfr a ha hne).2⟩
  have hsub : ∀ a ∈ L, a ∈ L36 := fun a ha => by rw [hL36]; exact List.mem_append_left _ (hsub a ha)
  have hX : n_X K K38 := n_Xt hX hX1
  have hks : ∀ a, K38 a = K a ∨ K38 a ∈ [5, 6, 24, 26, 27, 28, 29, 30, 31, 32] := fun a => by rw [hK38]; by_cases e9 : a = q35; (rw [e9, th_up]; right; decide); rw [show va_up K19 q35 27 a = K19 a from if_neg e9]; exact hks a
  refine W.widen (k := 3) (n := 100) (Nat.le_of_ble_eq_true rfl) (Nat.le_of_ble_eq_true rfl) ?_
  refine n_putF (D := (dC, dI)) (ci := 4) (v := .ref q35) (ty := .array .int) (C := RX4) (T := TX4) (N := 15) hx hb hts inX4 tyX4 tyX4_ok nmX4 hown hK hP hD hS m42 o44 rfl 2 (by decide) (hts _ T_109) (fun _ h9 => h9) rfl hin rfl (by decide +kernel) rfl rfl (Nat.le_of_ble_eq_true rfl) dX4_init_25 (fun H locs hP hS => ?_)
  have hP : va_P (dC, dI) vwCl (va_pl L36 (va_up F37 h0 (.inr (4, [.ref q1, .ref q16, .ref q35, .null, .null, .null, .null, .int 0, .int 0, .int 0, .int 0, .int 0, .int 0, .int 0, .int 0])))) H := hP
  obtain ⟨F54, hF54⟩ : ∃ M : Nat → va_E, M = va_up F37 h0 (.inr (4, [.ref q1, .ref q16, .ref q35, .null, .null, .null, .null, .int 0, .int 0, .int 0, .int 0, .int 0, .int 0, .int 0, .int 0])) := ⟨_, rfl⟩
  rw [← hF54] at hP
  have hI : s_I K38 cs 0 F54 := by rw [hF54]; exact n_put0 hI k43
  have o55 : F54 q1 = .inl (cs 3, 4, .inr (.inr (.inr (.inr (fun _ => none))))) := by rw [hF54]; exact th_ne ne5 o47
  have o56 : F54 h0 = .inr (4, [.ref q1, .ref q16, .ref q35, .null, .null, .null, .null, .int 0, .int 0, .int 0, .int 0, .int 0, .int 0, .int 0, .int 0]) := by rw [hF54]; exact th_up
  have hfr : ∀ a ∈ L, a ≠ h0 → F54 a = F a ∧ K38 a = K a := fun a ha hne => ⟨by rw [hF54]; exact th_ne hne (hfr a ha hne).1, (hfr a ha hne).2⟩
  refine lv_aload_n hx hb dX4_init_28 rfl (lv_at hl 0 rfl) ?_
  refine lv_bipush (v := 96) hx hb dX4_init_29 (by decide) ?_
  refine n_newa (atype := .int) (a0 := (96, .inl (fun _ => 0))) hx hb (hts _ T_99) rfl hK hP hD hS hA 0 rfl (fun _ => rfl) (by decide) (by decide) (Nat.le_of_ble_eq_true rfl) (Nat.le_of_ble_eq_true rfl) (Nat.le_of_ble_eq_true rfl) dX4_init_31 (fun q57 H hq hP hD hS => ?_)
  obtain ⟨L58, hL58⟩ : ∃ M, M = L36 ++ [q57] := ⟨_, rfl⟩
  rw [← hL58] at hP hD
  obtain ⟨F59, hF59⟩ : ∃ M : Nat → va_E, M = va_up F54 q57 (.inl (cs 0, 96, .inl (fun _ => 0))) := ⟨_, rfl⟩
  rw [← hF59] at hP
  obtain ⟨hI, hLk, hX1⟩ := n_add (c := 28) hI hLk hq (show ok_28 cs _ from ⟨_, rfl, trivial⟩)
  obtain ⟨K60, hK60⟩ : ∃ M, M = va_up K38 q57 28 := ⟨_, rfl⟩
  rw [← hK60, ← hF59] at hI
  rw [← hK60, ← hL58] at hLk
  rw [← hK60] at hX1
  have ne61 : q57 ≠ h0 := fun h => hq (h ▸ m42)
  have ne62 : q57 ≠ q1 := fun h => hq (h ▸ m45)
  have ne63 : q57 ≠ q16 := fun h => hq (h ▸ m48)
  have ne64 : q57 ≠ q35 := fun h => hq (h ▸ m50)
  have m65 : h0 ∈ L58 := by rw [hL58]; exact List.mem_append_left _ m42
  have k66 : K60 h0 = 0 := by rw [hK60]; exact th_ne (Ne.symm ne61) k43
  have o67 : F59 h0 = .inr (4, [.ref q1, .ref q16, .ref q35, .null, .null, .null, .null, .int 0, .int 0, .int 0, .int 0, .int 0, .int 0, .int 0, .int 0]) := by rw [hF59]; exact th_ne (Ne.symm ne61) o56
  have m68 : q1 ∈ L58 := by rw [hL58]; exact List.mem_append_left _ m45
  have k69 : K60 q1 = 0 := by rw [hK60]; exact th_ne (Ne.symm ne62) k46
  have o70 : F59 q1 = .inl (cs 3, 4, .inr (.inr (.inr (.inr (fun _ => none))))) := by rw [hF59]; exact th_ne (Ne.symm ne62) o55
  have m71 : q16 ∈ L58 := by rw [hL58]; exact List.mem_append_left _ m48
  have k72 : K60 q16 = 24 := by rw [hK60]; exact th_ne (Ne.symm ne63) k49
  have m73 : q35 ∈ L58 := by rw [hL58]; exact List.mem_append_left _ m50
  have k74 : K60 q35 = 27 := by rw [hK60]; exact th_ne (Ne.symm ne64) k52
  have m75 : q57 ∈ L58 := by rw [hL58]; exact List.mem_append_right _ (List.mem_singleton.mpr rfl)
  have o76 : F59 q57 = (.inl (cs 0, 96, .inl (fun _ => 0))) := by rw [hF59]; exact th_up
  have k77 : K60 q57 = 28 := by rw [hK60]; exact th_up
  have nl78 : q57 ∉ L := fun h => hq (hsub q57 h)
  have hfr : ∀ a ∈ L, a ≠ h0 → F59 a = F a ∧ K60 a = K a := fun a ha hne => ⟨by rw [hF59]; exact th_ne (fun h => nl78 (h ▸ ha)) (hfr a ha hne).1, by rw [hK60]; exact th_ne (fun h => nl78 (h ▸ ha)) (hfr a ha hne).2⟩
  have hsub : ∀ a ∈ L, a ∈ L58 := fun a ha => by rw [hL58]; exact List.mem_append_left _ (hsub a ha)
  have hX : n_X K K60 := n_Xt hX hX1
  have hks : ∀ a, K60 a = K a ∨ K60 a ∈ [5, 6, 24, 26, 27, 28, 29, 30, 31, 32] := fun a => by rw [hK60]; by_cases e9 : a = q57; (rw [e9, th_up]; right; decide); rw [show va_up K38 q57 28 a = K38 a from if_neg e9]; exact hks a
  refine W.widen (k := 4) (n := 196) (Nat.le_of_ble_eq_true rfl) (Nat.le_of_ble_eq_true rfl) ?_
  refine n_putF (D := (dC, dI)) (ci := 4) (v := .ref q57) (ty := .array .int) (C := RX4) (T := TX4) (N := 15) hx hb hts inX4 tyX4 tyX4_ok nmX4 hown hK hP hD hS m65 o67 rfl 3 (by decide) (hts _ T_110) (fun _ h9 => h9) rfl hin rfl (by decide +kernel) rfl rfl (Nat.le_of_ble_eq_true rfl) dX4_init_33 (fun H locs hP hS => ?_)
  have hP : va_P (dC, dI) vwCl (va_pl L58 (va_up F59 h0 (.inr (4, [.ref q1, .ref q16, .ref q35, .ref q57, .null, .null, .null, .int 0, .int 0, .int 0, .int 0, .int 0, .int 0, .int 0, .int 0])))) H := hP
  obtain ⟨F79, hF79⟩ : ∃ M : Nat → va_E, M = va_up F59 h0 (.inr (4, [.ref q1, .ref q16, .ref q35, .ref q57, .null, .null, .null, .int 0, .int 0, .int 0, .int 0, .int 0, .int 0, .int 0, .int 0])) := ⟨_, rfl⟩
  rw [← hF79] at hP
  have hI : s_I K60 cs 0 F79 := by rw [hF79]; exact n_put0 hI k66
  have o80 : F79 q1 = .inl (cs 3, 4, .inr (.inr (.inr (.inr (fun _ => none))))) := by rw [hF79]; exact th_ne ne5 o70
  have o81 : F79 h0 = .inr (4, [.ref q1, .ref q16, .ref q35, .ref q57, .null, .null, .null, .int 0, .int 0, .int 0, .int 0, .int 0, .int 0, .int 0, .int 0]) := by rw [hF79]; exact th_up
  have hfr : ∀ a ∈ L, a ≠ h0 → F79 a = F a ∧ K60 a = K a := fun a ha hne => ⟨by rw [hF79]; exact th_ne hne (hfr a ha hne).1, (hfr a ha hne).2⟩
  refine lv_aload_n hx hb dX4_init_36 rfl (lv_at hl 0 rfl) ?_
  refine lv_bipush (v := 96) hx hb dX4_init_37 (by decide) ?_
  refine n_newa (atype := .int) (a0 := (96, .inl (fun _ => 0))) hx hb (hts _ T_99) rfl hK hP hD hS hA 0 rfl (fun _ => rfl) (by decide) (by decide) (Nat.le_of_ble_eq_true rfl) (Nat.le_of_ble_eq_true rfl) (Nat.le_of_ble_eq_true rfl) dX4_init_39 (fun q82 H hq hP hD hS => ?_)
  obtain ⟨L83, hL83⟩ : ∃ M, M = L58 ++ [q82] := ⟨_, rfl⟩
  rw [← hL83] at hP hD
  obtain ⟨F84, hF84⟩ : ∃ M : Nat → va_E, M = va_up F79 q82 (.inl (cs 0, 96, .inl (fun _ => 0))) := ⟨_, rfl⟩
  rw [← hF84] at hP
  obtain ⟨hI, hLk, hX1⟩ := n_add (c := 28) hI hLk hq (show ok_28 cs _ from ⟨_, rfl, trivial⟩)
  obtain ⟨K85, hK85⟩ : ∃ M, M = va_up K60 q82 28 := ⟨_, rfl⟩
  rw [← hK85, ← hF84] at hI
  rw [← hK85, ← hL83] at hLk
  rw [← hK85] at hX1
  have ne86 : q82 ≠ h0 := fun h => hq (h ▸ m65)
  have ne87 : q82 ≠ q1 := fun h => hq (h ▸ m68)
  have ne88 : q82 ≠ q16 := fun h => hq (h ▸ m71)
  have ne89 : q82 ≠ q35 := fun h => hq (h ▸ m73)
  have ne90 : q82 ≠ q57 := fun h => hq (h ▸ m75)
  have m91 : h0 ∈ L83 := by rw [hL83]; exact List.mem_append_left _ m65
  have k92 : K85 h0 = 0 := by rw [hK85]; exact th_ne (Ne.symm ne86) k66
  have o93 : F84 h0 = .inr (4, [.ref q1, .ref q16, .ref q35, .ref q57, .null, .null, .null, .int 0, .int 0, .int 0, .int 0, .int 0, .int 0, .int 0, .int 0]) := by rw [hF84]; exact th_ne (Ne.symm ne86) o81
  have m94 : q1 ∈ L83 := by rw [hL83]; exact List.mem_append_left _ m68
  have k95 : K85 q1 = 0 := by rw [hK85]; exact th_ne (Ne.symm ne87) k69
  have o96 : F84 q1 = .inl (cs 3, 4, .inr (.inr (.inr (.inr (fun _ => none))))) := by rw [hF84]; exact th_ne (Ne.symm ne87) o80
  have m97 : q16 ∈ L83 := by rw [hL83]; exact List.mem_append_left _ m71
  have k98 : K85 q16 = 24 := by rw [hK85]; exact th_ne (Ne.symm ne88) k72
  have m99 : q35 ∈ L83 := by rw [hL83]; exact List.mem_append_left _ m73
  have k100 : K85 q35 = 27 := by rw [hK85]; exact th_ne (Ne.symm ne89) k74
  have m101 : q57 ∈ L83 := by rw [hL83]; exact List.mem_append_left _ m75
  have k102 : K85 q57 = 28 := by rw [hK85]; exact th_ne (Ne.symm ne90) k77
  have m103 : q82 ∈ L83 := by rw [hL83]; exact List.mem_append_right _ (List.mem_singleton.mpr rfl)
  have o104 : F84 q82 = (.inl (cs 0, 96, .inl (fun _ => 0))) := by rw [hF84]; exact th_up
  have k105 : K85 q82 = 28 := by rw [hK85]; exact th_up
  have nl106 : q82 ∉ L := fun h => hq (hsub q82 h)
  have hfr : ∀ a ∈ L, a ≠ h0 → F84 a = F a ∧ K85 a = K a := fun a ha hne => ⟨by rw [hF84]; exact th_ne (fun h => nl106 (h ▸ ha)) (hfr a ha hne).1, by rw [hK85]; exact th_ne (fun h => nl106 (h ▸ ha)) (hfr a ha hne).2⟩
  have hsub : ∀ a ∈ L, a ∈ L83 := fun a ha => by rw [hL83]; exact List.mem_append_left _ (hsub a ha)
  have hX : n_X K K85 := n_Xt hX hX1
  have hks : ∀ a, K85 a = K a ∨ K85 a ∈ [5, 6, 24, 26, 27, 28, 29, 30, 31, 32] := fun a => by rw [hK85]; by_cases e9 : a = q82; (rw [e9, th_up]; right; decide); rw [show va_up K60 q82 28 a = K60 a from if_neg e9]; exact hks a
  refine W.widen (k := 5) (n := 292) (Nat.le_of_ble_eq_true rfl) (Nat.le_of_ble_eq_true rfl) ?_
  refine n_putF (D := (dC, dI)) (ci := 4) (v := .ref q82) (ty := .array .int) (C := RX4) (T := TX4) (N := 15) hx hb hts inX4 tyX4 tyX4_ok nmX4 hown hK hP hD hS m91 o93 rfl 4 (by decide) (hts _ T_111) (fun _ h9 => h9) rfl hin rfl (by decide +kernel) rfl rfl (Nat.le_of_ble_eq_true rfl) dX4_init_41 (fun H locs hP hS => ?_)
  have hP : va_P (dC, dI) vwCl (va_pl L83 (va_up F84 h0 (.inr (4, [.ref q1, .ref q16, .ref q35, .ref q57, .ref q82, .null, .null, .int 0, .int 0, .int 0, .int 0, .int 0, .int 0, .int 0, .int 0])))) H := hP
  obtain ⟨F107, hF107⟩ : ∃ M : Nat → va_E, M = va_up F84 h0 (.inr (4, [.ref q1, .ref q16, .ref q35, .ref q57, .ref q82, .null, .null, .int 0, .int 0, .int 0, .int 0, .int 0, .int 0, .int 0, .int 0])) := ⟨_, rfl⟩
  rw [← hF107] at hP
  have hI : s_I K85 cs 0 F107 := by rw [hF107]; exact n_put0 hI k92
  have o108 : F107 q1 = .inl (cs 3, 4, .inr (.inr (.inr (.inr (fun _ => none))))) := by rw [hF107]; exact th_ne ne5 o96
  have o109 : F107 h0 = .inr (4, [.ref q1, .ref q16, .ref q35, .ref q57, .ref q82, .null, .null, .int 0, .int 0, .int 0, .int 0, .int 0, .int 0, .int 0, .int 0]) := by rw [hF107]; exact th_up
  have hfr : ∀ a ∈ L, a ≠ h0 → F107 a = F a ∧ K85 a = K a := fun a ha hne => ⟨by rw [hF107]; exact th_ne hne (hfr a ha hne).1, (hfr a ha hne).2⟩
  refine lv_aload_n hx hb dX4_init_44 rfl (lv_at hl 0 rfl) ?_
  refine lv_bipush (v := 96) hx hb dX4_init_45 (by decide) ?_
  refine n_newa (atype := .int) (a0 := (96, .inl (fun _ => 0))) hx hb (hts _ T_99) rfl hK hP hD hS hA 0 rfl (fun _ => rfl) (by decide) (by decide) (Nat.le_of_ble_eq_true rfl) (Nat.le_of_ble_eq_true rfl) (Nat.le_of_ble_eq_true rfl) dX4_init_47 (fun q110 H hq hP hD hS => ?_)
  obtain ⟨L111, hL111⟩ : ∃ M, M = L83 ++ [q110] := ⟨_, rfl⟩
  rw [← hL111] at hP hD
  obtain ⟨F112, hF112⟩ : ∃ M : Nat → va_E, M = va_up F107 q110 (.inl (cs 0, 96, .inl (fun _ => 0))) := ⟨_, rfl⟩
  rw [← hF112] at hP
  obtain ⟨hI, hLk, hX1⟩ := n_add (c := 28) hI hLk hq (show ok_28 cs _ from ⟨_, rfl, trivial⟩)
  obtain ⟨K113, hK113⟩ : ∃ M, M = va_up K85 q110 28 := ⟨_, rfl⟩
  rw [← hK113, ← hF112] at hI
  rw [← hK113, ← hL111] at hLk
  rw [← hK113] at hX1
  have ne114 : q110 ≠ h0 := fun h => hq (h ▸ m91)
  have ne115 : q110 ≠ q1 := fun h => hq (h ▸ m94)
  have ne116 : q110 ≠ q16 := fun h => hq (h ▸ m97)
  have ne117 : q110 ≠ q35 := fun h => hq (h ▸ m99)
  have ne118 : q110 ≠ q57 := fun h => hq (h ▸ m101)
  have ne119 : q110 ≠ q82 := fun h => hq (h ▸ m103)
  have m120 : h0 ∈ L111 := by rw [hL111]; exact List.mem_append_left _ m91
  have k121 : K113 h0 = 0 := by rw [hK113]; exact th_ne (Ne.symm ne114) k92
  have o122 : F112 h0 = .inr (4, [.ref q1, .ref q16, .ref q35, .ref q57, .ref q82, .null, .null, .int 0, .int 0, .int 0, .int 0, .int 0, .int 0, .int 0, .int 0]) := by rw [hF112]; exact th_ne (Ne.symm ne114) o109
  have m123 : q1 ∈ L111 := by rw [hL111]; exact List.mem_append_left _ m94
  have k124 : K113 q1 = 0 := by rw [hK113]; exact th_ne (Ne.symm ne115) k95
  have o125 : F112 q1 = .inl (cs 3, 4, .inr (.inr (.inr (.inr (fun _ => none))))) := by rw [hF112]; exact th_ne (Ne.symm ne115) o108
  have m126 : q16 ∈ L111 := by rw [hL111]; exact List.mem_append_left _ m97
  have k127 : K113 q16 = 24 := by rw [hK113]; exact th_ne (Ne.symm ne116) k98
  have m128 : q35 ∈ L111 := by rw [hL111]; exact List.mem_append_left _ m99
  have k129 : K113 q35 = 27 := by rw [hK113]; exact th_ne (Ne.symm ne117) k100
  have m130 : q57 ∈ L111 := by rw [hL111]; exact List.mem_append_left _ m101
  have k131 : K113 q57 = 28 := by rw [hK113]; exact th_ne (Ne.symm ne118) k102
  have m132 : q82 ∈ L111 := by rw [hL111]; exact List.mem_append_left _ m103
  have k133 : K113 q82 = 28 := by rw [hK113]; exact th_ne (Ne.symm ne119) k105
  have m134 : q110 ∈ L111 := by rw [hL111]; exact List.mem_append_right _ (List.mem_singleton.mpr rfl)
  have o135 : F112 q110 = (.inl (cs 0, 96, .inl (fun _ => 0))) := by rw [hF112]; exact th_up
  have k136 : K113 q110 = 28 := by rw [hK113]; exact th_up
  have nl137 : q110 ∉ L := fun h => hq (hsub q110 h)
  have hfr : ∀ a ∈ L, a ≠ h0 → F112 a = F a ∧ K113 a = K a := fun a ha hne => ⟨by rw [hF112]; exact th_ne (fun h => nl137 (h ▸ ha)) (hfr a ha hne).1, by rw [hK113]; exact th_ne (fun h => nl137 (h ▸ ha)) (hfr a ha hne).2⟩
  have hsub : ∀ a ∈ L, a ∈ L111 := fun a ha => by rw [hL111]; exact List.mem_append_left _ (hsub a ha)
  have hX : n_X K K113 := n_Xt hX hX1
  have hks : ∀ a, K113 a = K a ∨ K113 a ∈ [5, 6, 24, 26, 27, 28, 29, 30, 31, 32] := fun a => by rw [hK113]; by_cases e9 : a = q110; (rw [e9, th_up]; right; decide); rw [show va_up K85 q110 28 a = K85 a from if_neg e9]; exact hks a
  refine W.widen (k := 6) (n := 388) (Nat.le_of_ble_eq_true rfl) (Nat.le_of_ble_eq_true rfl) ?_
  refine n_putF (D := (dC, dI)) (ci := 4) (v := .ref q110) (ty := .array .int) (C := RX4) (T := TX4) (N := 15) hx hb hts inX4 tyX4 tyX4_ok nmX4 hown hK hP hD hS m120 o122 rfl 5 (by decide) (hts _ T_112) (fun _ h9 => h9) rfl hin rfl (by decide +kernel) rfl rfl (Nat.le_of_ble_eq_true rfl) dX4_init_49 (fun H locs hP hS => ?_)
  have hP : va_P (dC, dI) vwCl (va_pl L111 (va_up F112 h0 (.inr (4, [.ref q1, .ref q16, .ref q35, .ref q57, .ref q82, .ref q110, .null, .int 0, .int 0, .int 0, .int 0, .int 0, .int 0, .int 0, .int 0])))) H := hP
  obtain ⟨F138, hF138⟩ : ∃ M : Nat → va_E, M = va_up F112 h0 (.inr (4, [.ref q1, .ref q16, .ref q35, .ref q57, .ref q82, .ref q110, .null, .int 0, .int 0, .int 0, .int 0, .int 0, .int 0, .int 0, .int 0])) := ⟨_, rfl⟩
  rw [← hF138] at hP
  have hI : s_I K113 cs 0 F138 := by rw [hF138]; exact n_put0 hI k121
  have o139 : F138 q1 = .inl (cs 3, 4, .inr (.inr (.inr (.inr (fun _ => none))))) := by rw [hF138]; exact th_ne ne5 o125
  have o140 : F138 h0 = .inr (4, [.ref q1, .ref q16, .ref q35, .ref q57, .ref q82, .ref q110, .null, .int 0, .int 0, .int 0, .int 0, .int 0, .int 0, .int 0, .int 0]) := by rw [hF138]; exact th_up
  have hfr : ∀ a ∈ L, a ≠ h0 → F138 a = F a ∧ K113 a = K a := fun a ha hne => ⟨by rw [hF138]; exact th_ne hne (hfr a ha hne).1, (hfr a ha hne).2⟩
  refine lv_aload_n hx hb dX4_init_52 rfl (lv_at hl 0 rfl) ?_
  refine lv_sipush (v := 150) hx hb dX4_init_53 (by decide) ?_
  refine n_newa (atype := .int) (a0 := (150, .inl (fun _ => 0))) hx hb (hts _ T_99) rfl hK hP hD hS hA 0 rfl (fun _ => rfl) (by decide) (by decide) (Nat.le_of_ble_eq_true rfl) (Nat.le_of_ble_eq_true rfl) (Nat.le_of_ble_eq_true rfl) dX4_init_56 (fun q141 H hq hP hD hS => ?_)
  obtain ⟨L142, hL142⟩ : ∃ M, M = L111 ++ [q141] := ⟨_, rfl⟩
  rw [← hL142] at hP hD
  obtain ⟨F143, hF143⟩ : ∃ M : Nat → va_E, M = va_up F138 q141 (.inl (cs 0, 150, .inl (fun _ => 0))) := ⟨_, rfl⟩
  rw [← hF143] at hP
  obtain ⟨hI, hLk, hX1⟩ := n_add (c := 29) hI hLk hq (show ok_29 cs _ from ⟨_, rfl, trivial⟩)
  obtain ⟨K144, hK144⟩ : ∃ M, M = va_up K113 q141 29 := ⟨_, rfl⟩
  rw [← hK144, ← hF143] at hI
  rw [← hK144, ← hL142] at hLk
  rw [← hK144] at hX1
  have ne145 : q141 ≠ h0 := fun h => hq (h ▸ m120)
  have ne146 : q141 ≠ q1 := fun h => hq (h ▸ m123)
  have ne147 : q141 ≠ q16 := fun h => hq (h ▸ m126)
  have ne148 : q141 ≠ q35 := fun h => hq (h ▸ m128)
  have ne149 : q141 ≠ q57 := fun h => hq (h ▸ m130)
  have ne150 : q141 ≠ q82 := fun h => hq (h ▸ m132)
  have ne151 : q141 ≠ q110 := fun h => hq (h ▸ m134)
  have m152 : h0 ∈ L142 := by rw [hL142]; exact List.mem_append_left _ m120
  have k153 : K144 h0 = 0 := by rw [hK144]; exact th_ne (Ne.symm ne145) k121
  have o154 : F143 h0 = .inr (4, [.ref q1, .ref q16, .ref q35, .ref q57, .ref q82, .ref q110, .null, .int 0, .int 0, .int 0, .int 0, .int 0, .int 0, .int 0, .int 0]) := by rw [hF143]; exact th_ne (Ne.symm ne145) o140
  have m155 : q1 ∈ L142 := by rw [hL142]; exact List.mem_append_left _ m123
  have k156 : K144 q1 = 0 := by rw [hK144]; exact th_ne (Ne.symm ne146) k124
  have o157 : F143 q1 = .inl (cs 3, 4, .inr (.inr (.inr (.inr (fun _ => none))))) := by rw [hF143]; exact th_ne (Ne.symm ne146) o139
  have m158 : q16 ∈ L142 := by rw [hL142]; exact List.mem_append_left _ m126
  have k159 : K144 q16 = 24 := by rw [hK144]; exact th_ne (Ne.symm ne147) k127
  have m160 : q35 ∈ L142 := by rw [hL142]; exact List.mem_append_left _ m128
  have k161 : K144 q35 = 27 := by rw [hK144]; exact th_ne (Ne.symm ne148) k129
  have m162 : q57 ∈ L142 := by rw [hL142]; exact List.mem_append_left _ m130
  have k163 : K144 q57 = 28 := by rw [hK144]; exact th_ne (Ne.symm ne149) k131
  have m164 : q82 ∈ L142 := by rw [hL142]; exact List.mem_append_left _ m132
  have k165 : K144 q82 = 28 := by rw [hK144]; exact th_ne (Ne.symm ne150) k133
  have m166 : q110 ∈ L142 := by rw [hL142]; exact List.mem_append_left _ m134
  have k167 : K144 q110 = 28 := by rw [hK144]; exact th_ne (Ne.symm ne151) k136
  have m168 : q141 ∈ L142 := by rw [hL142]; exact List.mem_append_right _ (List.mem_singleton.mpr rfl)
  have o169 : F143 q141 = (.inl (cs 0, 150, .inl (fun _ => 0))) := by rw [hF143]; exact th_up
  have k170 : K144 q141 = 29 := by rw [hK144]; exact th_up
  have nl171 : q141 ∉ L := fun h => hq (hsub q141 h)
  have hfr : ∀ a ∈ L, a ≠ h0 → F143 a = F a ∧ K144 a = K a := fun a ha hne => ⟨by rw [hF143]; exact th_ne (fun h => nl171 (h ▸ ha)) (hfr a ha hne).1, by rw [hK144]; exact th_ne (fun h => nl171 (h ▸ ha)) (hfr a ha hne).2⟩
  have hsub : ∀ a ∈ L, a ∈ L142 := fun a ha => by rw [hL142]; exact List.mem_append_left _ (hsub a ha)
  have hX : n_X K K144 := n_Xt hX hX1
  have hks : ∀ a, K144 a = K a ∨ K144 a ∈ [5, 6, 24, 26, 27, 28, 29, 30, 31, 32] := fun a => by rw [hK144]; by_cases e9 : a = q141; (rw [e9, th_up]; right; decide); rw [show va_up K113 q141 29 a = K113 a from if_neg e9]; exact hks a
  refine W.widen (k := 7) (n := 538) (Nat.le_of_ble_eq_true rfl) (Nat.le_of_ble_eq_true rfl) ?_
  refine n_putF (D := (dC, dI)) (ci := 4) (v := .ref q141) (ty := .array .int) (C := RX4) (T := TX4) (N := 15) hx hb hts inX4 tyX4 tyX4_ok nmX4 hown hK hP hD hS m152 o154 rfl 6 (by decide) (hts _ T_113) (fun _ h9 => h9) rfl hin rfl (by decide +kernel) rfl rfl (Nat.le_of_ble_eq_true rfl) dX4_init_58 (fun H locs hP hS => ?_)
  have hP : va_P (dC, dI) vwCl (va_pl L142 (va_up F143 h0 (.inr (4, [.ref q1, .ref q16, .ref q35, .ref q57, .ref q82, .ref q110, .ref q141, .int 0, .int 0, .int 0, .int 0, .int 0, .int 0, .int 0, .int 0])))) H := hP
  obtain ⟨F172, hF172⟩ : ∃ M : Nat → va_E, M = va_up F143 h0 (.inr (4, [.ref q1, .ref q16, .ref q35, .ref q57, .ref q82, .ref q110, .ref q141, .int 0, .int 0, .int 0, .int 0, .int 0, .int 0, .int 0, .int 0])) := ⟨_, rfl⟩
  rw [← hF172] at hP
  have hI : s_I K144 cs 0 F172 := by rw [hF172]; exact n_put0 hI k153
  have o173 : F172 q1 = .inl (cs 3, 4, .inr (.inr (.inr (.inr (fun _ => none))))) := by rw [hF172]; exact th_ne ne5 o157
  have o174 : F172 h0 = .inr (4, [.ref q1, .ref q16, .ref q35, .ref q57, .ref q82, .ref q110, .ref q141, .int 0, .int 0, .int 0, .int 0, .int 0, .int 0, .int 0, .int 0]) := by rw [hF172]; exact th_up
  have hfr : ∀ a ∈ L, a ≠ h0 → F172 a = F a ∧ K144 a = K a := fun a ha hne => ⟨by rw [hF172]; exact th_ne hne (hfr a ha hne).1, (hfr a ha hne).2⟩
  refine lv_aload_n hx hb dX4_init_61 rfl (lv_at hl 0 rfl) ?_
  refine lv_iconst (v := (-1)) hx hb dX4_init_62 (by decide) ?_
  refine th_put (D := (dC, dI)) (ci := 4) (v := .int (-1)) (ty := .int) (C := RX4) (T := TX4) (N := 15) hx hb hts inX4 tyX4 tyX4_ok nmX4 hown hK hP hD hS m152 o174 rfl 14 (by decide) (hts _ T_114) (fun _ h9 => h9) rfl (by decide +kernel) rfl rfl (Nat.le_of_ble_eq_true rfl) dX4_init_63 (fun H locs hP hS => ?_)
  have hP : va_P (dC, dI) vwCl (va_pl L142 (va_up F172 h0 (.inr (4, [.ref q1, .ref q16, .ref q35, .ref q57, .ref q82, .ref q110, .ref q141, .int 0, .int 0, .int 0, .int 0, .int 0, .int 0, .int 0, .int (-1)])))) H := hP
  obtain ⟨F175, hF175⟩ : ∃ M : Nat → va_E, M = va_up F172 h0 (.inr (4, [.ref q1, .ref q16, .ref q35, .ref q57, .ref q82, .ref q110, .ref q141, .int 0, .int 0, .int 0, .int 0, .int 0, .int 0, .int 0, .int (-1)])) := ⟨_, rfl⟩
  rw [← hF175] at hP
  have hI : s_I K144 cs 0 F175 := by rw [hF175]; exact n_put0 hI k153
  have o176 : F175 q1 = .inl (cs 3, 4, .inr (.inr (.inr (.inr (fun _ => none))))) := by rw [hF175]; exact th_ne ne5 o173
  have o177 : F175 h0 = .inr (4, [.ref q1, .ref q16, .ref q35, .ref q57, .ref q82, .ref q110, .ref q141, .int 0, .int 0, .int 0, .int 0, .int 0, .int 0, .int 0, .int (-1)]) := by rw [hF175]; exact th_up
  have hfr : ∀ a ∈ L, a ≠ h0 → F175 a = F a ∧ K144 a = K a := fun a ha hne => ⟨by rw [hF175]; exact th_ne hne (hfr a ha hne).1, (hfr a ha hne).2⟩
  refine lv_iconst (v := 0) hx hb dX4_init_66 (by decide) ?_
  refine lv_istore_n (lv' := [(1, .int 0), (0, .ref h0)]) hx hb dX4_init_67 rfl hl (by decide) rfl (fun ls hl => ?_)
  refine lv_iload_n hx hb dX4_init_68 rfl (lv_at hl 0 rfl) ?_
  refine lv_iconst (v := 4) hx hb dX4_init_69 (by decide) ?_
  refine lv_icmp_ge (tgt := 92) hx hb dX4_init_70 (by decide) (fun c => absurd c (by decide)) (fun _ => ?_)
  refine lv_aload_n hx hb dX4_init_73 rfl (lv_at hl 1 rfl) ?_
  refine th_get (D := (dC, dI)) (ci := 4) (v := .ref q1) (C := RX4) (T := TX4) (N := 15) hx hb hts inX4 hown hK hP m152 o177 rfl 0 (by decide) (hts _ T_107) (fun _ h9 => h9) rfl dX4_init_74 ?_
  refine lv_iload_n hx hb dX4_init_77 rfl (lv_at hl 0 rfl) ?_
  refine n_new (ci := 5) (fs := [.null, .null, .null, .null, .null, .int 0, .int 0, .int 0, .int 0, .int 0, .int 0]) (C := RX5) (T := TX5) (N := 11) hx hb hts inX5 tyX5 tyX5_ok hown (hts _ T_106) (hts _ T_115) (hts _ T_116) hK hP hD hS hA rfl dvX5 (Nat.le_of_ble_eq_true rfl) (Nat.le_of_ble_eq_true rfl) dX4_init_78 (fun q178 H hq hP hD hS => ?_)
  obtain ⟨L179, hL179⟩ : ∃ M, M = L142 ++ [q178] := ⟨_, rfl⟩
  rw [← hL179] at hP hD
  obtain ⟨F180, hF180⟩ : ∃ M : Nat → va_E, M = va_up F175 q178 (.inr (5, [.null, .null, .null, .null, .null, .int 0, .int 0, .int 0, .int 0, .int 0, .int 0])) := ⟨_, rfl⟩
  rw [← hF180] at hP
  obtain ⟨hI, hLk, hX1⟩ := n_add (c := 0) hI hLk hq trivial
  obtain ⟨K181, hK181⟩ : ∃ M, M = va_up K144 q178 0 := ⟨_, rfl⟩
  rw [← hK181, ← hF180] at hI
  rw [← hK181, ← hL179] at hLk
  rw [← hK181] at hX1
  have ne182 : q178 ≠ h0 := fun h => hq (h ▸ m152)
  have ne183 : q178 ≠ q1 := fun h => hq (h ▸ m155)
  have ne184 : q178 ≠ q16 := fun h => hq (h ▸ m158)
  have ne185 : q178 ≠ q35 := fun h => hq (h ▸ m160)
  have ne186 : q178 ≠ q57 := fun h => hq (h ▸ m162)
  have ne187 : q178 ≠ q82 := fun h => hq (h ▸ m164)
  have ne188 : q178 ≠ q110 := fun h => hq (h ▸ m166)
  have ne189 : q178 ≠ q141 := fun h => hq (h ▸ m168)
  have m190 : h0 ∈ L179 := by rw [hL179]; exact List.mem_append_left _ m152
  have k191 : K181 h0 = 0 := by rw [hK181]; exact th_ne (Ne.symm ne182) k153
  have o192 : F180 h0 = .inr (4, [.ref q1, .ref q16, .ref q35, .ref q57, .ref q82, .ref q110, .ref q141, .int 0, .int 0, .int 0, .int 0, .int 0, .int 0, .int 0, .int (-1)]) := by rw [hF180]; exact th_ne (Ne.symm ne182) o177
  have m193 : q1 ∈ L179 := by rw [hL179]; exact List.mem_append_left _ m155
  have k194 : K181 q1 = 0 := by rw [hK181]; exact th_ne (Ne.symm ne183) k156
  have o195 : F180 q1 = .inl (cs 3, 4, .inr (.inr (.inr (.inr (fun _ => none))))) := by rw [hF180]; exact th_ne (Ne.symm ne183) o176
  have m196 : q16 ∈ L179 := by rw [hL179]; exact List.mem_append_left _ m158
  have k197 : K181 q16 = 24 := by rw [hK181]; exact th_ne (Ne.symm ne184) k159
  have m198 : q35 ∈ L179 := by rw [hL179]; exact List.mem_append_left _ m160
  have k199 : K181 q35 = 27 := by rw [hK181]; exact th_ne (Ne.symm ne185) k161
  have m200 : q57 ∈ L179 := by rw [hL179]; exact List.mem_append_left _ m162
  have k201 : K181 q57 = 28 := by rw [hK181]; exact th_ne (Ne.symm ne186) k163
  have m202 : q82 ∈ L179 := by rw [hL179]; exact List.mem_append_left _ m164
  have k203 : K181 q82 = 28 := by rw [hK181]; exact th_ne (Ne.symm ne187) k165
  have m204 : q110 ∈ L179 := by rw [hL179]; exact List.mem_append_left _ m166
  have k205 : K181 q110 = 28 := by rw [hK181]; exact th_ne (Ne.symm ne188) k167
  have m206 : q141 ∈ L179 := by rw [hL179]; exact List.mem_append_left _ m168
  have k207 : K181 q141 = 29 := by rw [hK181]; exact th_ne (Ne.symm ne189) k170
  have m208 : q178 ∈ L179 := by rw [hL179]; exact List.mem_append_right _ (List.mem_singleton.mpr rfl)
  have o209 : F180 q178 = (.inr (5, [.null, .null, .null, .null, .null, .int 0, .int 0, .int 0, .int 0, .int 0, .int 0])) := by rw [hF180]; exact th_up
  have k210 : K181 q178 = 0 := by rw [hK181]; exact th_up
  have nl211 : q178 ∉ L := fun h => hq (hsub q178 h)
  have hfr : ∀ a ∈ L, a ≠ h0 → F180 a = F a ∧ K181 a = K a := fun a ha hne => ⟨by rw [hF180]; exact th_ne (fun h => nl211 (h ▸ ha)) (hfr a ha hne).1, by rw [hK181]; exact th_ne (fun h => nl211 (h ▸ ha)) (hfr a ha hne).2⟩
  have hsub : ∀ a ∈ L, a ∈ L179 := fun a ha => by rw [hL179]; exact List.mem_append_left _ (hsub a ha)
  have hX : n_X K K181 := n_Xt hX hX1
  have hks : ∀ a, K181 a = K a ∨ K181 a ∈ [5, 6, 24, 26, 27, 28, 29, 30, 31, 32] := fun a => by rw [hK181]; by_cases e9 : a = q178; (rw [e9, th_up]; left; exact (Classical.byContradiction (fun h => nl211 (hLk0 _ (fun h8 => h h8.symm))))); rw [show va_up K144 q178 0 a = K144 a from if_neg e9]; exact hks a
  refine W.widen (k := 8) (n := 549) (Nat.le_of_ble_eq_true rfl) (Nat.le_of_ble_eq_true rfl) ?_
  refine lv_dup hx hb dX4_init_81 rfl ?_
  have hsb212 := hsub
  have hFc := n_free hD hS hA
  refine va_callv (va_runIN (As := []) (rest := [.ref q178, .int 0, .ref q1]) ⟨hx, hb, hml, hown, hts⟩ (n_X5_init l dC dI H.size L179 K181 F180 q178 m208 hI hLk k210 o209) ⟨(va_cnB 0 hts (ax_gT T_1) rfl rfl rfl (ax_n1 hN) (hts _ T_116) (by decide +kernel) ⟨Nat.le_of_ble_eq_true rfl, Nat.le_of_ble_eq_true rfl⟩), rfl, hts _ T_117⟩ ⟨fun a U g mk q => ⟨q.1, n_pc (U := U) rfl rfl q.2⟩, fun U hU hW => ⟨rfl, n_pw hU hW hP hK hD hN⟩⟩ rfl rfl hl.1 rfl (lv_room (Nat.le_of_ble_eq_true rfl)) dX4_init_82 ⟨Nat.le_of_ble_eq_true rfl, Nat.le_of_ble_eq_true rfl⟩) hS (fun q _ h => hFc q h) hFc (fun u t H1 locs ht hvm hw hB hz1 hk1 hS => ?_)
  obtain ⟨L213, K214, F215⟩ := u
  obtain ⟨hP, hK1, hD1⟩ := hB
  rw [ht] at hP
  have hD : ∀ G, va_D A (va_pl L213 G) := fun G => (hD1 G).weaken (fun k q _ h => hFc _ h)
  generalize H1 = H at hP hS ⊢
  obtain ⟨hs1, hX1, hf1, hk1, hI, hLk, hks1⟩ := hw
  have hP : va_P (dC, dI) vwCl (va_pl L213 F215) H := hP
  have hI : s_I K214 cs 0 F215 := hI
  have hLk : ∀ a, K214 a ≠ 0 → a ∈ L213 := hLk
  have m217 : h0 ∈ L213 := hs1 _ m190
  have k218 : K214 h0 = 0 := (hf1 _ m190 (Ne.symm ne182)).2.trans k191
  have o219 : F215 h0 = .inr (4, [.ref q1, .ref q16, .ref q35, .ref q57, .ref q82, .ref q110, .ref q141, .int 0, .int 0, .int 0, .int 0, .int 0, .int 0, .int 0, .int (-1)]) := (hf1 _ m190 (Ne.symm ne182)).1.trans o192
  have m220 : q1 ∈ L213 := hs1 _ m193
  have k221 : K214 q1 = 0 := (hf1 _ m193 (Ne.symm ne183)).2.trans k194
  have o222 : F215 q1 = .inl (cs 3, 4, .inr (.inr (.inr (.inr (fun _ => none))))) := (hf1 _ m193 (Ne.symm ne183)).1.trans o195
  have m223 : q16 ∈ L213 := hs1 _ m196
  have k224 : K214 q16 = 24 := (hf1 _ m196 (Ne.symm ne184)).2.trans k197
  have m225 : q35 ∈ L213 := hs1 _ m198
  have k226 : K214 q35 = 27 := (hf1 _ m198 (Ne.symm ne185)).2.trans k199
  have m227 : q57 ∈ L213 := hs1 _ m200
  have k228 : K214 q57 = 28 := (hf1 _ m200 (Ne.symm ne186)).2.trans k201
  have m229 : q82 ∈ L213 := hs1 _ m202
  have k230 : K214 q82 = 28 := (hf1 _ m202 (Ne.symm ne187)).2.trans k203
  have m231 : q110 ∈ L213 := hs1 _ m204
  have k232 : K214 q110 = 28 := (hf1 _ m204 (Ne.symm ne188)).2.trans k205
  have m233 : q141 ∈ L213 := hs1 _ m206
  have k234 : K214 q141 = 29 := (hf1 _ m206 (Ne.symm ne189)).2.trans k207
  have m235 : q178 ∈ L213 := hs1 _ m208
  have k236 : K214 q178 = 6 := hk1
  have hfr : ∀ a ∈ L, a ≠ h0 → F215 a = F a ∧ K214 a = K a := fun a ha hne => ⟨(hf1 a (hsub a ha) (fun h => nl211 (h ▸ ha))).1.trans (hfr a ha hne).1, (hf1 a (hsub a ha) (fun h => nl211 (h ▸ ha))).2.trans (hfr a ha hne).2⟩
  have hsub : ∀ a ∈ L, a ∈ L213 := fun a ha => hs1 a (hsub a ha)
  have hX : n_X K K214 := n_Xt hX hX1
  have hks : ∀ a, K214 a = K a ∨ K214 a ∈ [5, 6, 24, 26, 27, 28, 29, 30, 31, 32] := fun a => (hks1 a).elim (fun h => by rw [show K214 a = K181 a from h]; exact hks a) (fun h => Or.inr (s_sub (by decide) h))
  refine W.widen (k := 13) (n := 637) (Nat.le_of_ble_eq_true rfl) (Nat.le_of_ble_eq_true rfl) ?_
  obtain ⟨foo237, oo237⟩ : ∃ fs, F215 q178 = .inr (5, fs) := by obtain ⟨z0, z1, z2, z3, z4, z5, z6, z7, z8, z9, z10, o9, -⟩ := s_op6 hI k236; exact ⟨_, o9⟩
  refine n_astq (r := (RX5, TX5, 11)) hx hb hK hP hD hS m220 m235 3 5 o222 rfl oo237 rfl (ax_in (by decide)) dX4_init_85 (fun H locs hP hS => ?_)
  have hP : va_P (dC, dI) vwCl (va_pl L213 (va_up F215 q1 (.inl (cs 3, 4, .inr (.inr (.inr (.inr (va_up (fun _ => none) (0 : Int32).toNatClampNeg (some q178))))))))) H := hP
  obtain ⟨F238, hF238⟩ : ∃ M : Nat → va_E, M = va_up F215 q1 (.inl (cs 3, 4, .inr (.inr (.inr (.inr (va_up (fun _ => none) (0 : Int32).toNatClampNeg (some q178))))))) := ⟨_, rfl⟩
  rw [← hF238] at hP
  have hI : s_I K214 cs 0 F238 := by rw [hF238]; exact n_put0 hI k221
  have o239 : F238 h0 = .inr (4, [.ref q1, .ref q16, .ref q35, .ref q57, .ref q82, .ref q110, .ref q141, .int 0, .int 0, .int 0, .int 0, .int 0, .int 0, .int 0, .int (-1)]) := by rw [hF238]; exact th_ne (Ne.symm ne5) o219
  have o240 : F238 q1 = .inl (cs 3, 4, .inr (.inr (.inr (.inr (va_up (fun _ => none) (0 : Int32).toNatClampNeg (some q178)))))) := by rw [hF238]; exact th_up
  have hfr : ∀ a ∈ L, a ≠ h0 → F238 a = F a ∧ K214 a = K a := fun a ha hne => ⟨by rw [hF238]; exact th_ne (fun h => nl12 (h ▸ ha)) (hfr a ha hne).1, (hfr a ha hne).2⟩
  refine lv_iinc (v := 1) (lv' := [(1, .int 1), (0, .ref h0)]) hx hb dX4_init_86 hl (k := 0) rfl (by decide) (by decide) rfl (fun ls hl => ?_)
  refine lv_goto (tgt := 68) hx hb dX4_init_89 (by decide) ?_
  refine lv_iload_n hx hb dX4_init_68 rfl (lv_at hl 0 rfl) ?_
  refine lv_iconst (v := 4) hx hb dX4_init_69 (by decide) ?_
  refine lv_icmp_ge (tgt := 92) hx hb dX4_init_70 (by decide) (fun c => absurd c (by decide)) (fun _ => ?_)
  refine lv_aload_n hx hb dX4_init_73 rfl (lv_at hl 1 rfl) ?_
  refine th_get (D := (dC, dI)) (ci := 4) (v := .ref q1) (C := RX4) (T := TX4) (N := 15) hx hb hts inX4 hown hK hP m217 o239 rfl 0 (by decide) (hts _ T_107) (fun _ h9 => h9) rfl dX4_init_74 ?_
  refine lv_iload_n hx hb dX4_init_77 rfl (lv_at hl 0 rfl) ?_
  refine n_new (ci := 5) (fs := [.null, .null, .null, .null, .null, .int 0, .int 0, .int 0, .int 0, .int 0, .int 0]) (C := RX5) (T := TX5) (N := 11) hx hb hts inX5 tyX5 tyX5_ok hown (hts _ T_106) (hts _ T_115) (hts _ T_116) hK hP hD hS hA rfl dvX5 (Nat.le_of_ble_eq_true rfl) (Nat.le_of_ble_eq_true rfl) dX4_init_78 (fun q241 H hq hP hD hS => ?_)
  obtain ⟨L242, hL242⟩ : ∃ M, M = L213 ++ [q241] := ⟨_, rfl⟩
  rw [← hL242] at hP hD
  obtain ⟨F243, hF243⟩ : ∃ M : Nat → va_E, M = va_up F238 q241 (.inr (5, [.null, .null, .null, .null, .null, .int 0, .int 0, .int 0, .int 0, .int 0, .int 0])) := ⟨_, rfl⟩
  rw [← hF243] at hP
  obtain ⟨hI, hLk, hX1⟩ := n_add (c := 0) hI hLk hq trivial
  obtain ⟨K244, hK244⟩ : ∃ M, M = va_up K214 q241 0 := ⟨_, rfl⟩
  rw [← hK244, ← hF243] at hI
  rw [← hK244, ← hL242] at hLk
  rw [← hK244] at hX1
  have ne245 : q241 ≠ h0 := fun h => hq (h ▸ m217)
  have ne246 : q241 ≠ q1 := fun h => hq (h ▸ m220)
  have ne247 : q241 ≠ q16 := fun h => hq (h ▸ m223)
  have ne248 : q241 ≠ q35 := fun h => hq (h ▸ m225)
  have ne249 : q241 ≠ q57 := fun h => hq (h ▸ m227)
  have ne250 : q241 ≠ q82 := fun h => hq (h ▸ m229)
  have ne251 : q241 ≠ q110 := fun h => hq (h ▸ m231)
  have ne252 : q241 ≠ q141 := fun h => hq (h ▸ m233)
  have ne253 : q241 ≠ q178 := fun h => hq (h ▸ m235)
  have m254 : h0 ∈ L242 := by rw [hL242]; exact List.mem_append_left _ m217
  have k255 : K244 h0 = 0 := by rw [hK244]; exact th_ne (Ne.symm ne245) k218
  have o256 : F243 h0 = .inr (4, [.ref q1, .ref q16, .ref q35, .ref q57, .ref q82, .ref q110, .ref q141, .int 0, .int 0, .int 0, .int 0, .int 0, .int 0, .int 0, .int (-1)]) := by rw [hF243]; exact th_ne (Ne.symm ne245) o239
  have m257 : q1 ∈ L242 := by rw [hL242]; exact List.mem_append_left _ m220
  have k258 : K244 q1 = 0 := by rw [hK244]; exact th_ne (Ne.symm ne246) k221
  have o259 : F243 q1 = .inl (cs 3, 4, .inr (.inr (.inr (.inr (va_up (fun _ => none) (0 : Int32).toNatClampNeg (some q178)))))) := by rw [hF243]; exact th_ne (Ne.symm ne246) o240
  have m260 : q16 ∈ L242 := by rw [hL242]; exact List.mem_append_left _ m223
  have k261 : K244 q16 = 24 := by rw [hK244]; exact th_ne (Ne.symm ne247) k224
  have m262 : q35 ∈ L242 := by rw [hL242]; exact List.mem_append_left _ m225
  have k263 : K244 q35 = 27 := by rw [hK244]; exact th_ne (Ne.symm ne248) k226
  have m264 : q57 ∈ L242 := by rw [hL242]; exact List.mem_append_left _ m227
  have k265 : K244 q57 = 28 := by rw [hK244]; exact th_ne (Ne.symm ne249) k228
  have m266 : q82 ∈ L242 := by rw [hL242]; exact List.mem_append_left _ m229
  have k267 : K244 q82 = 28 := by rw [hK244]; exact th_ne (Ne.symm ne250) k230
  have m268 : q110 ∈ L242 := by rw [hL242]; exact List.mem_append_left _ m231
  have k269 : K244 q110 = 28 := by rw [hK244]; exact th_ne (Ne.symm ne251) k232
  have m270 : q141 ∈ L242 := by rw [hL242]; exact List.mem_append_left _ m233
  have k271 : K244 q141 = 29 := by rw [hK244]; exact th_ne (Ne.symm ne252) k234
  have m272 : q178 ∈ L242 := by rw [hL242]; exact List.mem_append_left _ m235
  have k273 : K244 q178 = 6 := by rw [hK244]; exact th_ne (Ne.symm ne253) k236
  have m274 : q241 ∈ L242 := by rw [hL242]; exact List.mem_append_right _ (List.mem_singleton.mpr rfl)
  have o275 : F243 q241 = (.inr (5, [.null, .null, .null, .null, .null, .int 0, .int 0, .int 0, .int 0, .int 0, .int 0])) := by rw [hF243]; exact th_up
  have k276 : K244 q241 = 0 := by rw [hK244]; exact th_up
  have nl277 : q241 ∉ L := fun h => hq (hsub q241 h)
  have hfr : ∀ a ∈ L, a ≠ h0 → F243 a = F a ∧ K244 a = K a := fun a ha hne => ⟨by rw [hF243]; exact th_ne (fun h => nl277 (h ▸ ha)) (hfr a ha hne).1, by rw [hK244]; exact th_ne (fun h => nl277 (h ▸ ha)) (hfr a ha hne).2⟩
  have hsub : ∀ a ∈ L, a ∈ L242 := fun a ha => by rw [hL242]; exact List.mem_append_left _ (hsub a ha)
  have hX : n_X K K244 := n_Xt hX hX1
  have hks : ∀ a, K244 a = K a ∨ K244 a ∈ [5, 6, 24, 26, 27, 28, 29, 30, 31, 32] := fun a => by rw [hK244]; by_cases e9 : a = q241; (rw [e9, th_up]; left; exact (Classical.byContradiction (fun h => nl277 (hLk0 _ (fun h8 => h h8.symm))))); rw [show va_up K214 q241 0 a = K214 a from if_neg e9]; exact hks a
  refine W.widen (k := 14) (n := 648) (Nat.le_of_ble_eq_true rfl) (Nat.le_of_ble_eq_true rfl) ?_
  refine lv_dup hx hb dX4_init_81 rfl ?_
  have hsb278 := hsub
  have hFc := n_free hD hS hA
  refine va_callv (va_runIN (As := []) (rest := [.ref q241, .int 1, .ref q1]) ⟨hx, hb, hml, hown, hts⟩ (n_X5_init l dC dI H.size L242 K244 F243 q241 m274 hI hLk k276 o275) ⟨(va_cnB 0 hts (ax_gT T_1) rfl rfl rfl (ax_n1 hN) (hts _ T_116) (by decide +kernel) ⟨Nat.le_of_ble_eq_true rfl, Nat.le_of_ble_eq_true rfl⟩), rfl, hts _ T_117⟩ ⟨fun a U g mk q => ⟨q.1, n_pc (U := U) rfl rfl q.2⟩, fun U hU hW => ⟨rfl, n_pw hU hW hP hK hD hN⟩⟩ rfl rfl hl.1 rfl (lv_room (Nat.le_of_ble_eq_true rfl)) dX4_init_82 ⟨Nat.le_of_ble_eq_true rfl, Nat.le_of_ble_eq_true rfl⟩) hS (fun q _ h => hFc q h) hFc (fun u t H1 locs ht hvm hw hB hz1 hk1 hS => ?_)
  obtain ⟨L279, K280, F281⟩ := u
  obtain ⟨hP, hK1, hD1⟩ := hB
  rw [ht] at hP
  have hD : ∀ G, va_D A (va_pl L279 G) := fun G => (hD1 G).weaken (fun k q _ h => hFc _ h)
  generalize H1 = H at hP hS ⊢
  obtain ⟨hs1, hX1, hf1, hk1, hI, hLk, hks1⟩ := hw
  have hP : va_P (dC, dI) vwCl (va_pl L279 F281) H := hP
  have hI : s_I K280 cs 0 F281 := hI
  have hLk : ∀ a, K280 a ≠ 0 → a ∈ L279 := hLk
  have m283 : h0 ∈ L279 := hs1 _ m254
  have k284 : K280 h0 = 0 := (hf1 _ m254 (Ne.symm ne245)).2.trans k255
  have o285 : F281 h0 = .inr (4, [.ref q1, .ref q16, .ref q35, .ref q57, .ref q82, .ref q110, .ref q141, .int 0, .int 0, .int 0, .int 0, .int 0, .int 0, .int 0, .int (-1)]) := (hf1 _ m254 (Ne.symm ne245)).1.trans o256
  have m286 : q1 ∈ L279 := hs1 _ m257
  have k287 : K280 q1 = 0 := (hf1 _ m257 (Ne.symm ne246)).2.trans k258
  have o288 : F281 q1 = .inl (cs 3, 4, .inr (.inr (.inr (.inr (va_up (fun _ => none) (0 : Int32).toNatClampNeg (some q178)))))) := (hf1 _ m257 (Ne.symm ne246)).1.trans o259
  have m289 : q16 ∈ L279 := hs1 _ m260
  have k290 : K280 q16 = 24 := (hf1 _ m260 (Ne.symm ne247)).2.trans k261
  have m291 : q35 ∈ L279 := hs1 _ m262
  have k292 : K280 q35 = 27 := (hf1 _ m262 (Ne.symm ne248)).2.trans k263
  have m293 : q57 ∈ L279 := hs1 _ m264
  have k294 : K280 q57 = 28 := (hf1 _ m264 (Ne.symm ne249)).2.trans k265
  have m295 : q82 ∈ L279 := hs1 _ m266
  have k296 : K280 q82 = 28 := (hf1 _ m266 (Ne.symm ne250)).2.trans k267
  have m297 : q110 ∈ L279 := hs1 _ m268
  have k298 : K280 q110 = 28 := (hf1 _ m268 (Ne.symm ne251)).2.trans k269
  have m299 : q141 ∈ L279 := hs1 _ m270
  have k300 : K280 q141 = 29 := (hf1 _ m270 (Ne.symm ne252)).2.trans k271
  have m301 : q178 ∈ L279 := hs1 _ m272
  have k302 : K280 q178 = 6 := (hf1 _ m272 (Ne.symm ne253)).2.trans k273
  have m303 : q241 ∈ L279 := hs1 _ m274
  have k304 : K280 q241 = 6 := hk1
  have hfr : ∀ a ∈ L, a ≠ h0 → F281 a = F a ∧ K280 a = K a := fun a ha hne => ⟨(hf1 a (hsub a ha) (fun h => nl277 (h ▸ ha))).1.trans (hfr a ha hne).1, (hf1 a (hsub a ha) (fun h => nl277 (h ▸ ha))).2.trans (hfr a ha hne).2⟩
  have hsub : ∀ a ∈ L, a ∈ L279 := fun a ha => hs1 a (hsub a ha)
  have hX : n_X K K280 := n_Xt hX hX1
  have hks : ∀ a, K280 a = K a ∨ K280 a ∈ [5, 6, 24, 26, 27, 28, 29, 30, 31, 32] := fun a => (hks1 a).elim (fun h => by rw [show K280 a = K244 a from h]; exact hks a) (fun h => Or.inr (s_sub (by decide) h))
  refine W.widen (k := 19) (n := 736) (Nat.le_of_ble_eq_true rfl) (Nat.le_of_ble_eq_true rfl) ?_
  obtain ⟨foo305, oo305⟩ : ∃ fs, F281 q241 = .inr (5, fs) := by obtain ⟨z0, z1, z2, z3, z4, z5, z6, z7, z8, z9, z10, o9, -⟩ := s_op6 hI k304; exact ⟨_, o9⟩
  refine n_astq (r := (RX5, TX5, 11)) hx hb hK hP hD hS m286 m303 3 5 o288 rfl oo305 rfl (ax_in (by decide)) dX4_init_85 (fun H locs hP hS => ?_)
  have hP : va_P (dC, dI) vwCl (va_pl L279 (va_up F281 q1 (.inl (cs 3, 4, .inr (.inr (.inr (.inr (va_up (va_up (fun _ => none) (0 : Int32).toNatClampNeg (some q178)) (1 : Int32).toNatClampNeg (some q241))))))))) H := hP
  obtain ⟨F306, hF306⟩ : ∃ M : Nat → va_E, M = va_up F281 q1 (.inl (cs 3, 4, .inr (.inr (.inr (.inr (va_up (va_up (fun _ => none) (0 : Int32).toNatClampNeg (some q178)) (1 : Int32).toNatClampNeg (some q241))))))) := ⟨_, rfl⟩
  rw [← hF306] at hP
  have hI : s_I K280 cs 0 F306 := by rw [hF306]; exact n_put0 hI k287
  have o307 : F306 h0 = .inr (4, [.ref q1, .ref q16, .ref q35, .ref q57, .ref q82, .ref q110, .ref q141, .int 0, .int 0, .int 0, .int 0, .int 0, .int 0, .int 0, .int (-1)]) := by rw [hF306]; exact th_ne (Ne.symm ne5) o285
  have o308 : F306 q1 = .inl (cs 3, 4, .inr (.inr (.inr (.inr (va_up (va_up (fun _ => none) (0 : Int32).toNatClampNeg (some q178)) (1 : Int32).toNatClampNeg (some q241)))))) := by rw [hF306]; exact th_up
  have hfr : ∀ a ∈ L, a ≠ h0 → F306 a = F a ∧ K280 a = K a := fun a ha hne => ⟨by rw [hF306]; exact th_ne (fun h => nl12 (h ▸ ha)) (hfr a ha hne).1, (hfr a ha hne).2⟩
  refine lv_iinc (v := 2) (lv' := [(1, .int 2), (0, .ref h0)]) hx hb dX4_init_86 hl (k := 0) rfl (by decide) (by decide) rfl (fun ls hl => ?_)
  refine lv_goto (tgt := 68) hx hb dX4_init_89 (by decide) ?_
  refine lv_iload_n hx hb dX4_init_68 rfl (lv_at hl 0 rfl) ?_
  refine lv_iconst (v := 4) hx hb dX4_init_69 (by decide) ?_
  refine lv_icmp_ge (tgt := 92) hx hb dX4_init_70 (by decide) (fun c => absurd c (by decide)) (fun _ => ?_)
  refine lv_aload_n hx hb dX4_init_73 rfl (lv_at hl 1 rfl) ?_
  refine th_get (D := (dC, dI)) (ci := 4) (v := .ref q1) (C := RX4) (T := TX4) (N := 15) hx hb hts inX4 hown hK hP m283 o307 rfl 0 (by decide) (hts _ T_107) (fun _ h9 => h9) rfl dX4_init_74 ?_
  refine lv_iload_n hx hb dX4_init_77 rfl (lv_at hl 0 rfl) ?_
  refine n_new (ci := 5) (fs := [.null, .null, .null, .null, .null, .int 0, .int 0, .int 0, .int 0, .int 0, .int 0]) (C := RX5) (T := TX5) (N := 11) hx hb hts inX5 tyX5 tyX5_ok hown (hts _ T_106) (hts _ T_115) (hts _ T_116) hK hP hD hS hA rfl dvX5 (Nat.le_of_ble_eq_true rfl) (Nat.le_of_ble_eq_true rfl) dX4_init_78 (fun q309 H hq hP hD hS => ?_)
  obtain ⟨L310, hL310⟩ : ∃ M, M = L279 ++ [q309] := ⟨_, rfl⟩
  rw [← hL310] at hP hD
  obtain ⟨F311, hF311⟩ : ∃ M : Nat → va_E, M = va_up F306 q309 (.inr (5, [.null, .null, .null, .null, .null, .int 0, .int 0, .int 0, .int 0, .int 0, .int 0])) := ⟨_, rfl⟩
  rw [← hF311] at hP
  obtain ⟨hI, hLk, hX1⟩ := n_add (c := 0) hI hLk hq trivial
  obtain ⟨K312, hK312⟩ : ∃ M, M = va_up K280 q309 0 := ⟨_, rfl⟩
  rw [← hK312, ← hF311] at hI
  rw [← hK312, ← hL310] at hLk
  rw [← hK312] at hX1
  have ne313 : q309 ≠ h0 := fun h => hq (h ▸ m283)
  have ne314 : q309 ≠ q1 := fun h => hq (h ▸ m286)
  have ne315 : q309 ≠ q16 := fun h => hq (h ▸ m289)
  have ne316 : q309 ≠ q35 := fun h => hq (h ▸ m291)
  have ne317 : q309 ≠ q57 := fun h => hq (h ▸ m293)
  have ne318 : q309 ≠ q82 := fun h => hq (h ▸ m295)
  have ne319 : q309 ≠ q110 := fun h => hq (h ▸ m297)
  have ne320 : q309 ≠ q141 := fun h => hq (h ▸ m299)
  have ne321 : q309 ≠ q178 := fun h => hq (h ▸ m301)
  have ne322 : q309 ≠ q241 := fun h => hq (h ▸ m303)
  have m323 : h0 ∈ L310 := by rw [hL310]; exact List.mem_append_left _ m283
  have k324 : K312 h0 = 0 := by rw [hK312]; exact th_ne (Ne.symm ne313) k284
  have o325 : F311 h0 = .inr (4, [.ref q1, .ref q16, .ref q35, .ref q57, .ref q82, .ref q110, .ref q141, .int 0, .int 0, .int 0, .int 0, .int 0, .int 0, .int 0, .int (-1)]) := by rw [hF311]; exact th_ne (Ne.symm ne313) o307
  have m326 : q1 ∈ L310 := by rw [hL310]; exact List.mem_append_left _ m286
  have k327 : K312 q1 = 0 := by rw [hK312]; exact th_ne (Ne.symm ne314) k287
  have o328 : F311 q1 = .inl (cs 3, 4, .inr (.inr (.inr (.inr (va_up (va_up (fun _ => none) (0 : Int32).toNatClampNeg (some q178)) (1 : Int32).toNatClampNeg (some q241)))))) := by rw [hF311]; exact th_ne (Ne.symm ne314) o308
  have m329 : q16 ∈ L310 := by rw [hL310]; exact List.mem_append_left _ m289
  have k330 : K312 q16 = 24 := by rw [hK312]; exact th_ne (Ne.symm ne315) k290
  have m331 : q35 ∈ L310 := by rw [hL310]; exact List.mem_append_left _ m291
  have k332 : K312 q35 = 27 := by rw [hK312]; exact th_ne (Ne.symm ne316) k292
  have m333 : q57 ∈ L310 := by rw [hL310]; exact List.mem_append_left _ m293
  have k334 : K312 q57 = 28 := by rw [hK312]; exact th_ne (Ne.symm ne317) k294
  have m335 : q82 ∈ L310 := by rw [hL310]; exact List.mem_append_left _ m295
  have k336 : K312 q82 = 28 := by rw [hK312]; exact th_ne (Ne.symm ne318) k296
  have m337 : q110 ∈ L310 := by rw [hL310]; exact List.mem_append_left _ m297
  have k338 : K312 q110 = 28 := by rw [hK312]; exact th_ne (Ne.symm ne319) k298
  have m339 : q141 ∈ L310 := by rw [hL310]; exact List.mem_append_left _ m299
  have k340 : K312 q141 = 29 := by rw [hK312]; exact th_ne (Ne.symm ne320) k300
  have m341 : q178 ∈ L310 := by rw [hL310]; exact List.mem_append_left _ m301
  have k342 : K312 q178 = 6 := by rw [hK312]; exact th_ne (Ne.symm ne321) k302
  have m343 : q241 ∈ L310 := by rw [hL310]; exact List.mem_append_left _ m303
  have k344 : K312 q241 = 6 := by rw [hK312]; exact th_ne (Ne.symm ne322) k304
  have m345 : q309 ∈ L310 := by rw [hL310]; exact List.mem_append_right _ (List.mem_singleton.mpr rfl)
  have o346 : F311 q309 = (.inr (5, [.null, .null, .null, .null, .null, .int 0, .int 0, .int 0, .int 0, .int 0, .int 0])) := by rw [hF311]; exact th_up
  have k347 : K312 q309 = 0 := by rw [hK312]; exact th_up
  have nl348 : q309 ∉ L := fun h => hq (hsub q309 h)
  have hfr : ∀ a ∈ L, a ≠ h0 → F311 a = F a ∧ K312 a = K a := fun a ha hne => ⟨by rw [hF311]; exact th_ne (fun h => nl348 (h ▸ ha)) (hfr a ha hne).1, by rw [hK312]; exact th_ne (fun h => nl348 (h ▸ ha)) (hfr a ha hne).2⟩
  have hsub : ∀ a ∈ L, a ∈ L310 := fun a ha => by rw [hL310]; exact List.mem_append_left _ (hsub a ha)
  have hX : n_X K K312 := n_Xt hX hX1
  have hks : ∀ a, K312 a = K a ∨ K312 a ∈ [5, 6, 24, 26, 27, 28, 29, 30, 31, 32] := fun a => by rw [hK312]; by_cases e9 : a = q309; (rw [e9, th_up]; left; exact (Classical.byContradiction (fun h => nl348 (hLk0 _ (fun h8 => h h8.symm))))); rw [show va_up K280 q309 0 a = K280 a from if_neg e9]; exact hks a
  refine W.widen (k := 20) (n := 747) (Nat.le_of_ble_eq_true rfl) (Nat.le_of_ble_eq_true rfl) ?_
  refine lv_dup hx hb dX4_init_81 rfl ?_
  have hsb349 := hsub
  have hFc := n_free hD hS hA
  refine va_callv (va_runIN (As := []) (rest := [.ref q309, .int 2, .ref q1]) ⟨hx, hb, hml, hown, hts⟩ (n_X5_init l dC dI H.size L310 K312 F311 q309 m345 hI hLk k347 o346) ⟨(va_cnB 0 hts (ax_gT T_1) rfl rfl rfl (ax_n1 hN) (hts _ T_116) (by decide +kernel) ⟨Nat.le_of_ble_eq_true rfl, Nat.le_of_ble_eq_true rfl⟩), rfl, hts _ T_117⟩ ⟨fun a U g mk q => ⟨q.1, n_pc (U := U) rfl rfl q.2⟩, fun U hU hW => ⟨rfl, n_pw hU hW hP hK hD hN⟩⟩ rfl rfl hl.1 rfl (lv_room (Nat.le_of_ble_eq_true rfl)) dX4_init_82 ⟨Nat.le_of_ble_eq_true rfl, Nat.le_of_ble_eq_true rfl⟩) hS (fun q _ h => hFc q h) hFc (fun u t H1 locs ht hvm hw hB hz1 hk1 hS => ?_)
  obtain ⟨L350, K351, F352⟩ := u
  obtain ⟨hP, hK1, hD1⟩ := hB
  rw [ht] at hP
  have hD : ∀ G, va_D A (va_pl L350 G) := fun G => (hD1 G).weaken (fun k q _ h => hFc _ h)
  generalize H1 = H at hP hS ⊢
  obtain ⟨hs1, hX1, hf1, hk1, hI, hLk, hks1⟩ := hw
  have hP : va_P (dC, dI) vwCl (va_pl L350 F352) H := hP
  have hI : s_I K351 cs 0 F352 := hI
  have hLk : ∀ a, K351 a ≠ 0 → a ∈ L350 := hLk
  have m354 : h0 ∈ L350 := hs1 _ m323
  have k355 : K351 h0 = 0 := (hf1 _ m323 (Ne.symm ne313)).2.trans k324
  have o356 : F352 h0 = .inr (4, [.ref q1, .ref q16, .ref q35, .ref q57, .ref q82, .ref q110, .ref q141, .int 0, .int 0, .int 0, .int 0, .int 0, .int 0, .int 0, .int (-1)]) := (hf1 _ m323 (Ne.symm ne313)).1.trans o325
  have m357 : q1 ∈ L350 := hs1 _ m326
  have k358 : K351 q1 = 0 := (hf1 _ m326 (Ne.symm ne314)).2.trans k327
  have o359 : F352 q1 = .inl (cs 3, 4, .inr (.inr (.inr (.inr (va_up (va_up (fun _ => none) (0 : Int32).toNatClampNeg (some q178)) (1 : Int32).toNatClampNeg (some q241)))))) := (hf1 _ m326 (Ne.symm ne314)).1.trans o328
  have m360 : q16 ∈ L350 := hs1 _ m329
  have k361 : K351 q16 = 24 := (hf1 _ m329 (Ne.symm ne315)).2.trans k330
  have m362 : q35 ∈ L350 := hs1 _ m331
  have k363 : K351 q35 = 27 := (hf1 _ m331 (Ne.symm ne316)).2.trans k332
  have m364 : q57 ∈ L350 := hs1 _ m333
  have k365 : K351 q57 = 28 := (hf1 _ m333 (Ne.symm ne317)).2.trans k334
  have m366 : q82 ∈ L350 := hs1 _ m335
  have k367 : K351 q82 = 28 := (hf1 _ m335 (Ne.symm ne318)).2.trans k336
  have m368 : q110 ∈ L350 := hs1 _ m337
  have k369 : K351 q110 = 28 := (hf1 _ m337 (Ne.symm ne319)).2.trans k338
  have m370 : q141 ∈ L350 := hs1 _ m339
  have k371 : K351 q141 = 29 := (hf1 _ m339 (Ne.symm ne320)).2.trans k340
  have m372 : q178 ∈ L350 := hs1 _ m341
  have k373 : K351 q178 = 6 := (hf1 _ m341 (Ne.symm ne321)).2.trans k342
  have m374 : q241 ∈ L350 := hs1 _ m343
  have k375 : K351 q241 = 6 := (hf1 _ m343 (Ne.symm ne322)).2.trans k344
  have m376 : q309 ∈ L350 := hs1 _ m345
  have k377 : K351 q309 = 6 := hk1
  have hfr : ∀ a ∈ L, a ≠ h0 → F352 a = F a ∧ K351 a = K a := fun a ha hne => ⟨(hf1 a (hsub a ha) (fun h => nl348 (h ▸ ha))).1.trans (hfr a ha hne).1, (hf1 a (hsub a ha) (fun h => nl348 (h ▸ ha))).2.trans (hfr a ha hne).2⟩
  have hsub : ∀ a ∈ L, a ∈ L350 := fun a ha => hs1 a (hsub a ha)
  have hX : n_X K K351 := n_Xt hX hX1
  have hks : ∀ a, K351 a = K a ∨ K351 a ∈ [5, 6, 24, 26, 27, 28, 29, 30, 31, 32] := fun a => (hks1 a).elim (fun h => by rw [show K351 a = K312 a from h]; exact hks a) (fun h => Or.inr (s_sub (by decide) h))
  refine W.widen (k := 25) (n := 835) (Nat.le_of_ble_eq_true rfl) (Nat.le_of_ble_eq_true rfl) ?_
  obtain ⟨foo378, oo378⟩ : ∃ fs, F352 q309 = .inr (5, fs) := by obtain ⟨z0, z1, z2, z3, z4, z5, z6, z7, z8, z9, z10, o9, -⟩ := s_op6 hI k377; exact ⟨_, o9⟩
  refine n_astq (r := (RX5, TX5, 11)) hx hb hK hP hD hS m357 m376 3 5 o359 rfl oo378 rfl (ax_in (by decide)) dX4_init_85 (fun H locs hP hS => ?_)
  have hP : va_P (dC, dI) vwCl (va_pl L350 (va_up F352 q1 (.inl (cs 3, 4, .inr (.inr (.inr (.inr (va_up (va_up (va_up (fun _ => none) (0 : Int32).toNatClampNeg (some q178)) (1 : Int32).toNatClampNeg (some q241)) (2 : Int32).toNatClampNeg (some q309))))))))) H := hP
  obtain ⟨F379, hF379⟩ : ∃ M : Nat → va_E, M = va_up F352 q1 (.inl (cs 3, 4, .inr (.inr (.inr (.inr (va_up (va_up (va_up (fun _ => none) (0 : Int32).toNatClampNeg (some q178)) (1 : Int32).toNatClampNeg (some q241)) (2 : Int32).toNatClampNeg (some q309))))))) := ⟨_, rfl⟩
  rw [← hF379] at hP
  have hI : s_I K351 cs 0 F379 := by rw [hF379]; exact n_put0 hI k358
  have o380 : F379 h0 = .inr (4, [.ref q1, .ref q16, .ref q35, .ref q57, .ref q82, .ref q110, .ref q141, .int 0, .int 0, .int 0, .int 0, .int 0, .int 0, .int 0, .int (-1)]) := by rw [hF379]; exact th_ne (Ne.symm ne5) o356
  have o381 : F379 q1 = .inl (cs 3, 4, .inr (.inr (.inr (.inr (va_up (va_up (va_up (fun _ => none) (0 : Int32).toNatClampNeg (some q178)) (1 : Int32).toNatClampNeg (some q241)) (2 : Int32).toNatClampNeg (some q309)))))) := by rw [hF379]; exact th_up
  have hfr : ∀ a ∈ L, a ≠ h0 → F379 a = F a ∧ K351 a = K a := fun a ha hne => ⟨by rw [hF379]; exact th_ne (fun h => nl12 (h ▸ ha)) (hfr a ha hne).1, (hfr a ha hne).2⟩
  refine lv_iinc (v := 3) (lv' := [(1, .int 3), (0, .ref h0)]) hx hb dX4_init_86 hl (k := 0) rfl (by decide) (by decide) rfl (fun ls hl => ?_)
  refine lv_goto (tgt := 68) hx hb dX4_init_89 (by decide) ?_
  refine lv_iload_n hx hb dX4_init_68 rfl (lv_at hl 0 rfl) ?_
  refine lv_iconst (v := 4) hx hb dX4_init_69 (by decide) ?_
  refine lv_icmp_ge (tgt := 92) hx hb dX4_init_70 (by decide) (fun c => absurd c (by decide)) (fun _ => ?_)
  refine lv_aload_n hx hb dX4_init_73 rfl (lv_at hl 1 rfl) ?_
  refine th_get (D := (dC, dI)) (ci := 4) (v := .ref q1) (C := RX4) (T := TX4) (N := 15) hx hb hts inX4 hown hK hP m354 o380 rfl 0 (by decide) (hts _ T_107) (fun _ h9 => h9) rfl dX4_init_74 ?_
  refine lv_iload_n hx hb dX4_init_77 rfl (lv_at hl 0 rfl) ?_
  refine n_new (ci := 5) (fs := [.null, .null, .null, .null, .null, .int 0, .int 0, .int 0, .int 0, .int 0, .int 0]) (C := RX5) (T := TX5) (N := 11) hx hb hts inX5 tyX5 tyX5_ok hown (hts _ T_106) (hts _ T_115) (hts _ T_116) hK hP hD hS hA rfl dvX5 (Nat.le_of_ble_eq_true rfl) (Nat.le_of_ble_eq_true rfl) dX4_init_78 (fun q382 H hq hP hD hS => ?_)
  obtain ⟨L383, hL383⟩ : ∃ M, M = L350 ++ [q382] := ⟨_, rfl⟩
  rw [← hL383] at hP hD
  obtain ⟨F384, hF384⟩ : ∃ M : Nat → va_E, M = va_up F379 q382 (.inr (5, [.null, .null, .null, .null, .null, .int 0, .int 0, .int 0, .int 0, .int 0, .int 0])) := ⟨_, rfl⟩
  rw [← hF384] at hP
  obtain ⟨hI, hLk, hX1⟩ := n_add (c := 0) hI hLk hq trivial
  obtain ⟨K385, hK385⟩ : ∃ M, M = va_up K351 q382 0 := ⟨_, rfl⟩
  rw [← hK385, ← hF384] at hI
  rw [← hK385, ← hL383] at hLk
  rw [← hK385] at hX1
  have ne386 : q382 ≠ h0 := fun h => hq (h ▸ m354)
  have ne387 : q382 ≠ q1 := fun h => hq (h ▸ m357)
  have ne388 : q382 ≠ q16 := fun h => hq (h ▸ m360)
  have ne389 : q382 ≠ q35 := fun h => hq (h ▸ m362)
  have ne390 : q382 ≠ q57 := fun h => hq (h ▸ m364)
  have ne391 : q382 ≠ q82 := fun h => hq (h ▸ m366)
  have ne392 : q382 ≠ q110 := fun h => hq (h ▸ m368)
  have ne393 : q382 ≠ q141 := fun h => hq (h ▸ m370)
  have ne394 : q382 ≠ q178 := fun h => hq (h ▸ m372)
  have ne395 : q382 ≠ q241 := fun h => hq (h ▸ m374)
  have ne396 : q382 ≠ q309 := fun h => hq (h ▸ m376)
  have m397 : h0 ∈ L383 := by rw [hL383]; exact List.mem_append_left _ m354
  have k398 : K385 h0 = 0 := by rw [hK385]; exact th_ne (Ne.symm ne386) k355
  have o399 : F384 h0 = .inr (4, [.ref q1, .ref q16, .ref q35, .ref q57, .ref q82, .ref q110, .ref q141, .int 0, .int 0, .int 0, .int 0, .int 0, .int 0, .int 0, .int (-1)]) := by rw [hF384]; exact th_ne (Ne.symm ne386) o380
  have m400 : q1 ∈ L383 := by rw [hL383]; exact List.mem_append_left _ m357
  have k401 : K385 q1 = 0 := by rw [hK385]; exact th_ne (Ne.symm ne387) k358
  have o402 : F384 q1 = .inl (cs 3, 4, .inr (.inr (.inr (.inr (va_up (va_up (va_up (fun _ => none) (0 : Int32).toNatClampNeg (some q178)) (1 : Int32).toNatClampNeg (some q241)) (2 : Int32).toNatClampNeg (some q309)))))) := by rw [hF384]; exact th_ne (Ne.symm ne387) o381
  have m403 : q16 ∈ L383 := by rw [hL383]; exact List.mem_append_left _ m360
  have k404 : K385 q16 = 24 := by rw [hK385]; exact th_ne (Ne.symm ne388) k361
  have m405 : q35 ∈ L383 := by rw [hL383]; exact List.mem_append_left _ m362
  have k406 : K385 q35 = 27 := by rw [hK385]; exact th_ne (Ne.symm ne389) k363
  have m407 : q57 ∈ L383 := by rw [hL383]; exact List.mem_append_left _ m364
  have k408 : K385 q57 = 28 := by rw [hK385]; exact th_ne (Ne.symm ne390) k365
  have m409 : q82 ∈ L383 := by rw [hL383]; exact List.mem_append_left _ m366
  have k410 : K385 q82 = 28 := by rw [hK385]; exact th_ne (Ne.symm ne391) k367
  have m411 : q110 ∈ L383 := by rw [hL383]; exact List.mem_append_left _ m368
  have k412 : K385 q110 = 28 := by rw [hK385]; exact th_ne (Ne.symm ne392) k369
  have m413 : q141 ∈ L383 := by rw [hL383]; exact List.mem_append_left _ m370
  have k414 : K385 q141 = 29 := by rw [hK385]; exact th_ne (Ne.symm ne393) k371
  have m415 : q178 ∈ L383 := by rw [hL383]; exact List.mem_append_left _ m372
  have k416 : K385 q178 = 6 := by rw [hK385]; exact th_ne (Ne.symm ne394) k373
  have m417 : q241 ∈ L383 := by rw [hL383]; exact List.mem_append_left _ m374
  have k418 : K385 q241 = 6 := by rw [hK385]; exact th_ne (Ne.symm ne395) k375
  have m419 : q309 ∈ L383 := by rw [hL383]; exact List.mem_append_left _ m376
  have k420 : K385 q309 = 6 := by rw [hK385]; exact th_ne (Ne.symm ne396) k377
  have m421 : q382 ∈ L383 := by rw [hL383]; exact List.mem_append_right _ (List.mem_singleton.mpr rfl)
  have o422 : F384 q382 = (.inr (5, [.null, .null, .null, .null, .null, .int 0, .int 0, .int 0, .int 0, .int 0, .int 0])) := by rw [hF384]; exact th_up
  have k423 : K385 q382 = 0 := by rw [hK385]; exact th_up
  have nl424 : q382 ∉ L := fun h => hq (hsub q382 h)
  have hfr : ∀ a ∈ L, a ≠ h0 → F384 a = F a ∧ K385 a = K a := fun a ha hne => ⟨by rw [hF384]; exact th_ne (fun h => nl424 (h ▸ ha)) (hfr a ha hne).1, by rw [hK385]; exact th_ne (fun h => nl424 (h ▸ ha)) (hfr a ha hne).2⟩
  have hsub : ∀ a ∈ L, a ∈ L383 := fun a ha => by rw [hL383]; exact List.mem_append_left _ (hsub a ha)
  have hX : n_X K K385 := n_Xt hX hX1
  have hks : ∀ a, K385 a = K a ∨ K385 a ∈ [5, 6, 24, 26, 27, 28, 29, 30, 31, 32] := fun a => by rw [hK385]; by_cases e9 : a = q382; (rw [e9, th_up]; left; exact (Classical.byContradiction (fun h => nl424 (hLk0 _ (fun h8 => h h8.symm))))); rw [show va_up K351 q382 0 a = K351 a from if_neg e9]; exact hks a
  refine W.widen (k := 26) (n := 846) (Nat.le_of_ble_eq_true rfl) (Nat.le_of_ble_eq_true rfl) ?_
  refine lv_dup hx hb dX4_init_81 rfl ?_
  have hsb425 := hsub
  have hFc := n_free hD hS hA
  refine va_callv (va_runIN (As := []) (rest := [.ref q382, .int 3, .ref q1]) ⟨hx, hb, hml, hown, hts⟩ (n_X5_init l dC dI H.size L383 K385 F384 q382 m421 hI hLk k423 o422) ⟨(va_cnB 0 hts (ax_gT T_1) rfl rfl rfl (ax_n1 hN) (hts _ T_116) (by decide +kernel) ⟨Nat.le_of_ble_eq_true rfl, Nat.le_of_ble_eq_true rfl⟩), rfl, hts _ T_117⟩ ⟨fun a U g mk q => ⟨q.1, n_pc (U := U) rfl rfl q.2⟩, fun U hU hW => ⟨rfl, n_pw hU hW hP hK hD hN⟩⟩ rfl rfl hl.1 rfl (lv_room (Nat.le_of_ble_eq_true rfl)) dX4_init_82 ⟨Nat.le_of_ble_eq_true rfl, Nat.le_of_ble_eq_true rfl⟩) hS (fun q _ h => hFc q h) hFc (fun u t H1 locs ht hvm hw hB hz1 hk1 hS => ?_)
  obtain ⟨L426, K427, F428⟩ := u
  obtain ⟨hP, hK1, hD1⟩ := hB
  rw [ht] at hP
  have hD : ∀ G, va_D A (va_pl L426 G) := fun G => (hD1 G).weaken (fun k q _ h => hFc _ h)
  generalize H1 = H at hP hS ⊢
  obtain ⟨hs1, hX1, hf1, hk1, hI, hLk, hks1⟩ := hw
  have hP : va_P (dC, dI) vwCl (va_pl L426 F428) H := hP
  have hI : s_I K427 cs 0 F428 := hI
  have hLk : ∀ a, K427 a ≠ 0 → a ∈ L426 := hLk
  have m430 : h0 ∈ L426 := hs1 _ m397
  have k431 : K427 h0 = 0 := (hf1 _ m397 (Ne.symm ne386)).2.trans k398
  have o432 : F428 h0 = .inr (4, [.ref q1, .ref q16, .ref q35, .ref q57, .ref q82, .ref q110, .ref q141, .int 0, .int 0, .int 0, .int 0, .int 0, .int 0, .int 0, .int (-1)]) := (hf1 _ m397 (Ne.symm ne386)).1.trans o399
  have m433 : q1 ∈ L426 := hs1 _ m400
  have k434 : K427 q1 = 0 := (hf1 _ m400 (Ne.symm ne387)).2.trans k401
  have o435 : F428 q1 = .inl (cs 3, 4, .inr (.inr (.inr (.inr (va_up (va_up (va_up (fun _ => none) (0 : Int32).toNatClampNeg (some q178)) (1 : Int32).toNatClampNeg (some q241)) (2 : Int32).toNatClampNeg (some q309)))))) := (hf1 _ m400 (Ne.symm ne387)).1.trans o402
  have m436 : q16 ∈ L426 := hs1 _ m403
  have k437 : K427 q16 = 24 := (hf1 _ m403 (Ne.symm ne388)).2.trans k404
  have m438 : q35 ∈ L426 := hs1 _ m405
  have k439 : K427 q35 = 27 := (hf1 _ m405 (Ne.symm ne389)).2.trans k406
  have m440 : q57 ∈ L426 := hs1 _ m407
  have k441 : K427 q57 = 28 := (hf1 _ m407 (Ne.symm ne390)).2.trans k408
  have m442 : q82 ∈ L426 := hs1 _ m409
  have k443 : K427 q82 = 28 := (hf1 _ m409 (Ne.symm ne391)).2.trans k410
  have m444 : q110 ∈ L426 := hs1 _ m411
  have k445 : K427 q110 = 28 := (hf1 _ m411 (Ne.symm ne392)).2.trans k412
  have m446 : q141 ∈ L426 := hs1 _ m413
  have k447 : K427 q141 = 29 := (hf1 _ m413 (Ne.symm ne393)).2.trans k414
  have m448 : q178 ∈ L426 := hs1 _ m415
  have k449 : K427 q178 = 6 := (hf1 _ m415 (Ne.symm ne394)).2.trans k416
  have m450 : q241 ∈ L426 := hs1 _ m417
  have k451 : K427 q241 = 6 := (hf1 _ m417 (Ne.symm ne395)).2.trans k418
  have m452 : q309 ∈ L426 := hs1 _ m419
  have k453 : K427 q309 = 6 := (hf1 _ m419 (Ne.symm ne396)).2.trans k420
  have m454 : q382 ∈ L426 := hs1 _ m421
  have k455 : K427 q382 = 6 := hk1
  have hfr : ∀ a ∈ L, a ≠ h0 → F428 a = F a ∧ K427 a = K a := fun a ha hne => ⟨(hf1 a (hsub a ha) (fun h => nl424 (h ▸ ha))).1.trans (hfr a ha hne).1, (hf1 a (hsub a ha) (fun h => nl424 (h ▸ ha))).2.trans (hfr a ha hne).2⟩
  have hsub : ∀ a ∈ L, a ∈ L426 := fun a ha => hs1 a (hsub a ha)
  have hX : n_X K K427 := n_Xt hX hX1
  have hks : ∀ a, K427 a = K a ∨ K427 a ∈ [5, 6, 24, 26, 27, 28, 29, 30, 31, 32] := fun a => (hks1 a).elim (fun h => by rw [show K427 a = K385 a from h]; exact hks a) (fun h => Or.inr (s_sub (by decide) h))
  refine W.widen (k := 31) (n := 934) (Nat.le_of_ble_eq_true rfl) (Nat.le_of_ble_eq_true rfl) ?_
  obtain ⟨foo456, oo456⟩ : ∃ fs, F428 q382 = .inr (5, fs) := by obtain ⟨z0, z1, z2, z3, z4, z5, z6, z7, z8, z9, z10, o9, -⟩ := s_op6 hI k455; exact ⟨_, o9⟩
  refine n_astq (r := (RX5, TX5, 11)) hx hb hK hP hD hS m433 m454 3 5 o435 rfl oo456 rfl (ax_in (by decide)) dX4_init_85 (fun H locs hP hS => ?_)
  have hP : va_P (dC, dI) vwCl (va_pl L426 (va_up F428 q1 (.inl (cs 3, 4, .inr (.inr (.inr (.inr (va_up (va_up (va_up (va_up (fun _ => none) (0 : Int32).toNatClampNeg (some q178)) (1 : Int32).toNatClampNeg (some q241)) (2 : Int32).toNatClampNeg (some q309)) (3 : Int32).toNatClampNeg (some q382))))))))) H := hP
  obtain ⟨F457, hF457⟩ : ∃ M : Nat → va_E, M = va_up F428 q1 (.inl (cs 3, 4, .inr (.inr (.inr (.inr (va_up (va_up (va_up (va_up (fun _ => none) (0 : Int32).toNatClampNeg (some q178)) (1 : Int32).toNatClampNeg (some q241)) (2 : Int32).toNatClampNeg (some q309)) (3 : Int32).toNatClampNeg (some q382))))))) := ⟨_, rfl⟩
  rw [← hF457] at hP
  have hI : s_I K427 cs 0 F457 := by rw [hF457]; exact n_put0 hI k434
  have o458 : F457 h0 = .inr (4, [.ref q1, .ref q16, .ref q35, .ref q57, .ref q82, .ref q110, .ref q141, .int 0, .int 0, .int 0, .int 0, .int 0, .int 0, .int 0, .int (-1)]) := by rw [hF457]; exact th_ne (Ne.symm ne5) o432
  have o459 : F457 q1 = .inl (cs 3, 4, .inr (.inr (.inr (.inr (va_up (va_up (va_up (va_up (fun _ => none) (0 : Int32).toNatClampNeg (some q178)) (1 : Int32).toNatClampNeg (some q241)) (2 : Int32).toNatClampNeg (some q309)) (3 : Int32).toNatClampNeg (some q382)))))) := by rw [hF457]; exact th_up
  have hfr : ∀ a ∈ L, a ≠ h0 → F457 a = F a ∧ K427 a = K a := fun a ha hne => ⟨by rw [hF457]; exact th_ne (fun h => nl12 (h ▸ ha)) (hfr a ha hne).1, (hfr a ha hne).2⟩
  refine lv_iinc (v := 4) (lv' := [(1, .int 4), (0, .ref h0)]) hx hb dX4_init_86 hl (k := 0) rfl (by decide) (by decide) rfl (fun ls hl => ?_)
  refine lv_goto (tgt := 68) hx hb dX4_init_89 (by decide) ?_
  refine lv_iload_n hx hb dX4_init_68 rfl (lv_at hl 0 rfl) ?_
  refine lv_iconst (v := 4) hx hb dX4_init_69 (by decide) ?_
  refine lv_icmp_ge (tgt := 92) hx hb dX4_init_70 (by decide) (fun _ => ?_) (fun c => absurd (by decide) c)
  obtain ⟨hI, hLk, hX1⟩ := n_kind (c := 26) hI hLk m433 k434 (by rw [o459]; exact (show ok_26 (va_up K427 q1 26) cs _ from ⟨_, rfl, fun j hj => by rcases (show j = 0 ∨ j = 1 ∨ j = 2 ∨ j = 3 by omega) with rfl | rfl | rfl | rfl; exact ⟨q178, rfl, n_Xc (n_Xu k434) (by decide) k449⟩; exact ⟨q241, rfl, n_Xc (n_Xu k434) (by decide) k451⟩; exact ⟨q309, rfl, n_Xc (n_Xu k434) (by decide) k453⟩; exact ⟨q382, rfl, n_Xc (n_Xu k434) (by decide) k455⟩⟩))
  obtain ⟨K460, hK460⟩ : ∃ M, M = va_up K427 q1 26 := ⟨_, rfl⟩
  rw [← hK460] at hI hLk hX1
  have k461 : K460 h0 = 0 := by rw [hK460]; exact th_ne (Ne.symm ne5) k431
  have k462 : K460 q16 = 24 := by rw [hK460]; exact th_ne ne21 k437
  have k463 : K460 q35 = 27 := by rw [hK460]; exact th_ne ne40 k439
  have k464 : K460 q57 = 28 := by rw [hK460]; exact th_ne ne62 k441
  have k465 : K460 q82 = 28 := by rw [hK460]; exact th_ne ne87 k443
  have k466 : K460 q110 = 28 := by rw [hK460]; exact th_ne ne115 k445
  have k467 : K460 q141 = 29 := by rw [hK460]; exact th_ne ne146 k447
  have k468 : K460 q178 = 6 := by rw [hK460]; exact th_ne ne183 k449
  have k469 : K460 q241 = 6 := by rw [hK460]; exact th_ne ne246 k451
  have k470 : K460 q309 = 6 := by rw [hK460]; exact th_ne ne314 k453
  have k471 : K460 q382 = 6 := by rw [hK460]; exact th_ne ne387 k455
  have k472 : K460 q1 = 26 := by rw [hK460]; exact th_up
  have hfr : ∀ a ∈ L, a ≠ h0 → F457 a = F a ∧ K460 a = K a := fun a ha hne => ⟨(hfr a ha hne).1, by rw [hK460]; exact th_ne (fun h => nl12 (h ▸ ha)) (hfr a ha hne).2⟩
  have hX : n_X K K460 := n_Xt hX hX1
  have hks : ∀ a, K460 a = K a ∨ K460 a ∈ [5, 6, 24, 26, 27, 28, 29, 30, 31, 32] := fun a => by rw [hK460]; by_cases e9 : a = q1; (rw [e9, th_up]; right; decide); rw [show va_up K427 q1 26 a = K427 a from if_neg e9]; exact hks a
  obtain ⟨hI, hLk, hX1⟩ := n_kind (c := 5) hI hLk m430 k461 (by rw [o458]; exact (show ok_5 (va_up K460 h0 5) cs 0 _ from ⟨q1, q16, q35, q57, q82, q110, q141, 0, 0, 0, 0, 0, 0, 0, (-1), rfl, (n_Xc (n_Xu k461) (by decide) k472), (n_Xc (n_Xu k461) (by decide) k462), (n_Xc (n_Xu k461) (by decide) k463), (n_Xc (n_Xu k461) (by decide) k464), (n_Xc (n_Xu k461) (by decide) k465), (n_Xc (n_Xu k461) (by decide) k466), (n_Xc (n_Xu k461) (by decide) k467), ⟨by decide, by decide⟩, ⟨by decide, by decide⟩, ⟨by decide, by decide⟩, ⟨by decide, by decide⟩, ⟨by decide, by decide⟩, ⟨by decide, by decide⟩, trivial⟩))
  obtain ⟨K473, hK473⟩ : ∃ M, M = va_up K460 h0 5 := ⟨_, rfl⟩
  rw [← hK473] at hI hLk hX1
  have k474 : K473 q1 = 26 := by rw [hK473]; exact th_ne ne5 k472
  have k475 : K473 q16 = 24 := by rw [hK473]; exact th_ne ne20 k462
  have k476 : K473 q35 = 27 := by rw [hK473]; exact th_ne ne39 k463
  have k477 : K473 q57 = 28 := by rw [hK473]; exact th_ne ne61 k464
  have k478 : K473 q82 = 28 := by rw [hK473]; exact th_ne ne86 k465
  have k479 : K473 q110 = 28 := by rw [hK473]; exact th_ne ne114 k466
  have k480 : K473 q141 = 29 := by rw [hK473]; exact th_ne ne145 k467
  have k481 : K473 q178 = 6 := by rw [hK473]; exact th_ne ne182 k468
  have k482 : K473 q241 = 6 := by rw [hK473]; exact th_ne ne245 k469
  have k483 : K473 q309 = 6 := by rw [hK473]; exact th_ne ne313 k470
  have k484 : K473 q382 = 6 := by rw [hK473]; exact th_ne ne386 k471
  have k485 : K473 h0 = 5 := by rw [hK473]; exact th_up
  have hfr : ∀ a ∈ L, a ≠ h0 → F457 a = F a ∧ K473 a = K a := fun a ha hne => ⟨(hfr a ha hne).1, by rw [hK473]; exact th_ne hne (hfr a ha hne).2⟩
  have hX : n_X K K473 := n_Xt hX hX1
  have hks : ∀ a, K473 a = K a ∨ K473 a ∈ [5, 6, 24, 26, 27, 28, 29, 30, 31, 32] := fun a => by rw [hK473]; by_cases e9 : a = h0; (rw [e9, th_up]; right; decide); rw [show va_up K460 h0 5 a = K460 a from if_neg e9]; exact hks a
  exact W.vret hx hb hr (fun t ht hW => ⟨⟨(L426, K473, F457), rfl, ⟨hsub, hX, hfr, k485, hI, hLk, hks⟩, by rw [ht]; exact hP, va_K.moved hW.alike hK, hD⟩, hS.F ht⟩) hS.2.2 dX4_init_92

set_option maxHeartbeats 4000000 in
set_option maxRecDepth 100000 in
/-- Reader() -/
theorem n_X3_init (l : Launch) (dC : Nat → ClassId) (dI : Nat → Nat → Nat) (sz : Nat) {cs : Nat → ClassId} (L : List Nat) (K : Nat → Nat) (F : Nat → va_E) (h0 : Nat) (hh : h0 ∈ L) (hI : s_I K cs 0 F) (hLk : ∀ a, K a ≠ 0 → a ∈ L) (hk : K h0 = 0) (o0 : F h0 = .inr (3, [.null, .null, .null, .null, .null, .int 0, .null, .int 0, .int 0, .int 0, .int 0, .int 0, .int 0, .int 0, .int 0])) : Met l yX3_init (Cond.code yX3_init cX3_init 1 none :: T0) ({ frames := 1, cells := 4, slots := 160, locals := 12 }) (va_Pc [.ref h0] (n_W dC dI sz L F [(cs 0, .int), (cs 1, .byte), (cs 2, .long), (cs 3, .object RX5), (cs 4, .object RX4), (cs 5, .array .int), (cs 6, .char), (cs 7, .boolean)])) (va_Qv (fun (u : List Nat × (Nat → Nat) × (Nat → va_E)) => n_Q cs L K F h0 4 [4, 21] u) (fun (u : List Nat × (Nat → Nat) × (Nat → va_E)) (t : State) => va_P (dC, dI) vwCl (va_pl u.1 u.2.2) t.heap ∧ va_K (dC, dI) vwCl [(cs 0, .int), (cs 1, .byte), (cs 2, .long), (cs 3, .object RX5), (cs 4, .object RX4), (cs 5, .array .int), (cs 6, .char), (cs 7, .boolean)] t ∧ ∀ G, va_D (n_A L sz) (va_pl u.1 G)) (n_A L sz)) 4 160 (n_A L sz) := by
  refine Met.ofW (cc := cX3_init) (maxL := 1) (ret := none) (by decide) rfl ?_
  intro p e s m args below meth c s₁ B hml hv
  obtain ⟨rfl, hsz, hP, hK, hD, hN⟩ := hv
  have hx := B.exec
  have hb := B.bytes
  have hr := B.returns
  have hts : ∀ w ∈ T0, w.before _ s = true := fun w h => atoms_spec (ws := Cond.code yX3_init cX3_init 1 none :: T0) B.pre w (List.mem_cons_of_mem _ h)
  have hown : s.vm.findClass RX3 = some m.cls := findClass_of_methodNamed B.named
  have hlocks := B.notSynchronized
  have hin : meth.name = "<init>" := (name_of_methodNamed B.named B.method).1
  subst hsz
  generalize hAe : n_A L s.heap.size = A at hD ⊢
  have hA : ∀ q : Nat, s.heap.size ≤ q → A q := fun q h => by rw [← hAe]; exact Or.inr h
  have hS : va_S A s.heap s.heap [] := va_S.rf
  have hl := lv_entry ([.ref h0]) (n := 1) (Nat.le_of_ble_eq_true rfl)
  rw [lg_entry_eq]
  generalize (lg_sl ([.ref h0]) ++ List.replicate (1 - (lg_sl ([.ref h0])).length) Slot.unset).toArray = ls at hl ⊢
  have hl : lv_has ls 1 [(0, .ref h0)] := hl
  have hsub : ∀ a ∈ L, a ∈ L := fun _ h => h
  have hfr : ∀ a ∈ L, a ≠ h0 → F a = F a ∧ K a = K a := fun _ _ _ => ⟨rfl, rfl⟩
  have hX : n_X K K := n_Xr K
  have hLk0 := hLk
  have hks : ∀ a, K a = K a ∨ K a ∈ [4, 21] := fun a => Or.inl rfl
  refine s_gen hP hS (fun H locs hP hS => ?_)
  refine lv_aload_n hx hb dX3_init_0 rfl (lv_at hl 0 rfl) ?_
  refine W.objInit hx hb hown (hts _ T_128) (hts _ T_98) (hts _ T_0) rfl (by rw [hml]; exact hl.1) rfl dX3_init_1 (Nat.le_of_ble_eq_true rfl) (Nat.le_of_ble_eq_true rfl) ?_
  refine W.eq (g2 := F0 m 4 ls []) rfl ?_
  refine lv_aload_n hx hb dX3_init_4 rfl (lv_at hl 0 rfl) ?_
  refine lv_bipush (v := 40) hx hb dX3_init_5 (by decide) ?_
  refine n_newa (atype := .int) (a0 := (40, .inl (fun _ => 0))) hx hb (hts _ T_99) rfl hK hP hD hS hA 0 rfl (fun _ => rfl) (by decide) (by decide) (Nat.le_of_ble_eq_true rfl) (Nat.le_of_ble_eq_true rfl) (Nat.le_of_ble_eq_true rfl) dX3_init_7 (fun q1 H hq hP hD hS => ?_)
  obtain ⟨L2, hL2⟩ : ∃ M, M = L ++ [q1] := ⟨_, rfl⟩
  rw [← hL2] at hP hD
  obtain ⟨F3, hF3⟩ : ∃ M : Nat → va_E, M = va_up F q1 (.inl (cs 0, 40, .inl (fun _ => 0))) := ⟨_, rfl⟩
  rw [← hF3] at hP
  obtain ⟨hI, hLk, hX1⟩ := n_add (c := 21) hI hLk hq (show ok_21 cs _ from ⟨fun _ => 0, rfl, fun j _ => ⟨show (0 : Int) ≤ (0 : Int32).toInt by decide, show (0 : Int32).toInt ≤ 1600 by decide⟩⟩)
  obtain ⟨K4, hK4⟩ : ∃ M, M = va_up K q1 21 := ⟨_, rfl⟩
  rw [← hK4, ← hF3] at hI
  rw [← hK4, ← hL2] at hLk
  rw [← hK4] at hX1
  have ne5 : q1 ≠ h0 := fun h => hq (h ▸ hh)
  have m6 : h0 ∈ L2 := by rw [hL2]; exact List.mem_append_left _ hh
  have k7 : K4 h0 = 0 := by rw [hK4]; exact th_ne (Ne.symm ne5) hk
  have o8 : F3 h0 = .inr (3, [.null, .null, .null, .null, .null, .int 0, .null, .int 0, .int 0, .int 0, .int 0, .int 0, .int 0, .int 0, .int 0]) := by rw [hF3]; exact th_ne (Ne.symm ne5) o0
  have m9 : q1 ∈ L2 := by rw [hL2]; exact List.mem_append_right _ (List.mem_singleton.mpr rfl)
  have o10 : F3 q1 = (.inl (cs 0, 40, .inl (fun _ => 0))) := by rw [hF3]; exact th_up
  have k11 : K4 q1 = 21 := by rw [hK4]; exact th_up
  have nl12 : q1 ∉ L := fun h => hq (hsub q1 h)
  have hfr : ∀ a ∈ L, a ≠ h0 → F3 a = F a ∧ K4 a = K a := fun a ha hne => ⟨by rw [hF3]; exact th_ne (fun h => nl12 (h ▸ ha)) (hfr a ha hne).1, by rw [hK4]; exact th_ne (fun h => nl12 (h ▸ ha)) (hfr a ha hne).2⟩
  have hsub : ∀ a ∈ L, a ∈ L2 := fun a ha => by rw [hL2]; exact List.mem_append_left _ (hsub a ha)
  have hX : n_X K K4 := n_Xt hX hX1
  have hks : ∀ a, K4 a = K a ∨ K4 a ∈ [4, 21] := fun a => by rw [hK4]; by_cases e9 : a = q1; (rw [e9, th_up]; right; decide); rw [show va_up K q1 21 a = K a from if_neg e9]; exact hks a
  refine W.widen (k := 1) (n := 40) (Nat.le_of_ble_eq_true rfl) (Nat.le_of_ble_eq_true rfl) ?_
  refine n_putF (D := (dC, dI)) (ci := 3) (v := .ref q1) (ty := .array .int) (C := RX3) (T := TX3) (N := 15) hx hb hts inX3 tyX3 tyX3_ok nmX3 hown hK hP hD hS m6 o8 rfl 0 (by decide) (hts _ T_129) (fun _ h9 => h9) rfl hin rfl (by decide +kernel) rfl rfl (Nat.le_of_ble_eq_true rfl) dX3_init_9 (fun H locs hP hS => ?_)
  have hP : va_P (dC, dI) vwCl (va_pl L2 (va_up F3 h0 (.inr (3, [.ref q1, .null, .null, .null, .null, .int 0, .null, .int 0, .int 0, .int 0, .int 0, .int 0, .int 0, .int 0, .int 0])))) H := hP
  obtain ⟨F13, hF13⟩ : ∃ M : Nat → va_E, M = va_up F3 h0 (.inr (3, [.ref q1, .null, .null, .null, .null, .int 0, .null, .int 0, .int 0, .int 0, .int 0, .int 0, .int 0, .int 0, .int 0])) := ⟨_, rfl⟩
  rw [← hF13] at hP
  have hI : s_I K4 cs 0 F13 := by rw [hF13]; exact n_put0 hI k7
  have o14 : F13 h0 = .inr (3, [.ref q1, .null, .null, .null, .null, .int 0, .null, .int 0, .int 0, .int 0, .int 0, .int 0, .int 0, .int 0, .int 0]) := by rw [hF13]; exact th_up
  have hfr : ∀ a ∈ L, a ≠ h0 → F13 a = F a ∧ K4 a = K a := fun a ha hne => ⟨by rw [hF13]; exact th_ne hne (hfr a ha hne).1, (hfr a ha hne).2⟩
  refine lv_aload_n hx hb dX3_init_12 rfl (lv_at hl 0 rfl) ?_
  refine lv_bipush (v := 40) hx hb dX3_init_13 (by decide) ?_
  refine n_newa (atype := .int) (a0 := (40, .inl (fun _ => 0))) hx hb (hts _ T_99) rfl hK hP hD hS hA 0 rfl (fun _ => rfl) (by decide) (by decide) (Nat.le_of_ble_eq_true rfl) (Nat.le_of_ble_eq_true rfl) (Nat.le_of_ble_eq_true rfl) dX3_init_15 (fun q15 H hq hP hD hS => ?_)
  obtain ⟨L16, hL16⟩ : ∃ M, M = L2 ++ [q15] := ⟨_, rfl⟩
  rw [← hL16] at hP hD
  obtain ⟨F17, hF17⟩ : ∃ M : Nat → va_E, M = va_up F13 q15 (.inl (cs 0, 40, .inl (fun _ => 0))) := ⟨_, rfl⟩
  rw [← hF17] at hP
  obtain ⟨hI, hLk, hX1⟩ := n_add (c := 21) hI hLk hq (show ok_21 cs _ from ⟨fun _ => 0, rfl, fun j _ => ⟨show (0 : Int) ≤ (0 : Int32).toInt by decide, show (0 : Int32).toInt ≤ 1600 by decide⟩⟩)
  obtain ⟨K18, hK18⟩ : ∃ M, M = va_up K4 q15 21 := ⟨_, rfl⟩
  rw [← hK18, ← hF17] at hI
  rw [← hK18, ← hL16] at hLk
  rw [← hK18] at hX1
  have ne19 : q15 ≠ h0 := fun h => hq (h ▸ m6)
  have ne20 : q15 ≠ q1 := fun h => hq (h ▸ m9)
  have m21 : h0 ∈ L16 := by rw [hL16]; exact List.mem_append_left _ m6
  have k22 : K18 h0 = 0 := by rw [hK18]; exact th_ne (Ne.symm ne19) k7
  have o23 : F17 h0 = .inr (3, [.ref q1, .null, .null, .null, .null, .int 0, .null, .int 0, .int 0, .int 0, .int 0, .int 0, .int 0, .int 0, .int 0]) := by rw [hF17]; exact th_ne (Ne.symm ne19) o14
  have m24 : q1 ∈ L16 := by rw [hL16]; exact List.mem_append_left _ m9
  have k25 : K18 q1 = 21 := by rw [hK18]; exact th_ne (Ne.symm ne20) k11
  have m26 : q15 ∈ L16 := by rw [hL16]; exact List.mem_append_right _ (List.mem_singleton.mpr rfl)
  have o27 : F17 q15 = (.inl (cs 0, 40, .inl (fun _ => 0))) := by rw [hF17]; exact th_up
  have k28 : K18 q15 = 21 := by rw [hK18]; exact th_up
  have nl29 : q15 ∉ L := fun h => hq (hsub q15 h)
  have hfr : ∀ a ∈ L, a ≠ h0 → F17 a = F a ∧ K18 a = K a := fun a ha hne => ⟨by rw [hF17]; exact th_ne (fun h => nl29 (h ▸ ha)) (hfr a ha hne).1, by rw [hK18]; exact th_ne (fun h => nl29 (h ▸ ha)) (hfr a ha hne).2⟩
  have hsub : ∀ a ∈ L, a ∈ L16 := fun a ha => by rw [hL16]; exact List.mem_append_left _ (hsub a ha)
  have hX : n_X K K18 := n_Xt hX hX1
  have hks : ∀ a, K18 a = K a ∨ K18 a ∈ [4, 21] := fun a => by rw [hK18]; by_cases e9 : a = q15; (rw [e9, th_up]; right; decide); rw [show va_up K4 q15 21 a = K4 a from if_neg e9]; exact hks a
  refine W.widen (k := 2) (n := 80) (Nat.le_of_ble_eq_true rfl) (Nat.le_of_ble_eq_true rfl) ?_
  refine n_putF (D := (dC, dI)) (ci := 3) (v := .ref q15) (ty := .array .int) (C := RX3) (T := TX3) (N := 15) hx hb hts inX3 tyX3 tyX3_ok nmX3 hown hK hP hD hS m21 o23 rfl 1 (by decide) (hts _ T_130) (fun _ h9 => h9) rfl hin rfl (by decide +kernel) rfl rfl (Nat.le_of_ble_eq_true rfl) dX3_init_17 (fun H locs hP hS => ?_)
  have hP : va_P (dC, dI) vwCl (va_pl L16 (va_up F17 h0 (.inr (3, [.ref q1, .ref q15, .null, .null, .null, .int 0, .null, .int 0, .int 0, .int 0, .int 0, .int 0, .int 0, .int 0, .int 0])))) H := hP
  obtain ⟨F30, hF30⟩ : ∃ M : Nat → va_E, M = va_up F17 h0 (.inr (3, [.ref q1, .ref q15, .null, .null, .null, .int 0, .null, .int 0, .int 0, .int 0, .int 0, .int 0, .int 0, .int 0, .int 0])) := ⟨_, rfl⟩
  rw [← hF30] at hP
  have hI : s_I K18 cs 0 F30 := by rw [hF30]; exact n_put0 hI k22
  have o31 : F30 h0 = .inr (3, [.ref q1, .ref q15, .null, .null, .null, .int 0, .null, .int 0, .int 0, .int 0, .int 0, .int 0, .int 0, .int 0, .int 0]) := by rw [hF30]; exact th_up
  have hfr : ∀ a ∈ L, a ≠ h0 → F30 a = F a ∧ K18 a = K a := fun a ha hne => ⟨by rw [hF30]; exact th_ne hne (hfr a ha hne).1, (hfr a ha hne).2⟩
  refine lv_aload_n hx hb dX3_init_20 rfl (lv_at hl 0 rfl) ?_
  refine lv_bipush (v := 40) hx hb dX3_init_21 (by decide) ?_
  refine n_newa (atype := .int) (a0 := (40, .inl (fun _ => 0))) hx hb (hts _ T_99) rfl hK hP hD hS hA 0 rfl (fun _ => rfl) (by decide) (by decide) (Nat.le_of_ble_eq_true rfl) (Nat.le_of_ble_eq_true rfl) (Nat.le_of_ble_eq_true rfl) dX3_init_23 (fun q32 H hq hP hD hS => ?_)
  obtain ⟨L33, hL33⟩ : ∃ M, M = L16 ++ [q32] := ⟨_, rfl⟩
  rw [← hL33] at hP hD
  obtain ⟨F34, hF34⟩ : ∃ M : Nat → va_E, M = va_up F30 q32 (.inl (cs 0, 40, .inl (fun _ => 0))) := ⟨_, rfl⟩
  rw [← hF34] at hP
  obtain ⟨hI, hLk, hX1⟩ := n_add (c := 21) hI hLk hq (show ok_21 cs _ from ⟨fun _ => 0, rfl, fun j _ => ⟨show (0 : Int) ≤ (0 : Int32).toInt by decide, show (0 : Int32).toInt ≤ 1600 by decide⟩⟩)
  obtain ⟨K35, hK35⟩ : ∃ M, M = va_up K18 q32 21 := ⟨_, rfl⟩
  rw [← hK35, ← hF34] at hI
  rw [← hK35, ← hL33] at hLk
  rw [← hK35] at hX1
  have ne36 : q32 ≠ h0 := fun h => hq (h ▸ m21)
  have ne37 : q32 ≠ q1 := fun h => hq (h ▸ m24)
  have ne38 : q32 ≠ q15 := fun h => hq (h ▸ m26)
  have m39 : h0 ∈ L33 := by rw [hL33]; exact List.mem_append_left _ m21
  have k40 : K35 h0 = 0 := by rw [hK35]; exact th_ne (Ne.symm ne36) k22
  have o41 : F34 h0 = .inr (3, [.ref q1, .ref q15, .null, .null, .null, .int 0, .null, .int 0, .int 0, .int 0, .int 0, .int 0, .int 0, .int 0, .int 0]) := by rw [hF34]; exact th_ne (Ne.symm ne36) o31
  have m42 : q1 ∈ L33 := by rw [hL33]; exact List.mem_append_left _ m24
  have k43 : K35 q1 = 21 := by rw [hK35]; exact th_ne (Ne.symm ne37) k25
  have m44 : q15 ∈ L33 := by rw [hL33]; exact List.mem_append_left _ m26
  have k45 : K35 q15 = 21 := by rw [hK35]; exact th_ne (Ne.symm ne38) k28
  have m46 : q32 ∈ L33 := by rw [hL33]; exact List.mem_append_right _ (List.mem_singleton.mpr rfl)
  have o47 : F34 q32 = (.inl (cs 0, 40, .inl (fun _ => 0))) := by rw [hF34]; exact th_up
  have k48 : K35 q32 = 21 := by rw [hK35]; exact th_up
  have nl49 : q32 ∉ L := fun h => hq (hsub q32 h)
  have hfr : ∀ a ∈ L, a ≠ h0 → F34 a = F a ∧ K35 a = K a := fun a ha hne => ⟨by rw [hF34]; exact th_ne (fun h => nl49 (h ▸ ha)) (hfr a ha hne).1, by rw [hK35]; exact th_ne (fun h => nl49 (h ▸ ha)) (hfr a ha hne).2⟩
  have hsub : ∀ a ∈ L, a ∈ L33 := fun a ha => by rw [hL33]; exact List.mem_append_left _ (hsub a ha)
  have hX : n_X K K35 := n_Xt hX hX1
  have hks : ∀ a, K35 a = K a ∨ K35 a ∈ [4, 21] := fun a => by rw [hK35]; by_cases e9 : a = q32; (rw [e9, th_up]; right; decide); rw [show va_up K18 q32 21 a = K18 a from if_neg e9]; exact hks a
  refine W.widen (k := 3) (n := 120) (Nat.le_of_ble_eq_true rfl) (Nat.le_of_ble_eq_true rfl) ?_
  refine n_putF (D := (dC, dI)) (ci := 3) (v := .ref q32) (ty := .array .int) (C := RX3) (T := TX3) (N := 15) hx hb hts inX3 tyX3 tyX3_ok nmX3 hown hK hP hD hS m39 o41 rfl 2 (by decide) (hts _ T_131) (fun _ h9 => h9) rfl hin rfl (by decide +kernel) rfl rfl (Nat.le_of_ble_eq_true rfl) dX3_init_25 (fun H locs hP hS => ?_)
  have hP : va_P (dC, dI) vwCl (va_pl L33 (va_up F34 h0 (.inr (3, [.ref q1, .ref q15, .ref q32, .null, .null, .int 0, .null, .int 0, .int 0, .int 0, .int 0, .int 0, .int 0, .int 0, .int 0])))) H := hP
  obtain ⟨F50, hF50⟩ : ∃ M : Nat → va_E, M = va_up F34 h0 (.inr (3, [.ref q1, .ref q15, .ref q32, .null, .null, .int 0, .null, .int 0, .int 0, .int 0, .int 0, .int 0, .int 0, .int 0, .int 0])) := ⟨_, rfl⟩
  rw [← hF50] at hP
  have hI : s_I K35 cs 0 F50 := by rw [hF50]; exact n_put0 hI k40
  have o51 : F50 h0 = .inr (3, [.ref q1, .ref q15, .ref q32, .null, .null, .int 0, .null, .int 0, .int 0, .int 0, .int 0, .int 0, .int 0, .int 0, .int 0]) := by rw [hF50]; exact th_up
  have hfr : ∀ a ∈ L, a ≠ h0 → F50 a = F a ∧ K35 a = K a := fun a ha hne => ⟨by rw [hF50]; exact th_ne hne (hfr a ha hne).1, (hfr a ha hne).2⟩
  refine lv_aload_n hx hb dX3_init_28 rfl (lv_at hl 0 rfl) ?_
  refine lv_bipush (v := 40) hx hb dX3_init_29 (by decide) ?_
  refine n_newa (atype := .int) (a0 := (40, .inl (fun _ => 0))) hx hb (hts _ T_99) rfl hK hP hD hS hA 0 rfl (fun _ => rfl) (by decide) (by decide) (Nat.le_of_ble_eq_true rfl) (Nat.le_of_ble_eq_true rfl) (Nat.le_of_ble_eq_true rfl) dX3_init_31 (fun q52 H hq hP hD hS => ?_)
  obtain ⟨L53, hL53⟩ : ∃ M, M = L33 ++ [q52] := ⟨_, rfl⟩
  rw [← hL53] at hP hD
  obtain ⟨F54, hF54⟩ : ∃ M : Nat → va_E, M = va_up F50 q52 (.inl (cs 0, 40, .inl (fun _ => 0))) := ⟨_, rfl⟩
  rw [← hF54] at hP
  obtain ⟨hI, hLk, hX1⟩ := n_add (c := 21) hI hLk hq (show ok_21 cs _ from ⟨fun _ => 0, rfl, fun j _ => ⟨show (0 : Int) ≤ (0 : Int32).toInt by decide, show (0 : Int32).toInt ≤ 1600 by decide⟩⟩)
  obtain ⟨K55, hK55⟩ : ∃ M, M = va_up K35 q52 21 := ⟨_, rfl⟩
  rw [← hK55, ← hF54] at hI
  rw [← hK55, ← hL53] at hLk
  rw [← hK55] at hX1
  have ne56 : q52 ≠ h0 := fun h => hq (h ▸ m39)
  have ne57 : q52 ≠ q1 := fun h => hq (h ▸ m42)
  have ne58 : q52 ≠ q15 := fun h => hq (h ▸ m44)
  have ne59 : q52 ≠ q32 := fun h => hq (h ▸ m46)
  have m60 : h0 ∈ L53 := by rw [hL53]; exact List.mem_append_left _ m39
  have k61 : K55 h0 = 0 := by rw [hK55]; exact th_ne (Ne.symm ne56) k40
  have o62 : F54 h0 = .inr (3, [.ref q1, .ref q15, .ref q32, .null, .null, .int 0, .null, .int 0, .int 0, .int 0, .int 0, .int 0, .int 0, .int 0, .int 0]) := by rw [hF54]; exact th_ne (Ne.symm ne56) o51
  have m63 : q1 ∈ L53 := by rw [hL53]; exact List.mem_append_left _ m42
  have k64 : K55 q1 = 21 := by rw [hK55]; exact th_ne (Ne.symm ne57) k43
  have m65 : q15 ∈ L53 := by rw [hL53]; exact List.mem_append_left _ m44
  have k66 : K55 q15 = 21 := by rw [hK55]; exact th_ne (Ne.symm ne58) k45
  have m67 : q32 ∈ L53 := by rw [hL53]; exact List.mem_append_left _ m46
  have k68 : K55 q32 = 21 := by rw [hK55]; exact th_ne (Ne.symm ne59) k48
  have m69 : q52 ∈ L53 := by rw [hL53]; exact List.mem_append_right _ (List.mem_singleton.mpr rfl)
  have o70 : F54 q52 = (.inl (cs 0, 40, .inl (fun _ => 0))) := by rw [hF54]; exact th_up
  have k71 : K55 q52 = 21 := by rw [hK55]; exact th_up
  have nl72 : q52 ∉ L := fun h => hq (hsub q52 h)
  have hfr : ∀ a ∈ L, a ≠ h0 → F54 a = F a ∧ K55 a = K a := fun a ha hne => ⟨by rw [hF54]; exact th_ne (fun h => nl72 (h ▸ ha)) (hfr a ha hne).1, by rw [hK55]; exact th_ne (fun h => nl72 (h ▸ ha)) (hfr a ha hne).2⟩
  have hsub : ∀ a ∈ L, a ∈ L53 := fun a ha => by rw [hL53]; exact List.mem_append_left _ (hsub a ha)
  have hX : n_X K K55 := n_Xt hX hX1
  have hks : ∀ a, K55 a = K a ∨ K55 a ∈ [4, 21] := fun a => by rw [hK55]; by_cases e9 : a = q52; (rw [e9, th_up]; right; decide); rw [show va_up K35 q52 21 a = K35 a from if_neg e9]; exact hks a
  refine W.widen (k := 4) (n := 160) (Nat.le_of_ble_eq_true rfl) (Nat.le_of_ble_eq_true rfl) ?_
  refine n_putF (D := (dC, dI)) (ci := 3) (v := .ref q52) (ty := .array .int) (C := RX3) (T := TX3) (N := 15) hx hb hts inX3 tyX3 tyX3_ok nmX3 hown hK hP hD hS m60 o62 rfl 3 (by decide) (hts _ T_132) (fun _ h9 => h9) rfl hin rfl (by decide +kernel) rfl rfl (Nat.le_of_ble_eq_true rfl) dX3_init_33 (fun H locs hP hS => ?_)
  have hP : va_P (dC, dI) vwCl (va_pl L53 (va_up F54 h0 (.inr (3, [.ref q1, .ref q15, .ref q32, .ref q52, .null, .int 0, .null, .int 0, .int 0, .int 0, .int 0, .int 0, .int 0, .int 0, .int 0])))) H := hP
  obtain ⟨F73, hF73⟩ : ∃ M : Nat → va_E, M = va_up F54 h0 (.inr (3, [.ref q1, .ref q15, .ref q32, .ref q52, .null, .int 0, .null, .int 0, .int 0, .int 0, .int 0, .int 0, .int 0, .int 0, .int 0])) := ⟨_, rfl⟩
  rw [← hF73] at hP
  have hI : s_I K55 cs 0 F73 := by rw [hF73]; exact n_put0 hI k61
  have o74 : F73 h0 = .inr (3, [.ref q1, .ref q15, .ref q32, .ref q52, .null, .int 0, .null, .int 0, .int 0, .int 0, .int 0, .int 0, .int 0, .int 0, .int 0]) := by rw [hF73]; exact th_up
  have hfr : ∀ a ∈ L, a ≠ h0 → F73 a = F a ∧ K55 a = K a := fun a ha hne => ⟨by rw [hF73]; exact th_ne hne (hfr a ha hne).1, (hfr a ha hne).2⟩
  refine lv_aload_n hx hb dX3_init_36 rfl (lv_at hl 0 rfl) ?_
  refine lv_iconst (v := (-1)) hx hb dX3_init_37 (by decide) ?_
  refine th_put (D := (dC, dI)) (ci := 3) (v := .int (-1)) (ty := .int) (C := RX3) (T := TX3) (N := 15) hx hb hts inX3 tyX3 tyX3_ok nmX3 hown hK hP hD hS m60 o74 rfl 14 (by decide) (hts _ T_133) (fun _ h9 => h9) rfl (by decide +kernel) rfl rfl (Nat.le_of_ble_eq_true rfl) dX3_init_38 (fun H locs hP hS => ?_)
  have hP : va_P (dC, dI) vwCl (va_pl L53 (va_up F73 h0 (.inr (3, [.ref q1, .ref q15, .ref q32, .ref q52, .null, .int 0, .null, .int 0, .int 0, .int 0, .int 0, .int 0, .int 0, .int 0, .int (-1)])))) H := hP
  obtain ⟨F75, hF75⟩ : ∃ M : Nat → va_E, M = va_up F73 h0 (.inr (3, [.ref q1, .ref q15, .ref q32, .ref q52, .null, .int 0, .null, .int 0, .int 0, .int 0, .int 0, .int 0, .int 0, .int 0, .int (-1)])) := ⟨_, rfl⟩
  rw [← hF75] at hP
  have hI : s_I K55 cs 0 F75 := by rw [hF75]; exact n_put0 hI k61
  have o76 : F75 h0 = .inr (3, [.ref q1, .ref q15, .ref q32, .ref q52, .null, .int 0, .null, .int 0, .int 0, .int 0, .int 0, .int 0, .int 0, .int 0, .int (-1)]) := by rw [hF75]; exact th_up
  have hfr : ∀ a ∈ L, a ≠ h0 → F75 a = F a ∧ K55 a = K a := fun a ha hne => ⟨by rw [hF75]; exact th_ne hne (hfr a ha hne).1, (hfr a ha hne).2⟩
  obtain ⟨hI, hLk, hX1⟩ := n_kind (c := 4) hI hLk m60 k61 (by rw [o76]; exact (show ok_4 (va_up K55 h0 4) cs 0 _ from ⟨q1, q15, q32, q52, none, 0, none, 0, 0, 0, 0, 0, 0, 0, (-1), rfl, (n_Xc (n_Xu k61) (by decide) k64), (n_Xc (n_Xu k61) (by decide) k66), (n_Xc (n_Xu k61) (by decide) k68), (n_Xc (n_Xu k61) (by decide) k71), (fun q e => by cases e), ⟨by decide, by decide⟩, ⟨by decide, by decide⟩, ⟨by decide, by decide⟩, ⟨by decide, by decide⟩, trivial⟩))
  obtain ⟨K77, hK77⟩ : ∃ M, M = va_up K55 h0 4 := ⟨_, rfl⟩
  rw [← hK77] at hI hLk hX1
  have k78 : K77 q1 = 21 := by rw [hK77]; exact th_ne ne5 k64
  have k79 : K77 q15 = 21 := by rw [hK77]; exact th_ne ne19 k66
  have k80 : K77 q32 = 21 := by rw [hK77]; exact th_ne ne36 k68
  have k81 : K77 q52 = 21 := by rw [hK77]; exact th_ne ne56 k71
  have k82 : K77 h0 = 4 := by rw [hK77]; exact th_up
  have hfr : ∀ a ∈ L, a ≠ h0 → F75 a = F a ∧ K77 a = K a := fun a ha hne => ⟨(hfr a ha hne).1, by rw [hK77]; exact th_ne hne (hfr a ha hne).2⟩
  have hX : n_X K K77 := n_Xt hX hX1
  have hks : ∀ a, K77 a = K a ∨ K77 a ∈ [4, 21] := fun a => by rw [hK77]; by_cases e9 : a = h0; (rw [e9, th_up]; right; decide); rw [show va_up K55 h0 4 a = K55 a from if_neg e9]; exact hks a
  exact W.vret hx hb hr (fun t ht hW => ⟨⟨(L53, K77, F75), rfl, ⟨hsub, hX, hfr, k82, hI, hLk, hks⟩, by rw [ht]; exact hP, va_K.moved hW.alike hK, hD⟩, hS.F ht⟩) hS.2.2 dX3_init_41

set_option maxHeartbeats 4000000 in
set_option maxRecDepth 100000 in
/-- Machine() -/
theorem n_X1_init (l : Launch) (dC : Nat → ClassId) (dI : Nat → Nat → Nat) (sz : Nat) {cs : Nat → ClassId} (L : List Nat) (K : Nat → Nat) (F : Nat → va_E) (h0 : Nat) (hh : h0 ∈ L) (hI : s_I K cs 0 F) (hLk : ∀ a, K a ≠ 0 → a ∈ L) (hk : K h0 = 0) (o0 : F h0 = .inr (1, [.null, .null, .null, .null, .null, .null, .int 0, .int 0, .int 0, .int 0, .int 0, .long 0])) : Met l yX1_init (Cond.code yX1_init cX1_init 1 none :: T0) ({ frames := 1, cells := 2, slots := 12, locals := 12 }) (va_Pc [.ref h0] (n_W dC dI sz L F [(cs 0, .int), (cs 1, .byte), (cs 2, .long), (cs 3, .object RX5), (cs 4, .object RX4), (cs 5, .array .int), (cs 6, .char), (cs 7, .boolean)])) (va_Qv (fun (u : List Nat × (Nat → Nat) × (Nat → va_E)) => n_Q cs L K F h0 0 [34, 35] u ∧ (∃ a b : Nat, u.2.2 h0 = .inr (1, [.ref a, .ref b, .null, .null, .null, .null, .int 0, .int 0, .int 0, .int 0, .int 0, .long 0]) ∧ u.2.1 a = 34 ∧ u.2.1 b = 35)) (fun (u : List Nat × (Nat → Nat) × (Nat → va_E)) (t : State) => va_P (dC, dI) vwCl (va_pl u.1 u.2.2) t.heap ∧ va_K (dC, dI) vwCl [(cs 0, .int), (cs 1, .byte), (cs 2, .long), (cs 3, .object RX5), (cs 4, .object RX4), (cs 5, .array .int), (cs 6, .char), (cs 7, .boolean)] t ∧ ∀ G, va_D (n_A L sz) (va_pl u.1 G)) (n_A L sz)) 2 12 (n_A L sz) := by
  refine Met.ofW (cc := cX1_init) (maxL := 1) (ret := none) (by decide) rfl ?_
  intro p e s m args below meth c s₁ B hml hv
  obtain ⟨rfl, hsz, hP, hK, hD, hN⟩ := hv
  have hx := B.exec
  have hb := B.bytes
  have hr := B.returns
  have hts : ∀ w ∈ T0, w.before _ s = true := fun w h => atoms_spec (ws := Cond.code yX1_init cX1_init 1 none :: T0) B.pre w (List.mem_cons_of_mem _ h)
  have hown : s.vm.findClass RX1 = some m.cls := findClass_of_methodNamed B.named
  have hlocks := B.notSynchronized
  have hin : meth.name = "<init>" := (name_of_methodNamed B.named B.method).1
  subst hsz
  generalize hAe : n_A L s.heap.size = A at hD ⊢
  have hA : ∀ q : Nat, s.heap.size ≤ q → A q := fun q h => by rw [← hAe]; exact Or.inr h
  have hS : va_S A s.heap s.heap [] := va_S.rf
  have hl := lv_entry ([.ref h0]) (n := 1) (Nat.le_of_ble_eq_true rfl)
  rw [lg_entry_eq]
  generalize (lg_sl ([.ref h0]) ++ List.replicate (1 - (lg_sl ([.ref h0])).length) Slot.unset).toArray = ls at hl ⊢
  have hl : lv_has ls 1 [(0, .ref h0)] := hl
  have hsub : ∀ a ∈ L, a ∈ L := fun _ h => h
  have hfr : ∀ a ∈ L, a ≠ h0 → F a = F a ∧ K a = K a := fun _ _ _ => ⟨rfl, rfl⟩
  have hX : n_X K K := n_Xr K
  have hLk0 := hLk
  have hks : ∀ a, K a = K a ∨ K a ∈ [34, 35] := fun a => Or.inl rfl
  refine s_gen hP hS (fun H locs hP hS => ?_)
  refine lv_aload_n hx hb dX1_init_0 rfl (lv_at hl 0 rfl) ?_
  refine W.objInit hx hb hown (hts _ T_118) (hts _ T_98) (hts _ T_0) rfl (by rw [hml]; exact hl.1) rfl dX1_init_1 (Nat.le_of_ble_eq_true rfl) (Nat.le_of_ble_eq_true rfl) ?_
  refine W.eq (g2 := F0 m 4 ls []) rfl ?_
  refine lv_aload_n hx hb dX1_init_4 rfl (lv_at hl 0 rfl) ?_
  refine lv_bipush (v := 8) hx hb dX1_init_5 (by decide) ?_
  refine n_newa (atype := .int) (a0 := (8, .inl (fun _ => 0))) hx hb (hts _ T_99) rfl hK hP hD hS hA 0 rfl (fun _ => rfl) (by decide) (by decide) (Nat.le_of_ble_eq_true rfl) (Nat.le_of_ble_eq_true rfl) (Nat.le_of_ble_eq_true rfl) dX1_init_7 (fun q1 H hq hP hD hS => ?_)
  obtain ⟨L2, hL2⟩ : ∃ M, M = L ++ [q1] := ⟨_, rfl⟩
  rw [← hL2] at hP hD
  obtain ⟨F3, hF3⟩ : ∃ M : Nat → va_E, M = va_up F q1 (.inl (cs 0, 8, .inl (fun _ => 0))) := ⟨_, rfl⟩
  rw [← hF3] at hP
  obtain ⟨hI, hLk, hX1⟩ := n_add (c := 34) hI hLk hq (show ok_34 cs _ from ⟨fun _ => 0, rfl, fun j _ => ⟨show (0 : Int) ≤ (0 : Int32).toInt by decide, show (0 : Int32).toInt ≤ 63 by decide⟩⟩)
  obtain ⟨K4, hK4⟩ : ∃ M, M = va_up K q1 34 := ⟨_, rfl⟩
  rw [← hK4, ← hF3] at hI
  rw [← hK4, ← hL2] at hLk
  rw [← hK4] at hX1
  have ne5 : q1 ≠ h0 := fun h => hq (h ▸ hh)
  have m6 : h0 ∈ L2 := by rw [hL2]; exact List.mem_append_left _ hh
  have k7 : K4 h0 = 0 := by rw [hK4]; exact th_ne (Ne.symm ne5) hk
  have o8 : F3 h0 = .inr (1, [.null, .null, .null, .null, .null, .null, .int 0, .int 0, .int 0, .int 0, .int 0, .long 0]) := by rw [hF3]; exact th_ne (Ne.symm ne5) o0
  have m9 : q1 ∈ L2 := by rw [hL2]; exact List.mem_append_right _ (List.mem_singleton.mpr rfl)
  have o10 : F3 q1 = (.inl (cs 0, 8, .inl (fun _ => 0))) := by rw [hF3]; exact th_up
  have k11 : K4 q1 = 34 := by rw [hK4]; exact th_up
  have nl12 : q1 ∉ L := fun h => hq (hsub q1 h)
  have hfr : ∀ a ∈ L, a ≠ h0 → F3 a = F a ∧ K4 a = K a := fun a ha hne => ⟨by rw [hF3]; exact th_ne (fun h => nl12 (h ▸ ha)) (hfr a ha hne).1, by rw [hK4]; exact th_ne (fun h => nl12 (h ▸ ha)) (hfr a ha hne).2⟩
  have hsub : ∀ a ∈ L, a ∈ L2 := fun a ha => by rw [hL2]; exact List.mem_append_left _ (hsub a ha)
  have hX : n_X K K4 := n_Xt hX hX1
  have hks : ∀ a, K4 a = K a ∨ K4 a ∈ [34, 35] := fun a => by rw [hK4]; by_cases e9 : a = q1; (rw [e9, th_up]; right; decide); rw [show va_up K q1 34 a = K a from if_neg e9]; exact hks a
  refine W.widen (k := 1) (n := 8) (Nat.le_of_ble_eq_true rfl) (Nat.le_of_ble_eq_true rfl) ?_
  refine n_putF (D := (dC, dI)) (ci := 1) (v := .ref q1) (ty := .array .int) (C := RX1) (T := TX1) (N := 12) hx hb hts inX1 tyX1 tyX1_ok nmX1 hown hK hP hD hS m6 o8 rfl 0 (by decide) (hts _ T_119) (fun _ h9 => h9) rfl hin rfl (by decide +kernel) rfl rfl (Nat.le_of_ble_eq_true rfl) dX1_init_9 (fun H locs hP hS => ?_)
  have hP : va_P (dC, dI) vwCl (va_pl L2 (va_up F3 h0 (.inr (1, [.ref q1, .null, .null, .null, .null, .null, .int 0, .int 0, .int 0, .int 0, .int 0, .long 0])))) H := hP
  obtain ⟨F13, hF13⟩ : ∃ M : Nat → va_E, M = va_up F3 h0 (.inr (1, [.ref q1, .null, .null, .null, .null, .null, .int 0, .int 0, .int 0, .int 0, .int 0, .long 0])) := ⟨_, rfl⟩
  rw [← hF13] at hP
  have hI : s_I K4 cs 0 F13 := by rw [hF13]; exact n_put0 hI k7
  have o14 : F13 h0 = .inr (1, [.ref q1, .null, .null, .null, .null, .null, .int 0, .int 0, .int 0, .int 0, .int 0, .long 0]) := by rw [hF13]; exact th_up
  have hfr : ∀ a ∈ L, a ≠ h0 → F13 a = F a ∧ K4 a = K a := fun a ha hne => ⟨by rw [hF13]; exact th_ne hne (hfr a ha hne).1, (hfr a ha hne).2⟩
  refine lv_aload_n hx hb dX1_init_12 rfl (lv_at hl 0 rfl) ?_
  refine lv_iconst (v := 4) hx hb dX1_init_13 (by decide) ?_
  refine n_newa (atype := .int) (a0 := (4, .inl (fun _ => 0))) hx hb (hts _ T_99) rfl hK hP hD hS hA 0 rfl (fun _ => rfl) (by decide) (by decide) (Nat.le_of_ble_eq_true rfl) (Nat.le_of_ble_eq_true rfl) (Nat.le_of_ble_eq_true rfl) dX1_init_14 (fun q15 H hq hP hD hS => ?_)
  obtain ⟨L16, hL16⟩ : ∃ M, M = L2 ++ [q15] := ⟨_, rfl⟩
  rw [← hL16] at hP hD
  obtain ⟨F17, hF17⟩ : ∃ M : Nat → va_E, M = va_up F13 q15 (.inl (cs 0, 4, .inl (fun _ => 0))) := ⟨_, rfl⟩
  rw [← hF17] at hP
  obtain ⟨hI, hLk, hX1⟩ := n_add (c := 35) hI hLk hq (show ok_35 cs _ from ⟨_, rfl, trivial⟩)
  obtain ⟨K18, hK18⟩ : ∃ M, M = va_up K4 q15 35 := ⟨_, rfl⟩
  rw [← hK18, ← hF17] at hI
  rw [← hK18, ← hL16] at hLk
  rw [← hK18] at hX1
  have ne19 : q15 ≠ h0 := fun h => hq (h ▸ m6)
  have ne20 : q15 ≠ q1 := fun h => hq (h ▸ m9)
  have m21 : h0 ∈ L16 := by rw [hL16]; exact List.mem_append_left _ m6
  have k22 : K18 h0 = 0 := by rw [hK18]; exact th_ne (Ne.symm ne19) k7
  have o23 : F17 h0 = .inr (1, [.ref q1, .null, .null, .null, .null, .null, .int 0, .int 0, .int 0, .int 0, .int 0, .long 0]) := by rw [hF17]; exact th_ne (Ne.symm ne19) o14
  have m24 : q1 ∈ L16 := by rw [hL16]; exact List.mem_append_left _ m9
  have k25 : K18 q1 = 34 := by rw [hK18]; exact th_ne (Ne.symm ne20) k11
  have m26 : q15 ∈ L16 := by rw [hL16]; exact List.mem_append_right _ (List.mem_singleton.mpr rfl)
  have o27 : F17 q15 = (.inl (cs 0, 4, .inl (fun _ => 0))) := by rw [hF17]; exact th_up
  have k28 : K18 q15 = 35 := by rw [hK18]; exact th_up
  have nl29 : q15 ∉ L := fun h => hq (hsub q15 h)
  have hfr : ∀ a ∈ L, a ≠ h0 → F17 a = F a ∧ K18 a = K a := fun a ha hne => ⟨by rw [hF17]; exact th_ne (fun h => nl29 (h ▸ ha)) (hfr a ha hne).1, by rw [hK18]; exact th_ne (fun h => nl29 (h ▸ ha)) (hfr a ha hne).2⟩
  have hsub : ∀ a ∈ L, a ∈ L16 := fun a ha => by rw [hL16]; exact List.mem_append_left _ (hsub a ha)
  have hX : n_X K K18 := n_Xt hX hX1
  have hks : ∀ a, K18 a = K a ∨ K18 a ∈ [34, 35] := fun a => by rw [hK18]; by_cases e9 : a = q15; (rw [e9, th_up]; right; decide); rw [show va_up K4 q15 35 a = K4 a from if_neg e9]; exact hks a
  refine W.widen (k := 2) (n := 12) (Nat.le_of_ble_eq_true rfl) (Nat.le_of_ble_eq_true rfl) ?_
  refine n_putF (D := (dC, dI)) (ci := 1) (v := .ref q15) (ty := .array .int) (C := RX1) (T := TX1) (N := 12) hx hb hts inX1 tyX1 tyX1_ok nmX1 hown hK hP hD hS m21 o23 rfl 1 (by decide) (hts _ T_120) (fun _ h9 => h9) rfl hin rfl (by decide +kernel) rfl rfl (Nat.le_of_ble_eq_true rfl) dX1_init_16 (fun H locs hP hS => ?_)
  have hP : va_P (dC, dI) vwCl (va_pl L16 (va_up F17 h0 (.inr (1, [.ref q1, .ref q15, .null, .null, .null, .null, .int 0, .int 0, .int 0, .int 0, .int 0, .long 0])))) H := hP
  obtain ⟨F30, hF30⟩ : ∃ M : Nat → va_E, M = va_up F17 h0 (.inr (1, [.ref q1, .ref q15, .null, .null, .null, .null, .int 0, .int 0, .int 0, .int 0, .int 0, .long 0])) := ⟨_, rfl⟩
  rw [← hF30] at hP
  have hI : s_I K18 cs 0 F30 := by rw [hF30]; exact n_put0 hI k22
  have o31 : F30 h0 = .inr (1, [.ref q1, .ref q15, .null, .null, .null, .null, .int 0, .int 0, .int 0, .int 0, .int 0, .long 0]) := by rw [hF30]; exact th_up
  have hfr : ∀ a ∈ L, a ≠ h0 → F30 a = F a ∧ K18 a = K a := fun a ha hne => ⟨by rw [hF30]; exact th_ne hne (hfr a ha hne).1, (hfr a ha hne).2⟩
  exact W.vret hx hb hr (fun t ht hW => ⟨⟨(L16, K18, F30), rfl, ⟨⟨hsub, hX, hfr, k22, hI, hLk, hks⟩, ⟨q1, q15, o31, k25, k28⟩⟩, by rw [ht]; exact hP, va_K.moved hW.alike hK, hD⟩, hS.F ht⟩) hS.2.2 dX1_init_19

set_option maxHeartbeats 4000000 in
set_option maxRecDepth 100000 in
/-- Program(), the current one -/
theorem n_X2_initP (l : Launch) (dC : Nat → ClassId) (dI : Nat → Nat → Nat) (sz : Nat) {cs : Nat → ClassId} (L : List Nat) (K : Nat → Nat) (F : Nat → va_E) (h0 : Nat) (hh : h0 ∈ L) (hI : s_I K cs 0 F) (hLk : ∀ a, K a ≠ 0 → a ∈ L) (hk : K h0 = 0) (o0 : F h0 = .inr (2, [.null, .null, .null, .int 0, .int 0, .int 0, .int 0])) : Met l yX2_init (Cond.code yX2_init cX2_init 1 none :: T0) ({ frames := 1, cells := 43, slots := 425, locals := 12 }) (va_Pc [.ref h0] (n_W dC dI sz L F [(cs 0, .int), (cs 1, .byte), (cs 2, .long), (cs 3, .object RX5), (cs 4, .object RX4), (cs 5, .array .int), (cs 6, .char), (cs 7, .boolean)])) (va_Qv (fun (u : List Nat × (Nat → Nat) × (Nat → va_E)) => n_Q cs L K F h0 0 [22, 23, 24, 25] u ∧ (∃ r f p : Nat, u.2.2 h0 = .inr (2, [.ref r, .ref f, .ref p, .int 0, .int 0, .int 0, .int 0]) ∧ u.2.2 r = .inl (cs 5, 40, .inr (.inr (.inr (.inr (fun j => some (r + 1 + j)))))) ∧ u.2.1 r = 22 ∧ r ∉ L ∧ u.2.1 f = 24 ∧ u.2.1 p = 25 ∧ (∀ a, u.2.1 a = 22 → K a = 22 ∨ a = r))) (fun (u : List Nat × (Nat → Nat) × (Nat → va_E)) (t : State) => va_P (dC, dI) vwCl (va_pl u.1 u.2.2) t.heap ∧ va_K (dC, dI) vwCl [(cs 0, .int), (cs 1, .byte), (cs 2, .long), (cs 3, .object RX5), (cs 4, .object RX4), (cs 5, .array .int), (cs 6, .char), (cs 7, .boolean)] t ∧ ∀ G, va_D (n_A L sz) (va_pl u.1 G)) (n_A L sz)) 43 425 (n_A L sz) := by
  refine Met.ofW (cc := cX2_init) (maxL := 1) (ret := none) (by decide) rfl ?_
  intro p e s m args below meth c s₁ B hml hv
  obtain ⟨rfl, hsz, hP, hK, hD, hN⟩ := hv
  have hx := B.exec
  have hb := B.bytes
  have hr := B.returns
  have hts : ∀ w ∈ T0, w.before _ s = true := fun w h => atoms_spec (ws := Cond.code yX2_init cX2_init 1 none :: T0) B.pre w (List.mem_cons_of_mem _ h)
  have hown : s.vm.findClass RX2 = some m.cls := findClass_of_methodNamed B.named
  have hlocks := B.notSynchronized
  have hin : meth.name = "<init>" := (name_of_methodNamed B.named B.method).1
  subst hsz
  generalize hAe : n_A L s.heap.size = A at hD ⊢
  have hA : ∀ q : Nat, s.heap.size ≤ q → A q := fun q h => by rw [← hAe]; exact Or.inr h
  have hS : va_S A s.heap s.heap [] := va_S.rf
  have hl := lv_entry ([.ref h0]) (n := 1) (Nat.le_of_ble_eq_true rfl)
  rw [lg_entry_eq]
  generalize (lg_sl ([.ref h0]) ++ List.replicate (1 - (lg_sl ([.ref h0])).length) Slot.unset).toArray = ls at hl ⊢
  have hl : lv_has ls 1 [(0, .ref h0)] := hl
  have hsub : ∀ a ∈ L, a ∈ L := fun _ h => h
  have hfr : ∀ a ∈ L, a ≠ h0 → F a = F a ∧ K a = K a := fun _ _ _ => ⟨rfl, rfl⟩
  have hX : n_X K K := n_Xr K
  have hLk0 := hLk
  have hks : ∀ a, K a = K a ∨ K a ∈ [22, 23, 24, 25] := fun a => Or.inl rfl
  refine s_gen hP hS (fun H locs hP hS => ?_)
  refine lv_aload_n hx hb dX2_init_0 rfl (lv_at hl 0 rfl) ?_
  refine W.objInit hx hb hown (hts _ T_122) (hts _ T_98) (hts _ T_0) rfl (by rw [hml]; exact hl.1) rfl dX2_init_1 (Nat.le_of_ble_eq_true rfl) (Nat.le_of_ble_eq_true rfl) ?_
  refine W.eq (g2 := F0 m 4 ls []) rfl ?_
  refine lv_aload_n hx hb dX2_init_4 rfl (lv_at hl 0 rfl) ?_
  refine lv_bipush (v := 40) hx hb dX2_init_5 (by decide) ?_
  refine lv_bipush (v := 7) hx hb dX2_init_7 (by decide) ?_
  refine n_mna hx hb hown (hts _ T_123) (ax_n2 hN) (hts _ T_99) hK hP hD hS hA 5 0 rfl rfl (Nat.le_of_ble_eq_true rfl) (Nat.le_of_ble_eq_true rfl) dX2_init_9 (fun q1 H hq hP hD hS => ?_)
  obtain ⟨hI, hLk, hX1⟩ := n_addM 22 23 (by decide) hI hLk hq
  obtain ⟨L2, hL2⟩ : ∃ M, M = n_mL L q1 := ⟨_, rfl⟩
  obtain ⟨F3, hF3⟩ : ∃ M : Nat → va_E, M = n_mF F q1 (cs 5) (cs 0) := ⟨_, rfl⟩
  obtain ⟨K4, hK4⟩ : ∃ M, M = n_mK K q1 22 23 := ⟨_, rfl⟩
  rw [← hL2, ← hF3] at hP
  rw [← hL2] at hD hLk
  rw [← hK4, ← hF3] at hI
  rw [← hK4] at hLk hX1
  have ne5 : q1 ≠ h0 := fun h => by have q9 := hq _ hh; omega
  have m6 : h0 ∈ L2 := by rw [hL2, n_mLm]; exact Or.inl hh
  have k7 : K4 h0 = 0 := by rw [hK4, n_mKo (hq _ hh)]; exact hk
  have o8 : F3 h0 = .inr (2, [.null, .null, .null, .int 0, .int 0, .int 0, .int 0]) := by rw [hF3, n_mFo (hq _ hh)]; exact o0
  have m9 : q1 ∈ L2 := by rw [hL2, n_mLm]; exact Or.inr (by omega)
  have k10 : K4 q1 = 22 := by rw [hK4]; exact n_mKq
  have o11 : F3 q1 = .inl (cs 5, 40, .inr (.inr (.inr (.inr (fun j => some (q1 + 1 + j)))))) := by rw [hF3]; exact if_pos rfl
  have nl12 : q1 ∉ L := fun h => by have q9 := hq _ (hsub _ h); omega
  have hfr : ∀ a ∈ L, a ≠ h0 → F3 a = F a ∧ K4 a = K a := fun a ha hne => ⟨by rw [hF3, n_mFo (hq _ (hsub a ha))] <;> exact (hfr a ha hne).1, by rw [hK4, n_mKo (hq _ (hsub a ha))] <;> exact (hfr a ha hne).2⟩
  have hsub : ∀ a ∈ L, a ∈ L2 := fun a ha => by rw [hL2, n_mLm]; exact Or.inl (hsub a ha)
  have hX : n_X K K4 := n_Xt hX hX1
  have hks : ∀ a, K4 a = K a ∨ K4 a ∈ [22, 23, 24, 25] := fun a => by rw [hK4]; unfold n_mK; split; (right; decide); split; (right; decide); exact hks a
  refine W.widen (k := 41) (n := 320) (Nat.le_of_ble_eq_true rfl) (Nat.le_of_ble_eq_true rfl) ?_
  have hu22 : ∀ a, K4 a = 22 → K a = 22 ∨ a = q1 := fun a h9 => by rw [hK4] at h9; rcases n_um h9 (by decide) with w | w; (exact Or.inr w); exact Or.inl w
  refine n_putF (D := (dC, dI)) (ci := 2) (v := .ref q1) (ty := .array (.array .int)) (C := RX2) (T := TX2) (N := 7) hx hb hts inX2 tyX2 tyX2_ok nmX2 hown hK hP hD hS m6 o8 rfl 0 (by decide) (hts _ T_124) (fun _ h9 => h9) rfl hin rfl (by decide +kernel) rfl rfl (Nat.le_of_ble_eq_true rfl) dX2_init_13 (fun H locs hP hS => ?_)
  have hP : va_P (dC, dI) vwCl (va_pl L2 (va_up F3 h0 (.inr (2, [.ref q1, .null, .null, .int 0, .int 0, .int 0, .int 0])))) H := hP
  obtain ⟨F13, hF13⟩ : ∃ M : Nat → va_E, M = va_up F3 h0 (.inr (2, [.ref q1, .null, .null, .int 0, .int 0, .int 0, .int 0])) := ⟨_, rfl⟩
  rw [← hF13] at hP
  have hI : s_I K4 cs 0 F13 := by rw [hF13]; exact n_put0 hI k7
  have o14 : F13 q1 = .inl (cs 5, 40, .inr (.inr (.inr (.inr (fun j => some (q1 + 1 + j)))))) := by rw [hF13]; exact th_ne ne5 o11
  have o15 : F13 h0 = .inr (2, [.ref q1, .null, .null, .int 0, .int 0, .int 0, .int 0]) := by rw [hF13]; exact th_up
  have hfr : ∀ a ∈ L, a ≠ h0 → F13 a = F a ∧ K4 a = K a := fun a ha hne => ⟨by rw [hF13]; exact th_ne hne (hfr a ha hne).1, (hfr a ha hne).2⟩
  refine lv_aload_n hx hb dX2_init_16 rfl (lv_at hl 0 rfl) ?_
  refine lv_bipush (v := 64) hx hb dX2_init_17 (by decide) ?_
  refine n_newa (atype := .int) (a0 := (64, .inl (fun _ => 0))) hx hb (hts _ T_99) rfl hK hP hD hS hA 0 rfl (fun _ => rfl) (by decide) (by decide) (Nat.le_of_ble_eq_true rfl) (Nat.le_of_ble_eq_true rfl) (Nat.le_of_ble_eq_true rfl) dX2_init_19 (fun q16 H hq hP hD hS => ?_)
  obtain ⟨L17, hL17⟩ : ∃ M, M = L2 ++ [q16] := ⟨_, rfl⟩
  rw [← hL17] at hP hD
  obtain ⟨F18, hF18⟩ : ∃ M : Nat → va_E, M = va_up F13 q16 (.inl (cs 0, 64, .inl (fun _ => 0))) := ⟨_, rfl⟩
  rw [← hF18] at hP
  obtain ⟨hI, hLk, hX1⟩ := n_add (c := 24) hI hLk hq (show ok_24 cs _ from ⟨_, rfl, trivial⟩)
  obtain ⟨K19, hK19⟩ : ∃ M, M = va_up K4 q16 24 := ⟨_, rfl⟩
  rw [← hK19, ← hF18] at hI
  rw [← hK19, ← hL17] at hLk
  rw [← hK19] at hX1
  have ne20 : q16 ≠ h0 := fun h => hq (h ▸ m6)
  have ne21 : q16 ≠ q1 := fun h => hq (h ▸ m9)
  have m22 : h0 ∈ L17 := by rw [hL17]; exact List.mem_append_left _ m6
  have k23 : K19 h0 = 0 := by rw [hK19]; exact th_ne (Ne.symm ne20) k7
  have o24 : F18 h0 = .inr (2, [.ref q1, .null, .null, .int 0, .int 0, .int 0, .int 0]) := by rw [hF18]; exact th_ne (Ne.symm ne20) o15
  have m25 : q1 ∈ L17 := by rw [hL17]; exact List.mem_append_left _ m9
  have k26 : K19 q1 = 22 := by rw [hK19]; exact th_ne (Ne.symm ne21) k10
  have o27 : F18 q1 = .inl (cs 5, 40, .inr (.inr (.inr (.inr (fun j => some (q1 + 1 + j)))))) := by rw [hF18]; exact th_ne (Ne.symm ne21) o14
  have m28 : q16 ∈ L17 := by rw [hL17]; exact List.mem_append_right _ (List.mem_singleton.mpr rfl)
  have o29 : F18 q16 = (.inl (cs 0, 64, .inl (fun _ => 0))) := by rw [hF18]; exact th_up
  have k30 : K19 q16 = 24 := by rw [hK19]; exact th_up
  have nl31 : q16 ∉ L := fun h => hq (hsub q16 h)
  have hfr : ∀ a ∈ L, a ≠ h0 → F18 a = F a ∧ K19 a = K a := fun a ha hne => ⟨by rw [hF18]; exact th_ne (fun h => nl31 (h ▸ ha)) (hfr a ha hne).1, by rw [hK19]; exact th_ne (fun h => nl31 (h ▸ ha)) (hfr a ha hne).2⟩
  have hsub : ∀ a ∈ L, a ∈ L17 := fun a ha => by rw [hL17]; exact List.mem_append_left _ (hsub a ha)
  have hX : n_X K K19 := n_Xt hX hX1
  have hks : ∀ a, K19 a = K a ∨ K19 a ∈ [22, 23, 24, 25] := fun a => by rw [hK19]; by_cases e9 : a = q16; (rw [e9, th_up]; right; decide); rw [show va_up K4 q16 24 a = K4 a from if_neg e9]; exact hks a
  have hu22 : ∀ a, K19 a = 22 → K a = 22 ∨ a = q1 := fun a h9 => by rw [hK19] at h9; exact (n_uu h9).elim (fun w => absurd w.2 (by decide)) (hu22 a)
  refine W.widen (k := 42) (n := 384) (Nat.le_of_ble_eq_true rfl) (Nat.le_of_ble_eq_true rfl) ?_
  refine n_putF (D := (dC, dI)) (ci := 2) (v := .ref q16) (ty := .array .int) (C := RX2) (T := TX2) (N := 7) hx hb hts inX2 tyX2 tyX2_ok nmX2 hown hK hP hD hS m22 o24 rfl 1 (by decide) (hts _ T_125) (fun _ h9 => h9) rfl hin rfl (by decide +kernel) rfl rfl (Nat.le_of_ble_eq_true rfl) dX2_init_21 (fun H locs hP hS => ?_)
  have hP : va_P (dC, dI) vwCl (va_pl L17 (va_up F18 h0 (.inr (2, [.ref q1, .ref q16, .null, .int 0, .int 0, .int 0, .int 0])))) H := hP
  obtain ⟨F32, hF32⟩ : ∃ M : Nat → va_E, M = va_up F18 h0 (.inr (2, [.ref q1, .ref q16, .null, .int 0, .int 0, .int 0, .int 0])) := ⟨_, rfl⟩
  rw [← hF32] at hP
  have hI : s_I K19 cs 0 F32 := by rw [hF32]; exact n_put0 hI k23
  have o33 : F32 q1 = .inl (cs 5, 40, .inr (.inr (.inr (.inr (fun j => some (q1 + 1 + j)))))) := by rw [hF32]; exact th_ne ne5 o27
  have o34 : F32 h0 = .inr (2, [.ref q1, .ref q16, .null, .int 0, .int 0, .int 0, .int 0]) := by rw [hF32]; exact th_up
  have hfr : ∀ a ∈ L, a ≠ h0 → F32 a = F a ∧ K19 a = K a := fun a ha hne => ⟨by rw [hF32]; exact th_ne hne (hfr a ha hne).1, (hfr a ha hne).2⟩
  refine lv_aload_n hx hb dX2_init_24 rfl (lv_at hl 0 rfl) ?_
  refine lv_bipush (v := 41) hx hb dX2_init_25 (by decide) ?_
  refine n_newa (atype := .long) (a0 := (41, .inr (.inl (fun _ => 0)))) hx hb (hts _ T_126) rfl hK hP hD hS hA 2 rfl (fun _ => rfl) (by decide) (by decide) (Nat.le_of_ble_eq_true rfl) (Nat.le_of_ble_eq_true rfl) (Nat.le_of_ble_eq_true rfl) dX2_init_27 (fun q35 H hq hP hD hS => ?_)
  obtain ⟨L36, hL36⟩ : ∃ M, M = L17 ++ [q35] := ⟨_, rfl⟩
  rw [← hL36] at hP hD
  obtain ⟨F37, hF37⟩ : ∃ M : Nat → va_E, M = va_up F32 q35 (.inl (cs 2, 41, .inr (.inl (fun _ => 0)))) := ⟨_, rfl⟩
  rw [← hF37] at hP
  obtain ⟨hI, hLk, hX1⟩ := n_add (c := 25) hI hLk hq (show ok_25 cs _ from ⟨_, rfl, trivial⟩)
  obtain ⟨K38, hK38⟩ : ∃ M, M = va_up K19 q35 25 := ⟨_, rfl⟩
  rw [← hK38, ← hF37] at hI
  rw [← hK38, ← hL36] at hLk
  rw [← hK38] at hX1
  have ne39 : q35 ≠ h0 := fun h => hq (h ▸ m22)
  have ne40 : q35 ≠ q1 := fun h => hq (h ▸ m25)
  have ne41 : q35 ≠ q16 := fun h => hq (h ▸ m28)
  have m42 : h0 ∈ L36 := by rw [hL36]; exact List.mem_append_left _ m22
  have k43 : K38 h0 = 0 := by rw [hK38]; exact th_ne (Ne.symm ne39) k23
  have o44 : F37 h0 = .inr (2, [.ref q1, .ref q16, .null, .int 0, .int 0, .int 0, .int 0]) := by rw [hF37]; exact th_ne (Ne.symm ne39) o34
  have m45 : q1 ∈ L36 := by rw [hL36]; exact List.mem_append_left _ m25
  have k46 : K38 q1 = 22 := by rw [hK38]; exact th_ne (Ne.symm ne40) k26
  have o47 : F37 q1 = .inl (cs 5, 40, .inr (.inr (.inr (.inr (fun j => some (q1 + 1 + j)))))) := by rw [hF37]; exact th_ne (Ne.symm ne40) o33
  have m48 : q16 ∈ L36 := by rw [hL36]; exact List.mem_append_left _ m28
  have k49 : K38 q16 = 24 := by rw [hK38]; exact th_ne (Ne.symm ne41) k30
  have m50 : q35 ∈ L36 := by rw [hL36]; exact List.mem_append_right _ (List.mem_singleton.mpr rfl)
  have o51 : F37 q35 = (.inl (cs 2, 41, .inr (.inl (fun _ => 0)))) := by rw [hF37]; exact th_up
  have k52 : K38 q35 = 25 := by rw [hK38]; exact th_up
  have nl53 : q35 ∉ L := fun h => hq (hsub q35 h)
  have hfr : ∀ a ∈ L, a ≠ h0 → F37 a = F a ∧ K38 a = K a := fun a ha hne => ⟨by rw [hF37]; exact th_ne (fun h => nl53 (h ▸ ha)) (hfr a ha hne).1, by rw [hK38]; exact th_ne (fun h => nl53 (h ▸ ha)) (hfr a ha hne).2⟩
  have hsub : ∀ a ∈ L, a ∈ L36 := fun a ha => by rw [hL36]; exact List.mem_append_left _ (hsub a ha)
  have hX : n_X K K38 := n_Xt hX hX1
  have hks : ∀ a, K38 a = K a ∨ K38 a ∈ [22, 23, 24, 25] := fun a => by rw [hK38]; by_cases e9 : a = q35; (rw [e9, th_up]; right; decide); rw [show va_up K19 q35 25 a = K19 a from if_neg e9]; exact hks a
  have hu22 : ∀ a, K38 a = 22 → K a = 22 ∨ a = q1 := fun a h9 => by rw [hK38] at h9; exact (n_uu h9).elim (fun w => absurd w.2 (by decide)) (hu22 a)
  refine W.widen (k := 43) (n := 425) (Nat.le_of_ble_eq_true rfl) (Nat.le_of_ble_eq_true rfl) ?_
  refine n_putF (D := (dC, dI)) (ci := 2) (v := .ref q35) (ty := .array .long) (C := RX2) (T := TX2) (N := 7) hx hb hts inX2 tyX2 tyX2_ok nmX2 hown hK hP hD hS m42 o44 rfl 2 (by decide) (hts _ T_127) (fun _ h9 => h9) rfl hin rfl (by decide +kernel) rfl rfl (Nat.le_of_ble_eq_true rfl) dX2_init_29 (fun H locs hP hS => ?_)
  have hP : va_P (dC, dI) vwCl (va_pl L36 (va_up F37 h0 (.inr (2, [.ref q1, .ref q16, .ref q35, .int 0, .int 0, .int 0, .int 0])))) H := hP
  obtain ⟨F54, hF54⟩ : ∃ M : Nat → va_E, M = va_up F37 h0 (.inr (2, [.ref q1, .ref q16, .ref q35, .int 0, .int 0, .int 0, .int 0])) := ⟨_, rfl⟩
  rw [← hF54] at hP
  have hI : s_I K38 cs 0 F54 := by rw [hF54]; exact n_put0 hI k43
  have o55 : F54 q1 = .inl (cs 5, 40, .inr (.inr (.inr (.inr (fun j => some (q1 + 1 + j)))))) := by rw [hF54]; exact th_ne ne5 o47
  have o56 : F54 h0 = .inr (2, [.ref q1, .ref q16, .ref q35, .int 0, .int 0, .int 0, .int 0]) := by rw [hF54]; exact th_up
  have hfr : ∀ a ∈ L, a ≠ h0 → F54 a = F a ∧ K38 a = K a := fun a ha hne => ⟨by rw [hF54]; exact th_ne hne (hfr a ha hne).1, (hfr a ha hne).2⟩
  exact W.vret hx hb hr (fun t ht hW => ⟨⟨(L36, K38, F54), rfl, ⟨⟨hsub, hX, hfr, k43, hI, hLk, hks⟩, ⟨q1, q16, q35, o56, o55, k46, nl12, k49, k52, hu22⟩⟩, by rw [ht]; exact hP, va_K.moved hW.alike hK, hD⟩, hS.F ht⟩) hS.2.2 dX2_init_32

set_option maxHeartbeats 4000000 in
set_option maxRecDepth 100000 in
/-- Program(), the spare one -/
theorem n_X2_initQ (l : Launch) (dC : Nat → ClassId) (dI : Nat → Nat → Nat) (sz : Nat) {cs : Nat → ClassId} (L : List Nat) (K : Nat → Nat) (F : Nat → va_E) (h0 : Nat) (hh : h0 ∈ L) (hI : s_I K cs 0 F) (hLk : ∀ a, K a ≠ 0 → a ∈ L) (hk : K h0 = 0) (o0 : F h0 = .inr (2, [.null, .null, .null, .int 0, .int 0, .int 0, .int 0])) : Met l yX2_init (Cond.code yX2_init cX2_init 1 none :: T0) ({ frames := 1, cells := 43, slots := 425, locals := 12 }) (va_Pc [.ref h0] (n_W dC dI sz L F [(cs 0, .int), (cs 1, .byte), (cs 2, .long), (cs 3, .object RX5), (cs 4, .object RX4), (cs 5, .array .int), (cs 6, .char), (cs 7, .boolean)])) (va_Qv (fun (u : List Nat × (Nat → Nat) × (Nat → va_E)) => n_Q cs L K F h0 0 [24, 25, 42, 43] u ∧ (∃ r f p : Nat, u.2.2 h0 = .inr (2, [.ref r, .ref f, .ref p, .int 0, .int 0, .int 0, .int 0]) ∧ u.2.2 r = .inl (cs 5, 40, .inr (.inr (.inr (.inr (fun j => some (r + 1 + j)))))) ∧ u.2.1 r = 42 ∧ r ∉ L ∧ u.2.1 f = 24 ∧ u.2.1 p = 25 ∧ (∀ a, u.2.1 a = 42 → K a = 42 ∨ a = r))) (fun (u : List Nat × (Nat → Nat) × (Nat → va_E)) (t : State) => va_P (dC, dI) vwCl (va_pl u.1 u.2.2) t.heap ∧ va_K (dC, dI) vwCl [(cs 0, .int), (cs 1, .byte), (cs 2, .long), (cs 3, .object RX5), (cs 4, .object RX4), (cs 5, .array .int), (cs 6, .char), (cs 7, .boolean)] t ∧ ∀ G, va_D (n_A L sz) (va_pl u.1 G)) (n_A L sz)) 43 425 (n_A L sz) := by
  refine Met.ofW (cc := cX2_init) (maxL := 1) (ret := none) (by decide) rfl ?_
  intro p e s m args below meth c s₁ B hml hv
  obtain ⟨rfl, hsz, hP, hK, hD, hN⟩ := hv
  have hx := B.exec
  have hb := B.bytes
  have hr := B.returns
  have hts : ∀ w ∈ T0, w.before _ s = true := fun w h => atoms_spec (ws := Cond.code yX2_init cX2_init 1 none :: T0) B.pre w (List.mem_cons_of_mem _ h)
  have hown : s.vm.findClass RX2 = some m.cls := findClass_of_methodNamed B.named
  have hlocks := B.notSynchronized
  have hin : meth.name = "<init>" := (name_of_methodNamed B.named B.method).1
  subst hsz
  generalize hAe : n_A L s.heap.size = A at hD ⊢
  have hA : ∀ q : Nat, s.heap.size ≤ q → A q := fun q h => by rw [← hAe]; exact Or.inr h
  have hS : va_S A s.heap s.heap [] := va_S.rf
  have hl := lv_entry ([.ref h0]) (n := 1) (Nat.le_of_ble_eq_true rfl)
  rw [lg_entry_eq]
  generalize (lg_sl ([.ref h0]) ++ List.replicate (1 - (lg_sl ([.ref h0])).length) Slot.unset).toArray = ls at hl ⊢
  have hl : lv_has ls 1 [(0, .ref h0)] := hl
  have hsub : ∀ a ∈ L, a ∈ L := fun _ h => h
  have hfr : ∀ a ∈ L, a ≠ h0 → F a = F a ∧ K a = K a := fun _ _ _ => ⟨rfl, rfl⟩
  have hX : n_X K K := n_Xr K
  have hLk0 := hLk
  have hks : ∀ a, K a = K a ∨ K a ∈ [24, 25, 42, 43] := fun a => Or.inl rfl
  refine s_gen hP hS (fun H locs hP hS => ?_)
  refine lv_aload_n hx hb dX2_init_0 rfl (lv_at hl 0 rfl) ?_
  refine W.objInit hx hb hown (hts _ T_122) (hts _ T_98) (hts _ T_0) rfl (by rw [hml]; exact hl.1) rfl dX2_init_1 (Nat.le_of_ble_eq_true rfl) (Nat.le_of_ble_eq_true rfl) ?_
  refine W.eq (g2 := F0 m 4 ls []) rfl ?_
  refine lv_aload_n hx hb dX2_init_4 rfl (lv_at hl 0 rfl) ?_
  refine lv_bipush (v := 40) hx hb dX2_init_5 (by decide) ?_
  refine lv_bipush (v := 7) hx hb dX2_init_7 (by decide) ?_
  refine n_mna hx hb hown (hts _ T_123) (ax_n2 hN) (hts _ T_99) hK hP hD hS hA 5 0 rfl rfl (Nat.le_of_ble_eq_true rfl) (Nat.le_of_ble_eq_true rfl) dX2_init_9 (fun q1 H hq hP hD hS => ?_)
  obtain ⟨hI, hLk, hX1⟩ := n_addM 42 43 (by decide) hI hLk hq
  obtain ⟨L2, hL2⟩ : ∃ M, M = n_mL L q1 := ⟨_, rfl⟩
  obtain ⟨F3, hF3⟩ : ∃ M : Nat → va_E, M = n_mF F q1 (cs 5) (cs 0) := ⟨_, rfl⟩
  obtain ⟨K4, hK4⟩ : ∃ M, M = n_mK K q1 42 43 := ⟨_, rfl⟩
  rw [← hL2, ← hF3] at hP
  rw [← hL2] at hD hLk
  rw [← hK4, ← hF3] at hI
  rw [← hK4] at hLk hX1
  have ne5 : q1 ≠ h0 := fun h => by have q9 := hq _ hh; omega
  have m6 : h0 ∈ L2 := by rw [hL2, n_mLm]; exact Or.inl hh
  have k7 : K4 h0 = 0 := by rw [hK4, n_mKo (hq _ hh)]; exact hk
  have o8 : F3 h0 = .inr (2, [.null, .null, .null, .int 0, .int 0, .int 0, .int 0]) := by rw [hF3, n_mFo (hq _ hh)]; exact o0
  have m9 : q1 ∈ L2 := by rw [hL2, n_mLm]; exact Or.inr (by omega)
  have k10 : K4 q1 = 42 := by rw [hK4]; exact n_mKq
  have o11 : F3 q1 = .inl (cs 5, 40, .inr (.inr (.inr (.inr (fun j => some (q1 + 1 + j)))))) := by rw [hF3]; exact if_pos rfl
  have nl12 : q1 ∉ L := fun h => by have q9 := hq _ (hsub _ h); omega
  have hfr : ∀ a ∈ L, a ≠ h0 → F3 a = F a ∧ K4 a = K a := fun a ha hne => ⟨by rw [hF3, n_mFo (hq _ (hsub a ha))] <;> exact (hfr a ha hne).1, by rw [hK4, n_mKo (hq _ (hsub a ha))] <;> exact (hfr a ha hne).2⟩
  have hsub : ∀ a ∈ L, a ∈ L2 := fun a ha => by rw [hL2, n_mLm]; exact Or.inl (hsub a ha)
  have hX : n_X K K4 := n_Xt hX hX1
  have hks : ∀ a, K4 a = K a ∨ K4 a ∈ [24, 25, 42, 43] := fun a => by rw [hK4]; unfold n_mK; split; (right; decide); split; (right; decide); exact hks a
  refine W.widen (k := 41) (n := 320) (Nat.le_of_ble_eq_true rfl) (Nat.le_of_ble_eq_true rfl) ?_
  have hu42 : ∀ a, K4 a = 42 → K a = 42 ∨ a = q1 := fun a h9 => by rw [hK4] at h9; rcases n_um h9 (by decide) with w | w; (exact Or.inr w); exact Or.inl w
  refine n_putF (D := (dC, dI)) (ci := 2) (v := .ref q1) (ty := .array (.array .int)) (C := RX2) (T := TX2) (N := 7) hx hb hts inX2 tyX2 tyX2_ok nmX2 hown hK hP hD hS m6 o8 rfl 0 (by decide) (hts _ T_124) (fun _ h9 => h9) rfl hin rfl (by decide +kernel) rfl rfl (Nat.le_of_ble_eq_true rfl) dX2_init_13 (fun H locs hP hS => ?_)
  have hP : va_P (dC, dI) vwCl (va_pl L2 (va_up F3 h0 (.inr (2, [.ref q1, .null, .null, .int 0, .int 0, .int 0, .int 0])))) H := hP
  obtain ⟨F13, hF13⟩ : ∃ M : Nat → va_E, M = va_up F3 h0 (.inr (2, [.ref q1, .null, .null, .int 0, .int 0, .int 0, .int 0])) := ⟨_, rfl⟩
  rw [← hF13] at hP
  have hI : s_I K4 cs 0 F13 := by rw [hF13]; exact n_put0 hI k7
  have o14 : F13 q1 = .inl (cs 5, 40, .inr (.inr (.inr (.inr (fun j => some (q1 + 1 + j)))))) := by rw [hF13]; exact th_ne ne5 o11
  have o15 : F13 h0 = .inr (2, [.ref q1, .null, .null, .int 0, .int 0, .int 0, .int 0]) := by rw [hF13]; exact th_up
  have hfr : ∀ a ∈ L, a ≠ h0 → F13 a = F a ∧ K4 a = K a := fun a ha hne => ⟨by rw [hF13]; exact th_ne hne (hfr a ha hne).1, (hfr a ha hne).2⟩
  refine lv_aload_n hx hb dX2_init_16 rfl (lv_at hl 0 rfl) ?_
  refine lv_bipush (v := 64) hx hb dX2_init_17 (by decide) ?_
  refine n_newa (atype := .int) (a0 := (64, .inl (fun _ => 0))) hx hb (hts _ T_99) rfl hK hP hD hS hA 0 rfl (fun _ => rfl) (by decide) (by decide) (Nat.le_of_ble_eq_true rfl) (Nat.le_of_ble_eq_true rfl) (Nat.le_of_ble_eq_true rfl) dX2_init_19 (fun q16 H hq hP hD hS => ?_)
  obtain ⟨L17, hL17⟩ : ∃ M, M = L2 ++ [q16] := ⟨_, rfl⟩
  rw [← hL17] at hP hD
  obtain ⟨F18, hF18⟩ : ∃ M : Nat → va_E, M = va_up F13 q16 (.inl (cs 0, 64, .inl (fun _ => 0))) := ⟨_, rfl⟩
  rw [← hF18] at hP
  obtain ⟨hI, hLk, hX1⟩ := n_add (c := 24) hI hLk hq (show ok_24 cs _ from ⟨_, rfl, trivial⟩)
  obtain ⟨K19, hK19⟩ : ∃ M, M = va_up K4 q16 24 := ⟨_, rfl⟩
  rw [← hK19, ← hF18] at hI
  rw [← hK19, ← hL17] at hLk
  rw [← hK19] at hX1
  have ne20 : q16 ≠ h0 := fun h => hq (h ▸ m6)
  have ne21 : q16 ≠ q1 := fun h => hq (h ▸ m9)
  have m22 : h0 ∈ L17 := by rw [hL17]; exact List.mem_append_left _ m6
  have k23 : K19 h0 = 0 := by rw [hK19]; exact th_ne (Ne.symm ne20) k7
  have o24 : F18 h0 = .inr (2, [.ref q1, .null, .null, .int 0, .int 0, .int 0, .int 0]) := by rw [hF18]; exact th_ne (Ne.symm ne20) o15
  have m25 : q1 ∈ L17 := by rw [hL17]; exact List.mem_append_left _ m9
  have k26 : K19 q1 = 42 := by rw [hK19]; exact th_ne (Ne.symm ne21) k10
  have o27 : F18 q1 = .inl (cs 5, 40, .inr (.inr (.inr (.inr (fun j => some (q1 + 1 + j)))))) := by rw [hF18]; exact th_ne (Ne.symm ne21) o14
  have m28 : q16 ∈ L17 := by rw [hL17]; exact List.mem_append_right _ (List.mem_singleton.mpr rfl)
  have o29 : F18 q16 = (.inl (cs 0, 64, .inl (fun _ => 0))) := by rw [hF18]; exact th_up
  have k30 : K19 q16 = 24 := by rw [hK19]; exact th_up
  have nl31 : q16 ∉ L := fun h => hq (hsub q16 h)
  have hfr : ∀ a ∈ L, a ≠ h0 → F18 a = F a ∧ K19 a = K a := fun a ha hne => ⟨by rw [hF18]; exact th_ne (fun h => nl31 (h ▸ ha)) (hfr a ha hne).1, by rw [hK19]; exact th_ne (fun h => nl31 (h ▸ ha)) (hfr a ha hne).2⟩
  have hsub : ∀ a ∈ L, a ∈ L17 := fun a ha => by rw [hL17]; exact List.mem_append_left _ (hsub a ha)
  have hX : n_X K K19 := n_Xt hX hX1
  have hks : ∀ a, K19 a = K a ∨ K19 a ∈ [24, 25, 42, 43] := fun a => by rw [hK19]; by_cases e9 : a = q16; (rw [e9, th_up]; right; decide); rw [show va_up K4 q16 24 a = K4 a from if_neg e9]; exact hks a
  have hu42 : ∀ a, K19 a = 42 → K a = 42 ∨ a = q1 := fun a h9 => by rw [hK19] at h9; exact (n_uu h9).elim (fun w => absurd w.2 (by decide)) (hu42 a)
  refine W.widen (k := 42) (n := 384) (Nat.le_of_ble_eq_true rfl) (Nat.le_of_ble_eq_true rfl) ?_
  refine n_putF (D := (dC, dI)) (ci := 2) (v := .ref q16) (ty := .array .int) (C := RX2) (T := TX2) (N := 7) hx hb hts inX2 tyX2 tyX2_ok nmX2 hown hK hP hD hS m22 o24 rfl 1 (by decide) (hts _ T_125) (fun _ h9 => h9) rfl hin rfl (by decide +kernel) rfl rfl (Nat.le_of_ble_eq_true rfl) dX2_init_21 (fun H locs hP hS => ?_)
  have hP : va_P (dC, dI) vwCl (va_pl L17 (va_up F18 h0 (.inr (2, [.ref q1, .ref q16, .null, .int 0, .int 0, .int 0, .int 0])))) H := hP
  obtain ⟨F32, hF32⟩ : ∃ M : Nat → va_E, M = va_up F18 h0 (.inr (2, [.ref q1, .ref q16, .null, .int 0, .int 0, .int 0, .int 0])) := ⟨_, rfl⟩
  rw [← hF32] at hP
  have hI : s_I K19 cs 0 F32 := by rw [hF32]; exact n_put0 hI k23
  have o33 : F32 q1 = .inl (cs 5, 40, .inr (.inr (.inr (.inr (fun j => some (q1 + 1 + j)))))) := by rw [hF32]; exact th_ne ne5 o27
  have o34 : F32 h0 = .inr (2, [.ref q1, .ref q16, .null, .int 0, .int 0, .int 0, .int 0]) := by rw [hF32]; exact th_up
  have hfr : ∀ a ∈ L, a ≠ h0 → F32 a = F a ∧ K19 a = K a := fun a ha hne => ⟨by rw [hF32]; exact th_ne hne (hfr a ha hne).1, (hfr a ha hne).2⟩
  refine lv_aload_n hx hb dX2_init_24 rfl (lv_at hl 0 rfl) ?_
  refine lv_bipush (v := 41) hx hb dX2_init_25 (by decide) ?_
  refine n_newa (atype := .long) (a0 := (41, .inr (.inl (fun _ => 0)))) hx hb (hts _ T_126) rfl hK hP hD hS hA 2 rfl (fun _ => rfl) (by decide) (by decide) (Nat.le_of_ble_eq_true rfl) (Nat.le_of_ble_eq_true rfl) (Nat.le_of_ble_eq_true rfl) dX2_init_27 (fun q35 H hq hP hD hS => ?_)
  obtain ⟨L36, hL36⟩ : ∃ M, M = L17 ++ [q35] := ⟨_, rfl⟩
  rw [← hL36] at hP hD
  obtain ⟨F37, hF37⟩ : ∃ M : Nat → va_E, M = va_up F32 q35 (.inl (cs 2, 41, .inr (.inl (fun _ => 0)))) := ⟨_, rfl⟩
  rw [← hF37] at hP
  obtain ⟨hI, hLk, hX1⟩ := n_add (c := 25) hI hLk hq (show ok_25 cs _ from ⟨_, rfl, trivial⟩)
  obtain ⟨K38, hK38⟩ : ∃ M, M = va_up K19 q35 25 := ⟨_, rfl⟩
  rw [← hK38, ← hF37] at hI
  rw [← hK38, ← hL36] at hLk
  rw [← hK38] at hX1
  have ne39 : q35 ≠ h0 := fun h => hq (h ▸ m22)
  have ne40 : q35 ≠ q1 := fun h => hq (h ▸ m25)
  have ne41 : q35 ≠ q16 := fun h => hq (h ▸ m28)
  have m42 : h0 ∈ L36 := by rw [hL36]; exact List.mem_append_left _ m22
  have k43 : K38 h0 = 0 := by rw [hK38]; exact th_ne (Ne.symm ne39) k23
  have o44 : F37 h0 = .inr (2, [.ref q1, .ref q16, .null, .int 0, .int 0, .int 0, .int 0]) := by rw [hF37]; exact th_ne (Ne.symm ne39) o34
  have m45 : q1 ∈ L36 := by rw [hL36]; exact List.mem_append_left _ m25
  have k46 : K38 q1 = 42 := by rw [hK38]; exact th_ne (Ne.symm ne40) k26
  have o47 : F37 q1 = .inl (cs 5, 40, .inr (.inr (.inr (.inr (fun j => some (q1 + 1 + j)))))) := by rw [hF37]; exact th_ne (Ne.symm ne40) o33
  have m48 : q16 ∈ L36 := by rw [hL36]; exact List.mem_append_left _ m28
  have k49 : K38 q16 = 24 := by rw [hK38]; exact th_ne (Ne.symm ne41) k30
  have m50 : q35 ∈ L36 := by rw [hL36]; exact List.mem_append_right _ (List.mem_singleton.mpr rfl)
  have o51 : F37 q35 = (.inl (cs 2, 41, .inr (.inl (fun _ => 0)))) := by rw [hF37]; exact th_up
  have k52 : K38 q35 = 25 := by rw [hK38]; exact th_up
  have nl53 : q35 ∉ L := fun h => hq (hsub q35 h)
  have hfr : ∀ a ∈ L, a ≠ h0 → F37 a = F a ∧ K38 a = K a := fun a ha hne => ⟨by rw [hF37]; exact th_ne (fun h => nl53 (h ▸ ha)) (hfr a ha hne).1, by rw [hK38]; exact th_ne (fun h => nl53 (h ▸ ha)) (hfr a ha hne).2⟩
  have hsub : ∀ a ∈ L, a ∈ L36 := fun a ha => by rw [hL36]; exact List.mem_append_left _ (hsub a ha)
  have hX : n_X K K38 := n_Xt hX hX1
  have hks : ∀ a, K38 a = K a ∨ K38 a ∈ [24, 25, 42, 43] := fun a => by rw [hK38]; by_cases e9 : a = q35; (rw [e9, th_up]; right; decide); rw [show va_up K19 q35 25 a = K19 a from if_neg e9]; exact hks a
  have hu42 : ∀ a, K38 a = 42 → K a = 42 ∨ a = q1 := fun a h9 => by rw [hK38] at h9; exact (n_uu h9).elim (fun w => absurd w.2 (by decide)) (hu42 a)
  refine W.widen (k := 43) (n := 425) (Nat.le_of_ble_eq_true rfl) (Nat.le_of_ble_eq_true rfl) ?_
  refine n_putF (D := (dC, dI)) (ci := 2) (v := .ref q35) (ty := .array .long) (C := RX2) (T := TX2) (N := 7) hx hb hts inX2 tyX2 tyX2_ok nmX2 hown hK hP hD hS m42 o44 rfl 2 (by decide) (hts _ T_127) (fun _ h9 => h9) rfl hin rfl (by decide +kernel) rfl rfl (Nat.le_of_ble_eq_true rfl) dX2_init_29 (fun H locs hP hS => ?_)
  have hP : va_P (dC, dI) vwCl (va_pl L36 (va_up F37 h0 (.inr (2, [.ref q1, .ref q16, .ref q35, .int 0, .int 0, .int 0, .int 0])))) H := hP
  obtain ⟨F54, hF54⟩ : ∃ M : Nat → va_E, M = va_up F37 h0 (.inr (2, [.ref q1, .ref q16, .ref q35, .int 0, .int 0, .int 0, .int 0])) := ⟨_, rfl⟩
  rw [← hF54] at hP
  have hI : s_I K38 cs 0 F54 := by rw [hF54]; exact n_put0 hI k43
  have o55 : F54 q1 = .inl (cs 5, 40, .inr (.inr (.inr (.inr (fun j => some (q1 + 1 + j)))))) := by rw [hF54]; exact th_ne ne5 o47
  have o56 : F54 h0 = .inr (2, [.ref q1, .ref q16, .ref q35, .int 0, .int 0, .int 0, .int 0]) := by rw [hF54]; exact th_up
  have hfr : ∀ a ∈ L, a ≠ h0 → F54 a = F a ∧ K38 a = K a := fun a ha hne => ⟨by rw [hF54]; exact th_ne hne (hfr a ha hne).1, (hfr a ha hne).2⟩
  exact W.vret hx hb hr (fun t ht hW => ⟨⟨(L36, K38, F54), rfl, ⟨⟨hsub, hX, hfr, k43, hI, hLk, hks⟩, ⟨q1, q16, q35, o56, o55, k46, nl12, k49, k52, hu42⟩⟩, by rw [ht]; exact hP, va_K.moved hW.alike hK, hD⟩, hS.F ht⟩) hS.2.2 dX2_init_32

set_option maxHeartbeats 4000000 in
set_option maxRecDepth 100000 in
/-- Forecast() -/
theorem n_X0_init (l : Launch) (dC : Nat → ClassId) (dI : Nat → Nat → Nat) (sz : Nat) {cs : Nat → ClassId} (L : List Nat) (K : Nat → Nat) (F : Nat → va_E) (h0 : Nat) (hh : h0 ∈ L) (hI : s_I K cs 0 F) (hLk : ∀ a, K a ≠ 0 → a ∈ L) (hk : K h0 = 0) (o0 : F h0 = .inr (0, [.null, .null, .null, .null, .null, .int 0, .null, .long 0, .null, .int 0, .null, .int 0, .int 0, .int 0])) : Met l yX0_init (Cond.code yX0_init cX0_init 1 none :: T0) ({ frames := 3, cells := 102, slots := 4106, locals := 53 }) (va_Pc [.ref h0] (n_W dC dI sz L F [(cs 0, .int), (cs 1, .byte), (cs 2, .long), (cs 3, .object RX5), (cs 4, .object RX4), (cs 5, .array .int), (cs 6, .char), (cs 7, .boolean)])) (va_Qv (fun (u : List Nat × (Nat → Nat) × (Nat → va_E)) => n_Q cs L K F h0 0 [5, 6, 24, 26, 27, 28, 29, 30, 31, 32, 34, 35, 36, 37, 38] u ∧ (∃ a0 a1 a2 a3 a4 a5 a6 b0 b1 : Nat, u.2.2 h0 = .inr (0, [.ref a0, .ref a1, .ref a2, .ref a3, .ref a4, .int 0, .ref a5, .long 0, .ref a6, .int 0, .null, .int 0, .int 0, .int 0]) ∧ u.2.2 a0 = .inr (1, [.ref b0, .ref b1, .null, .null, .null, .null, .int 0, .int 0, .int 0, .int 0, .int 0, .long 0]) ∧ (a0 ∈ u.1 ∧ a0 ∉ L ∧ a0 ≠ h0 ∧ u.2.1 a0 = 0) ∧ u.2.1 a1 = 5 ∧ u.2.1 a2 = 5 ∧ u.2.1 a3 = 5 ∧ u.2.1 a4 = 36 ∧ u.2.1 a5 = 37 ∧ u.2.1 a6 = 38 ∧ u.2.1 b0 = 34 ∧ u.2.1 b1 = 35)) (fun (u : List Nat × (Nat → Nat) × (Nat → va_E)) (t : State) => va_P (dC, dI) vwCl (va_pl u.1 u.2.2) t.heap ∧ va_K (dC, dI) vwCl [(cs 0, .int), (cs 1, .byte), (cs 2, .long), (cs 3, .object RX5), (cs 4, .object RX4), (cs 5, .array .int), (cs 6, .char), (cs 7, .boolean)] t ∧ ∀ G, va_D (n_A L sz) (va_pl u.1 G)) (n_A L sz)) 102 4106 (n_A L sz) := by
  refine Met.ofW (cc := cX0_init) (maxL := 1) (ret := none) (by decide) rfl ?_
  intro p e s m args below meth c s₁ B hml hv
  obtain ⟨rfl, hsz, hP, hK, hD, hN⟩ := hv
  have hx := B.exec
  have hb := B.bytes
  have hr := B.returns
  have hts : ∀ w ∈ T0, w.before _ s = true := fun w h => atoms_spec (ws := Cond.code yX0_init cX0_init 1 none :: T0) B.pre w (List.mem_cons_of_mem _ h)
  have hown : s.vm.findClass RX0 = some m.cls := findClass_of_methodNamed B.named
  have hlocks := B.notSynchronized
  have hin : meth.name = "<init>" := (name_of_methodNamed B.named B.method).1
  subst hsz
  generalize hAe : n_A L s.heap.size = A at hD ⊢
  have hA : ∀ q : Nat, s.heap.size ≤ q → A q := fun q h => by rw [← hAe]; exact Or.inr h
  have hS : va_S A s.heap s.heap [] := va_S.rf
  have hl := lv_entry ([.ref h0]) (n := 1) (Nat.le_of_ble_eq_true rfl)
  rw [lg_entry_eq]
  generalize (lg_sl ([.ref h0]) ++ List.replicate (1 - (lg_sl ([.ref h0])).length) Slot.unset).toArray = ls at hl ⊢
  have hl : lv_has ls 1 [(0, .ref h0)] := hl
  have hsub : ∀ a ∈ L, a ∈ L := fun _ h => h
  have hfr : ∀ a ∈ L, a ≠ h0 → F a = F a ∧ K a = K a := fun _ _ _ => ⟨rfl, rfl⟩
  have hX : n_X K K := n_Xr K
  have hLk0 := hLk
  have hks : ∀ a, K a = K a ∨ K a ∈ [5, 6, 24, 26, 27, 28, 29, 30, 31, 32, 34, 35, 36, 37, 38] := fun a => Or.inl rfl
  refine s_gen hP hS (fun H locs hP hS => ?_)
  refine lv_aload_n hx hb dX0_init_0 rfl (lv_at hl 0 rfl) ?_
  refine W.objInit hx hb hown (hts _ T_134) (hts _ T_98) (hts _ T_0) rfl (by rw [hml]; exact hl.1) rfl dX0_init_1 (Nat.le_of_ble_eq_true rfl) (Nat.le_of_ble_eq_true rfl) ?_
  refine W.eq (g2 := F0 m 4 ls []) rfl ?_
  refine lv_aload_n hx hb dX0_init_4 rfl (lv_at hl 0 rfl) ?_
  refine n_new (ci := 1) (fs := [.null, .null, .null, .null, .null, .null, .int 0, .int 0, .int 0, .int 0, .int 0, .long 0]) (C := RX1) (T := TX1) (N := 12) hx hb hts inX1 tyX1 tyX1_ok hown (hts _ T_135) (hts _ T_136) (hts _ T_137) hK hP hD hS hA rfl dvX1 (Nat.le_of_ble_eq_true rfl) (Nat.le_of_ble_eq_true rfl) dX0_init_5 (fun q1 H hq hP hD hS => ?_)
  obtain ⟨L2, hL2⟩ : ∃ M, M = L ++ [q1] := ⟨_, rfl⟩
  rw [← hL2] at hP hD
  obtain ⟨F3, hF3⟩ : ∃ M : Nat → va_E, M = va_up F q1 (.inr (1, [.null, .null, .null, .null, .null, .null, .int 0, .int 0, .int 0, .int 0, .int 0, .long 0])) := ⟨_, rfl⟩
  rw [← hF3] at hP
  obtain ⟨hI, hLk, hX1⟩ := n_add (c := 0) hI hLk hq trivial
  obtain ⟨K4, hK4⟩ : ∃ M, M = va_up K q1 0 := ⟨_, rfl⟩
  rw [← hK4, ← hF3] at hI
  rw [← hK4, ← hL2] at hLk
  rw [← hK4] at hX1
  have ne5 : q1 ≠ h0 := fun h => hq (h ▸ hh)
  have m6 : h0 ∈ L2 := by rw [hL2]; exact List.mem_append_left _ hh
  have k7 : K4 h0 = 0 := by rw [hK4]; exact th_ne (Ne.symm ne5) hk
  have o8 : F3 h0 = .inr (0, [.null, .null, .null, .null, .null, .int 0, .null, .long 0, .null, .int 0, .null, .int 0, .int 0, .int 0]) := by rw [hF3]; exact th_ne (Ne.symm ne5) o0
  have m9 : q1 ∈ L2 := by rw [hL2]; exact List.mem_append_right _ (List.mem_singleton.mpr rfl)
  have o10 : F3 q1 = (.inr (1, [.null, .null, .null, .null, .null, .null, .int 0, .int 0, .int 0, .int 0, .int 0, .long 0])) := by rw [hF3]; exact th_up
  have k11 : K4 q1 = 0 := by rw [hK4]; exact th_up
  have nl12 : q1 ∉ L := fun h => hq (hsub q1 h)
  have hfr : ∀ a ∈ L, a ≠ h0 → F3 a = F a ∧ K4 a = K a := fun a ha hne => ⟨by rw [hF3]; exact th_ne (fun h => nl12 (h ▸ ha)) (hfr a ha hne).1, by rw [hK4]; exact th_ne (fun h => nl12 (h ▸ ha)) (hfr a ha hne).2⟩
  have hsub : ∀ a ∈ L, a ∈ L2 := fun a ha => by rw [hL2]; exact List.mem_append_left _ (hsub a ha)
  have hX : n_X K K4 := n_Xt hX hX1
  have hks : ∀ a, K4 a = K a ∨ K4 a ∈ [5, 6, 24, 26, 27, 28, 29, 30, 31, 32, 34, 35, 36, 37, 38] := fun a => by rw [hK4]; by_cases e9 : a = q1; (rw [e9, th_up]; left; exact (Classical.byContradiction (fun h => nl12 (hLk0 _ (fun h8 => h h8.symm))))); rw [show va_up K q1 0 a = K a from if_neg e9]; exact hks a
  refine W.widen (k := 1) (n := 12) (Nat.le_of_ble_eq_true rfl) (Nat.le_of_ble_eq_true rfl) ?_
  refine lv_dup hx hb dX0_init_8 rfl ?_
  have hsb13 := hsub
  have hFc := n_free hD hS hA
  refine va_callv (va_runIN (As := []) (rest := [.ref q1, .ref h0]) ⟨hx, hb, hml, hown, hts⟩ (n_X1_init l dC dI H.size L2 K4 F3 q1 m9 hI hLk k11 o10) ⟨(va_cnB 0 hts (ax_gT T_2) rfl rfl rfl (ax_n3 hN) (hts _ T_137) (by decide +kernel) ⟨Nat.le_of_ble_eq_true rfl, Nat.le_of_ble_eq_true rfl⟩), rfl, hts _ T_138⟩ ⟨fun a U g mk q => ⟨q.1, n_pc (U := U) rfl rfl q.2⟩, fun U hU hW => ⟨rfl, n_pw hU hW hP hK hD hN⟩⟩ rfl rfl hl.1 rfl (lv_room (Nat.le_of_ble_eq_true rfl)) dX0_init_9 ⟨Nat.le_of_ble_eq_true rfl, Nat.le_of_ble_eq_true rfl⟩) hS (fun q _ h => hFc q h) hFc (fun u t H1 locs ht hvm hw hB hz1 hk1 hS => ?_)
  obtain ⟨L14, K15, F16⟩ := u
  obtain ⟨hP, hK1, hD1⟩ := hB
  rw [ht] at hP
  have hD : ∀ G, va_D A (va_pl L14 G) := fun G => (hD1 G).weaken (fun k q _ h => hFc _ h)
  generalize H1 = H at hP hS ⊢
  obtain ⟨⟨hs1, hX1, hf1, hk1, hI, hLk, hks1⟩, x17⟩ := hw
  have hP : va_P (dC, dI) vwCl (va_pl L14 F16) H := hP
  have hI : s_I K15 cs 0 F16 := hI
  have hLk : ∀ a, K15 a ≠ 0 → a ∈ L14 := hLk
  have m18 : h0 ∈ L14 := hs1 _ m6
  have k19 : K15 h0 = 0 := (hf1 _ m6 (Ne.symm ne5)).2.trans k7
  have o20 : F16 h0 = .inr (0, [.null, .null, .null, .null, .null, .int 0, .null, .long 0, .null, .int 0, .null, .int 0, .int 0, .int 0]) := (hf1 _ m6 (Ne.symm ne5)).1.trans o8
  have m21 : q1 ∈ L14 := hs1 _ m9
  have k22 : K15 q1 = 0 := hk1
  have hfr : ∀ a ∈ L, a ≠ h0 → F16 a = F a ∧ K15 a = K a := fun a ha hne => ⟨(hf1 a (hsub a ha) (fun h => nl12 (h ▸ ha))).1.trans (hfr a ha hne).1, (hf1 a (hsub a ha) (fun h => nl12 (h ▸ ha))).2.trans (hfr a ha hne).2⟩
  have hsub : ∀ a ∈ L, a ∈ L14 := fun a ha => hs1 a (hsub a ha)
  have hX : n_X K K15 := n_Xt hX hX1
  have hks : ∀ a, K15 a = K a ∨ K15 a ∈ [5, 6, 24, 26, 27, 28, 29, 30, 31, 32, 34, 35, 36, 37, 38] := fun a => (hks1 a).elim (fun h => by rw [show K15 a = K4 a from h]; exact hks a) (fun h => Or.inr (s_sub (by decide) h))
  refine W.widen (k := 3) (n := 24) (Nat.le_of_ble_eq_true rfl) (Nat.le_of_ble_eq_true rfl) ?_
  obtain ⟨q23, q24, o25, k26, k27⟩ := x17
  have o25 : F16 q1 = .inr (1, [.ref q23, .ref q24, .null, .null, .null, .null, .int 0, .int 0, .int 0, .int 0, .int 0, .long 0]) := o25
  have k26 : K15 q23 = 34 := k26
  have k27 : K15 q24 = 35 := k27
  have m28 : q23 ∈ L14 := hLk _ (by rw [k26]; decide)
  have ne29 : q23 ≠ h0 := fun h => by rw [h, k19] at k26; cases k26
  have ne30 : q23 ≠ q1 := fun h => by rw [h, k22] at k26; cases k26
  have m32 : q24 ∈ L14 := hLk _ (by rw [k27]; decide)
  have ne33 : q24 ≠ h0 := fun h => by rw [h, k19] at k27; cases k27
  have ne34 : q24 ≠ q1 := fun h => by rw [h, k22] at k27; cases k27
  have ne35 : q24 ≠ q23 := fun h => by rw [h, k26] at k27; cases k27
  refine n_putF (D := (dC, dI)) (ci := 0) (v := .ref q1) (ty := .object "LaneWarps$Machine") (C := RX0) (T := TX0) (N := 14) hx hb hts inX0 tyX0 tyX0_ok nmX0 hown hK hP hD hS m18 o20 rfl 0 (by decide) (hts _ T_139) (fun _ h9 => h9) rfl hin rfl (by decide +kernel) rfl rfl (Nat.le_of_ble_eq_true rfl) dX0_init_12 (fun H locs hP hS => ?_)
  have hP : va_P (dC, dI) vwCl (va_pl L14 (va_up F16 h0 (.inr (0, [.ref q1, .null, .null, .null, .null, .int 0, .null, .long 0, .null, .int 0, .null, .int 0, .int 0, .int 0])))) H := hP
  obtain ⟨F37, hF37⟩ : ∃ M : Nat → va_E, M = va_up F16 h0 (.inr (0, [.ref q1, .null, .null, .null, .null, .int 0, .null, .long 0, .null, .int 0, .null, .int 0, .int 0, .int 0])) := ⟨_, rfl⟩
  rw [← hF37] at hP
  have hI : s_I K15 cs 0 F37 := by rw [hF37]; exact n_put0 hI k19
  have o38 : F37 q1 = .inr (1, [.ref q23, .ref q24, .null, .null, .null, .null, .int 0, .int 0, .int 0, .int 0, .int 0, .long 0]) := by rw [hF37]; exact th_ne ne5 o25
  have o39 : F37 h0 = .inr (0, [.ref q1, .null, .null, .null, .null, .int 0, .null, .long 0, .null, .int 0, .null, .int 0, .int 0, .int 0]) := by rw [hF37]; exact th_up
  have hfr : ∀ a ∈ L, a ≠ h0 → F37 a = F a ∧ K15 a = K a := fun a ha hne => ⟨by rw [hF37]; exact th_ne hne (hfr a ha hne).1, (hfr a ha hne).2⟩
  refine lv_aload_n hx hb dX0_init_15 rfl (lv_at hl 0 rfl) ?_
  refine n_new (ci := 4) (fs := [.null, .null, .null, .null, .null, .null, .null, .int 0, .int 0, .int 0, .int 0, .int 0, .int 0, .int 0, .int 0]) (C := RX4) (T := TX4) (N := 15) hx hb hts inX4 tyX4 tyX4_ok hown (hts _ T_140) (hts _ T_141) (hts _ T_142) hK hP hD hS hA rfl dvX4 (Nat.le_of_ble_eq_true rfl) (Nat.le_of_ble_eq_true rfl) dX0_init_16 (fun q40 H hq hP hD hS => ?_)
  obtain ⟨L41, hL41⟩ : ∃ M, M = L14 ++ [q40] := ⟨_, rfl⟩
  rw [← hL41] at hP hD
  obtain ⟨F42, hF42⟩ : ∃ M : Nat → va_E, M = va_up F37 q40 (.inr (4, [.null, .null, .null, .null, .null, .null, .null, .int 0, .int 0, .int 0, .int 0, .int 0, .int 0, .int 0, .int 0])) := ⟨_, rfl⟩
  rw [← hF42] at hP
  obtain ⟨hI, hLk, hX1⟩ := n_add (c := 0) hI hLk hq trivial
  obtain ⟨K43, hK43⟩ : ∃ M, M = va_up K15 q40 0 := ⟨_, rfl⟩
  rw [← hK43, ← hF42] at hI
  rw [← hK43, ← hL41] at hLk
  rw [← hK43] at hX1
  have ne44 : q40 ≠ h0 := fun h => hq (h ▸ m18)
  have ne45 : q40 ≠ q1 := fun h => hq (h ▸ m21)
  have ne46 : q40 ≠ q23 := fun h => hq (h ▸ m28)
  have ne47 : q40 ≠ q24 := fun h => hq (h ▸ m32)
  have m48 : h0 ∈ L41 := by rw [hL41]; exact List.mem_append_left _ m18
  have k49 : K43 h0 = 0 := by rw [hK43]; exact th_ne (Ne.symm ne44) k19
  have o50 : F42 h0 = .inr (0, [.ref q1, .null, .null, .null, .null, .int 0, .null, .long 0, .null, .int 0, .null, .int 0, .int 0, .int 0]) := by rw [hF42]; exact th_ne (Ne.symm ne44) o39
  have m51 : q1 ∈ L41 := by rw [hL41]; exact List.mem_append_left _ m21
  have k52 : K43 q1 = 0 := by rw [hK43]; exact th_ne (Ne.symm ne45) k22
  have o53 : F42 q1 = .inr (1, [.ref q23, .ref q24, .null, .null, .null, .null, .int 0, .int 0, .int 0, .int 0, .int 0, .long 0]) := by rw [hF42]; exact th_ne (Ne.symm ne45) o38
  have m54 : q23 ∈ L41 := by rw [hL41]; exact List.mem_append_left _ m28
  have k55 : K43 q23 = 34 := by rw [hK43]; exact th_ne (Ne.symm ne46) k26
  have m56 : q24 ∈ L41 := by rw [hL41]; exact List.mem_append_left _ m32
  have k57 : K43 q24 = 35 := by rw [hK43]; exact th_ne (Ne.symm ne47) k27
  have m58 : q40 ∈ L41 := by rw [hL41]; exact List.mem_append_right _ (List.mem_singleton.mpr rfl)
  have o59 : F42 q40 = (.inr (4, [.null, .null, .null, .null, .null, .null, .null, .int 0, .int 0, .int 0, .int 0, .int 0, .int 0, .int 0, .int 0])) := by rw [hF42]; exact th_up
  have k60 : K43 q40 = 0 := by rw [hK43]; exact th_up
  have nl61 : q40 ∉ L := fun h => hq (hsub q40 h)
  have hfr : ∀ a ∈ L, a ≠ h0 → F42 a = F a ∧ K43 a = K a := fun a ha hne => ⟨by rw [hF42]; exact th_ne (fun h => nl61 (h ▸ ha)) (hfr a ha hne).1, by rw [hK43]; exact th_ne (fun h => nl61 (h ▸ ha)) (hfr a ha hne).2⟩
  have hsub : ∀ a ∈ L, a ∈ L41 := fun a ha => by rw [hL41]; exact List.mem_append_left _ (hsub a ha)
  have hX : n_X K K43 := n_Xt hX hX1
  have hks : ∀ a, K43 a = K a ∨ K43 a ∈ [5, 6, 24, 26, 27, 28, 29, 30, 31, 32, 34, 35, 36, 37, 38] := fun a => by rw [hK43]; by_cases e9 : a = q40; (rw [e9, th_up]; left; exact (Classical.byContradiction (fun h => nl61 (hLk0 _ (fun h8 => h h8.symm))))); rw [show va_up K15 q40 0 a = K15 a from if_neg e9]; exact hks a
  refine W.widen (k := 4) (n := 39) (Nat.le_of_ble_eq_true rfl) (Nat.le_of_ble_eq_true rfl) ?_
  refine lv_dup hx hb dX0_init_19 rfl ?_
  have hsb62 := hsub
  have hFc := n_free hD hS hA
  refine va_callv (va_runI (As := []) (rest := [.ref q40, .ref h0]) ⟨hx, hb, hml, hown, hts⟩ (n_X4_init l dC dI H.size L41 K43 F42 q40 m58 hI hLk k60 o59) (cwI 0 hts (ax_gT T_3) rfl rfl rfl (hts _ T_142) (hts _ T_143) (hts _ T_144) rfl (by decide +kernel) ⟨Nat.le_of_ble_eq_true rfl, Nat.le_of_ble_eq_true rfl⟩) ⟨fun a U g mk q => ⟨q.1, n_pc (U := U) rfl rfl q.2⟩, fun U hU hW => ⟨rfl, n_pw hU hW hP hK hD hN⟩⟩ rfl rfl hl.1 rfl (lv_room (Nat.le_of_ble_eq_true rfl)) dX0_init_20 ⟨Nat.le_of_ble_eq_true rfl, Nat.le_of_ble_eq_true rfl⟩) hS (fun q _ h => hFc q h) hFc (fun u t H1 locs ht hvm hw hB hz1 hk1 hS => ?_)
  obtain ⟨L63, K64, F65⟩ := u
  obtain ⟨hP, hK1, hD1⟩ := hB
  rw [ht] at hP
  have hD : ∀ G, va_D A (va_pl L63 G) := fun G => (hD1 G).weaken (fun k q _ h => hFc _ h)
  generalize H1 = H at hP hS ⊢
  obtain ⟨hs1, hX1, hf1, hk1, hI, hLk, hks1⟩ := hw
  have hP : va_P (dC, dI) vwCl (va_pl L63 F65) H := hP
  have hI : s_I K64 cs 0 F65 := hI
  have hLk : ∀ a, K64 a ≠ 0 → a ∈ L63 := hLk
  have m67 : h0 ∈ L63 := hs1 _ m48
  have k68 : K64 h0 = 0 := (hf1 _ m48 (Ne.symm ne44)).2.trans k49
  have o69 : F65 h0 = .inr (0, [.ref q1, .null, .null, .null, .null, .int 0, .null, .long 0, .null, .int 0, .null, .int 0, .int 0, .int 0]) := (hf1 _ m48 (Ne.symm ne44)).1.trans o50
  have m70 : q1 ∈ L63 := hs1 _ m51
  have k71 : K64 q1 = 0 := (hf1 _ m51 (Ne.symm ne45)).2.trans k52
  have o72 : F65 q1 = .inr (1, [.ref q23, .ref q24, .null, .null, .null, .null, .int 0, .int 0, .int 0, .int 0, .int 0, .long 0]) := (hf1 _ m51 (Ne.symm ne45)).1.trans o53
  have m73 : q23 ∈ L63 := hs1 _ m54
  have k74 : K64 q23 = 34 := (hf1 _ m54 (Ne.symm ne46)).2.trans k55
  have m75 : q24 ∈ L63 := hs1 _ m56
  have k76 : K64 q24 = 35 := (hf1 _ m56 (Ne.symm ne47)).2.trans k57
  have m77 : q40 ∈ L63 := hs1 _ m58
  have k78 : K64 q40 = 5 := hk1
  have hfr : ∀ a ∈ L, a ≠ h0 → F65 a = F a ∧ K64 a = K a := fun a ha hne => ⟨(hf1 a (hsub a ha) (fun h => nl61 (h ▸ ha))).1.trans (hfr a ha hne).1, (hf1 a (hsub a ha) (fun h => nl61 (h ▸ ha))).2.trans (hfr a ha hne).2⟩
  have hsub : ∀ a ∈ L, a ∈ L63 := fun a ha => hs1 a (hsub a ha)
  have hX : n_X K K64 := n_Xt hX hX1
  have hks : ∀ a, K64 a = K a ∨ K64 a ∈ [5, 6, 24, 26, 27, 28, 29, 30, 31, 32, 34, 35, 36, 37, 38] := fun a => (hks1 a).elim (fun h => by rw [show K64 a = K43 a from h]; exact hks a) (fun h => Or.inr (s_sub (by decide) h))
  refine W.widen (k := 35) (n := 973) (Nat.le_of_ble_eq_true rfl) (Nat.le_of_ble_eq_true rfl) ?_
  refine n_putF (D := (dC, dI)) (ci := 0) (v := .ref q40) (ty := .object "LaneWarps$State") (C := RX0) (T := TX0) (N := 14) hx hb hts inX0 tyX0 tyX0_ok nmX0 hown hK hP hD hS m67 o69 rfl 1 (by decide) (hts _ T_145) (fun _ h9 => h9) rfl hin rfl (by decide +kernel) rfl rfl (Nat.le_of_ble_eq_true rfl) dX0_init_23 (fun H locs hP hS => ?_)
  have hP : va_P (dC, dI) vwCl (va_pl L63 (va_up F65 h0 (.inr (0, [.ref q1, .ref q40, .null, .null, .null, .int 0, .null, .long 0, .null, .int 0, .null, .int 0, .int 0, .int 0])))) H := hP
  obtain ⟨F79, hF79⟩ : ∃ M : Nat → va_E, M = va_up F65 h0 (.inr (0, [.ref q1, .ref q40, .null, .null, .null, .int 0, .null, .long 0, .null, .int 0, .null, .int 0, .int 0, .int 0])) := ⟨_, rfl⟩
  rw [← hF79] at hP
  have hI : s_I K64 cs 0 F79 := by rw [hF79]; exact n_put0 hI k68
  have o80 : F79 q1 = .inr (1, [.ref q23, .ref q24, .null, .null, .null, .null, .int 0, .int 0, .int 0, .int 0, .int 0, .long 0]) := by rw [hF79]; exact th_ne ne5 o72
  have o81 : F79 h0 = .inr (0, [.ref q1, .ref q40, .null, .null, .null, .int 0, .null, .long 0, .null, .int 0, .null, .int 0, .int 0, .int 0]) := by rw [hF79]; exact th_up
  have hfr : ∀ a ∈ L, a ≠ h0 → F79 a = F a ∧ K64 a = K a := fun a ha hne => ⟨by rw [hF79]; exact th_ne hne (hfr a ha hne).1, (hfr a ha hne).2⟩
  refine lv_aload_n hx hb dX0_init_26 rfl (lv_at hl 0 rfl) ?_
  refine n_new (ci := 4) (fs := [.null, .null, .null, .null, .null, .null, .null, .int 0, .int 0, .int 0, .int 0, .int 0, .int 0, .int 0, .int 0]) (C := RX4) (T := TX4) (N := 15) hx hb hts inX4 tyX4 tyX4_ok hown (hts _ T_140) (hts _ T_141) (hts _ T_142) hK hP hD hS hA rfl dvX4 (Nat.le_of_ble_eq_true rfl) (Nat.le_of_ble_eq_true rfl) dX0_init_27 (fun q82 H hq hP hD hS => ?_)
  obtain ⟨L83, hL83⟩ : ∃ M, M = L63 ++ [q82] := ⟨_, rfl⟩
  rw [← hL83] at hP hD
  obtain ⟨F84, hF84⟩ : ∃ M : Nat → va_E, M = va_up F79 q82 (.inr (4, [.null, .null, .null, .null, .null, .null, .null, .int 0, .int 0, .int 0, .int 0, .int 0, .int 0, .int 0, .int 0])) := ⟨_, rfl⟩
  rw [← hF84] at hP
  obtain ⟨hI, hLk, hX1⟩ := n_add (c := 0) hI hLk hq trivial
  obtain ⟨K85, hK85⟩ : ∃ M, M = va_up K64 q82 0 := ⟨_, rfl⟩
  rw [← hK85, ← hF84] at hI
  rw [← hK85, ← hL83] at hLk
  rw [← hK85] at hX1
  have ne86 : q82 ≠ h0 := fun h => hq (h ▸ m67)
  have ne87 : q82 ≠ q1 := fun h => hq (h ▸ m70)
  have ne88 : q82 ≠ q23 := fun h => hq (h ▸ m73)
  have ne89 : q82 ≠ q24 := fun h => hq (h ▸ m75)
  have ne90 : q82 ≠ q40 := fun h => hq (h ▸ m77)
  have m91 : h0 ∈ L83 := by rw [hL83]; exact List.mem_append_left _ m67
  have k92 : K85 h0 = 0 := by rw [hK85]; exact th_ne (Ne.symm ne86) k68
  have o93 : F84 h0 = .inr (0, [.ref q1, .ref q40, .null, .null, .null, .int 0, .null, .long 0, .null, .int 0, .null, .int 0, .int 0, .int 0]) := by rw [hF84]; exact th_ne (Ne.symm ne86) o81
  have m94 : q1 ∈ L83 := by rw [hL83]; exact List.mem_append_left _ m70
  have k95 : K85 q1 = 0 := by rw [hK85]; exact th_ne (Ne.symm ne87) k71
  have o96 : F84 q1 = .inr (1, [.ref q23, .ref q24, .null, .null, .null, .null, .int 0, .int 0, .int 0, .int 0, .int 0, .long 0]) := by rw [hF84]; exact th_ne (Ne.symm ne87) o80
  have m97 : q23 ∈ L83 := by rw [hL83]; exact List.mem_append_left _ m73
  have k98 : K85 q23 = 34 := by rw [hK85]; exact th_ne (Ne.symm ne88) k74
  have m99 : q24 ∈ L83 := by rw [hL83]; exact List.mem_append_left _ m75
  have k100 : K85 q24 = 35 := by rw [hK85]; exact th_ne (Ne.symm ne89) k76
  have m101 : q40 ∈ L83 := by rw [hL83]; exact List.mem_append_left _ m77
  have k102 : K85 q40 = 5 := by rw [hK85]; exact th_ne (Ne.symm ne90) k78
  have m103 : q82 ∈ L83 := by rw [hL83]; exact List.mem_append_right _ (List.mem_singleton.mpr rfl)
  have o104 : F84 q82 = (.inr (4, [.null, .null, .null, .null, .null, .null, .null, .int 0, .int 0, .int 0, .int 0, .int 0, .int 0, .int 0, .int 0])) := by rw [hF84]; exact th_up
  have k105 : K85 q82 = 0 := by rw [hK85]; exact th_up
  have nl106 : q82 ∉ L := fun h => hq (hsub q82 h)
  have hfr : ∀ a ∈ L, a ≠ h0 → F84 a = F a ∧ K85 a = K a := fun a ha hne => ⟨by rw [hF84]; exact th_ne (fun h => nl106 (h ▸ ha)) (hfr a ha hne).1, by rw [hK85]; exact th_ne (fun h => nl106 (h ▸ ha)) (hfr a ha hne).2⟩
  have hsub : ∀ a ∈ L, a ∈ L83 := fun a ha => by rw [hL83]; exact List.mem_append_left _ (hsub a ha)
  have hX : n_X K K85 := n_Xt hX hX1
  have hks : ∀ a, K85 a = K a ∨ K85 a ∈ [5, 6, 24, 26, 27, 28, 29, 30, 31, 32, 34, 35, 36, 37, 38] := fun a => by rw [hK85]; by_cases e9 : a = q82; (rw [e9, th_up]; left; exact (Classical.byContradiction (fun h => nl106 (hLk0 _ (fun h8 => h h8.symm))))); rw [show va_up K64 q82 0 a = K64 a from if_neg e9]; exact hks a
  refine W.widen (k := 36) (n := 988) (Nat.le_of_ble_eq_true rfl) (Nat.le_of_ble_eq_true rfl) ?_
  refine lv_dup hx hb dX0_init_30 rfl ?_
  have hsb107 := hsub
  have hFc := n_free hD hS hA
  refine va_callv (va_runI (As := []) (rest := [.ref q82, .ref h0]) ⟨hx, hb, hml, hown, hts⟩ (n_X4_init l dC dI H.size L83 K85 F84 q82 m103 hI hLk k105 o104) (cwI 0 hts (ax_gT T_3) rfl rfl rfl (hts _ T_142) (hts _ T_143) (hts _ T_144) rfl (by decide +kernel) ⟨Nat.le_of_ble_eq_true rfl, Nat.le_of_ble_eq_true rfl⟩) ⟨fun a U g mk q => ⟨q.1, n_pc (U := U) rfl rfl q.2⟩, fun U hU hW => ⟨rfl, n_pw hU hW hP hK hD hN⟩⟩ rfl rfl hl.1 rfl (lv_room (Nat.le_of_ble_eq_true rfl)) dX0_init_31 ⟨Nat.le_of_ble_eq_true rfl, Nat.le_of_ble_eq_true rfl⟩) hS (fun q _ h => hFc q h) hFc (fun u t H1 locs ht hvm hw hB hz1 hk1 hS => ?_)
  obtain ⟨L108, K109, F110⟩ := u
  obtain ⟨hP, hK1, hD1⟩ := hB
  rw [ht] at hP
  have hD : ∀ G, va_D A (va_pl L108 G) := fun G => (hD1 G).weaken (fun k q _ h => hFc _ h)
  generalize H1 = H at hP hS ⊢
  obtain ⟨hs1, hX1, hf1, hk1, hI, hLk, hks1⟩ := hw
  have hP : va_P (dC, dI) vwCl (va_pl L108 F110) H := hP
  have hI : s_I K109 cs 0 F110 := hI
  have hLk : ∀ a, K109 a ≠ 0 → a ∈ L108 := hLk
  have m112 : h0 ∈ L108 := hs1 _ m91
  have k113 : K109 h0 = 0 := (hf1 _ m91 (Ne.symm ne86)).2.trans k92
  have o114 : F110 h0 = .inr (0, [.ref q1, .ref q40, .null, .null, .null, .int 0, .null, .long 0, .null, .int 0, .null, .int 0, .int 0, .int 0]) := (hf1 _ m91 (Ne.symm ne86)).1.trans o93
  have m115 : q1 ∈ L108 := hs1 _ m94
  have k116 : K109 q1 = 0 := (hf1 _ m94 (Ne.symm ne87)).2.trans k95
  have o117 : F110 q1 = .inr (1, [.ref q23, .ref q24, .null, .null, .null, .null, .int 0, .int 0, .int 0, .int 0, .int 0, .long 0]) := (hf1 _ m94 (Ne.symm ne87)).1.trans o96
  have m118 : q23 ∈ L108 := hs1 _ m97
  have k119 : K109 q23 = 34 := (hf1 _ m97 (Ne.symm ne88)).2.trans k98
  have m120 : q24 ∈ L108 := hs1 _ m99
  have k121 : K109 q24 = 35 := (hf1 _ m99 (Ne.symm ne89)).2.trans k100
  have m122 : q40 ∈ L108 := hs1 _ m101
  have k123 : K109 q40 = 5 := (hf1 _ m101 (Ne.symm ne90)).2.trans k102
  have m124 : q82 ∈ L108 := hs1 _ m103
  have k125 : K109 q82 = 5 := hk1
  have hfr : ∀ a ∈ L, a ≠ h0 → F110 a = F a ∧ K109 a = K a := fun a ha hne => ⟨(hf1 a (hsub a ha) (fun h => nl106 (h ▸ ha))).1.trans (hfr a ha hne).1, (hf1 a (hsub a ha) (fun h => nl106 (h ▸ ha))).2.trans (hfr a ha hne).2⟩
  have hsub : ∀ a ∈ L, a ∈ L108 := fun a ha => hs1 a (hsub a ha)
  have hX : n_X K K109 := n_Xt hX hX1
  have hks : ∀ a, K109 a = K a ∨ K109 a ∈ [5, 6, 24, 26, 27, 28, 29, 30, 31, 32, 34, 35, 36, 37, 38] := fun a => (hks1 a).elim (fun h => by rw [show K109 a = K85 a from h]; exact hks a) (fun h => Or.inr (s_sub (by decide) h))
  refine W.widen (k := 67) (n := 1922) (Nat.le_of_ble_eq_true rfl) (Nat.le_of_ble_eq_true rfl) ?_
  refine n_putF (D := (dC, dI)) (ci := 0) (v := .ref q82) (ty := .object "LaneWarps$State") (C := RX0) (T := TX0) (N := 14) hx hb hts inX0 tyX0 tyX0_ok nmX0 hown hK hP hD hS m112 o114 rfl 2 (by decide) (hts _ T_146) (fun _ h9 => h9) rfl hin rfl (by decide +kernel) rfl rfl (Nat.le_of_ble_eq_true rfl) dX0_init_34 (fun H locs hP hS => ?_)
  have hP : va_P (dC, dI) vwCl (va_pl L108 (va_up F110 h0 (.inr (0, [.ref q1, .ref q40, .ref q82, .null, .null, .int 0, .null, .long 0, .null, .int 0, .null, .int 0, .int 0, .int 0])))) H := hP
  obtain ⟨F126, hF126⟩ : ∃ M : Nat → va_E, M = va_up F110 h0 (.inr (0, [.ref q1, .ref q40, .ref q82, .null, .null, .int 0, .null, .long 0, .null, .int 0, .null, .int 0, .int 0, .int 0])) := ⟨_, rfl⟩
  rw [← hF126] at hP
  have hI : s_I K109 cs 0 F126 := by rw [hF126]; exact n_put0 hI k113
  have o127 : F126 q1 = .inr (1, [.ref q23, .ref q24, .null, .null, .null, .null, .int 0, .int 0, .int 0, .int 0, .int 0, .long 0]) := by rw [hF126]; exact th_ne ne5 o117
  have o128 : F126 h0 = .inr (0, [.ref q1, .ref q40, .ref q82, .null, .null, .int 0, .null, .long 0, .null, .int 0, .null, .int 0, .int 0, .int 0]) := by rw [hF126]; exact th_up
  have hfr : ∀ a ∈ L, a ≠ h0 → F126 a = F a ∧ K109 a = K a := fun a ha hne => ⟨by rw [hF126]; exact th_ne hne (hfr a ha hne).1, (hfr a ha hne).2⟩
  refine lv_aload_n hx hb dX0_init_37 rfl (lv_at hl 0 rfl) ?_
  refine n_new (ci := 4) (fs := [.null, .null, .null, .null, .null, .null, .null, .int 0, .int 0, .int 0, .int 0, .int 0, .int 0, .int 0, .int 0]) (C := RX4) (T := TX4) (N := 15) hx hb hts inX4 tyX4 tyX4_ok hown (hts _ T_140) (hts _ T_141) (hts _ T_142) hK hP hD hS hA rfl dvX4 (Nat.le_of_ble_eq_true rfl) (Nat.le_of_ble_eq_true rfl) dX0_init_38 (fun q129 H hq hP hD hS => ?_)
  obtain ⟨L130, hL130⟩ : ∃ M, M = L108 ++ [q129] := ⟨_, rfl⟩
  rw [← hL130] at hP hD
  obtain ⟨F131, hF131⟩ : ∃ M : Nat → va_E, M = va_up F126 q129 (.inr (4, [.null, .null, .null, .null, .null, .null, .null, .int 0, .int 0, .int 0, .int 0, .int 0, .int 0, .int 0, .int 0])) := ⟨_, rfl⟩
  rw [← hF131] at hP
  obtain ⟨hI, hLk, hX1⟩ := n_add (c := 0) hI hLk hq trivial
  obtain ⟨K132, hK132⟩ : ∃ M, M = va_up K109 q129 0 := ⟨_, rfl⟩
  rw [← hK132, ← hF131] at hI
  rw [← hK132, ← hL130] at hLk
  rw [← hK132] at hX1
  have ne133 : q129 ≠ h0 := fun h => hq (h ▸ m112)
  have ne134 : q129 ≠ q1 := fun h => hq (h ▸ m115)
  have ne135 : q129 ≠ q23 := fun h => hq (h ▸ m118)
  have ne136 : q129 ≠ q24 := fun h => hq (h ▸ m120)
  have ne137 : q129 ≠ q40 := fun h => hq (h ▸ m122)
  have ne138 : q129 ≠ q82 := fun h => hq (h ▸ m124)
  have m139 : h0 ∈ L130 := by rw [hL130]; exact List.mem_append_left _ m112
  have k140 : K132 h0 = 0 := by rw [hK132]; exact th_ne (Ne.symm ne133) k113
  have o141 : F131 h0 = .inr (0, [.ref q1, .ref q40, .ref q82, .null, .null, .int 0, .null, .long 0, .null, .int 0, .null, .int 0, .int 0, .int 0]) := by rw [hF131]; exact th_ne (Ne.symm ne133) o128
  have m142 : q1 ∈ L130 := by rw [hL130]; exact List.mem_append_left _ m115
  have k143 : K132 q1 = 0 := by rw [hK132]; exact th_ne (Ne.symm ne134) k116
  have o144 : F131 q1 = .inr (1, [.ref q23, .ref q24, .null, .null, .null, .null, .int 0, .int 0, .int 0, .int 0, .int 0, .long 0]) := by rw [hF131]; exact th_ne (Ne.symm ne134) o127
  have m145 : q23 ∈ L130 := by rw [hL130]; exact List.mem_append_left _ m118
  have k146 : K132 q23 = 34 := by rw [hK132]; exact th_ne (Ne.symm ne135) k119
  have m147 : q24 ∈ L130 := by rw [hL130]; exact List.mem_append_left _ m120
  have k148 : K132 q24 = 35 := by rw [hK132]; exact th_ne (Ne.symm ne136) k121
  have m149 : q40 ∈ L130 := by rw [hL130]; exact List.mem_append_left _ m122
  have k150 : K132 q40 = 5 := by rw [hK132]; exact th_ne (Ne.symm ne137) k123
  have m151 : q82 ∈ L130 := by rw [hL130]; exact List.mem_append_left _ m124
  have k152 : K132 q82 = 5 := by rw [hK132]; exact th_ne (Ne.symm ne138) k125
  have m153 : q129 ∈ L130 := by rw [hL130]; exact List.mem_append_right _ (List.mem_singleton.mpr rfl)
  have o154 : F131 q129 = (.inr (4, [.null, .null, .null, .null, .null, .null, .null, .int 0, .int 0, .int 0, .int 0, .int 0, .int 0, .int 0, .int 0])) := by rw [hF131]; exact th_up
  have k155 : K132 q129 = 0 := by rw [hK132]; exact th_up
  have nl156 : q129 ∉ L := fun h => hq (hsub q129 h)
  have hfr : ∀ a ∈ L, a ≠ h0 → F131 a = F a ∧ K132 a = K a := fun a ha hne => ⟨by rw [hF131]; exact th_ne (fun h => nl156 (h ▸ ha)) (hfr a ha hne).1, by rw [hK132]; exact th_ne (fun h => nl156 (h ▸ ha)) (hfr a ha hne).2⟩
  have hsub : ∀ a ∈ L, a ∈ L130 := fun a ha => by rw [hL130]; exact List.mem_append_left _ (hsub a ha)
  have hX : n_X K K132 := n_Xt hX hX1
  have hks : ∀ a, K132 a = K a ∨ K132 a ∈ [5, 6, 24, 26, 27, 28, 29, 30, 31, 32, 34, 35, 36, 37, 38] := fun a => by rw [hK132]; by_cases e9 : a = q129; (rw [e9, th_up]; left; exact (Classical.byContradiction (fun h => nl156 (hLk0 _ (fun h8 => h h8.symm))))); rw [show va_up K109 q129 0 a = K109 a from if_neg e9]; exact hks a
  refine W.widen (k := 68) (n := 1937) (Nat.le_of_ble_eq_true rfl) (Nat.le_of_ble_eq_true rfl) ?_
  refine lv_dup hx hb dX0_init_41 rfl ?_
  have hsb157 := hsub
  have hFc := n_free hD hS hA
  refine va_callv (va_runI (As := []) (rest := [.ref q129, .ref h0]) ⟨hx, hb, hml, hown, hts⟩ (n_X4_init l dC dI H.size L130 K132 F131 q129 m153 hI hLk k155 o154) (cwI 0 hts (ax_gT T_3) rfl rfl rfl (hts _ T_142) (hts _ T_143) (hts _ T_144) rfl (by decide +kernel) ⟨Nat.le_of_ble_eq_true rfl, Nat.le_of_ble_eq_true rfl⟩) ⟨fun a U g mk q => ⟨q.1, n_pc (U := U) rfl rfl q.2⟩, fun U hU hW => ⟨rfl, n_pw hU hW hP hK hD hN⟩⟩ rfl rfl hl.1 rfl (lv_room (Nat.le_of_ble_eq_true rfl)) dX0_init_42 ⟨Nat.le_of_ble_eq_true rfl, Nat.le_of_ble_eq_true rfl⟩) hS (fun q _ h => hFc q h) hFc (fun u t H1 locs ht hvm hw hB hz1 hk1 hS => ?_)
  obtain ⟨L158, K159, F160⟩ := u
  obtain ⟨hP, hK1, hD1⟩ := hB
  rw [ht] at hP
  have hD : ∀ G, va_D A (va_pl L158 G) := fun G => (hD1 G).weaken (fun k q _ h => hFc _ h)
  generalize H1 = H at hP hS ⊢
  obtain ⟨hs1, hX1, hf1, hk1, hI, hLk, hks1⟩ := hw
  have hP : va_P (dC, dI) vwCl (va_pl L158 F160) H := hP
  have hI : s_I K159 cs 0 F160 := hI
  have hLk : ∀ a, K159 a ≠ 0 → a ∈ L158 := hLk
  have m162 : h0 ∈ L158 := hs1 _ m139
  have k163 : K159 h0 = 0 := (hf1 _ m139 (Ne.symm ne133)).2.trans k140
  have o164 : F160 h0 = .inr (0, [.ref q1, .ref q40, .ref q82, .null, .null, .int 0, .null, .long 0, .null, .int 0, .null, .int 0, .int 0, .int 0]) := (hf1 _ m139 (Ne.symm ne133)).1.trans o141
  have m165 : q1 ∈ L158 := hs1 _ m142
  have k166 : K159 q1 = 0 := (hf1 _ m142 (Ne.symm ne134)).2.trans k143
  have o167 : F160 q1 = .inr (1, [.ref q23, .ref q24, .null, .null, .null, .null, .int 0, .int 0, .int 0, .int 0, .int 0, .long 0]) := (hf1 _ m142 (Ne.symm ne134)).1.trans o144
  have m168 : q23 ∈ L158 := hs1 _ m145
  have k169 : K159 q23 = 34 := (hf1 _ m145 (Ne.symm ne135)).2.trans k146
  have m170 : q24 ∈ L158 := hs1 _ m147
  have k171 : K159 q24 = 35 := (hf1 _ m147 (Ne.symm ne136)).2.trans k148
  have m172 : q40 ∈ L158 := hs1 _ m149
  have k173 : K159 q40 = 5 := (hf1 _ m149 (Ne.symm ne137)).2.trans k150
  have m174 : q82 ∈ L158 := hs1 _ m151
  have k175 : K159 q82 = 5 := (hf1 _ m151 (Ne.symm ne138)).2.trans k152
  have m176 : q129 ∈ L158 := hs1 _ m153
  have k177 : K159 q129 = 5 := hk1
  have hfr : ∀ a ∈ L, a ≠ h0 → F160 a = F a ∧ K159 a = K a := fun a ha hne => ⟨(hf1 a (hsub a ha) (fun h => nl156 (h ▸ ha))).1.trans (hfr a ha hne).1, (hf1 a (hsub a ha) (fun h => nl156 (h ▸ ha))).2.trans (hfr a ha hne).2⟩
  have hsub : ∀ a ∈ L, a ∈ L158 := fun a ha => hs1 a (hsub a ha)
  have hX : n_X K K159 := n_Xt hX hX1
  have hks : ∀ a, K159 a = K a ∨ K159 a ∈ [5, 6, 24, 26, 27, 28, 29, 30, 31, 32, 34, 35, 36, 37, 38] := fun a => (hks1 a).elim (fun h => by rw [show K159 a = K132 a from h]; exact hks a) (fun h => Or.inr (s_sub (by decide) h))
  refine W.widen (k := 99) (n := 2871) (Nat.le_of_ble_eq_true rfl) (Nat.le_of_ble_eq_true rfl) ?_
  refine n_putF (D := (dC, dI)) (ci := 0) (v := .ref q129) (ty := .object "LaneWarps$State") (C := RX0) (T := TX0) (N := 14) hx hb hts inX0 tyX0 tyX0_ok nmX0 hown hK hP hD hS m162 o164 rfl 3 (by decide) (hts _ T_147) (fun _ h9 => h9) rfl hin rfl (by decide +kernel) rfl rfl (Nat.le_of_ble_eq_true rfl) dX0_init_45 (fun H locs hP hS => ?_)
  have hP : va_P (dC, dI) vwCl (va_pl L158 (va_up F160 h0 (.inr (0, [.ref q1, .ref q40, .ref q82, .ref q129, .null, .int 0, .null, .long 0, .null, .int 0, .null, .int 0, .int 0, .int 0])))) H := hP
  obtain ⟨F178, hF178⟩ : ∃ M : Nat → va_E, M = va_up F160 h0 (.inr (0, [.ref q1, .ref q40, .ref q82, .ref q129, .null, .int 0, .null, .long 0, .null, .int 0, .null, .int 0, .int 0, .int 0])) := ⟨_, rfl⟩
  rw [← hF178] at hP
  have hI : s_I K159 cs 0 F178 := by rw [hF178]; exact n_put0 hI k163
  have o179 : F178 q1 = .inr (1, [.ref q23, .ref q24, .null, .null, .null, .null, .int 0, .int 0, .int 0, .int 0, .int 0, .long 0]) := by rw [hF178]; exact th_ne ne5 o167
  have o180 : F178 h0 = .inr (0, [.ref q1, .ref q40, .ref q82, .ref q129, .null, .int 0, .null, .long 0, .null, .int 0, .null, .int 0, .int 0, .int 0]) := by rw [hF178]; exact th_up
  have hfr : ∀ a ∈ L, a ≠ h0 → F178 a = F a ∧ K159 a = K a := fun a ha hne => ⟨by rw [hF178]; exact th_ne hne (hfr a ha hne).1, (hfr a ha hne).2⟩
  refine lv_aload_n hx hb dX0_init_48 rfl (lv_at hl 0 rfl) ?_
  refine lv_bipush (v := 51) hx hb dX0_init_49 (by decide) ?_
  refine n_newa (atype := .int) (a0 := (51, .inl (fun _ => 0))) hx hb (hts _ T_99) rfl hK hP hD hS hA 0 rfl (fun _ => rfl) (by decide) (by decide) (Nat.le_of_ble_eq_true rfl) (Nat.le_of_ble_eq_true rfl) (Nat.le_of_ble_eq_true rfl) dX0_init_51 (fun q181 H hq hP hD hS => ?_)
  obtain ⟨L182, hL182⟩ : ∃ M, M = L158 ++ [q181] := ⟨_, rfl⟩
  rw [← hL182] at hP hD
  obtain ⟨F183, hF183⟩ : ∃ M : Nat → va_E, M = va_up F178 q181 (.inl (cs 0, 51, .inl (fun _ => 0))) := ⟨_, rfl⟩
  rw [← hF183] at hP
  obtain ⟨hI, hLk, hX1⟩ := n_add (c := 36) hI hLk hq (show ok_36 cs _ from ⟨_, rfl, trivial⟩)
  obtain ⟨K184, hK184⟩ : ∃ M, M = va_up K159 q181 36 := ⟨_, rfl⟩
  rw [← hK184, ← hF183] at hI
  rw [← hK184, ← hL182] at hLk
  rw [← hK184] at hX1
  have ne185 : q181 ≠ h0 := fun h => hq (h ▸ m162)
  have ne186 : q181 ≠ q1 := fun h => hq (h ▸ m165)
  have ne187 : q181 ≠ q23 := fun h => hq (h ▸ m168)
  have ne188 : q181 ≠ q24 := fun h => hq (h ▸ m170)
  have ne189 : q181 ≠ q40 := fun h => hq (h ▸ m172)
  have ne190 : q181 ≠ q82 := fun h => hq (h ▸ m174)
  have ne191 : q181 ≠ q129 := fun h => hq (h ▸ m176)
  have m192 : h0 ∈ L182 := by rw [hL182]; exact List.mem_append_left _ m162
  have k193 : K184 h0 = 0 := by rw [hK184]; exact th_ne (Ne.symm ne185) k163
  have o194 : F183 h0 = .inr (0, [.ref q1, .ref q40, .ref q82, .ref q129, .null, .int 0, .null, .long 0, .null, .int 0, .null, .int 0, .int 0, .int 0]) := by rw [hF183]; exact th_ne (Ne.symm ne185) o180
  have m195 : q1 ∈ L182 := by rw [hL182]; exact List.mem_append_left _ m165
  have k196 : K184 q1 = 0 := by rw [hK184]; exact th_ne (Ne.symm ne186) k166
  have o197 : F183 q1 = .inr (1, [.ref q23, .ref q24, .null, .null, .null, .null, .int 0, .int 0, .int 0, .int 0, .int 0, .long 0]) := by rw [hF183]; exact th_ne (Ne.symm ne186) o179
  have m198 : q23 ∈ L182 := by rw [hL182]; exact List.mem_append_left _ m168
  have k199 : K184 q23 = 34 := by rw [hK184]; exact th_ne (Ne.symm ne187) k169
  have m200 : q24 ∈ L182 := by rw [hL182]; exact List.mem_append_left _ m170
  have k201 : K184 q24 = 35 := by rw [hK184]; exact th_ne (Ne.symm ne188) k171
  have m202 : q40 ∈ L182 := by rw [hL182]; exact List.mem_append_left _ m172
  have k203 : K184 q40 = 5 := by rw [hK184]; exact th_ne (Ne.symm ne189) k173
  have m204 : q82 ∈ L182 := by rw [hL182]; exact List.mem_append_left _ m174
  have k205 : K184 q82 = 5 := by rw [hK184]; exact th_ne (Ne.symm ne190) k175
  have m206 : q129 ∈ L182 := by rw [hL182]; exact List.mem_append_left _ m176
  have k207 : K184 q129 = 5 := by rw [hK184]; exact th_ne (Ne.symm ne191) k177
  have m208 : q181 ∈ L182 := by rw [hL182]; exact List.mem_append_right _ (List.mem_singleton.mpr rfl)
  have o209 : F183 q181 = (.inl (cs 0, 51, .inl (fun _ => 0))) := by rw [hF183]; exact th_up
  have k210 : K184 q181 = 36 := by rw [hK184]; exact th_up
  have nl211 : q181 ∉ L := fun h => hq (hsub q181 h)
  have hfr : ∀ a ∈ L, a ≠ h0 → F183 a = F a ∧ K184 a = K a := fun a ha hne => ⟨by rw [hF183]; exact th_ne (fun h => nl211 (h ▸ ha)) (hfr a ha hne).1, by rw [hK184]; exact th_ne (fun h => nl211 (h ▸ ha)) (hfr a ha hne).2⟩
  have hsub : ∀ a ∈ L, a ∈ L182 := fun a ha => by rw [hL182]; exact List.mem_append_left _ (hsub a ha)
  have hX : n_X K K184 := n_Xt hX hX1
  have hks : ∀ a, K184 a = K a ∨ K184 a ∈ [5, 6, 24, 26, 27, 28, 29, 30, 31, 32, 34, 35, 36, 37, 38] := fun a => by rw [hK184]; by_cases e9 : a = q181; (rw [e9, th_up]; right; decide); rw [show va_up K159 q181 36 a = K159 a from if_neg e9]; exact hks a
  refine W.widen (k := 100) (n := 2922) (Nat.le_of_ble_eq_true rfl) (Nat.le_of_ble_eq_true rfl) ?_
  refine n_putF (D := (dC, dI)) (ci := 0) (v := .ref q181) (ty := .array .int) (C := RX0) (T := TX0) (N := 14) hx hb hts inX0 tyX0 tyX0_ok nmX0 hown hK hP hD hS m192 o194 rfl 4 (by decide) (hts _ T_148) (fun _ h9 => h9) rfl hin rfl (by decide +kernel) rfl rfl (Nat.le_of_ble_eq_true rfl) dX0_init_53 (fun H locs hP hS => ?_)
  have hP : va_P (dC, dI) vwCl (va_pl L182 (va_up F183 h0 (.inr (0, [.ref q1, .ref q40, .ref q82, .ref q129, .ref q181, .int 0, .null, .long 0, .null, .int 0, .null, .int 0, .int 0, .int 0])))) H := hP
  obtain ⟨F212, hF212⟩ : ∃ M : Nat → va_E, M = va_up F183 h0 (.inr (0, [.ref q1, .ref q40, .ref q82, .ref q129, .ref q181, .int 0, .null, .long 0, .null, .int 0, .null, .int 0, .int 0, .int 0])) := ⟨_, rfl⟩
  rw [← hF212] at hP
  have hI : s_I K184 cs 0 F212 := by rw [hF212]; exact n_put0 hI k193
  have o213 : F212 q1 = .inr (1, [.ref q23, .ref q24, .null, .null, .null, .null, .int 0, .int 0, .int 0, .int 0, .int 0, .long 0]) := by rw [hF212]; exact th_ne ne5 o197
  have o214 : F212 h0 = .inr (0, [.ref q1, .ref q40, .ref q82, .ref q129, .ref q181, .int 0, .null, .long 0, .null, .int 0, .null, .int 0, .int 0, .int 0]) := by rw [hF212]; exact th_up
  have hfr : ∀ a ∈ L, a ≠ h0 → F212 a = F a ∧ K184 a = K a := fun a ha hne => ⟨by rw [hF212]; exact th_ne hne (hfr a ha hne).1, (hfr a ha hne).2⟩
  refine lv_aload_n hx hb dX0_init_56 rfl (lv_at hl 0 rfl) ?_
  refine lv_sipush (v := 1024) hx hb dX0_init_57 (by decide) ?_
  refine n_newa (atype := .int) (a0 := (1024, .inl (fun _ => 0))) hx hb (hts _ T_99) rfl hK hP hD hS hA 0 rfl (fun _ => rfl) (by decide) (by decide) (Nat.le_of_ble_eq_true rfl) (Nat.le_of_ble_eq_true rfl) (Nat.le_of_ble_eq_true rfl) dX0_init_60 (fun q215 H hq hP hD hS => ?_)
  obtain ⟨L216, hL216⟩ : ∃ M, M = L182 ++ [q215] := ⟨_, rfl⟩
  rw [← hL216] at hP hD
  obtain ⟨F217, hF217⟩ : ∃ M : Nat → va_E, M = va_up F212 q215 (.inl (cs 0, 1024, .inl (fun _ => 0))) := ⟨_, rfl⟩
  rw [← hF217] at hP
  obtain ⟨hI, hLk, hX1⟩ := n_add (c := 37) hI hLk hq (show ok_37 cs _ from ⟨_, rfl, trivial⟩)
  obtain ⟨K218, hK218⟩ : ∃ M, M = va_up K184 q215 37 := ⟨_, rfl⟩
  rw [← hK218, ← hF217] at hI
  rw [← hK218, ← hL216] at hLk
  rw [← hK218] at hX1
  have ne219 : q215 ≠ h0 := fun h => hq (h ▸ m192)
  have ne220 : q215 ≠ q1 := fun h => hq (h ▸ m195)
  have ne221 : q215 ≠ q23 := fun h => hq (h ▸ m198)
  have ne222 : q215 ≠ q24 := fun h => hq (h ▸ m200)
  have ne223 : q215 ≠ q40 := fun h => hq (h ▸ m202)
  have ne224 : q215 ≠ q82 := fun h => hq (h ▸ m204)
  have ne225 : q215 ≠ q129 := fun h => hq (h ▸ m206)
  have ne226 : q215 ≠ q181 := fun h => hq (h ▸ m208)
  have m227 : h0 ∈ L216 := by rw [hL216]; exact List.mem_append_left _ m192
  have k228 : K218 h0 = 0 := by rw [hK218]; exact th_ne (Ne.symm ne219) k193
  have o229 : F217 h0 = .inr (0, [.ref q1, .ref q40, .ref q82, .ref q129, .ref q181, .int 0, .null, .long 0, .null, .int 0, .null, .int 0, .int 0, .int 0]) := by rw [hF217]; exact th_ne (Ne.symm ne219) o214
  have m230 : q1 ∈ L216 := by rw [hL216]; exact List.mem_append_left _ m195
  have k231 : K218 q1 = 0 := by rw [hK218]; exact th_ne (Ne.symm ne220) k196
  have o232 : F217 q1 = .inr (1, [.ref q23, .ref q24, .null, .null, .null, .null, .int 0, .int 0, .int 0, .int 0, .int 0, .long 0]) := by rw [hF217]; exact th_ne (Ne.symm ne220) o213
  have m233 : q23 ∈ L216 := by rw [hL216]; exact List.mem_append_left _ m198
  have k234 : K218 q23 = 34 := by rw [hK218]; exact th_ne (Ne.symm ne221) k199
  have m235 : q24 ∈ L216 := by rw [hL216]; exact List.mem_append_left _ m200
  have k236 : K218 q24 = 35 := by rw [hK218]; exact th_ne (Ne.symm ne222) k201
  have m237 : q40 ∈ L216 := by rw [hL216]; exact List.mem_append_left _ m202
  have k238 : K218 q40 = 5 := by rw [hK218]; exact th_ne (Ne.symm ne223) k203
  have m239 : q82 ∈ L216 := by rw [hL216]; exact List.mem_append_left _ m204
  have k240 : K218 q82 = 5 := by rw [hK218]; exact th_ne (Ne.symm ne224) k205
  have m241 : q129 ∈ L216 := by rw [hL216]; exact List.mem_append_left _ m206
  have k242 : K218 q129 = 5 := by rw [hK218]; exact th_ne (Ne.symm ne225) k207
  have m243 : q181 ∈ L216 := by rw [hL216]; exact List.mem_append_left _ m208
  have k244 : K218 q181 = 36 := by rw [hK218]; exact th_ne (Ne.symm ne226) k210
  have m245 : q215 ∈ L216 := by rw [hL216]; exact List.mem_append_right _ (List.mem_singleton.mpr rfl)
  have o246 : F217 q215 = (.inl (cs 0, 1024, .inl (fun _ => 0))) := by rw [hF217]; exact th_up
  have k247 : K218 q215 = 37 := by rw [hK218]; exact th_up
  have nl248 : q215 ∉ L := fun h => hq (hsub q215 h)
  have hfr : ∀ a ∈ L, a ≠ h0 → F217 a = F a ∧ K218 a = K a := fun a ha hne => ⟨by rw [hF217]; exact th_ne (fun h => nl248 (h ▸ ha)) (hfr a ha hne).1, by rw [hK218]; exact th_ne (fun h => nl248 (h ▸ ha)) (hfr a ha hne).2⟩
  have hsub : ∀ a ∈ L, a ∈ L216 := fun a ha => by rw [hL216]; exact List.mem_append_left _ (hsub a ha)
  have hX : n_X K K218 := n_Xt hX hX1
  have hks : ∀ a, K218 a = K a ∨ K218 a ∈ [5, 6, 24, 26, 27, 28, 29, 30, 31, 32, 34, 35, 36, 37, 38] := fun a => by rw [hK218]; by_cases e9 : a = q215; (rw [e9, th_up]; right; decide); rw [show va_up K184 q215 37 a = K184 a from if_neg e9]; exact hks a
  refine W.widen (k := 101) (n := 3946) (Nat.le_of_ble_eq_true rfl) (Nat.le_of_ble_eq_true rfl) ?_
  refine n_putF (D := (dC, dI)) (ci := 0) (v := .ref q215) (ty := .array .int) (C := RX0) (T := TX0) (N := 14) hx hb hts inX0 tyX0 tyX0_ok nmX0 hown hK hP hD hS m227 o229 rfl 6 (by decide) (hts _ T_149) (fun _ h9 => h9) rfl hin rfl (by decide +kernel) rfl rfl (Nat.le_of_ble_eq_true rfl) dX0_init_62 (fun H locs hP hS => ?_)
  have hP : va_P (dC, dI) vwCl (va_pl L216 (va_up F217 h0 (.inr (0, [.ref q1, .ref q40, .ref q82, .ref q129, .ref q181, .int 0, .ref q215, .long 0, .null, .int 0, .null, .int 0, .int 0, .int 0])))) H := hP
  obtain ⟨F249, hF249⟩ : ∃ M : Nat → va_E, M = va_up F217 h0 (.inr (0, [.ref q1, .ref q40, .ref q82, .ref q129, .ref q181, .int 0, .ref q215, .long 0, .null, .int 0, .null, .int 0, .int 0, .int 0])) := ⟨_, rfl⟩
  rw [← hF249] at hP
  have hI : s_I K218 cs 0 F249 := by rw [hF249]; exact n_put0 hI k228
  have o250 : F249 q1 = .inr (1, [.ref q23, .ref q24, .null, .null, .null, .null, .int 0, .int 0, .int 0, .int 0, .int 0, .long 0]) := by rw [hF249]; exact th_ne ne5 o232
  have o251 : F249 h0 = .inr (0, [.ref q1, .ref q40, .ref q82, .ref q129, .ref q181, .int 0, .ref q215, .long 0, .null, .int 0, .null, .int 0, .int 0, .int 0]) := by rw [hF249]; exact th_up
  have hfr : ∀ a ∈ L, a ≠ h0 → F249 a = F a ∧ K218 a = K a := fun a ha hne => ⟨by rw [hF249]; exact th_ne hne (hfr a ha hne).1, (hfr a ha hne).2⟩
  refine lv_aload_n hx hb dX0_init_65 rfl (lv_at hl 0 rfl) ?_
  refine lv_sipush (v := 160) hx hb dX0_init_66 (by decide) ?_
  refine n_newa (atype := .int) (a0 := (160, .inl (fun _ => 0))) hx hb (hts _ T_99) rfl hK hP hD hS hA 0 rfl (fun _ => rfl) (by decide) (by decide) (Nat.le_of_ble_eq_true rfl) (Nat.le_of_ble_eq_true rfl) (Nat.le_of_ble_eq_true rfl) dX0_init_69 (fun q252 H hq hP hD hS => ?_)
  obtain ⟨L253, hL253⟩ : ∃ M, M = L216 ++ [q252] := ⟨_, rfl⟩
  rw [← hL253] at hP hD
  obtain ⟨F254, hF254⟩ : ∃ M : Nat → va_E, M = va_up F249 q252 (.inl (cs 0, 160, .inl (fun _ => 0))) := ⟨_, rfl⟩
  rw [← hF254] at hP
  obtain ⟨hI, hLk, hX1⟩ := n_add (c := 38) hI hLk hq (show ok_38 cs _ from ⟨_, rfl, trivial⟩)
  obtain ⟨K255, hK255⟩ : ∃ M, M = va_up K218 q252 38 := ⟨_, rfl⟩
  rw [← hK255, ← hF254] at hI
  rw [← hK255, ← hL253] at hLk
  rw [← hK255] at hX1
  have ne256 : q252 ≠ h0 := fun h => hq (h ▸ m227)
  have ne257 : q252 ≠ q1 := fun h => hq (h ▸ m230)
  have ne258 : q252 ≠ q23 := fun h => hq (h ▸ m233)
  have ne259 : q252 ≠ q24 := fun h => hq (h ▸ m235)
  have ne260 : q252 ≠ q40 := fun h => hq (h ▸ m237)
  have ne261 : q252 ≠ q82 := fun h => hq (h ▸ m239)
  have ne262 : q252 ≠ q129 := fun h => hq (h ▸ m241)
  have ne263 : q252 ≠ q181 := fun h => hq (h ▸ m243)
  have ne264 : q252 ≠ q215 := fun h => hq (h ▸ m245)
  have m265 : h0 ∈ L253 := by rw [hL253]; exact List.mem_append_left _ m227
  have k266 : K255 h0 = 0 := by rw [hK255]; exact th_ne (Ne.symm ne256) k228
  have o267 : F254 h0 = .inr (0, [.ref q1, .ref q40, .ref q82, .ref q129, .ref q181, .int 0, .ref q215, .long 0, .null, .int 0, .null, .int 0, .int 0, .int 0]) := by rw [hF254]; exact th_ne (Ne.symm ne256) o251
  have m268 : q1 ∈ L253 := by rw [hL253]; exact List.mem_append_left _ m230
  have k269 : K255 q1 = 0 := by rw [hK255]; exact th_ne (Ne.symm ne257) k231
  have o270 : F254 q1 = .inr (1, [.ref q23, .ref q24, .null, .null, .null, .null, .int 0, .int 0, .int 0, .int 0, .int 0, .long 0]) := by rw [hF254]; exact th_ne (Ne.symm ne257) o250
  have m271 : q23 ∈ L253 := by rw [hL253]; exact List.mem_append_left _ m233
  have k272 : K255 q23 = 34 := by rw [hK255]; exact th_ne (Ne.symm ne258) k234
  have m273 : q24 ∈ L253 := by rw [hL253]; exact List.mem_append_left _ m235
  have k274 : K255 q24 = 35 := by rw [hK255]; exact th_ne (Ne.symm ne259) k236
  have m275 : q40 ∈ L253 := by rw [hL253]; exact List.mem_append_left _ m237
  have k276 : K255 q40 = 5 := by rw [hK255]; exact th_ne (Ne.symm ne260) k238
  have m277 : q82 ∈ L253 := by rw [hL253]; exact List.mem_append_left _ m239
  have k278 : K255 q82 = 5 := by rw [hK255]; exact th_ne (Ne.symm ne261) k240
  have m279 : q129 ∈ L253 := by rw [hL253]; exact List.mem_append_left _ m241
  have k280 : K255 q129 = 5 := by rw [hK255]; exact th_ne (Ne.symm ne262) k242
  have m281 : q181 ∈ L253 := by rw [hL253]; exact List.mem_append_left _ m243
  have k282 : K255 q181 = 36 := by rw [hK255]; exact th_ne (Ne.symm ne263) k244
  have m283 : q215 ∈ L253 := by rw [hL253]; exact List.mem_append_left _ m245
  have k284 : K255 q215 = 37 := by rw [hK255]; exact th_ne (Ne.symm ne264) k247
  have m285 : q252 ∈ L253 := by rw [hL253]; exact List.mem_append_right _ (List.mem_singleton.mpr rfl)
  have o286 : F254 q252 = (.inl (cs 0, 160, .inl (fun _ => 0))) := by rw [hF254]; exact th_up
  have k287 : K255 q252 = 38 := by rw [hK255]; exact th_up
  have nl288 : q252 ∉ L := fun h => hq (hsub q252 h)
  have hfr : ∀ a ∈ L, a ≠ h0 → F254 a = F a ∧ K255 a = K a := fun a ha hne => ⟨by rw [hF254]; exact th_ne (fun h => nl288 (h ▸ ha)) (hfr a ha hne).1, by rw [hK255]; exact th_ne (fun h => nl288 (h ▸ ha)) (hfr a ha hne).2⟩
  have hsub : ∀ a ∈ L, a ∈ L253 := fun a ha => by rw [hL253]; exact List.mem_append_left _ (hsub a ha)
  have hX : n_X K K255 := n_Xt hX hX1
  have hks : ∀ a, K255 a = K a ∨ K255 a ∈ [5, 6, 24, 26, 27, 28, 29, 30, 31, 32, 34, 35, 36, 37, 38] := fun a => by rw [hK255]; by_cases e9 : a = q252; (rw [e9, th_up]; right; decide); rw [show va_up K218 q252 38 a = K218 a from if_neg e9]; exact hks a
  refine W.widen (k := 102) (n := 4106) (Nat.le_of_ble_eq_true rfl) (Nat.le_of_ble_eq_true rfl) ?_
  refine n_putF (D := (dC, dI)) (ci := 0) (v := .ref q252) (ty := .array .int) (C := RX0) (T := TX0) (N := 14) hx hb hts inX0 tyX0 tyX0_ok nmX0 hown hK hP hD hS m265 o267 rfl 8 (by decide) (hts _ T_150) (fun _ h9 => h9) rfl hin rfl (by decide +kernel) rfl rfl (Nat.le_of_ble_eq_true rfl) dX0_init_71 (fun H locs hP hS => ?_)
  have hP : va_P (dC, dI) vwCl (va_pl L253 (va_up F254 h0 (.inr (0, [.ref q1, .ref q40, .ref q82, .ref q129, .ref q181, .int 0, .ref q215, .long 0, .ref q252, .int 0, .null, .int 0, .int 0, .int 0])))) H := hP
  obtain ⟨F289, hF289⟩ : ∃ M : Nat → va_E, M = va_up F254 h0 (.inr (0, [.ref q1, .ref q40, .ref q82, .ref q129, .ref q181, .int 0, .ref q215, .long 0, .ref q252, .int 0, .null, .int 0, .int 0, .int 0])) := ⟨_, rfl⟩
  rw [← hF289] at hP
  have hI : s_I K255 cs 0 F289 := by rw [hF289]; exact n_put0 hI k266
  have o290 : F289 q1 = .inr (1, [.ref q23, .ref q24, .null, .null, .null, .null, .int 0, .int 0, .int 0, .int 0, .int 0, .long 0]) := by rw [hF289]; exact th_ne ne5 o270
  have o291 : F289 h0 = .inr (0, [.ref q1, .ref q40, .ref q82, .ref q129, .ref q181, .int 0, .ref q215, .long 0, .ref q252, .int 0, .null, .int 0, .int 0, .int 0]) := by rw [hF289]; exact th_up
  have hfr : ∀ a ∈ L, a ≠ h0 → F289 a = F a ∧ K255 a = K a := fun a ha hne => ⟨by rw [hF289]; exact th_ne hne (hfr a ha hne).1, (hfr a ha hne).2⟩
  exact W.vret hx hb hr (fun t ht hW => ⟨⟨(L253, K255, F289), rfl, ⟨⟨hsub, hX, hfr, k266, hI, hLk, hks⟩, ⟨q1, q40, q82, q129, q181, q215, q252, q23, q24, o291, o290, ⟨m268, nl12, ne5, k269⟩, k276, k278, k280, k282, k284, k287, k272, k274⟩⟩, by rw [ht]; exact hP, va_K.moved hW.alike hK, hD⟩, hS.F ht⟩) hS.2.2 dX0_init_74

