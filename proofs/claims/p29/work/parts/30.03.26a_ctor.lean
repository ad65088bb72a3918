set_option maxHeartbeats 4000000 in
set_option maxRecDepth 100000 in
/-- Program(), the spare one -/
theorem n_X2_initQ (l : Launch) (dC : Nat → ClassId) (dI : Nat → Nat → Nat) (sz : Nat) {cs : Nat → ClassId} (L : List Nat) (K : Nat → Nat) (F : Nat → va_E) (h0 : Nat) (hh : h0 ∈ L) (hI : s_I K cs 0 F) (hLk : ∀ a, K a ≠ 0 → a ∈ L) (hk : K h0 = 0) (o0 : F h0 = .inr (2, [.null, .null, .null, .int 0, .int 0, .int 0, .int 0])) : Met l yX2_init (Cond.code yX2_init cX2_init 1 none :: T0) ({ frames := 1, cells := 43, slots := 425, locals := 12 }) (va_Pc [.ref h0] (n_W dC dI sz L F [(cs 0, .int), (cs 1, .byte), (cs 2, .long), (cs 3, .object RX5), (cs 4, .object RX4), (cs 5, .array .int), (cs 6, .char), (cs 7, .boolean)])) (va_Qv (fun (u : List Nat × (Nat → Nat) × (Nat → va_E)) => n_Q cs L K F h0 0 [24, 25, 42, 43] u ∧ (∃ r f p : Nat, u.2.2 h0 = .inr (2, [.ref r, .ref f, .ref p, .int 0, .int 0, .int 0, .int 0]) ∧ u.2.2 r = .inl (cs 5, 40, .inr (.inr (.inr (.inr (fun j => some (r + 1 + j)))))) ∧ u.2.1 r = 42 ∧ r ∉ L ∧ u.2.1 f = 24 ∧ u.2.1 p = 25 ∧ (∀ a, u.2.1 a = 42 → K a = 42 ∨ a = r))) (fun (u : List Nat × (Nat → Nat) × (Nat → va_E)) (t : State) => va_P (dC, dI) vwCl (va_pl u.1 u.2.2) t.heap ∧ va_K (dC, dI) vwCl [(cs 0, .int), (cs 1, .byte), (cs 2, .long), (cs 3, .object RX5), (cs 4, .object RX4), (cs 5, .array .int), (cs 6, .char), (cs 7, .boolean)] t ∧ ∀ G, va_D (n_A L sz) (va_pl u.1 G)) (n_A L sz)) 43 425 (n_A L sz) := by
  refine Met.ofW (cc := cX2_init) (maxL := 1) (ret := none) (by decide) rfl ?_
  intro p e s m args below meth c s₁ B hml hv
  obtain ⟨rfl, hsz, hP, hK, hD, hN⟩ := hv
  have hx := B.exec
  have hb := B.bytes
  have hr := B.returns
  have hts : ∀ w ∈ T0, w.before _ s = true := fun w h => atoms_spec (ws := Cond.code yX2_init cX2_init 1 none :: T0) B.pre w (List.mem_cons_of_mem _ h)
  have hown : s.vm.findClass RX2 = some m.cls := findClass_of_methodNamed B.named
  have hlocks := B.notSynchronized
  have hin : meth.name = "<init>" := (name_of_methodNamed B.named B.method).1
  subst hsz
  generalize hAe : n_A L s.heap.size = A at hD ⊢
  have hA : ∀ q : Nat, s.heap.size ≤ q → A q := fun q h => by rw [← hAe]; exact Or.inr h
  have hS : va_S A s.heap s.heap [] := va_S.rf
  have hl := lv_entry ([.ref h0]) (n := 1) (Nat.le_of_ble_eq_true rfl)
  rw [lg_entry_eq]
  generalize (lg_sl ([.ref h0]) ++ List.replicate (1 - (lg_sl ([.ref h0])).length) Slot.unset).toArray = ls at hl ⊢
  have hl : lv_has ls 1 [(0, .ref h0)] := hl
  have hsub : ∀ a ∈ L, a ∈ L := fun _ h => h
  have hfr : ∀ a ∈ L, a ≠ h0 → F a = F a ∧ K a = K a := fun _ _ _ => ⟨rfl, rfl⟩
  have hX : n_X K K := n_Xr K
  have hLk0 := hLk
  have hks : ∀ a, K a = K a ∨ K a ∈ [24, 25, 42, 43] := fun a => Or.inl rfl
  refine s_gen hP hS (fun H locs hP hS => ?_)
  refine lv_aload_n hx hb dX2_init_0 rfl (lv_at hl 0 rfl) ?_
  refine W.objInit hx hb hown (hts _ T_122) (hts _ T_98) (hts _ T_0) rfl (by rw [hml]; exact hl.1) rfl dX2_init_1 (Nat.le_of_ble_eq_true rfl) (Nat.le_of_ble_eq_true rfl) ?_
  refine W.eq (g2 := F0 m 4 ls []) rfl ?_
  refine lv_aload_n hx hb dX2_init_4 rfl (lv_at hl 0 rfl) ?_
  refine lv_bipush (v := 40) hx hb dX2_init_5 (by decide) ?_
  refine lv_bipush (v := 7) hx hb dX2_init_7 (by decide) ?_
  refine n_mna hx hb hown (hts _ T_123) (ax_n2 hN) (hts _ T_99) hK hP hD hS hA 5 0 rfl rfl (Nat.le_of_ble_eq_true rfl) (Nat.le_of_ble_eq_true rfl) dX2_init_9 (fun q1 H hq hP hD hS => ?_)
  obtain ⟨hI, hLk, hX1⟩ := n_addM 42 43 (by decide) hI hLk hq
  obtain ⟨L2, hL2⟩ : ∃ M, M = n_mL L q1 := ⟨_, rfl⟩
  obtain ⟨F3, hF3⟩ : ∃ M : Nat → va_E, M = n_mF F q1 (cs 5) (cs 0) := ⟨_, rfl⟩
  obtain ⟨K4, hK4⟩ : ∃ M, M = n_mK K q1 42 43 := ⟨_, rfl⟩
  rw [← hL2, ← hF3] at hP
  rw [← hL2] at hD hLk
  rw [← hK4, ← hF3] at hI
  rw [← hK4] at hLk hX1
  have ne5 : q1 ≠ h0 := fun h => by have q9 := hq _ hh; omega
  have m6 : h0 ∈ L2 := by rw [hL2, n_mLm]; exact Or.inl hh
  have k7 : K4 h0 = 0 := by rw [hK4, n_mKo (hq _ hh)]; exact hk
  have o8 : F3 h0 = .inr (2, [.null, .null, .null, .int 0, .int 0, .int 0, .int 0]) := by rw [hF3, n_mFo (hq _ hh)]; exact o0
  have m9 : q1 ∈ L2 := by rw [hL2, n_mLm]; exact Or.inr (by omega)
  have k10 : K4 q1 = 42 := by rw [hK4]; exact n_mKq
  have o11 : F3 q1 = .inl (cs 5, 40, .inr (.inr (.inr (.inr (fun j => some (q1 + 1 + j)))))) := by rw [hF3]; exact if_pos rfl
  have nl12 : q1 ∉ L := fun h => by have q9 := hq _ (hsub _ h); omega
  have hfr : ∀ a ∈ L, a ≠ h0 → F3 a = F a ∧ K4 a = K a := fun a ha hne => ⟨by rw [hF3, n_mFo (hq _ (hsub a ha))] <;> exact (hfr a ha hne).1, by rw [hK4, n_mKo (hq _ (hsub a ha))] <;> exact (hfr a ha hne).2⟩
  have hsub : ∀ a ∈ L, a ∈ L2 := fun a ha => by rw [hL2, n_mLm]; exact Or.inl (hsub a ha)
  have hX : n_X K K4 := n_Xt hX hX1
  have hks : ∀ a, K4 a = K a ∨ K4 a ∈ [24, 25, 42, 43] := fun a => by rw [hK4]; unfold n_mK; split; (right; decide); split; (right; decide); exact hks a
  refine W.widen (k := 41) (n := 320) (Nat.le_of_ble_eq_true rfl) (Nat.le_of_ble_eq_true rfl) ?_
  have hu42 : ∀ a, K4 a = 42 → K a = 42 ∨ a = q1 := fun a h9 => by rw [hK4] at h9; rcases n_um h9 (by decide) with w | w; (exact Or.inr w); exact Or.inl w
  refine n_putF (D := (dC, dI)) (ci := 2) (v := .ref q1) (ty := .array (.array .int)) (C := RX2) (T := TX2) (N := 7) hx hb hts inX2 tyX2 tyX2_ok nmX2 hown hK hP hD hS m6 o8 rfl 0 (by decide) (hts _ T_124) (fun _ h9 => h9) rfl hin rfl (by decide +kernel) rfl rfl (Nat.le_of_ble_eq_true rfl) dX2_init_13 (fun H locs hP hS => ?_)
  have hP : va_P (dC, dI) vwCl (va_pl L2 (va_up F3 h0 (.inr (2, [.ref q1, .null, .null, .int 0, .int 0, .int 0, .int 0])))) H := hP
  obtain ⟨F13, hF13⟩ : ∃ M : Nat → va_E, M = va_up F3 h0 (.inr (2, [.ref q1, .null, .null, .int 0, .int 0, .int 0, .int 0])) := ⟨_, rfl⟩
  rw [← hF13] at hP
  have hI : s_I K4 cs 0 F13 := by rw [hF13]; exact n_put0 hI k7
  have o14 : F13 q1 = .inl (cs 5, 40, .inr (.inr (.inr (.inr (fun j => some (q1 + 1 + j)))))) := by rw [hF13]; exact th_ne ne5 o11
  have o15 : F13 h0 = .inr (2, [.ref q1, .null, .null, .int 0, .int 0, .int 0, .int 0]) := by rw [hF13]; exact th_up
  have hfr : ∀ a ∈ L, a ≠ h0 → F13 a = F a ∧ K4 a = K a := fun a ha hne => ⟨by rw [hF13]; exact th_ne hne (hfr a ha hne).1, (hfr a ha hne).2⟩
  refine lv_aload_n hx hb dX2_init_16 rfl (lv_at hl 0 rfl) ?_
  refine lv_bipush (v := 64) hx hb dX2_init_17 (by decide) ?_
  refine n_newa (atype := .int) (a0 := (64, .inl (fun _ => 0))) hx hb (hts _ T_99) rfl hK hP hD hS hA 0 rfl (fun _ => rfl) (by decide) (by decide) (Nat.le_of_ble_eq_true rfl) (Nat.le_of_ble_eq_true rfl) (Nat.le_of_ble_eq_true rfl) dX2_init_19 (fun q16 H hq hP hD hS => ?_)
  obtain ⟨L17, hL17⟩ : ∃ M, M = L2 ++ [q16] := ⟨_, rfl⟩
  rw [← hL17] at hP hD
  obtain ⟨F18, hF18⟩ : ∃ M : Nat → va_E, M = va_up F13 q16 (.inl (cs 0, 64, .inl (fun _ => 0))) := ⟨_, rfl⟩
  rw [← hF18] at hP
  obtain ⟨hI, hLk, hX1⟩ := n_add (c := 24) hI hLk hq (show ok_24 cs _ from ⟨_, rfl, trivial⟩)
  obtain ⟨K19, hK19⟩ : ∃ M, M = va_up K4 q16 24 := ⟨_, rfl⟩
  rw [← hK19, ← hF18] at hI
  rw [← hK19, ← hL17] at hLk
  rw [← hK19] at hX1
  have ne20 : q16 ≠ h0 := fun h => hq (h ▸ m6)
  have ne21 : q16 ≠ q1 := fun h => hq (h ▸ m9)
  have m22 : h0 ∈ L17 := by rw [hL17]; exact List.mem_append_left _ m6
  have k23 : K19 h0 = 0 := by rw [hK19]; exact th_ne (Ne.symm ne20) k7
  have o24 : F18 h0 = .inr (2, [.ref q1, .null, .null, .int 0, .int 0, .int 0, .int 0]) := by rw [hF18]; exact th_ne (Ne.symm ne20) o15
  have m25 : q1 ∈ L17 := by rw [hL17]; exact List.mem_append_left _ m9
  have k26 : K19 q1 = 42 := by rw [hK19]; exact th_ne (Ne.symm ne21) k10
  have o27 : F18 q1 = .inl (cs 5, 40, .inr (.inr (.inr (.inr (fun j => some (q1 + 1 + j)))))) := by rw [hF18]; exact th_ne (Ne.symm ne21) o14
  have m28 : q16 ∈ L17 := by rw [hL17]; exact List.mem_append_right _ (List.mem_singleton.mpr rfl)
  have o29 : F18 q16 = (.inl (cs 0, 64, .inl (fun _ => 0))) := by rw [hF18]; exact th_up
  have k30 : K19 q16 = 24 := by rw [hK19]; exact th_up
  have nl31 : q16 ∉ L := fun h => hq (hsub q16 h)
  have hfr : ∀ a ∈ L, a ≠ h0 → F18 a = F a ∧ K19 a = K a := fun a ha hne => ⟨by rw [hF18]; exact th_ne (fun h => nl31 (h ▸ ha)) (hfr a ha hne).1, by rw [hK19]; exact th_ne (fun h => nl31 (h ▸ ha)) (hfr a ha hne).2⟩
  have hsub : ∀ a ∈ L, a ∈ L17 := fun a ha => by rw [hL17]; exact List.mem_append_left _ (hsub a ha)
  have hX : n_X K K19 := n_Xt hX hX1
  have hks : ∀ a, K19 a = K a ∨ K19 a ∈ [24, 25, 42, 43] := fun a => by rw [hK19]; by_cases e9 : a = q16; (rw [e9, th_up]; right; decide); rw [show va_up K4 q16 24 a = K4 a from if_neg e9]; exact hks a
  have hu42 : ∀ a, K19 a = 42 → K a = 42 ∨ a = q1 := fun a h9 => by rw [hK19] at h9; exact (n_uu h9).elim (fun w => absurd w.2 (by decide)) (hu42 a)
  refine W.widen (k := 42) (n := 384) (Nat.le_of_ble_eq_true rfl) (Nat.le_of_ble_eq_true rfl) ?_
  refine n_putF (D := (dC, dI)) (ci := 2) (v := .ref q16) (ty := .array .int) (C := RX2) (T := TX2) (N := 7) hx hb hts inX2 tyX2 tyX2_ok nmX2 hown hK hP hD hS m22 o24 rfl 1 (by decide) (hts _ T_125) (fun _ h9 => h9) rfl hin rfl (by decide +kernel) rfl rfl (Nat.le_of_ble_eq_true rfl) dX2_init_21 (fun H locs hP hS => ?_)
  have hP : va_P (dC, dI) vwCl (va_pl L17 (va_up F18 h0 (.inr (2, [.ref q1, .ref q16, .null, .int 0, .int 0, .int 0, .int 0])))) H := hP
  obtain ⟨F32, hF32⟩ : ∃ M : Nat → va_E, M = va_up F18 h0 (.inr (2, [.ref q1, .ref q16, .null, .int 0, .int 0, .int 0, .int 0])) := ⟨_, rfl⟩
  rw [← hF32] at hP
  have hI : s_I K19 cs 0 F32 := by rw [hF32]; exact n_put0 hI k23
  have o33 : F32 q1 = .inl (cs 5, 40, .inr (.inr (.inr (.inr (fun j => some (q1 + 1 + j)))))) := by rw [hF32]; exact th_ne ne5 o27
  have o34 : F32 h0 = .inr (2, [.ref q1, .ref q16, .null, .int 0, .int 0, .int 0, .int 0]) := by rw [hF32]; exact th_up
  have hfr : ∀ a ∈ L, a ≠ h0 → F32 a = F a ∧ K19 a = K a := fun a ha hne => ⟨by rw [hF32]; exact th_ne hne (hfr a ha hne).1, (hfr a ha hne).2⟩
  refine lv_aload_n hx hb dX2_init_24 rfl (lv_at hl 0 rfl) ?_
  refine lv_bipush (v := 41) hx hb dX2_init_25 (by decide) ?_
  refine n_newa (atype := .long) (a0 := (41, .inr (.inl (fun _ => 0)))) hx hb (hts _ T_126) rfl hK hP hD hS hA 2 rfl (fun _ => rfl) (by decide) (by decide) (Nat.le_of_ble_eq_true rfl) (Nat.le_of_ble_eq_true rfl) (Nat.le_of_ble_eq_true rfl) dX2_init_27 (fun q35 H hq hP hD hS => ?_)
  obtain ⟨L36, hL36⟩ : ∃ M, M = L17 ++ [q35] := ⟨_, rfl⟩
  rw [← hL36] at hP hD
  obtain ⟨F37, hF37⟩ : ∃ M : Nat → va_E, M = va_up F32 q35 (.inl (cs 2, 41, .inr (.inl (fun _ => 0)))) := ⟨_, rfl⟩
  rw [← hF37] at hP
  obtain ⟨hI, hLk, hX1⟩ := n_add (c := 25) hI hLk hq (show ok_25 cs _ from ⟨_, rfl, trivial⟩)
  obtain ⟨K38, hK38⟩ : ∃ M, M = va_up K19 q35 25 := ⟨_, rfl⟩
  rw [← hK38, ← hF37] at hI
  rw [← hK38, ← hL36] at hLk
  rw [← hK38] at hX1
  have ne39 : q35 ≠ h0 := fun h => hq (h ▸ m22)
  have ne40 : q35 ≠ q1 := fun h => hq (h ▸ m25)
  have ne41 : q35 ≠ q16 := fun h => hq (h ▸ m28)
  have m42 : h0 ∈ L36 := by rw [hL36]; exact List.mem_append_left _ m22
  have k43 : K38 h0 = 0 := by rw [hK38]; exact th_ne (Ne.symm ne39) k23
  have o44 : F37 h0 = .inr (2, [.ref q1, .ref q16, .null, .int 0, .int 0, .int 0, .int 0]) := by rw [hF37]; exact th_ne (Ne.symm ne39) o34
  have m45 : q1 ∈ L36 := by rw [hL36]; exact List.mem_append_left _ m25
  have k46 : K38 q1 = 42 := by rw [hK38]; exact th_ne (Ne.symm ne40) k26
  have o47 : F37 q1 = .inl (cs 5, 40, .inr (.inr (.inr (.inr (fun j => some (q1 + 1 + j)))))) := by rw [hF37]; exact th_ne (Ne.symm ne40) o33
  have m48 : q16 ∈ L36 := by rw [hL36]; exact List.mem_append_left _ m28
  have k49 : K38 q16 = 24 := by rw [hK38]; exact th_ne (Ne.symm ne41) k30
  have m50 : q35 ∈ L36 := by rw [hL36]; exact List.mem_append_right _ (List.mem_singleton.mpr rfl)
  have o51 : F37 q35 = (.inl (cs 2, 41, .inr (.inl (fun _ => 0)))) := by rw [hF37]; exact th_up
  have k52 : K38 q35 = 25 := by rw [hK38]; exact th_up
  have nl53 : q35 ∉ L := fun h => hq (hsub q35 h)
  have hfr : ∀ a ∈ L, a ≠ h0 → F37 a = F a ∧ K38 a = K a := fun a ha hne => ⟨by rw [hF37]; exact th_ne (fun h => nl53 (h ▸ ha)) (hfr a ha hne).1, by rw [hK38]; exact th_ne (fun h => nl53 (h ▸ ha)) (hfr a ha hne).2⟩
  have hsub : ∀ a ∈ L, a ∈ L36 := fun a ha => by rw [hL36]; exact List.mem_append_left _ (hsub a ha)
  have hX : n_X K K38 := n_Xt hX hX1
  have hks : ∀ a, K38 a = K a ∨ K38 a ∈ [24, 25, 42, 43] := fun a => by rw [hK38]; by_cases e9 : a = q35; (rw [e9, th_up]; right; decide); rw [show va_up K19 q35 25 a = K19 a from if_neg e9]; exact hks a
  have hu42 : ∀ a, K38 a = 42 → K a = 42 ∨ a = q1 := fun a h9 => by rw [hK38] at h9; exact (n_uu h9).elim (fun w => absurd w.2 (by decide)) (hu42 a)
  refine W.widen (k := 43) (n := 425) (Nat.le_of_ble_eq_true rfl) (Nat.le_of_ble_eq_true rfl) ?_
  refine n_putF (D := (dC, dI)) (ci := 2) (v := .ref q35) (ty := .array .long) (C := RX2) (T := TX2) (N := 7) hx hb hts inX2 tyX2 tyX2_ok nmX2 hown hK hP hD hS m42 o44 rfl 2 (by decide) (hts _ T_127) (fun _ h9 => h9) rfl hin rfl (by decide +kernel) rfl rfl (Nat.le_of_ble_eq_true rfl) dX2_init_29 (fun H locs hP hS => ?_)
  have hP : va_P (dC, dI) vwCl (va_pl L36 (va_up F37 h0 (.inr (2, [.ref q1, .ref q16, .ref q35, .int 0, .int 0, .int 0, .int 0])))) H := hP
  obtain ⟨F54, hF54⟩ : ∃ M : Nat → va_E, M = va_up F37 h0 (.inr (2, [.ref q1, .ref q16, .ref q35, .int 0, .int 0, .int 0, .int 0])) := ⟨_, rfl⟩
  rw [← hF54] at hP
  have hI : s_I K38 cs 0 F54 := by rw [hF54]; exact n_put0 hI k43
  have o55 : F54 q1 = .inl (cs 5, 40, .inr (.inr (.inr (.inr (fun j => some (q1 + 1 + j)))))) := by rw [hF54]; exact th_ne ne5 o47
  have o56 : F54 h0 = .inr (2, [.ref q1, .ref q16, .ref q35, .int 0, .int 0, .int 0, .int 0]) := by rw [hF54]; exact th_up
  have hfr : ∀ a ∈ L, a ≠ h0 → F54 a = F a ∧ K38 a = K a := fun a ha hne => ⟨by rw [hF54]; exact th_ne hne (hfr a ha hne).1, (hfr a ha hne).2⟩
  exact W.vret hx hb hr (fun t ht hW => ⟨⟨(L36, K38, F54), rfl, ⟨⟨hsub, hX, hfr, k43, hI, hLk, hks⟩, ⟨q1, q16, q35, o56, o55, k46, nl12, k49, k52, hu42⟩⟩, by rw [ht]; exact hP, va_K.moved hW.alike hK, hD⟩, hS.F ht⟩) hS.2.2 dX2_init_32

set_option maxHeartbeats 4000000 in
set_option maxRecDepth 100000 in
/-- Forecast() -/
theorem n_X0_init (l : Launch) (dC : Nat → ClassId) (dI : Nat → Nat → Nat) (sz : Nat) {cs : Nat → ClassId} (L : List Nat) (K : Nat → Nat) (F : Nat → va_E) (h0 : Nat) (hh : h0 ∈ L) (hI : s_I K cs 0 F) (hLk : ∀ a, K a ≠ 0 → a ∈ L) (hk : K h0 = 0) (o0 : F h0 = .inr (0, [.null, .null, .null, .null, .null, .int 0, .null, .long 0, .null, .int 0, .null, .int 0, .int 0, .int 0])) : Met l yX0_init (Cond.code yX0_init cX0_init 1 none :: T0) ({ frames := 3, cells := 102, slots := 4106, locals := 53 }) (va_Pc [.ref h0] (n_W dC dI sz L F [(cs 0, .int), (cs 1, .byte), (cs 2, .long), (cs 3, .object RX5), (cs 4, .object RX4), (cs 5, .array .int), (cs 6, .char), (cs 7, .boolean)])) (va_Qv (fun (u : List Nat × (Nat → Nat) × (Nat → va_E)) => n_Q cs L K F h0 0 [5, 6, 24, 26, 27, 28, 29, 30, 31, 32, 34, 35, 36, 37, 38] u ∧ (∃ a0 a1 a2 a3 a4 a5 a6 b0 b1 : Nat, u.2.2 h0 = .inr (0, [.ref a0, .ref a1, .ref a2, .ref a3, .ref a4, .int 0, .ref a5, .long 0, .ref a6, .int 0, .null, .int 0, .int 0, .int 0]) ∧ u.2.2 a0 = .inr (1, [.ref b0, .ref b1, .null, .null, .null, .null, .int 0, .int 0, .int 0, .int 0, .int 0, .long 0]) ∧ (a0 ∈ u.1 ∧ a0 ∉ L ∧ a0 ≠ h0 ∧ u.2.1 a0 = 0) ∧ u.2.1 a1 = 5 ∧ u.2.1 a2 = 5 ∧ u.2.1 a3 = 5 ∧ u.2.1 a4 = 36 ∧ u.2.1 a5 = 37 ∧ u.2.1 a6 = 38 ∧ u.2.1 b0 = 34 ∧ u.2.1 b1 = 35)) (fun (u : List Nat × (Nat → Nat) × (Nat → va_E)) (t : State) => va_P (dC, dI) vwCl (va_pl u.1 u.2.2) t.heap ∧ va_K (dC, dI) vwCl [(cs 0, .int), (cs 1, .byte), (cs 2, .long), (cs 3, .object RX5), (cs 4, .object RX4), (cs 5, .array .int), (cs 6, .char), (cs 7, .boolean)] t ∧ ∀ G, va_D (n_A L sz) (va_pl u.1 G)) (n_A L sz)) 102 4106 (n_A L sz) := by
  refine Met.ofW (cc := cX0_init) (maxL := 1) (ret := none) (by decide) rfl ?_
  intro p e s m args below meth c s₁ B hml hv
  obtain ⟨rfl, hsz, hP, hK, hD, hN⟩ := hv
  have hx := B.exec
  have hb := B.bytes
  have hr := B.returns
  have hts : ∀ w ∈ T0, w.before _ s = true := fun w h => atoms_spec (ws := Cond.code yX0_init cX0_init 1 none :: T0) B.pre w (List.mem_cons_of_mem _ h)
  have hown : s.vm.findClass RX0 = some m.cls := findClass_of_methodNamed B.named
  have hlocks := B.notSynchronized
  have hin : meth.name = "<init>" := (name_of_methodNamed B.named B.method).1
  subst hsz
  generalize hAe : n_A L s.heap.size = A at hD ⊢
  have hA : ∀ q : Nat, s.heap.size ≤ q → A q := fun q h => by rw [← hAe]; exact Or.inr h
  have hS : va_S A s.heap s.heap [] := va_S.rf
  have hl := lv_entry ([.ref h0]) (n := 1) (Nat.le_of_ble_eq_true rfl)
  rw [lg_entry_eq]
  generalize (lg_sl ([.ref h0]) ++ List.replicate (1 - (lg_sl ([.ref h0])).length) Slot.unset).toArray = ls at hl ⊢
  have hl : lv_has ls 1 [(0, .ref h0)] := hl
  have hsub : ∀ a ∈ L, a ∈ L := fun _ h => h
  have hfr : ∀ a ∈ L, a ≠ h0 → F a = F a ∧ K a = K a := fun _ _ _ => ⟨rfl, rfl⟩
  have hX : n_X K K := n_Xr K
  have hLk0 := hLk
  have hks : ∀ a, K a = K a ∨ K a ∈ [5, 6, 24, 26, 27, 28, 29, 30, 31, 32, 34, 35, 36, 37, 38] := fun a => Or.inl rfl
  refine s_gen hP hS (fun H locs hP hS => ?_)
  refine lv_aload_n hx hb dX0_init_0 rfl (lv_at hl 0 rfl) ?_
  refine W.objInit hx hb hown (hts _ T_134) (hts _ T_98) (hts _ T_0) rfl (by rw [hml]; exact hl.1) rfl dX0_init_1 (Nat.le_of_ble_eq_true rfl) (Nat.le_of_ble_eq_true rfl) ?_
  refine W.eq (g2 := F0 m 4 ls []) rfl ?_
  refine lv_aload_n hx hb dX0_init_4 rfl (lv_at hl 0 rfl) ?_
  refine n_new (ci := 1) (fs := [.null, .null, .null, .null, .null, .null, .int 0, .int 0, .int 0, .int 0, .int 0, .long 0]) (C := RX1) (T := TX1) (N := 12) hx hb hts inX1 tyX1 tyX1_ok hown (hts _ T_135) (hts _ T_136) (hts _ T_137) hK hP hD hS hA rfl dvX1 (Nat.le_of_ble_eq_true rfl) (Nat.le_of_ble_eq_true rfl) dX0_init_5 (fun q1 H hq hP hD hS => ?_)
  obtain ⟨L2, hL2⟩ : ∃ M, M = L ++ [q1] := ⟨_, rfl⟩
  rw [← hL2] at hP hD
  obtain ⟨F3, hF3⟩ : ∃ M : Nat → va_E, M = va_up F q1 (.inr (1, [.null, .null, .null, .null, .null, .null, .int 0, .int 0, .int 0, .int 0, .int 0, .long 0])) := ⟨_, rfl⟩
  rw [← hF3] at hP
  obtain ⟨hI, hLk, hX1⟩ := n_add (c := 0) hI hLk hq trivial
  obtain ⟨K4, hK4⟩ : ∃ M, M = va_up K q1 0 := ⟨_, rfl⟩
  rw [← hK4, ← hF3] at hI
  rw [← hK4, ← hL2] at hLk
  rw [← hK4] at hX1
  have ne5 : q1 ≠ h0 := fun h => hq (h ▸ hh)
  have m6 : h0 ∈ L2 := by rw [hL2]; exact List.mem_append_left _ hh
  have k7 : K4 h0 = 0 := by rw [hK4]; exact th_ne (Ne.symm ne5) hk
  have o8 : F3 h0 = .inr (0, [.null, .null, .null, .null, .null, .int 0, .null, .long 0, .null, .int 0, .null, .int 0, .int 0, .int 0]) := by rw [hF3]; exact th_ne (Ne.symm ne5) o0
  have m9 : q1 ∈ L2 := by rw [hL2]; exact List.mem_append_right _ (List.mem_singleton.mpr rfl)
  have o10 : F3 q1 = (.inr (1, [.null, .null, .null, .null, .null, .null, .int 0, .int 0, .int 0, .int 0, .int 0, .long 0])) := by rw [hF3]; exact th_up
  have k11 : K4 q1 = 0 := by rw [hK4]; exact th_up
  have nl12 : q1 ∉ L := fun h => hq (hsub q1 h)
  have hfr : ∀ a ∈ L, a ≠ h0 → F3 a = F a ∧ K4 a = K a := fun a ha hne => ⟨by rw [hF3]; exact th_ne (fun h => nl12 (h ▸ ha)) (hfr a ha hne).1, by rw [hK4]; exact th_ne (fun h => nl12 (h ▸ ha)) (hfr a ha hne).2⟩
  have hsub : ∀ a ∈ L, a ∈ L2 := fun a ha => by rw [hL2]; exact List.mem_append_left _ (hsub a ha)
  have hX : n_X K K4 := n_Xt hX hX1
  have hks : ∀ a, K4 a = K a ∨ K4 a ∈ [5, 6, 24, 26, 27, 28, 29, 30, 31, 32, 34, 35, 36, 37, 38] := fun a => by rw [hK4]; by_cases e9 : a = q1; (rw [e9, th_up]; left; exact (Classical.byContradiction (fun h => nl12 (hLk0 _ (fun h8 => h h8.symm))))); rw [show va_up K q1 0 a = K a from if_neg e9]; exact hks a
  refine W.widen (k := 1) (n := 12) (Nat.le_of_ble_eq_true rfl) (Nat.le_of_ble_eq_true rfl) ?_
  refine lv_dup hx hb dX0_init_8 rfl ?_
  have hsb13 := hsub
  have hFc := n_free hD hS hA
  refine va_callv (va_runIN (As := []) (rest := [.ref q1, .ref h0]) ⟨hx, hb, hml, hown, hts⟩ (n_X1_init l dC dI H.size L2 K4 F3 q1 m9 hI hLk k11 o10) ⟨(va_cnB 0 hts (ax_gT T_2) rfl rfl rfl (ax_n3 hN) (hts _ T_137) (by decide +kernel) ⟨Nat.le_of_ble_eq_true rfl, Nat.le_of_ble_eq_true rfl⟩), rfl, hts _ T_138⟩ ⟨fun a U g mk q => ⟨q.1, n_pc (U := U) rfl rfl q.2⟩, fun U hU hW => ⟨rfl, n_pw hU hW hP hK hD hN⟩⟩ rfl rfl hl.1 rfl (lv_room (Nat.le_of_ble_eq_true rfl)) dX0_init_9 ⟨Nat.le_of_ble_eq_true rfl, Nat.le_of_ble_eq_true rfl⟩) hS (fun q _ h => hFc q h) hFc (fun u t H1 locs ht hvm hw hB hz1 hk1 hS => ?_)
  obtain ⟨L14, K15, F16⟩ := u
  obtain ⟨hP, hK1, hD1⟩ := hB
  rw [ht] at hP
  have hD : ∀ G, va_D A (va_pl L14 G) := fun G => (hD1 G).weaken (fun k q _ h => hFc _ h)
  generalize H1 = H at hP hS ⊢
  obtain ⟨⟨hs1, hX1, hf1, hk1, hI, hLk, hks1⟩, x17⟩ := hw
  have hP : va_P (dC, dI) vwCl (va_pl L14 F16) H := hP
  have hI : s_I K15 cs 0 F16 := hI
  have hLk : ∀ a, K15 a ≠ 0 → a ∈ L14 := hLk
  have m18 : h0 ∈ L14 := hs1 _ m6
  have k19 : K15 h0 = 0 := (hf1 _ m6 (Ne.symm ne5)).2.trans k7
  have o20 : F16 h0 = .inr (0, [.null, .null, .null, .null, .null, .int 0, .null, .long 0, .null, .int 0, .null, .int 0, .int 0, .int 0]) := (hf1 _ m6 (Ne.symm ne5)).1.trans o8
  have m21 : q1 ∈ L14 := hs1 _ m9
  have k22 : K15 q1 = 0 := hk1
  have hfr : ∀ a ∈ L, a ≠ h0 → F16 a = F a ∧ K15 a = K a := fun a ha hne => ⟨(hf1 a (hsub a ha) (fun h => nl12 (h ▸ ha))).1.trans (hfr a ha hne).1, (hf1 a (hsub a ha) (fun h => nl12 (h ▸ ha))).2.trans (hfr a ha hne).2⟩
  have hsub : ∀ a ∈ L, a ∈ L14 := fun a ha => hs1 a (hsub a ha)
  have hX : n_X K K15 := n_Xt hX hX1
  have hks : ∀ a, K15 a = K a ∨ K15 a ∈ [5, 6, 24, 26, 27, 28, 29, 30, 31, 32, 34, 35, 36, 37, 38] := fun a => (hks1 a).elim (fun h => by rw [show K15 a = K4 a from h]; exact hks a) (fun h => Or.inr (s_sub (by decide) h))
  refine W.widen (k := 3) (n := 24) (Nat.le_of_ble_eq_true rfl) (Nat.le_of_ble_eq_true rfl) ?_
  obtain ⟨q23, q24, o25, k26, k27⟩ := x17
  have o25 : F16 q1 = .inr (1, [.ref q23, .ref q24, .null, .null, .null, .null, .int 0, .int 0, .int 0, .int 0, .int 0, .long 0]) := o25
  have k26 : K15 q23 = 34 := k26
  have k27 : K15 q24 = 35 := k27
  have m28 : q23 ∈ L14 := hLk _ (by rw [k26]; decide)
  have ne29 : q23 ≠ h0 := fun h => by rw [h, k19] at k26; cases k26
  have ne30 : q23 ≠ q1 := fun h => by rw [h, k22] at k26; cases k26
  have m32 : q24 ∈ L14 := hLk _ (by rw [k27]; decide)
  have ne33 : q24 ≠ h0 := fun h => by rw [h, k19] at k27; cases k27
  have ne34 : q24 ≠ q1 := fun h => by rw [h, k22] at k27; cases k27
  have ne35 : q24 ≠ q23 := fun h => by rw [h, k26] at k27; cases k27
  refine n_putF (D := (dC, dI)) (ci := 0) (v := .ref q1) (ty := .object "LaneWarps$Machine") (C := RX0) (T := TX0) (N := 14) hx hb hts inX0 tyX0 tyX0_ok nmX0 hown hK hP hD hS m18 o20 rfl 0 (by decide) (hts _ T_139) (fun _ h9 => h9) rfl hin rfl (by decide +kernel) rfl rfl (Nat.le_of_ble_eq_true rfl) dX0_init_12 (fun H locs hP hS => ?_)
  have hP : va_P (dC, dI) vwCl (va_pl L14 (va_up F16 h0 (.inr (0, [.ref q1, .null, .null, .null, .null, .int 0, .null, .long 0, .null, .int 0, .null, .int 0, .int 0, .int 0])))) H := hP
  obtain ⟨F37, hF37⟩ : ∃ M : Nat → va_E, M = va_up F16 h0 (.inr (0, [.ref q1, .null, .null, .null, .null, .int 0, .null, .long 0, .null, .int 0, .null, .int 0, .int 0, .int 0])) := ⟨_, rfl⟩
  rw [← hF37] at hP
  have hI : s_I K15 cs 0 F37 := by rw [hF37]; exact n_put0 hI k19
  have o38 : F37 q1 = .inr (1, [.ref q23, .ref q24, .null, .null, .null, .null, .int 0, .int 0, .int 0, .int 0, .int 0, .long 0]) := by rw [hF37]; exact th_ne ne5 o25
  have o39 : F37 h0 = .inr (0, [.ref q1, .null, .null, .null, .null, .int 0, .null, .long 0, .null, .int 0, .null, .int 0, .int 0, .int 0]) := by rw [hF37]; exact th_up
  have hfr : ∀ a ∈ L, a ≠ h0 → F37 a = F a ∧ K15 a = K a := fun a ha hne => ⟨by rw [hF37]; exact th_ne hne (hfr a ha hne).1, (hfr a ha hne).2⟩
  refine lv_aload_n hx hb dX0_init_15 rfl (lv_at hl 0 rfl) ?_
  refine n_new (ci := 4) (fs := [.null, .null, .null, .null, .null, .null, .null, .int 0, .int 0, .int 0, .int 0, .int 0, .int 0, .int 0, .int 0]) (C := RX4) (T := TX4) (N := 15) hx hb hts inX4 tyX4 tyX4_ok hown (hts _ T_140) (hts _ T_141) (hts _ T_142) hK hP hD hS hA rfl dvX4 (Nat.le_of_ble_eq_true rfl) (Nat.le_of_ble_eq_true rfl) dX0_init_16 (fun q40 H hq hP hD hS => ?_)
  obtain ⟨L41, hL41⟩ : ∃ M, M = L14 ++ [q40] := ⟨_, rfl⟩
  rw [← hL41] at hP hD
  obtain ⟨F42, hF42⟩ : ∃ M : Nat → va_E, M = va_up F37 q40 (.inr (4, [.null, .null, .null, .null, .null, .null, .null, .int 0, .int 0, .int 0, .int 0, .int 0, .int 0, .int 0, .int 0])) := ⟨_, rfl⟩
  rw [← hF42] at hP
  obtain ⟨hI, hLk, hX1⟩ := n_add (c := 0) hI hLk hq trivial
  obtain ⟨K43, hK43⟩ : ∃ M, M = va_up K15 q40 0 := ⟨_, rfl⟩
  rw [← hK43, ← hF42] at hI
  rw [← hK43, ← hL41] at hLk
  rw [← hK43] at hX1
  have ne44 : q40 ≠ h0 := fun h => hq (h ▸ m18)
  have ne45 : q40 ≠ q1 := fun h => hq (h ▸ m21)
  have ne46 : q40 ≠ q23 := fun h => hq (h ▸ m28)
  have ne47 : q40 ≠ q24 := fun h => hq (h ▸ m32)
  have m48 : h0 ∈ L41 := by rw [hL41]; exact List.mem_append_left _ m18
  have k49 : K43 h0 = 0 := by rw [hK43]; exact th_ne (Ne.symm ne44) k19
  have o50 : F42 h0 = .inr (0, [.ref q1, .null, .null, .null, .null, .int 0, .null, .long 0, .null, .int 0, .null, .int 0, .int 0, .int 0]) := by rw [hF42]; exact th_ne (Ne.symm ne44) o39
  have m51 : q1 ∈ L41 := by rw [hL41]; exact List.mem_append_left _ m21
  have k52 : K43 q1 = 0 := by rw [hK43]; exact th_ne (Ne.symm ne45) k22
  have o53 : F42 q1 = .inr (1, [.ref q23, .ref q24, .null, .null, .null, .null, .int 0, .int 0, .int 0, .int 0, .int 0, .long 0]) := by rw [hF42]; exact th_ne (Ne.symm ne45) o38
  have m54 : q23 ∈ L41 := by rw [hL41]; exact List.mem_append_left _ m28
  have k55 : K43 q23 = 34 := by rw [hK43]; exact th_ne (Ne.symm ne46) k26
  have m56 : q24 ∈ L41 := by rw [hL41]; exact List.mem_append_left _ m32
  have k57 : K43 q24 = 35 := by rw [hK43]; exact th_ne (Ne.symm ne47) k27
  have m58 : q40 ∈ L41 := by rw [hL41]; exact List.mem_append_right _ (List.mem_singleton.mpr rfl)
  have o59 : F42 q40 = (.inr (4, [.null, .null, .null, .null, .null, .null, .null, .int 0, .int 0, .int 0, .int 0, .int 0, .int 0, .int 0, .int 0])) := by rw [hF42]; exact th_up
  have k60 : K43 q40 = 0 := by rw [hK43]; exact th_up
  have nl61 : q40 ∉ L := fun h => hq (hsub q40 h)
  have hfr : ∀ a ∈ L, a ≠ h0 → F42 a = F a ∧ K43 a = K a := fun a ha hne => ⟨by rw [hF42]; exact th_ne (fun h => nl61 (h ▸ ha)) (hfr a ha hne).1, by rw [hK43]; exact th_ne (fun h => nl61 (h ▸ ha)) (hfr a ha hne).2⟩
  have hsub : ∀ a ∈ L, a ∈ L41 := fun a ha => by rw [hL41]; exact List.mem_append_left _ (hsub a ha)
  have hX : n_X K K43 := n_Xt hX hX1
  have hks : ∀ a, K43 a = K a ∨ K43 a ∈ [5, 6, 24, 26, 27, 28, 29, 30, 31, 32, 34, 35, 36, 37, 38] := fun a => by rw [hK43]; by_cases e9 : a = q40; (rw [e9, th_up]; left; exact (Classical.byContradiction (fun h => nl61 (hLk0 _ (fun h8 => h h8.symm))))); rw [show va_up K15 q40 0 a = K15 a from if_neg e9]; exact hks a
  refine W.widen (k := 4) (n := 39) (Nat.le_of_ble_eq_true rfl) (Nat.le_of_ble_eq_true rfl) ?_
  refine lv_dup hx hb dX0_init_19 rfl ?_
  have hsb62 := hsub
  have hFc := n_free hD hS hA
  refine va_callv (va_runI (As := []) (rest := [.ref q40, .ref h0]) ⟨hx, hb, hml, hown, hts⟩ (n_X4_init l dC dI H.size L41 K43 F42 q40 m58 hI hLk k60 o59) (cwI 0 hts (ax_gT T_3) rfl rfl rfl (hts _ T_142) (hts _ T_143) (hts _ T_144) rfl (by decide +kernel) ⟨Nat.le_of_ble_eq_true rfl, Nat.le_of_ble_eq_true rfl⟩) ⟨fun a U g mk q => ⟨q.1, n_pc (U := U) rfl rfl q.2⟩, fun U hU hW => ⟨rfl, n_pw hU hW hP hK hD hN⟩⟩ rfl rfl hl.1 rfl (lv_room (Nat.le_of_ble_eq_true rfl)) dX0_init_20 ⟨Nat.le_of_ble_eq_true rfl, Nat.le_of_ble_eq_true rfl⟩) hS (fun q _ h => hFc q h) hFc (fun u t H1 locs ht hvm hw hB hz1 hk1 hS => ?_)
  obtain ⟨L63, K64, F65⟩ := u
  obtain ⟨hP, hK1, hD1⟩ := hB
  rw [ht] at hP
  have hD : ∀ G, va_D A (va_pl L63 G) := fun G => (hD1 G).weaken (fun k q _ h => hFc _ h)
  generalize H1 = H at hP hS ⊢
  obtain ⟨hs1, hX1, hf1, hk1, hI, hLk, hks1⟩ := hw
  have hP : va_P (dC, dI) vwCl (va_pl L63 F65) H := hP
  have hI : s_I K64 cs 0 F65 := hI
  have hLk : ∀ a, K64 a ≠ 0 → a ∈ L63 := hLk
  have m67 : h0 ∈ L63 := hs1 _ m48
  have k68 : K64 h0 = 0 := (hf1 _ m48 (Ne.symm ne44)).2.trans k49
  have o69 : F65 h0 = .inr (0, [.ref q1, .null, .null, .null, .null, .int 0, .null, .long 0, .null, .int 0, .null, .int 0, .int 0, .int 0]) := (hf1 _ m48 (Ne.symm ne44)).1.trans o50
  have m70 : q1 ∈ L63 := hs1 _ m51
  have k71 : K64 q1 = 0 := (hf1 _ m51 (Ne.symm ne45)).2.trans k52
  have o72 : F65 q1 = .inr (1, [.ref q23, .ref q24, .null, .null, .null, .null, .int 0, .int 0, .int 0, .int 0, .int 0, .long 0]) := (hf1 _ m51 (Ne.symm ne45)).1.trans o53
  have m73 : q23 ∈ L63 := hs1 _ m54
  have k74 : K64 q23 = 34 := (hf1 _ m54 (Ne.symm ne46)).2.trans k55
  have m75 : q24 ∈ L63 := hs1 _ m56
  have k76 : K64 q24 = 35 := (hf1 _ m56 (Ne.symm ne47)).2.trans k57
  have m77 : q40 ∈ L63 := hs1 _ m58
  have k78 : K64 q40 = 5 := hk1
  have hfr : ∀ a ∈ L, a ≠ h0 → F65 a = F a ∧ K64 a = K a := fun a ha hne => ⟨(hf1 a (hsub a ha) (fun h => nl61 (h ▸ ha))).1.trans (hfr a ha hne).1, (hf1 a (hsub a ha) (fun h => nl61 (h ▸ ha))).2.trans (hfr a ha hne).2⟩
  have hsub : ∀ a ∈ L, a ∈ L63 := fun a ha => hs1 a (hsub a ha)
  have hX : n_X K K64 := n_Xt hX hX1
  have hks : ∀ a, K64 a = K a ∨ K64 a ∈ [5, 6, 24, 26, 27, 28, 29, 30, 31, 32, 34, 35, 36, 37, 38] := fun a => (hks1 a).elim (fun h => by rw [show K64 a = K43 a from h]; exact hks a) (fun h => Or.inr (s_sub (by decide) h))
  refine W.widen (k := 35) (n := 973) (Nat.le_of_ble_eq_true rfl) (Nat.le_of_ble_eq_true rfl) ?_
  refine n_putF (D := (dC, dI)) (ci := 0) (v := .ref q40) (ty := .object "LaneWarps$State") (C := RX0) (T := TX0) (N := 14) hx hb hts inX0 tyX0 tyX0_ok nmX0 hown hK hP hD hS m67 o69 rfl 1 (by decide) (hts _ T_145) (fun _ h9 => h9) rfl hin rfl (by decide +kernel) rfl rfl (Nat.le_of_ble_eq_true rfl) dX0_init_23 (fun H locs hP hS => ?_)
  have hP : va_P (dC, dI) vwCl (va_pl L63 (va_up F65 h0 (.inr (0, [.ref q1, .ref q40, .null, .null, .null, .int 0, .null, .long 0, .null, .int 0, .null, .int 0, .int 0, .int 0])))) H := hP
  obtain ⟨F79, hF79⟩ : ∃ M : Nat → va_E, M = va_up F65 h0 (.inr (0, [.ref q1, .ref q40, .null, .null, .null, .int 0, .null, .long 0, .null, .int 0, .null, .int 0, .int 0, .int 0])) := ⟨_, rfl⟩
  rw [← hF79] at hP
  have hI : s_I K64 cs 0 F79 := by rw [hF79]; exact n_put0 hI k68
  have o80 : F79 q1 = .inr (1, [.ref q23, .ref q24, .null, .null, .null, .null, .int 0, .int 0, .int 0, .int 0, .int 0, .long 0]) := by rw [hF79]; exact th_ne ne5 o72
  have o81 : F79 h0 = .inr (0, [.ref q1, .ref q40, .null, .null, .null, .int 0, .null, .long 0, .null, .int 0, .null, .int 0, .int 0, .int 0]) := by rw [hF79]; exact th_up
  have hfr : ∀ a ∈ L, a ≠ h0 → F79 a = F a ∧ K64 a = K a := fun a ha hne => ⟨by rw [hF79]; exact th_ne hne (hfr a ha hne).1, (hfr a ha hne).2⟩
  refine lv_aload_n hx hb dX0_init_26 rfl (lv_at hl 0 rfl) ?_
  refine n_new (ci := 4) (fs := [.null, .null, .null, .null, .null, .null, .null, .int 0, .int 0, .int 0, .int 0, .int 0, .int 0, .int 0, .int 0]) (C := RX4) (T := TX4) (N := 15) hx hb hts inX4 tyX4 tyX4_ok hown (hts _ T_140) (hts _ T_141) (hts _ T_142) hK hP hD hS hA rfl dvX4 (Nat.le_of_ble_eq_true rfl) (Nat.le_of_ble_eq_true rfl) dX0_init_27 (fun q82 H hq hP hD hS => ?_)
  obtain ⟨L83, hL83⟩ : ∃ M, M = L63 ++ [q82] := ⟨_, rfl⟩
  rw [← hL83] at hP hD
  obtain ⟨F84, hF84⟩ : ∃ M : Nat → va_E, M = va_up F79 q82 (.inr (4, [.null, .null, .null, .null, .null, .null, .null, .int 0, .int 0, .int 0, .int 0, .int 0, .int 0, .int 0, .int 0])) := ⟨_, rfl⟩
  rw [← hF84] at hP
  obtain ⟨hI, hLk, hX1⟩ := n_add (c := 0) hI hLk hq trivial
  obtain ⟨K85, hK85⟩ : ∃ M, M = va_up K64 q82 0 := ⟨_, rfl⟩
  rw [← hK85, ← hF84] at hI
  rw [← hK85, ← hL83] at hLk
  rw [← hK85] at hX1
  have ne86 : q82 ≠ h0 := fun h => hq (h ▸ m67)
  have ne87 : q82 ≠ q1 := fun h => hq (h ▸ m70)
  have ne88 : q82 ≠ q23 := fun h => hq (h ▸ m73)
  have ne89 : q82 ≠ q24 := fun h => hq (h ▸ m75)
  have ne90 : q82 ≠ q40 := fun h => hq (h ▸ m77)
  have m91 : h0 ∈ L83 := by rw [hL83]; exact List.mem_append_left _ m67
  have k92 : K85 h0 = 0 := by rw [hK85]; exact th_ne (Ne.symm ne86) k68
  have o93 : F84 h0 = .inr (0, [.ref q1, .ref q40, .null, .null, .null, .int 0, .null, .long 0, .null, .int 0, .null, .int 0, .int 0, .int 0]) := by rw [hF84]; exact th_ne (Ne.symm ne86) o81
  have m94 : q1 ∈ L83 := by rw [hL83]; exact List.mem_append_left _ m70
  have k95 : K85 q1 = 0 := by rw [hK85]; exact th_ne (Ne.symm ne87) k71
  have o96 : F84 q1 = .inr (1, [.ref q23, .ref q24, .null, .null, .null, .null, .int 0, .int 0, .int 0, .int 0, .int 0, .long 0]) := by rw [hF84]; exact th_ne (Ne.symm ne87) o80
  have m97 : q23 ∈ L83 := by rw [hL83]; exact List.mem_append_left _ m73
  have k98 : K85 q23 = 34 := by rw [hK85]; exact th_ne (Ne.symm ne88) k74
  have m99 : q24 ∈ L83 := by rw [hL83]; exact List.mem_append_left _ m75
  have k100 : K85 q24 = 35 := by rw [hK85]; exact th_ne (Ne.symm ne89) k76
  have m101 : q40 ∈ L83 := by rw [hL83]; exact List.mem_append_left _ m77
  have k102 : K85 q40 = 5 := by rw [hK85]; exact th_ne (Ne.symm ne90) k78
  have m103 : q82 ∈ L83 := by rw [hL83]; exact List.mem_append_right _ (List.mem_singleton.mpr rfl)
  have o104 : F84 q82 = (.inr (4, [.null, .null, .null, .null, .null, .null, .null, .int 0, .int 0, .int 0, .int 0, .int 0, .int 0, .int 0, .int 0])) := by rw [hF84]; exact th_up
  have k105 : K85 q82 = 0 := by rw [hK85]; exact th_up
  have nl106 : q82 ∉ L := fun h => hq (hsub q82 h)
  have hfr : ∀ a ∈ L, a ≠ h0 → F84 a = F a ∧ K85 a = K a := fun a ha hne => ⟨by rw [hF84]; exact th_ne (fun h => nl106 (h ▸ ha)) (hfr a ha hne).1, by rw [hK85]; exact th_ne (fun h => nl106 (h ▸ ha)) (hfr a ha hne).2⟩
  have hsub : ∀ a ∈ L, a ∈ L83 := fun a ha => by rw [hL83]; exact List.mem_append_left _ (hsub a ha)
  have hX : n_X K K85 := n_Xt hX hX1
  have hks : ∀ a, K85 a = K a ∨ K85 a ∈ [5, 6, 24, 26, 27, 28, 29, 30, 31, 32, 34, 35, 36, 37, 38] := fun a => by rw [hK85]; by_cases e9 : a = q82; (rw [e9, th_up]; left; exact (Classical.byContradiction (fun h => nl106 (hLk0 _ (fun h8 => h h8.symm))))); rw [show va_up K64 q82 0 a = K64 a from if_neg e9]; exact hks a
  refine W.widen (k := 36) (n := 988) (Nat.le_of_ble_eq_true rfl) (Nat.le_of_ble_eq_true rfl) ?_
  refine lv_dup hx hb dX0_init_30 rfl ?_
  have hsb107 := hsub
  have hFc := n_free hD hS hA
  refine va_callv (va_runI (As := []) (rest := [.ref q82, .ref h0]) ⟨hx, hb, hml, hown, hts⟩ (n_X4_init l dC dI H.size L83 K85 F84 q82 m103 hI hLk k105 o104) (cwI 0 hts (ax_gT T_3) rfl rfl rfl (hts _ T_142) (hts _ T_143) (hts _ T_144) rfl (by decide +kernel) ⟨Nat.le_of_ble_eq_true rfl, Nat.le_of_ble_eq_true rfl⟩) ⟨fun a U g mk q => ⟨q.1, n_pc (U := U) rfl rfl q.2⟩, fun U hU hW => ⟨rfl, n_pw hU hW hP hK hD hN⟩⟩ rfl rfl hl.1 rfl (lv_room (Nat.le_of_ble_eq_true rfl)) dX0_init_31 ⟨Nat.le_of_ble_eq_true rfl, Nat.le_of_ble_eq_true rfl⟩) hS (fun q _ h => hFc q h) hFc (fun u t H1 locs ht hvm hw hB hz1 hk1 hS => ?_)
  obtain ⟨L108, K109, F110⟩ := u
  obtain ⟨hP, hK1, hD1⟩ := hB
  rw [ht] at hP
  have hD : ∀ G, va_D A (va_pl L108 G) := fun G => (hD1 G).weaken (fun k q _ h => hFc _ h)
  generalize H1 = H at hP hS ⊢
  obtain ⟨hs1, hX1, hf1, hk1, hI, hLk, hks1⟩ := hw
  have hP : va_P (dC, dI) vwCl (va_pl L108 F110) H := hP
  have hI : s_I K109 cs 0 F110 := hI
  have hLk : ∀ a, K109 a ≠ 0 → a ∈ L108 := hLk
  have m112 : h0 ∈ L108 := hs1 _ m91
  have k113 : K109 h0 = 0 := (hf1 _ m91 (Ne.symm ne86)).2.trans k92
  have o114 : F110 h0 = .inr (0, [.ref q1, .ref q40, .null, .null, .null, .int 0, .null, .long 0, .null, .int 0, .null, .int 0, .int 0, .int 0]) := (hf1 _ m91 (Ne.symm ne86)).1.trans o93
  have m115 : q1 ∈ L108 := hs1 _ m94
  have k116 : K109 q1 = 0 := (hf1 _ m94 (Ne.symm ne87)).2.trans k95
  have o117 : F110 q1 = .inr (1, [.ref q23, .ref q24, .null, .null, .null, .null, .int 0, .int 0, .int 0, .int 0, .int 0, .long 0]) := (hf1 _ m94 (Ne.symm ne87)).1.trans o96
  have m118 : q23 ∈ L108 := hs1 _ m97
  have k119 : K109 q23 = 34 := (hf1 _ m97 (Ne.symm ne88)).2.trans k98
  have m120 : q24 ∈ L108 := hs1 _ m99
  have k121 : K109 q24 = 35 := (hf1 _ m99 (Ne.symm ne89)).2.trans k100
  have m122 : q40 ∈ L108 := hs1 _ m101
  have k123 : K109 q40 = 5 := (hf1 _ m101 (Ne.symm ne90)).2.trans k102
  have m124 : q82 ∈ L108 := hs1 _ m103
  have k125 : K109 q82 = 5 := hk1
  have hfr : ∀ a ∈ L, a ≠ h0 → F110 a = F a ∧ K109 a = K a := fun a ha hne => ⟨(hf1 a (hsub a ha) (fun h => nl106 (h ▸ ha))).1.trans (hfr a ha hne).1, (hf1 a (hsub a ha) (fun h => nl106 (h ▸ ha))).2.trans (hfr a ha hne).2⟩
  have hsub : ∀ a ∈ L, a ∈ L108 := fun a ha => hs1 a (hsub a ha)
  have hX : n_X K K109 := n_Xt hX hX1
  have hks : ∀ a, K109 a = K a ∨ K109 a ∈ [5, 6, 24, 26, 27, 28, 29, 30, 31, 32, 34, 35, 36, 37, 38] := fun a => (hks1 a).elim (fun h => by rw [show K109 a = K85 a from h]; exact hks a) (fun h => Or.inr (s_sub (by decide) h))
  refine W.widen (k := 67) (n := 1922) (Nat.le_of_ble_eq_true rfl) (Nat.le_of_ble_eq_true rfl) ?_
  refine n_putF (D := (dC, dI)) (ci := 0) (v := .ref q82) (ty := .object "LaneWarps$State") (C := RX0) (T := TX0) (N := 14) hx hb hts inX0 tyX0 tyX0_ok nmX0 hown hK hP hD hS m112 o114 rfl 2 (by decide) (hts _ T_146) (fun _ h9 => h9) rfl hin rfl (by decide +kernel) rfl rfl (Nat.le_of_ble_eq_true rfl) dX0_init_34 (fun H locs hP hS => ?_)
  have hP : va_P (dC, dI) vwCl (va_pl L108 (va_up F110 h0 (.inr (0, [.ref q1, .ref q40, .ref q82, .null, .null, .int 0, .null, .long 0, .null, .int 0, .null, .int 0, .int 0, .int 0])))) H := hP
  obtain ⟨F126, hF126⟩ : ∃ M : Nat → va_E, M = va_up F110 h0 (.inr (0, [.ref q1, .ref q40, .ref q82, .null, .null, .int 0, .null, .long 0, .null, .int 0, .null, .int 0, .int 0, .int 0])) := ⟨_, rfl⟩
  rw [← hF126] at hP
  have hI : s_I K109 cs 0 F126 := by rw [hF126]; exact n_put0 hI k113
  have o127 : F126 q1 = .inr (1, [.ref q23, .ref q24, .null, .null, .null, .null, .int 0, .int 0, .int 0, .int 0, .int 0, .long 0]) := by rw [hF126]; exact th_ne ne5 o117
  have o128 : F126 h0 = .inr (0, [.ref q1, .ref q40, .ref q82, .null, .null, .int 0, .null, .long 0, .null, .int 0, .null, .int 0, .int 0, .int 0]) := by rw [hF126]; exact th_up
  have hfr : ∀ a ∈ L, a ≠ h0 → F126 a = F a ∧ K109 a = K a := fun a ha hne => ⟨by rw [hF126]; exact th_ne hne (hfr a ha hne).1, (hfr a ha hne).2⟩
  refine lv_aload_n hx hb dX0_init_37 rfl (lv_at hl 0 rfl) ?_
  refine n_new (ci := 4) (fs := [.null, .null, .null, .null, .null, .null, .null, .int 0, .int 0, .int 0, .int 0, .int 0, .int 0, .int 0, .int 0]) (C := RX4) (T := TX4) (N := 15) hx hb hts inX4 tyX4 tyX4_ok hown (hts _ T_140) (hts _ T_141) (hts _ T_142) hK hP hD hS hA rfl dvX4 (Nat.le_of_ble_eq_true rfl) (Nat.le_of_ble_eq_true rfl) dX0_init_38 (fun q129 H hq hP hD hS => ?_)
  obtain ⟨L130, hL130⟩ : ∃ M, M = L108 ++ [q129] := ⟨_, rfl⟩
  rw [← hL130] at hP hD
  obtain ⟨F131, hF131⟩ : ∃ M : Nat → va_E, M = va_up F126 q129 (.inr (4, [.null, .null, .null, .null, .null, .null, .null, .int 0, .int 0, .int 0, .int 0, .int 0, .int 0, .int 0, .int 0])) := ⟨_, rfl⟩
  rw [← hF131] at hP
  obtain ⟨hI, hLk, hX1⟩ := n_add (c := 0) hI hLk hq trivial
  obtain ⟨K132, hK132⟩ : ∃ M, M = va_up K109 q129 0 := ⟨_, rfl⟩
  rw [← hK132, ← hF131] at hI
  rw [← hK132, ← hL130] at hLk
  rw [← hK132] at hX1
  have ne133 : q129 ≠ h0 := fun h => hq (h ▸ m112)
  have ne134 : q129 ≠ q1 := fun h => hq (h ▸ m115)
  have ne135 : q129 ≠ q23 := fun h => hq (h ▸ m118)
  have ne136 : q129 ≠ q24 := fun h => hq (h ▸ m120)
  have ne137 : q129 ≠ q40 := fun h => hq (h ▸ m122)
  have ne138 : q129 ≠ q82 := fun h => hq (h ▸ m124)
  have m139 : h0 ∈ L130 := by rw [hL130]; exact List.mem_append_left _ m112
  have k140 : K132 h0 = 0 := by rw [hK132]; exact th_ne (Ne.symm ne133) k113
  have o141 : F131 h0 = .inr (0, [.ref q1, .ref q40, .ref q82, .null, .null, .int 0, .null, .long 0, .null, .int 0, .null, .int 0, .int 0, .int 0]) := by rw [hF131]; exact th_ne (Ne.symm ne133) o128
  have m142 : q1 ∈ L130 := by rw [hL130]; exact List.mem_append_left _ m115
  have k143 : K132 q1 = 0 := by rw [hK132]; exact th_ne (Ne.symm ne134) k116
  have o144 : F131 q1 = .inr (1, [.ref q23, .ref q24, .null, .null, .null, .null, .int 0, .int 0, .int 0, .int 0, .int 0, .long 0]) := by rw [hF131]; exact th_ne (Ne.symm ne134) o127
  have m145 : q23 ∈ L130 := by rw [hL130]; exact List.mem_append_left _ m118
  have k146 : K132 q23 = 34 := by rw [hK132]; exact th_ne (Ne.symm ne135) k119
  have m147 : q24 ∈ L130 := by rw [hL130]; exact List.mem_append_left _ m120
  have k148 : K132 q24 = 35 := by rw [hK132]; exact th_ne (Ne.symm ne136) k121
  have m149 : q40 ∈ L130 := by rw [hL130]; exact List.mem_append_left _ m122
  have k150 : K132 q40 = 5 := by rw [hK132]; exact th_ne (Ne.symm ne137) k123
  have m151 : q82 ∈ L130 := by rw [hL130]; exact List.mem_append_left _ m124
  have k152 : K132 q82 = 5 := by rw [hK132]; exact th_ne (Ne.symm ne138) k125
  have m153 : q129 ∈ L130 := by rw [hL130]; exact List.mem_append_right _ (List.mem_singleton.mpr rfl)
  have o154 : F131 q129 = (.inr (4, [.null, .null, .null, .null, .null, .null, .null, .int 0, .int 0, .int 0, .int 0, .int 0, .int 0, .int 0, .int 0])) := by rw [hF131]; exact th_up
  have k155 : K132 q129 = 0 := by rw [hK132]; exact th_up
  have nl156 : q129 ∉ L := fun h => hq (hsub q129 h)
  have hfr : ∀ a ∈ L, a ≠ h0 → F131 a = F a ∧ K132 a = K a := fun a ha hne => ⟨by rw [hF131]; exact th_ne (fun h => nl156 (h ▸ ha)) (hfr a ha hne).1, by rw [hK132]; exact th_ne (fun h => nl156 (h ▸ ha)) (hfr a ha hne).2⟩
  have hsub : ∀ a ∈ L, a ∈ L130 := fun a ha => by rw [hL130]; exact List.mem_append_left _ (hsub a ha)
  have hX : n_X K K132 := n_Xt hX hX1
  have hks : ∀ a, K132 a = K a ∨ K132 a ∈ [5, 6, 24, 26, 27, 28, 29, 30, 31, 32, 34, 35, 36, 37, 38] := fun a => by rw [hK132]; by_cases e9 : a = q129; (rw [e9, th_up]; left; exact (Classical.byContradiction (fun h => nl156 (hLk0 _ (fun h8 => h h8.symm))))); rw [show va_up K109 q129 0 a = K109 a from if_neg e9]; exact hks a
  refine W.widen (k := 68) (n := 1937) (Nat.le_of_ble_eq_true rfl) (Nat.le_of_ble_eq_true rfl) ?_
  refine lv_dup hx hb dX0_init_41 rfl ?_
  have hsb157 := hsub
  have hFc := n_free hD hS hA
  refine va_callv (va_runI (As := []) (rest := [.ref q129, .ref h0]) ⟨hx, hb, hml, hown, hts⟩ (n_X4_init l dC dI H.size L130 K132 F131 q129 m153 hI hLk k155 o154) (cwI 0 hts (ax_gT T_3) rfl rfl rfl (hts _ T_142) (hts _ T_143) (hts _ T_144) rfl (by decide +kernel) ⟨Nat.le_of_ble_eq_true rfl, Nat.le_of_ble_eq_true rfl⟩) ⟨fun a U g mk q => ⟨q.1, n_pc (U := U) rfl rfl q.2⟩, fun U hU hW => ⟨rfl, n_pw hU hW hP hK hD hN⟩⟩ rfl rfl hl.1 rfl (lv_room (Nat.le_of_ble_eq_true rfl)) dX0_init_42 ⟨Nat.le_of_ble_eq_true rfl, Nat.le_of_ble_eq_true rfl⟩) hS (fun q _ h => hFc q h) hFc (fun u t H1 locs ht hvm hw hB hz1 hk1 hS => ?_)
  obtain ⟨L158, K159, F160⟩ := u
  obtain ⟨hP, hK1, hD1⟩ := hB
  rw [ht] at hP
  have hD : ∀ G, va_D A (va_pl L158 G) := fun G => (hD1 G).weaken (fun k q _ h => hFc _ h)
  generalize H1 = H at hP hS ⊢
  obtain ⟨hs1, hX1, hf1, hk1, hI, hLk, hks1⟩ := hw
  have hP : va_P (dC, dI) vwCl (va_pl L158 F160) H := hP
  have hI : s_I K159 cs 0 F160 := hI
  have hLk : ∀ a, K159 a ≠ 0 → a ∈ L158 := hLk
  have m162 : h0 ∈ L158 := hs1 _ m139
  have k163 : K159 h0 = 0 := (hf1 _ m139 (Ne.symm ne133)).2.trans k140
  have o164 : F160 h0 = .inr (0, [.ref q1, .ref q40, .ref q82, .null, .null, .int 0, .null, .long 0, .null, .int 0, .null, .int 0, .int 0, .int 0]) := (hf1 _ m139 (Ne.symm ne133)).1.trans o141
  have m165 : q1 ∈ L158 := hs1 _ m142
  have k166 : K159 q1 = 0 := (hf1 _ m142 (Ne.symm ne134)).2.trans k143
  have o167 : F160 q1 = .inr (1, [.ref q23, .ref q24, .null, .null, .null, .null, .int 0, .int 0, .int 0, .int 0, .int 0, .long 0]) := (hf1 _ m142 (Ne.symm ne134)).1.trans o144
  have m168 : q23 ∈ L158 := hs1 _ m145
  have k169 : K159 q23 = 34 := (hf1 _ m145 (Ne.symm ne135)).2.trans k146
  have m170 : q24 ∈ L158 := hs1 _ m147
  have k171 : K159 q24 = 35 := (hf1 _ m147 (Ne.symm ne136)).2.trans k148
  have m172 : q40 ∈ L158 := hs1 _ m149
  have k173 : K159 q40 = 5 := (hf1 _ m149 (Ne.symm ne137)).2.trans k150
  have m174 : q82 ∈ L158 := hs1 _ m151
  have k175 : K159 q82 = 5 := (hf1 _ m151 (Ne.symm ne138)).2.trans k152
  have m176 : q129 ∈ L158 := hs1 _ m153
  have k177 : K159 q129 = 5 := hk1
  have hfr : ∀ a ∈ L, a ≠ h0 → F160 a = F a ∧ K159 a = K a := fun a ha hne => ⟨(hf1 a (hsub a ha) (fun h => nl156 (h ▸ ha))).1.trans (hfr a ha hne).1, (hf1 a (hsub a ha) (fun h => nl156 (h ▸ ha))).2.trans (hfr a ha hne).2⟩
  have hsub : ∀ a ∈ L, a ∈ L158 := fun a ha => hs1 a (hsub a ha)
  have hX : n_X K K159 := n_Xt hX hX1
  have hks : ∀ a, K159 a = K a ∨ K159 a ∈ [5, 6, 24, 26, 27, 28, 29, 30, 31, 32, 34, 35, 36, 37, 38] := fun a => (hks1 a).elim (fun h => by rw [show K159 a = K132 a from h]; exact hks a) (fun h => Or.inr (s_sub (by decide) h))
  refine W.widen (k := 99) (n := 2871) (Nat.le_of_ble_eq_true rfl) (Nat.le_of_ble_eq_true rfl) ?_
  refine n_putF (D := (dC, dI)) (ci := 0) (v := .ref q129) (ty := .object "LaneWarps$State") (C := RX0) (T := TX0) (N := 14) hx hb hts inX0 tyX0 tyX0_ok nmX0 hown hK hP hD hS m162 o164 rfl 3 (by decide) (hts _ T_147) (fun _ h9 => h9) rfl hin rfl (by decide +kernel) rfl rfl (Nat.le_of_ble_eq_true rfl) dX0_init_45 (fun H locs hP hS => ?_)
  have hP : va_P (dC, dI) vwCl (va_pl L158 (va_up F160 h0 (.inr (0, [.ref q1, .ref q40, .ref q82, .ref q129, .null, .int 0, .null, .long 0, .null, .int 0, .null, .int 0, .int 0, .int 0])))) H := hP
  obtain ⟨F178, hF178⟩ : ∃ M : Nat → va_E, M = va_up F160 h0 (.inr (0, [.ref q1, .ref q40, .ref q82, .ref q129, .null, .int 0, .null, .long 0, .null, .int 0, .null, .int 0, .int 0, .int 0])) := ⟨_, rfl⟩
  rw [← hF178] at hP
  have hI : s_I K159 cs 0 F178 := by rw [hF178]; exact n_put0 hI k163
  have o179 : F178 q1 = .inr (1, [.ref q23, .ref q24, .null, .null, .null, .null, .int 0, .int 0, .int 0, .int 0, .int 0, .long 0]) := by rw [hF178]; exact th_ne ne5 o167
  have o180 : F178 h0 = .inr (0, [.ref q1, .ref q40, .ref q82, .ref q129, .null, .int 0, .null, .long 0, .null, .int 0, .null, .int 0, .int 0, .int 0]) := by rw [hF178]; exact th_up
  have hfr : ∀ a ∈ L, a ≠ h0 → F178 a = F a ∧ K159 a = K a := fun a ha hne => ⟨by rw [hF178]; exact th_ne hne (hfr a ha hne).1, (hfr a ha hne).2⟩
  refine lv_aload_n hx hb dX0_init_48 rfl (lv_at hl 0 rfl) ?_
  refine lv_bipush (v := 51) hx hb dX0_init_49 (by decide) ?_
  refine n_newa (atype := .int) (a0 := (51, .inl (fun _ => 0))) hx hb (hts _ T_99) rfl hK hP hD hS hA 0 rfl (fun _ => rfl) (by decide) (by decide) (Nat.le_of_ble_eq_true rfl) (Nat.le_of_ble_eq_true rfl) (Nat.le_of_ble_eq_true rfl) dX0_init_51 (fun q181 H hq hP hD hS => ?_)
  obtain ⟨L182, hL182⟩ : ∃ M, M = L158 ++ [q181] := ⟨_, rfl⟩
  rw [← hL182] at hP hD
  obtain ⟨F183, hF183⟩ : ∃ M : Nat → va_E, M = va_up F178 q181 (.inl (cs 0, 51, .inl (fun _ => 0))) := ⟨_, rfl⟩
  rw [← hF183] at hP
  obtain ⟨hI, hLk, hX1⟩ := n_add (c := 36) hI hLk hq (show ok_36 cs _ from ⟨_, rfl, trivial⟩)
  obtain ⟨K184, hK184⟩ : ∃ M, M = va_up K159 q181 36 := ⟨_, rfl⟩
  rw [← hK184, ← hF183] at hI
  rw [← hK184, ← hL182] at hLk
  rw [← hK184] at hX1
  have ne185 : q181 ≠ h0 := fun h => hq (h ▸ m162)
  have ne186 : q181 ≠ q1 := fun h => hq (h ▸ m165)
  have ne187 : q181 ≠ q23 := fun h => hq (h ▸ m168)
  have ne188 : q181 ≠ q24 := fun h => hq (h ▸ m170)
  have ne189 : q181 ≠ q40 := fun h => hq (h ▸ m172)
  have ne190 : q181 ≠ q82 := fun h => hq (h ▸ m174)
  have ne191 : q181 ≠ q129 := fun h => hq (h ▸ m176)
  have m192 : h0 ∈ L182 := by rw [hL182]; exact List.mem_append_left _ m162
  have k193 : K184 h0 = 0 := by rw [hK184]; exact th_ne (Ne.symm ne185) k163
  have o194 : F183 h0 = .inr (0, [.ref q1, .ref q40, .ref q82, .ref q129, .null, .int 0, .null, .long 0, .null, .int 0, .null, .int 0, .int 0, .int 0]) := by rw [hF183]; exact th_ne (Ne.symm ne185) o180
  have m195 : q1 ∈ L182 := by rw [hL182]; exact List.mem_append_left _ m165
  have k196 : K184 q1 = 0 := by rw [hK184]; exact th_ne (Ne.symm ne186) k166
  have o197 : F183 q1 = .inr (1, [.ref q23, .ref q24, .null, .null, .null, .null, .int 0, .int 0, .int 0, .int 0, .int 0, .long 0]) := by rw [hF183]; exact th_ne (Ne.symm ne186) o179
  have m198 : q23 ∈ L182 := by rw [hL182]; exact List.mem_append_left _ m168
  have k199 : K184 q23 = 34 := by rw [hK184]; exact th_ne (Ne.symm ne187) k169
  have m200 : q24 ∈ L182 := by rw [hL182]; exact List.mem_append_left _ m170
  have k201 : K184 q24 = 35 := by rw [hK184]; exact th_ne (Ne.symm ne188) k171
  have m202 : q40 ∈ L182 := by rw [hL182]; exact List.mem_append_left _ m172
  have k203 : K184 q40 = 5 := by rw [hK184]; exact th_ne (Ne.symm ne189) k173
  have m204 : q82 ∈ L182 := by rw [hL182]; exact List.mem_append_left _ m174
  have k205 : K184 q82 = 5 := by rw [hK184]; exact th_ne (Ne.symm ne190) k175
  have m206 : q129 ∈ L182 := by rw [hL182]; exact List.mem_append_left _ m176
  have k207 : K184 q129 = 5 := by rw [hK184]; exact th_ne (Ne.symm ne191) k177
  have m208 : q181 ∈ L182 := by rw [hL182]; exact List.mem_append_right _ (List.mem_singleton.mpr rfl)
  have o209 : F183 q181 = (.inl (cs 0, 51, .inl (fun _ => 0))) := by rw [hF183]; exact th_up
  have k210 : K184 q181 = 36 := by rw [hK184]; exact th_up
  have nl211 : q181 ∉ L := fun h => hq (hsub q181 h)
  have hfr : ∀ a ∈ L, a ≠ h0 → F183 a = F a ∧ K184 a = K a := fun a ha hne => ⟨by rw [hF183]; exact th_ne (fun h => nl211 (h ▸ ha)) (hfr a ha hne).1, by rw [hK184]; exact th_ne (fun h => nl211 (h ▸ ha)) (hfr a ha hne).2⟩
  have hsub : ∀ a ∈ L, a ∈ L182 := fun a ha => by rw [hL182]; exact List.mem_append_left _ (hsub a ha)
  have hX : n_X K K184 := n_Xt hX hX1
  have hks : ∀ a, K184 a = K a ∨ K184 a ∈ [5, 6, 24, 26, 27, 28, 29, 30, 31, 32, 34, 35, 36, 37, 38] := fun a => by rw [hK184]; by_cases e9 : a = q181; (rw [e9, th_up]; right; decide); rw [show va_up K159 q181 36 a = K159 a from if_neg e9]; exact hks a
  refine W.widen (k := 100) (n := 2922) (Nat.le_of_ble_eq_true rfl) (Nat.le_of_ble_eq_true rfl) ?_
  refine n_putF (D := (dC, dI)) (ci := 0) (v := .ref q181) (ty := .array .int) (C := RX0) (T := TX0) (N := 14) hx hb hts inX0 tyX0 tyX0_ok nmX0 hown hK hP hD hS m192 o194 rfl 4 (by decide) (hts _ T_148) (fun _ h9 => h9) rfl hin rfl (by decide +kernel) rfl rfl (Nat.le_of_ble_eq_true rfl) dX0_init_53 (fun H locs hP hS => ?_)
  have hP : va_P (dC, dI) vwCl (va_pl L182 (va_up F183 h0 (.inr (0, [.ref q1, .ref q40, .ref q82, .ref q129, .ref q181, .int 0, .null, .long 0, .null, .int 0, .null, .int 0, .int 0, .int 0])))) H := hP
  obtain ⟨F212, hF212⟩ : ∃ M : Nat → va_E, M = va_up F183 h0 (.inr (0, [.ref q1, .ref q40, .ref q82, .ref q129, .ref q181, .int 0, .null, .long 0, .null, .int 0, .null, .int 0, .int 0, .int 0])) := ⟨_, rfl⟩
  rw [← hF212] at hP
  have hI : s_I K184 cs 0 F212 := by rw [hF212]; exact n_put0 hI k193
  have o213 : F212 q1 = .inr (1, [.ref q23, .ref q24, .null, .null, .null, .null, .int 0, .int 0, .int 0, .int 0, .int 0, .long 0]) := by rw [hF212]; exact th_ne ne5 o197
  have o214 : F212 h0 = .inr (0, [.ref q1, .ref q40, .ref q82, .ref q129, .ref q181, .int 0, .null, .long 0, .null, .int 0, .null, .int 0, .int 0, .int 0]) := by rw [hF212]; exact th_up
  have hfr : ∀ a ∈ L, a ≠ h0 → F212 a = F a ∧ K184 a = K a := fun a ha hne => ⟨by rw [hF212]; exact th_ne hne (hfr a ha hne).1, (hfr a ha hne).2⟩
  refine lv_aload_n hx hb dX0_init_56 rfl (lv_at hl 0 rfl) ?_
  refine lv_sipush (v := 1024) hx hb dX0_init_57 (by decide) ?_
  refine n_newa (atype := .int) (a0 := (1024, .inl (fun _ => 0))) hx hb (hts _ T_99) rfl hK hP hD hS hA 0 rfl (fun _ => rfl) (by decide) (by decide) (Nat.le_of_ble_eq_true rfl) (Nat.le_of_ble_eq_true rfl) (Nat.le_of_ble_eq_true rfl) dX0_init_60 (fun q215 H hq hP hD hS => ?_)
  obtain ⟨L216, hL216⟩ : ∃ M, M = L182 ++ [q215] := ⟨_, rfl⟩
  rw [← hL216] at hP hD
  obtain ⟨F217, hF217⟩ : ∃ M : Nat → va_E, M = va_up F212 q215 (.inl (cs 0, 1024, .inl (fun _ => 0))) := ⟨_, rfl⟩
  rw [← hF217] at hP
  obtain ⟨hI, hLk, hX1⟩ := n_add (c := 37) hI hLk hq (show ok_37 cs _ from ⟨_, rfl, trivial⟩)
  obtain ⟨K218, hK218⟩ : ∃ M, M = va_up K184 q215 37 := ⟨_, rfl⟩
  rw [← hK218, ← hF217] at hI
  rw [← hK218, ← hL216] at hLk
  rw [← hK218] at hX1
  have ne219 : q215 ≠ h0 := fun h => hq (h ▸ m192)
  have ne220 : q215 ≠ q1 := fun h => hq (h ▸ m195)
  have ne221 : q215 ≠ q23 := fun h => hq (h ▸ m198)
  have ne222 : q215 ≠ q24 := fun h => hq (h ▸ m200)
  have ne223 : q215 ≠ q40 := fun h => hq (h ▸ m202)
  have ne224 : q215 ≠ q82 := fun h => hq (h ▸ m204)
  have ne225 : q215 ≠ q129 := fun h => hq (h ▸ m206)
  have ne226 : q215 ≠ q181 := fun h => hq (h ▸ m208)
  have m227 : h0 ∈ L216 := by rw [hL216]; exact List.mem_append_left _ m192
  have k228 : K218 h0 = 0 := by rw [hK218]; exact th_ne (Ne.symm ne219) k193
  have o229 : F217 h0 = .inr (0, [.ref q1, .ref q40, .ref q82, .ref q129, .ref q181, .int 0, .null, .long 0, .null, .int 0, .null, .int 0, .int 0, .int 0]) := by rw [hF217]; exact th_ne (Ne.symm ne219) o214
  have m230 : q1 ∈ L216 := by rw [hL216]; exact List.mem_append_left _ m195
  have k231 : K218 q1 = 0 := by rw [hK218]; exact th_ne (Ne.symm ne220) k196
  have o232 : F217 q1 = .inr (1, [.ref q23, .ref q24, .null, .null, .null, .null, .int 0, .int 0, .int 0, .int 0, .int 0, .long 0]) := by rw [hF217]; exact th_ne (Ne.symm ne220) o213
  have m233 : q23 ∈ L216 := by rw [hL216]; exact List.mem_append_left _ m198
  have k234 : K218 q23 = 34 := by rw [hK218]; exact th_ne (Ne.symm ne221) k199
  have m235 : q24 ∈ L216 := by rw [hL216]; exact List.mem_append_left _ m200
  have k236 : K218 q24 = 35 := by rw [hK218]; exact th_ne (Ne.symm ne222) k201
  have m237 : q40 ∈ L216 := by rw [hL216]; exact List.mem_append_left _ m202
  have k238 : K218 q40 = 5 := by rw [hK218]; exact th_ne (Ne.symm ne223) k203
  have m239 : q82 ∈ L216 := by rw [hL216]; exact List.mem_append_left _ m204
  have k240 : K218 q82 = 5 := by rw [hK218]; exact th_ne (Ne.symm ne224) k205
  have m241 : q129 ∈ L216 := by rw [hL216]; exact List.mem_append_left _ m206
  have k242 : K218 q129 = 5 := by rw [hK218]; exact th_ne (Ne.symm ne225) k207
  have m243 : q181 ∈ L216 := by rw [hL216]; exact List.mem_append_left _ m208
  have k244 : K218 q181 = 36 := by rw [hK218]; exact th_ne (Ne.symm ne226) k210
  have m245 : q215 ∈ L216 := by rw [hL216]; exact List.mem_append_right _ (List.mem_singleton.mpr rfl)
  have o246 : F217 q215 = (.inl (cs 0, 1024, .inl (fun _ => 0))) := by rw [hF217]; exact th_up
  have k247 : K218 q215 = 37 := by rw [hK218]; exact th_up
  have nl248 : q215 ∉ L := fun h => hq (hsub q215 h)
  have hfr : ∀ a ∈ L, a ≠ h0 → F217 a = F a ∧ K218 a = K a := fun a ha hne => ⟨by rw [hF217]; exact th_ne (fun h => nl248 (h ▸ ha)) (hfr a ha hne).1, by rw [hK218]; exact th_ne (fun h => nl248 (h ▸ ha)) (hfr a ha hne).2⟩
  have hsub : ∀ a ∈ L, a ∈ L216 := fun a ha => by rw [hL216]; exact List.mem_append_left _ (hsub a ha)
  have hX : n_X K K218 := n_Xt hX hX1
  have hks : ∀ a, K218 a = K a ∨ K218 a ∈ [5, 6, 24, 26, 27, 28, 29, 30, 31, 32, 34, 35, 36, 37, 38] := fun a => by rw [hK218]; by_cases e9 : a = q215; (rw [e9, th_up]; right; decide); rw [show va_up K184 q215 37 a = K184 a from if_neg e9]; exact hks a
  refine W.widen (k := 101) (n := 3946) (Nat.le_of_ble_eq_true rfl) (Nat.le_of_ble_eq_true rfl) ?_
  refine n_putF (D := (dC, dI)) (ci := 0) (v := .ref q215) (ty := .array .int) (C := RX0) (T := TX0) (N := 14) hx hb hts inX0 tyX0 tyX0_ok nmX0 hown hK hP hD hS m227 o229 rfl 6 (by decide) (hts _ T_149) (fun _ h9 => h9) rfl hin rfl (by decide +kernel) rfl rfl (Nat.le_of_ble_eq_true rfl) dX0_init_62 (fun H locs hP hS => ?_)
  have hP : va_P (dC, dI) vwCl (va_pl L216 (va_up F217 h0 (.inr (0, [.ref q1, .ref q40, .ref q82, .ref q129, .ref q181, .int 0, .ref q215, .long 0, .null, .int 0, .null, .int 0, .int 0, .int 0])))) H := hP
  obtain ⟨F249, hF249⟩ : ∃ M : Nat → va_E, M = va_up F217 h0 (.inr (0, [.ref q1, .ref q40, .ref q82, .ref q129, .ref q181, .int 0, .ref q215, .long 0, .null, .int 0, .null, .int 0, .int 0, .int 0])) := ⟨_, rfl⟩
  rw [← hF249] at hP
  have hI : s_I K218 cs 0 F249 := by rw [hF249]; exact n_put0 hI k228
  have o250 : F249 q1 = .inr (1, [.ref q23, .ref q24, .null, .null, .null, .null, .int 0, .int 0, .int 0, .int 0, .int 0, .long 0]) := by rw [hF249]; exact th_ne ne5 o232
  have o251 : F249 h0 = .inr (0, [.ref q1, .ref q40, .ref q82, .ref q129, .ref q181, .int 0, .ref q215, .long 0, .null, .int 0, .null, .int 0, .int 0, .int 0]) := by rw [hF249]; exact th_up
  have hfr : ∀ a ∈ L, a ≠ h0 → F249 a = F a ∧ K218 a = K a := fun a ha hne => ⟨by rw [hF249]; exact th_ne hne (hfr a ha hne).1, (hfr a ha hne).2⟩
  refine lv_aload_n hx hb dX0_init_65 rfl (lv_at hl 0 rfl) ?_
  refine lv_sipush (v := 160) hx hb dX0_init_66 (by decide) ?_
  refine n_newa (atype := .int) (a0 := (160, .inl (fun _ => 0))) hx hb (hts _ T_99) rfl hK hP hD hS hA 0 rfl (fun _ => rfl) (by decide) (by decide) (Nat.le_of_ble_eq_true rfl) (Nat.le_of_ble_eq_true rfl) (Nat.le_of_ble_eq_true rfl) dX0_init_69 (fun q252 H hq hP hD hS => ?_)
  obtain ⟨L253, hL253⟩ : ∃ M, M = L216 ++ [q252] := ⟨_, rfl⟩
  rw [← hL253] at hP hD
  obtain ⟨F254, hF254⟩ : ∃ M : Nat → va_E, M = va_up F249 q252 (.inl (cs 0, 160, .inl (fun _ => 0))) := ⟨_, rfl⟩
  rw [← hF254] at hP
  obtain ⟨hI, hLk, hX1⟩ := n_add (c := 38) hI hLk hq (show ok_38 cs _ from ⟨_, rfl, trivial⟩)
  obtain ⟨K255, hK255⟩ : ∃ M, M = va_up K218 q252 38 := ⟨_, rfl⟩
  rw [← hK255, ← hF254] at hI
  rw [← hK255, ← hL253] at hLk
  rw [← hK255] at hX1
  have ne256 : q252 ≠ h0 := fun h => hq (h ▸ m227)
  have ne257 : q252 ≠ q1 := fun h => hq (h ▸ m230)
  have ne258 : q252 ≠ q23 := fun h => hq (h ▸ m233)
  have ne259 : q252 ≠ q24 := fun h => hq (h ▸ m235)
  have ne260 : q252 ≠ q40 := fun h => hq (h ▸ m237)
  have ne261 : q252 ≠ q82 := fun h => hq (h ▸ m239)
  have ne262 : q252 ≠ q129 := fun h => hq (h ▸ m241)
  have ne263 : q252 ≠ q181 := fun h => hq (h ▸ m243)
  have ne264 : q252 ≠ q215 := fun h => hq (h ▸ m245)
  have m265 : h0 ∈ L253 := by rw [hL253]; exact List.mem_append_left _ m227
  have k266 : K255 h0 = 0 := by rw [hK255]; exact th_ne (Ne.symm ne256) k228
  have o267 : F254 h0 = .inr (0, [.ref q1, .ref q40, .ref q82, .ref q129, .ref q181, .int 0, .ref q215, .long 0, .null, .int 0, .null, .int 0, .int 0, .int 0]) := by rw [hF254]; exact th_ne (Ne.symm ne256) o251
  have m268 : q1 ∈ L253 := by rw [hL253]; exact List.mem_append_left _ m230
  have k269 : K255 q1 = 0 := by rw [hK255]; exact th_ne (Ne.symm ne257) k231
  have o270 : F254 q1 = .inr (1, [.ref q23, .ref q24, .null, .null, .null, .null, .int 0, .int 0, .int 0, .int 0, .int 0, .long 0]) := by rw [hF254]; exact th_ne (Ne.symm ne257) o250
  have m271 : q23 ∈ L253 := by rw [hL253]; exact List.mem_append_left _ m233
  have k272 : K255 q23 = 34 := by rw [hK255]; exact th_ne (Ne.symm ne258) k234
  have m273 : q24 ∈ L253 := by rw [hL253]; exact List.mem_append_left _ m235
  have k274 : K255 q24 = 35 := by rw [hK255]; exact th_ne (Ne.symm ne259) k236
  have m275 : q40 ∈ L253 := by rw [hL253]; exact List.mem_append_left _ m237
  have k276 : K255 q40 = 5 := by rw [hK255]; exact th_ne (Ne.symm ne260) k238
  have m277 : q82 ∈ L253 := by rw [hL253]; exact List.mem_append_left _ m239
  have k278 : K255 q82 = 5 := by rw [hK255]; exact th_ne (Ne.symm ne261) k240
  have m279 : q129 ∈ L253 := by rw [hL253]; exact List.mem_append_left _ m241
  have k280 : K255 q129 = 5 := by rw [hK255]; exact th_ne (Ne.symm ne262) k242
  have m281 : q181 ∈ L253 := by rw [hL253]; exact List.mem_append_left _ m243
  have k282 : K255 q181 = 36 := by rw [hK255]; exact th_ne (Ne.symm ne263) k244
  have m283 : q215 ∈ L253 := by rw [hL253]; exact List.mem_append_left _ m245
  have k284 : K255 q215 = 37 := by rw [hK255]; exact th_ne (Ne.symm ne264) k247
  have m285 : q252 ∈ L253 := by rw [hL253]; exact List.mem_append_right _ (List.mem_singleton.mpr rfl)
  have o286 : F254 q252 = (.inl (cs 0, 160, .inl (fun _ => 0))) := by rw [hF254]; exact th_up
  have k287 : K255 q252 = 38 := by rw [hK255]; exact th_up
  have nl288 : q252 ∉ L := fun h => hq (hsub q252 h)
  have hfr : ∀ a ∈ L, a ≠ h0 → F254 a = F a ∧ K255 a = K a := fun a ha hne => ⟨by rw [hF254]; exact th_ne (fun h => nl288 (h ▸ ha)) (hfr a ha hne).1, by rw [hK255]; exact th_ne (fun h => nl288 (h ▸ ha)) (hfr a ha hne).2⟩
  have hsub : ∀ a ∈ L, a ∈ L253 := fun a ha => by rw [hL253]; exact List.mem_append_left _ (hsub a ha)
  have hX : n_X K K255 := n_Xt hX hX1
  have hks : ∀ a, K255 a = K a ∨ K255 a ∈ [5, 6, 24, 26, 27, 28, 29, 30, 31, 32, 34, 35, 36, 37, 38] := fun a => by rw [hK255]; by_cases e9 : a = q252; (rw [e9, th_up]; right; decide); rw [show va_up K218 q252 38 a = K218 a from if_neg e9]; exact hks a
  refine W.widen (k := 102) (n := 4106) (Nat.le_of_ble_eq_true rfl) (Nat.le_of_ble_eq_true rfl) ?_
  refine n_putF (D := (dC, dI)) (ci := 0) (v := .ref q252) (ty := .array .int) (C := RX0) (T := TX0) (N := 14) hx hb hts inX0 tyX0 tyX0_ok nmX0 hown hK hP hD hS m265 o267 rfl 8 (by decide) (hts _ T_150) (fun _ h9 => h9) rfl hin rfl (by decide +kernel) rfl rfl (Nat.le_of_ble_eq_true rfl) dX0_init_71 (fun H locs hP hS => ?_)
  have hP : va_P (dC, dI) vwCl (va_pl L253 (va_up F254 h0 (.inr (0, [.ref q1, .ref q40, .ref q82, .ref q129, .ref q181, .int 0, .ref q215, .long 0, .ref q252, .int 0, .null, .int 0, .int 0, .int 0])))) H := hP
  obtain ⟨F289, hF289⟩ : ∃ M : Nat → va_E, M = va_up F254 h0 (.inr (0, [.ref q1, .ref q40, .ref q82, .ref q129, .ref q181, .int 0, .ref q215, .long 0, .ref q252, .int 0, .null, .int 0, .int 0, .int 0])) := ⟨_, rfl⟩
  rw [← hF289] at hP
  have hI : s_I K255 cs 0 F289 := by rw [hF289]; exact n_put0 hI k266
  have o290 : F289 q1 = .inr (1, [.ref q23, .ref q24, .null, .null, .null, .null, .int 0, .int 0, .int 0, .int 0, .int 0, .long 0]) := by rw [hF289]; exact th_ne ne5 o270
  have o291 : F289 h0 = .inr (0, [.ref q1, .ref q40, .ref q82, .ref q129, .ref q181, .int 0, .ref q215, .long 0, .ref q252, .int 0, .null, .int 0, .int 0, .int 0]) := by rw [hF289]; exact th_up
  have hfr : ∀ a ∈ L, a ≠ h0 → F289 a = F a ∧ K255 a = K a := fun a ha hne => ⟨by rw [hF289]; exact th_ne hne (hfr a ha hne).1, (hfr a ha hne).2⟩
  exact W.vret hx hb hr (fun t ht hW => ⟨⟨(L253, K255, F289), rfl, ⟨⟨hsub, hX, hfr, k266, hI, hLk, hks⟩, ⟨q1, q40, q82, q129, q181, q215, q252, q23, q24, o291, o290, ⟨m268, nl12, ne5, k269⟩, k276, k278, k280, k282, k284, k287, k272, k274⟩⟩, by rw [ht]; exact hP, va_K.moved hW.alike hK, hD⟩, hS.F ht⟩) hS.2.2 dX0_init_74
