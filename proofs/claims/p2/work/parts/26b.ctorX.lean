set_option maxHeartbeats 4000000 in
set_option maxRecDepth 100000 in
/-- LaneWarps(): all its objects -/
theorem n_X6_init (l : Launch) (dC : Nat → ClassId) (dI : Nat → Nat → Nat) (sz : Nat) {cs : Nat → ClassId} (L : List Nat) (K : Nat → Nat) (F : Nat → va_E) (h0 : Nat) (hh : h0 ∈ L) (hI : s_I K cs 0 F) (hLk : ∀ a, K a ≠ 0 → a ∈ L) (hk : K h0 = 0) (hK0 : ∀ a, K a = 0) (o0 : F h0 = .inr (6, [.null, .int 0, .null, .null, .null, .int 0, .null, .null, .int 0, .int 0, .null, .null, .null, .long 0])) : Met l yX6_init (Cond.code yX6_init cX6_init 2 none :: T0) ({ frames := 4, cells := 874, slots := 26738, locals := 73 }) (va_Pc [.ref h0] (n_W dC dI sz L F [(cs 0, .int), (cs 1, .byte), (cs 2, .long), (cs 3, .object RX5), (cs 4, .object RX4), (cs 5, .array .int), (cs 6, .char), (cs 7, .boolean)])) (va_Qv (fun (u : List Nat × (Nat → Nat) × (Nat → va_E) × (Nat → ClassId)) => (∀ a ∈ L, a ∈ u.1) ∧ (∀ a ∈ L, a ≠ h0 → u.2.2.1 a = F a ∧ u.2.1 a = 0) ∧ u.2.1 h0 = 7 ∧ s_I u.2.1 u.2.2.2 0 u.2.2.1 ∧ (∀ a, u.2.1 a ≠ 0 → a ∈ u.1) ∧ (∀ a, u.2.1 a = 0 ∨ u.2.1 a ∈ [1, 2, 3, 4, 5, 6, 7, 8, 20, 21, 22, 23, 24, 25, 26, 27, 28, 29, 30, 31, 32, 33, 34, 35, 36, 37, 38, 39, 42, 43]) ∧ (∀ i, i < 20 → u.2.2.2 i = cs i) ∧ s_UQ u.2.1 u.2.2.2 h0 ∧ s_PG u.2.1 u.2.2.2 u.2.2.1 ∧ s_RI u.2.1 u.2.2.2 u.2.2.1 ∧ s_RJ u.2.1 u.2.2.2 u.2.2.1 ∧ u.2.2.2 24 = 0 ∧ y_fi u.2.2.1 h0 1 = 0) (fun (u : List Nat × (Nat → Nat) × (Nat → va_E) × (Nat → ClassId)) (t : State) => va_P (dC, dI) vwCl (va_pl u.1 u.2.2.1) t.heap ∧ va_K (dC, dI) vwCl [(cs 0, .int), (cs 1, .byte), (cs 2, .long), (cs 3, .object RX5), (cs 4, .object RX4), (cs 5, .array .int), (cs 6, .char), (cs 7, .boolean)] t ∧ ∀ G, va_D (n_A L sz) (va_pl u.1 G)) (n_A L sz)) 874 26738 (n_A L sz) := by
  refine Met.ofW (cc := cX6_init) (maxL := 2) (ret := none) (by decide) rfl ?_
  intro p e s m args below meth c s₁ B hml hv
  obtain ⟨rfl, hsz, hP, hK, hD, hN⟩ := hv
  have hx := B.exec
  have hb := B.bytes
  have hr := B.returns
  have hts : ∀ w ∈ T0, w.before _ s = true := fun w h => atoms_spec (ws := Cond.code yX6_init cX6_init 2 none :: T0) B.pre w (List.mem_cons_of_mem _ h)
  have hown : s.vm.findClass RX6 = some m.cls := findClass_of_methodNamed B.named
  have hlocks := B.notSynchronized
  have hin : meth.name = "<init>" := (name_of_methodNamed B.named B.method).1
  subst hsz
  generalize hAe : n_A L s.heap.size = A at hD ⊢
  have hA : ∀ q : Nat, s.heap.size ≤ q → A q := fun q h => by rw [← hAe]; exact Or.inr h
  have hS : va_S A s.heap s.heap [] := va_S.rf
  have hl := lv_entry ([.ref h0]) (n := 2) (Nat.le_of_ble_eq_true rfl)
  rw [lg_entry_eq]
  generalize (lg_sl ([.ref h0]) ++ List.replicate (2 - (lg_sl ([.ref h0])).length) Slot.unset).toArray = ls at hl ⊢
  have hl : lv_has ls 2 [(0, .ref h0)] := hl
  have hsub : ∀ a ∈ L, a ∈ L := fun _ h => h
  have hfr : ∀ a ∈ L, a ≠ h0 → F a = F a ∧ K a = K a := fun _ _ _ => ⟨rfl, rfl⟩
  have hzz : ∀ a, K a ∉ [1, 2, 3, 7, 8, 22, 23, 42, 43] := fun a h9 => by rw [hK0 a] at h9; exact absurd h9 (by decide)
  have hX : n_X K K := n_Xr K
  have hLk0 := hLk
  have hks : ∀ a, K a = K a ∨ K a ∈ [4, 5, 6, 20, 21, 22, 23, 24, 25, 26, 27, 28, 29, 30, 31, 32, 33, 34, 35, 36, 37, 38, 39, 42, 43] := fun a => Or.inl rfl
  refine s_gen hP hS (fun H locs hP hS => ?_)
  refine lv_aload_n hx hb dX6_init_0 rfl (lv_at hl 0 rfl) ?_
  refine W.objInit hx hb hown (hts _ T_158) (hts _ T_98) (hts _ T_0) rfl (by rw [hml]; exact hl.1) rfl dX6_init_1 (Nat.le_of_ble_eq_true rfl) (Nat.le_of_ble_eq_true rfl) ?_
  refine W.eq (g2 := F0 m 4 ls []) rfl ?_
  refine lv_aload_n hx hb dX6_init_4 rfl (lv_at hl 0 rfl) ?_
  refine lv_sipush (v := 1600) hx hb dX6_init_5 (by decide) ?_
  refine n_newa (atype := .byte) (a0 := (1600, .inl (fun _ => 0))) hx hb (hts _ T_159) rfl hK hP hD hS hA 1 rfl (fun _ => rfl) (by decide) (by decide) (Nat.le_of_ble_eq_true rfl) (Nat.le_of_ble_eq_true rfl) (Nat.le_of_ble_eq_true rfl) dX6_init_8 (fun q1 H hq hP hD hS => ?_)
  obtain ⟨L2, hL2⟩ : ∃ M, M = L ++ [q1] := ⟨_, rfl⟩
  rw [← hL2] at hP hD
  obtain ⟨F3, hF3⟩ : ∃ M : Nat → va_E, M = va_up F q1 (.inl (cs 1, 1600, .inl (fun _ => 0))) := ⟨_, rfl⟩
  rw [← hF3] at hP
  obtain ⟨hI, hLk, hX1⟩ := n_add (c := 20) hI hLk hq (show ok_20 cs _ from ⟨_, rfl, trivial⟩)
  obtain ⟨K4, hK4⟩ : ∃ M, M = va_up K q1 20 := ⟨_, rfl⟩
  rw [← hK4, ← hF3] at hI
  rw [← hK4, ← hL2] at hLk
  rw [← hK4] at hX1
  have ne5 : q1 ≠ h0 := fun h => hq (h ▸ hh)
  have m6 : h0 ∈ L2 := by rw [hL2]; exact List.mem_append_left _ hh
  have k7 : K4 h0 = 0 := by rw [hK4]; exact th_ne (Ne.symm ne5) hk
  have o8 : F3 h0 = .inr (6, [.null, .int 0, .null, .null, .null, .int 0, .null, .null, .int 0, .int 0, .null, .null, .null, .long 0]) := by rw [hF3]; exact th_ne (Ne.symm ne5) o0
  have m9 : q1 ∈ L2 := by rw [hL2]; exact List.mem_append_right _ (List.mem_singleton.mpr rfl)
  have o10 : F3 q1 = (.inl (cs 1, 1600, .inl (fun _ => 0))) := by rw [hF3]; exact th_up
  have k11 : K4 q1 = 20 := by rw [hK4]; exact th_up
  have nl12 : q1 ∉ L := fun h => hq (hsub q1 h)
  have hfr : ∀ a ∈ L, a ≠ h0 → F3 a = F a ∧ K4 a = K a := fun a ha hne => ⟨by rw [hF3]; exact th_ne (fun h => nl12 (h ▸ ha)) (hfr a ha hne).1, by rw [hK4]; exact th_ne (fun h => nl12 (h ▸ ha)) (hfr a ha hne).2⟩
  have hsub : ∀ a ∈ L, a ∈ L2 := fun a ha => by rw [hL2]; exact List.mem_append_left _ (hsub a ha)
  have hX : n_X K K4 := n_Xt hX hX1
  have hks : ∀ a, K4 a = K a ∨ K4 a ∈ [4, 5, 6, 20, 21, 22, 23, 24, 25, 26, 27, 28, 29, 30, 31, 32, 33, 34, 35, 36, 37, 38, 39, 42, 43] := fun a => by rw [hK4]; by_cases e9 : a = q1; (rw [e9, th_up]; right; decide); rw [show va_up K q1 20 a = K a from if_neg e9]; exact hks a
  have hzz : ∀ a, K4 a ∉ [1, 2, 3, 7, 8, 22, 23, 42, 43] := fun a h9 => by rw [hK4] at h9; by_cases e9 : a = q1; (rw [e9, th_up] at h9; exact absurd h9 (by decide)); rw [show va_up _ q1 20 a = _ from if_neg e9] at h9; exact hzz a h9
  refine W.widen (k := 1) (n := 1600) (Nat.le_of_ble_eq_true rfl) (Nat.le_of_ble_eq_true rfl) ?_
  refine n_putF (D := (dC, dI)) (ci := 6) (v := .ref q1) (ty := .array .byte) (C := RX6) (T := TX6) (N := 14) hx hb hts inX6 tyX6 tyX6_ok nmX6 hown hK hP hD hS m6 o8 rfl 0 (by decide) (hts _ T_160) (fun _ h9 => h9) rfl hin rfl (by decide +kernel) rfl rfl (Nat.le_of_ble_eq_true rfl) dX6_init_10 (fun H locs hP hS => ?_)
  have hP : va_P (dC, dI) vwCl (va_pl L2 (va_up F3 h0 (.inr (6, [.ref q1, .int 0, .null, .null, .null, .int 0, .null, .null, .int 0, .int 0, .null, .null, .null, .long 0])))) H := hP
  obtain ⟨F13, hF13⟩ : ∃ M : Nat → va_E, M = va_up F3 h0 (.inr (6, [.ref q1, .int 0, .null, .null, .null, .int 0, .null, .null, .int 0, .int 0, .null, .null, .null, .long 0])) := ⟨_, rfl⟩
  rw [← hF13] at hP
  have hI : s_I K4 cs 0 F13 := by rw [hF13]; exact n_put0 hI k7
  have o14 : F13 h0 = .inr (6, [.ref q1, .int 0, .null, .null, .null, .int 0, .null, .null, .int 0, .int 0, .null, .null, .null, .long 0]) := by rw [hF13]; exact th_up
  have hfr : ∀ a ∈ L, a ≠ h0 → F13 a = F a ∧ K4 a = K a := fun a ha hne => ⟨by rw [hF13]; exact th_ne hne (hfr a ha hne).1, (hfr a ha hne).2⟩
  refine lv_aload_n hx hb dX6_init_13 rfl (lv_at hl 0 rfl) ?_
  refine n_new (ci := 3) (fs := [.null, .null, .null, .null, .null, .int 0, .null, .int 0, .int 0, .int 0, .int 0, .int 0, .int 0, .int 0, .int 0]) (C := RX3) (T := TX3) (N := 15) hx hb hts inX3 tyX3 tyX3_ok hown (hts _ T_161) (hts _ T_162) (hts _ T_163) hK hP hD hS hA rfl dvX3 (Nat.le_of_ble_eq_true rfl) (Nat.le_of_ble_eq_true rfl) dX6_init_14 (fun q15 H hq hP hD hS => ?_)
  obtain ⟨L16, hL16⟩ : ∃ M, M = L2 ++ [q15] := ⟨_, rfl⟩
  rw [← hL16] at hP hD
  obtain ⟨F17, hF17⟩ : ∃ M : Nat → va_E, M = va_up F13 q15 (.inr (3, [.null, .null, .null, .null, .null, .int 0, .null, .int 0, .int 0, .int 0, .int 0, .int 0, .int 0, .int 0, .int 0])) := ⟨_, rfl⟩
  rw [← hF17] at hP
  obtain ⟨hI, hLk, hX1⟩ := n_add (c := 0) hI hLk hq trivial
  obtain ⟨K18, hK18⟩ : ∃ M, M = va_up K4 q15 0 := ⟨_, rfl⟩
  rw [← hK18, ← hF17] at hI
  rw [← hK18, ← hL16] at hLk
  rw [← hK18] at hX1
  have ne19 : q15 ≠ h0 := fun h => hq (h ▸ m6)
  have ne20 : q15 ≠ q1 := fun h => hq (h ▸ m9)
  have m21 : h0 ∈ L16 := by rw [hL16]; exact List.mem_append_left _ m6
  have k22 : K18 h0 = 0 := by rw [hK18]; exact th_ne (Ne.symm ne19) k7
  have o23 : F17 h0 = .inr (6, [.ref q1, .int 0, .null, .null, .null, .int 0, .null, .null, .int 0, .int 0, .null, .null, .null, .long 0]) := by rw [hF17]; exact th_ne (Ne.symm ne19) o14
  have m24 : q1 ∈ L16 := by rw [hL16]; exact List.mem_append_left _ m9
  have k25 : K18 q1 = 20 := by rw [hK18]; exact th_ne (Ne.symm ne20) k11
  have m26 : q15 ∈ L16 := by rw [hL16]; exact List.mem_append_right _ (List.mem_singleton.mpr rfl)
  have o27 : F17 q15 = (.inr (3, [.null, .null, .null, .null, .null, .int 0, .null, .int 0, .int 0, .int 0, .int 0, .int 0, .int 0, .int 0, .int 0])) := by rw [hF17]; exact th_up
  have k28 : K18 q15 = 0 := by rw [hK18]; exact th_up
  have nl29 : q15 ∉ L := fun h => hq (hsub q15 h)
  have hfr : ∀ a ∈ L, a ≠ h0 → F17 a = F a ∧ K18 a = K a := fun a ha hne => ⟨by rw [hF17]; exact th_ne (fun h => nl29 (h ▸ ha)) (hfr a ha hne).1, by rw [hK18]; exact th_ne (fun h => nl29 (h ▸ ha)) (hfr a ha hne).2⟩
  have hsub : ∀ a ∈ L, a ∈ L16 := fun a ha => by rw [hL16]; exact List.mem_append_left _ (hsub a ha)
  have hX : n_X K K18 := n_Xt hX hX1
  have hks : ∀ a, K18 a = K a ∨ K18 a ∈ [4, 5, 6, 20, 21, 22, 23, 24, 25, 26, 27, 28, 29, 30, 31, 32, 33, 34, 35, 36, 37, 38, 39, 42, 43] := fun a => by rw [hK18]; by_cases e9 : a = q15; (rw [e9, th_up]; left; exact (Classical.byContradiction (fun h => nl29 (hLk0 _ (fun h8 => h h8.symm))))); rw [show va_up K4 q15 0 a = K4 a from if_neg e9]; exact hks a
  have hzz : ∀ a, K18 a ∉ [1, 2, 3, 7, 8, 22, 23, 42, 43] := fun a h9 => by rw [hK18] at h9; by_cases e9 : a = q15; (rw [e9, th_up] at h9; exact absurd h9 (by decide)); rw [show va_up _ q15 0 a = _ from if_neg e9] at h9; exact hzz a h9
  refine W.widen (k := 2) (n := 1615) (Nat.le_of_ble_eq_true rfl) (Nat.le_of_ble_eq_true rfl) ?_
  refine lv_dup hx hb dX6_init_17 rfl ?_
  have hsb30 := hsub
  have hFc := n_free hD hS hA
  refine va_callv (va_runIN (As := []) (rest := [.ref q15, .ref h0]) ⟨hx, hb, hml, hown, hts⟩ (n_X3_init l dC dI H.size L16 K18 F17 q15 m26 hI hLk k28 o27) ⟨(va_cnB 0 hts (ax_gT T_5) rfl rfl rfl (ax_n4 hN) (hts _ T_163) (by decide +kernel) ⟨Nat.le_of_ble_eq_true rfl, Nat.le_of_ble_eq_true rfl⟩), rfl, hts _ T_164⟩ ⟨fun a U g mk q => ⟨q.1, n_pc (U := U) rfl rfl q.2⟩, fun U hU hW => ⟨rfl, n_pw hU hW hP hK hD hN⟩⟩ rfl rfl hl.1 rfl (lv_room (Nat.le_of_ble_eq_true rfl)) dX6_init_18 ⟨Nat.le_of_ble_eq_true rfl, Nat.le_of_ble_eq_true rfl⟩) hS (fun q _ h => hFc q h) hFc (fun u t H1 locs ht hvm hw hB hz1 hk1 hS => ?_)
  obtain ⟨L31, K32, F33⟩ := u
  obtain ⟨hP, hK1, hD1⟩ := hB
  rw [ht] at hP
  have hD : ∀ G, va_D A (va_pl L31 G) := fun G => (hD1 G).weaken (fun k q _ h => hFc _ h)
  generalize H1 = H at hP hS ⊢
  obtain ⟨hs1, hX1, hf1, hk1, hI, hLk, hks1⟩ := hw
  have hP : va_P (dC, dI) vwCl (va_pl L31 F33) H := hP
  have hI : s_I K32 cs 0 F33 := hI
  have hLk : ∀ a, K32 a ≠ 0 → a ∈ L31 := hLk
  have m35 : h0 ∈ L31 := hs1 _ m21
  have k36 : K32 h0 = 0 := (hf1 _ m21 (Ne.symm ne19)).2.trans k22
  have o37 : F33 h0 = .inr (6, [.ref q1, .int 0, .null, .null, .null, .int 0, .null, .null, .int 0, .int 0, .null, .null, .null, .long 0]) := (hf1 _ m21 (Ne.symm ne19)).1.trans o23
  have m38 : q1 ∈ L31 := hs1 _ m24
  have k39 : K32 q1 = 20 := (hf1 _ m24 (Ne.symm ne20)).2.trans k25
  have m40 : q15 ∈ L31 := hs1 _ m26
  have k41 : K32 q15 = 4 := hk1
  have hfr : ∀ a ∈ L, a ≠ h0 → F33 a = F a ∧ K32 a = K a := fun a ha hne => ⟨(hf1 a (hsub a ha) (fun h => nl29 (h ▸ ha))).1.trans (hfr a ha hne).1, (hf1 a (hsub a ha) (fun h => nl29 (h ▸ ha))).2.trans (hfr a ha hne).2⟩
  have hsub : ∀ a ∈ L, a ∈ L31 := fun a ha => hs1 a (hsub a ha)
  have hX : n_X K K32 := n_Xt hX hX1
  have hks : ∀ a, K32 a = K a ∨ K32 a ∈ [4, 5, 6, 20, 21, 22, 23, 24, 25, 26, 27, 28, 29, 30, 31, 32, 33, 34, 35, 36, 37, 38, 39, 42, 43] := fun a => (hks1 a).elim (fun h => by rw [show K32 a = K18 a from h]; exact hks a) (fun h => Or.inr (s_sub (by decide) h))
  have hzz : ∀ a, K32 a ∉ [1, 2, 3, 7, 8, 22, 23, 42, 43] := fun a h9 => (hks1 a).elim (fun h => hzz a (by rw [← show K32 a = K18 a from h]; exact h9)) (fun h => (show ∀ y ∈ [4, 21], y ∉ [1, 2, 3, 7, 8, 22, 23, 42, 43] by decide) _ h h9)
  refine W.widen (k := 6) (n := 1775) (Nat.le_of_ble_eq_true rfl) (Nat.le_of_ble_eq_true rfl) ?_
  refine n_putF (D := (dC, dI)) (ci := 6) (v := .ref q15) (ty := .object "LaneWarps$Reader") (C := RX6) (T := TX6) (N := 14) hx hb hts inX6 tyX6 tyX6_ok nmX6 hown hK hP hD hS m35 o37 rfl 2 (by decide) (hts _ T_165) (fun _ h9 => h9) rfl hin rfl (by decide +kernel) rfl rfl (Nat.le_of_ble_eq_true rfl) dX6_init_21 (fun H locs hP hS => ?_)
  have hP : va_P (dC, dI) vwCl (va_pl L31 (va_up F33 h0 (.inr (6, [.ref q1, .int 0, .ref q15, .null, .null, .int 0, .null, .null, .int 0, .int 0, .null, .null, .null, .long 0])))) H := hP
  obtain ⟨F42, hF42⟩ : ∃ M : Nat → va_E, M = va_up F33 h0 (.inr (6, [.ref q1, .int 0, .ref q15, .null, .null, .int 0, .null, .null, .int 0, .int 0, .null, .null, .null, .long 0])) := ⟨_, rfl⟩
  rw [← hF42] at hP
  have hI : s_I K32 cs 0 F42 := by rw [hF42]; exact n_put0 hI k36
  have o43 : F42 h0 = .inr (6, [.ref q1, .int 0, .ref q15, .null, .null, .int 0, .null, .null, .int 0, .int 0, .null, .null, .null, .long 0]) := by rw [hF42]; exact th_up
  have hfr : ∀ a ∈ L, a ≠ h0 → F42 a = F a ∧ K32 a = K a := fun a ha hne => ⟨by rw [hF42]; exact th_ne hne (hfr a ha hne).1, (hfr a ha hne).2⟩
  refine lv_aload_n hx hb dX6_init_24 rfl (lv_at hl 0 rfl) ?_
  refine n_new (ci := 2) (fs := [.null, .null, .null, .int 0, .int 0, .int 0, .int 0]) (C := RX2) (T := TX2) (N := 7) hx hb hts inX2 tyX2 tyX2_ok hown (hts _ T_166) (hts _ T_167) (hts _ T_168) hK hP hD hS hA rfl dvX2 (Nat.le_of_ble_eq_true rfl) (Nat.le_of_ble_eq_true rfl) dX6_init_25 (fun q44 H hq hP hD hS => ?_)
  obtain ⟨L45, hL45⟩ : ∃ M, M = L31 ++ [q44] := ⟨_, rfl⟩
  rw [← hL45] at hP hD
  obtain ⟨F46, hF46⟩ : ∃ M : Nat → va_E, M = va_up F42 q44 (.inr (2, [.null, .null, .null, .int 0, .int 0, .int 0, .int 0])) := ⟨_, rfl⟩
  rw [← hF46] at hP
  obtain ⟨hI, hLk, hX1⟩ := n_add (c := 0) hI hLk hq trivial
  obtain ⟨K47, hK47⟩ : ∃ M, M = va_up K32 q44 0 := ⟨_, rfl⟩
  rw [← hK47, ← hF46] at hI
  rw [← hK47, ← hL45] at hLk
  rw [← hK47] at hX1
  have ne48 : q44 ≠ h0 := fun h => hq (h ▸ m35)
  have ne49 : q44 ≠ q1 := fun h => hq (h ▸ m38)
  have ne50 : q44 ≠ q15 := fun h => hq (h ▸ m40)
  have m51 : h0 ∈ L45 := by rw [hL45]; exact List.mem_append_left _ m35
  have k52 : K47 h0 = 0 := by rw [hK47]; exact th_ne (Ne.symm ne48) k36
  have o53 : F46 h0 = .inr (6, [.ref q1, .int 0, .ref q15, .null, .null, .int 0, .null, .null, .int 0, .int 0, .null, .null, .null, .long 0]) := by rw [hF46]; exact th_ne (Ne.symm ne48) o43
  have m54 : q1 ∈ L45 := by rw [hL45]; exact List.mem_append_left _ m38
  have k55 : K47 q1 = 20 := by rw [hK47]; exact th_ne (Ne.symm ne49) k39
  have m56 : q15 ∈ L45 := by rw [hL45]; exact List.mem_append_left _ m40
  have k57 : K47 q15 = 4 := by rw [hK47]; exact th_ne (Ne.symm ne50) k41
  have m58 : q44 ∈ L45 := by rw [hL45]; exact List.mem_append_right _ (List.mem_singleton.mpr rfl)
  have o59 : F46 q44 = (.inr (2, [.null, .null, .null, .int 0, .int 0, .int 0, .int 0])) := by rw [hF46]; exact th_up
  have k60 : K47 q44 = 0 := by rw [hK47]; exact th_up
  have nl61 : q44 ∉ L := fun h => hq (hsub q44 h)
  have hfr : ∀ a ∈ L, a ≠ h0 → F46 a = F a ∧ K47 a = K a := fun a ha hne => ⟨by rw [hF46]; exact th_ne (fun h => nl61 (h ▸ ha)) (hfr a ha hne).1, by rw [hK47]; exact th_ne (fun h => nl61 (h ▸ ha)) (hfr a ha hne).2⟩
  have hsub : ∀ a ∈ L, a ∈ L45 := fun a ha => by rw [hL45]; exact List.mem_append_left _ (hsub a ha)
  have hX : n_X K K47 := n_Xt hX hX1
  have hks : ∀ a, K47 a = K a ∨ K47 a ∈ [4, 5, 6, 20, 21, 22, 23, 24, 25, 26, 27, 28, 29, 30, 31, 32, 33, 34, 35, 36, 37, 38, 39, 42, 43] := fun a => by rw [hK47]; by_cases e9 : a = q44; (rw [e9, th_up]; left; exact (Classical.byContradiction (fun h => nl61 (hLk0 _ (fun h8 => h h8.symm))))); rw [show va_up K32 q44 0 a = K32 a from if_neg e9]; exact hks a
  have hzz : ∀ a, K47 a ∉ [1, 2, 3, 7, 8, 22, 23, 42, 43] := fun a h9 => by rw [hK47] at h9; by_cases e9 : a = q44; (rw [e9, th_up] at h9; exact absurd h9 (by decide)); rw [show va_up _ q44 0 a = _ from if_neg e9] at h9; exact hzz a h9
  refine W.widen (k := 7) (n := 1782) (Nat.le_of_ble_eq_true rfl) (Nat.le_of_ble_eq_true rfl) ?_
  refine lv_dup hx hb dX6_init_28 rfl ?_
  have hz22 : ∀ a, K47 a = 22 → False := fun a h9 => hzz a (by rw [h9]; decide)
  have hzz : ∀ a, K47 a ∉ [1, 2, 3, 7, 8, 42, 43] := fun a h9 => hzz a (s_sub (by decide) h9)
  have hsb62 := hsub
  have hFc := n_free hD hS hA
  refine va_callv (va_runIN (As := []) (rest := [.ref q44, .ref h0]) ⟨hx, hb, hml, hown, hts⟩ (n_X2_initP l dC dI H.size L45 K47 F46 q44 m58 hI hLk k60 o59) ⟨(va_cnB 0 hts (ax_gT T_6) rfl rfl rfl (ax_n5 hN) (hts _ T_168) (by decide +kernel) ⟨Nat.le_of_ble_eq_true rfl, Nat.le_of_ble_eq_true rfl⟩), rfl, hts _ T_169⟩ ⟨fun a U g mk q => ⟨q.1, n_pc (U := U) rfl rfl q.2⟩, fun U hU hW => ⟨rfl, n_pw hU hW hP hK hD hN⟩⟩ rfl rfl hl.1 rfl (lv_room (Nat.le_of_ble_eq_true rfl)) dX6_init_29 ⟨Nat.le_of_ble_eq_true rfl, Nat.le_of_ble_eq_true rfl⟩) hS (fun q _ h => hFc q h) hFc (fun u t H1 locs ht hvm hw hB hz1 hk1 hS => ?_)
  obtain ⟨L63, K64, F65⟩ := u
  obtain ⟨hP, hK1, hD1⟩ := hB
  rw [ht] at hP
  have hD : ∀ G, va_D A (va_pl L63 G) := fun G => (hD1 G).weaken (fun k q _ h => hFc _ h)
  generalize H1 = H at hP hS ⊢
  obtain ⟨⟨hs1, hX1, hf1, hk1, hI, hLk, hks1⟩, x66⟩ := hw
  have hP : va_P (dC, dI) vwCl (va_pl L63 F65) H := hP
  have hI : s_I K64 cs 0 F65 := hI
  have hLk : ∀ a, K64 a ≠ 0 → a ∈ L63 := hLk
  have m67 : h0 ∈ L63 := hs1 _ m51
  have k68 : K64 h0 = 0 := (hf1 _ m51 (Ne.symm ne48)).2.trans k52
  have o69 : F65 h0 = .inr (6, [.ref q1, .int 0, .ref q15, .null, .null, .int 0, .null, .null, .int 0, .int 0, .null, .null, .null, .long 0]) := (hf1 _ m51 (Ne.symm ne48)).1.trans o53
  have m70 : q1 ∈ L63 := hs1 _ m54
  have k71 : K64 q1 = 20 := (hf1 _ m54 (Ne.symm ne49)).2.trans k55
  have m72 : q15 ∈ L63 := hs1 _ m56
  have k73 : K64 q15 = 4 := (hf1 _ m56 (Ne.symm ne50)).2.trans k57
  have m74 : q44 ∈ L63 := hs1 _ m58
  have k75 : K64 q44 = 0 := hk1
  have hfr : ∀ a ∈ L, a ≠ h0 → F65 a = F a ∧ K64 a = K a := fun a ha hne => ⟨(hf1 a (hsub a ha) (fun h => nl61 (h ▸ ha))).1.trans (hfr a ha hne).1, (hf1 a (hsub a ha) (fun h => nl61 (h ▸ ha))).2.trans (hfr a ha hne).2⟩
  have hsub : ∀ a ∈ L, a ∈ L63 := fun a ha => hs1 a (hsub a ha)
  have hX : n_X K K64 := n_Xt hX hX1
  have hks : ∀ a, K64 a = K a ∨ K64 a ∈ [4, 5, 6, 20, 21, 22, 23, 24, 25, 26, 27, 28, 29, 30, 31, 32, 33, 34, 35, 36, 37, 38, 39, 42, 43] := fun a => (hks1 a).elim (fun h => by rw [show K64 a = K47 a from h]; exact hks a) (fun h => Or.inr (s_sub (by decide) h))
  have hzz : ∀ a, K64 a ∉ [1, 2, 3, 7, 8, 42, 43] := fun a h9 => (hks1 a).elim (fun h => hzz a (by rw [← show K64 a = K47 a from h]; exact h9)) (fun h => (show ∀ y ∈ [22, 23, 24, 25], y ∉ [1, 2, 3, 7, 8, 42, 43] by decide) _ h h9)
  refine W.widen (k := 50) (n := 2207) (Nat.le_of_ble_eq_true rfl) (Nat.le_of_ble_eq_true rfl) ?_
  obtain ⟨q76, q77, q78, o79, o80, k81, nl82, k83, k84, h85⟩ := x66
  have o79 : F65 q44 = .inr (2, [.ref q76, .ref q77, .ref q78, .int 0, .int 0, .int 0, .int 0]) := o79
  have o80 : F65 q76 = .inl (cs 5, 40, .inr (.inr (.inr (.inr (fun j => some (q76 + 1 + j)))))) := o80
  have k81 : K64 q76 = 22 := k81
  have m86 : q76 ∈ L63 := hLk _ (by rw [k81]; decide)
  have ne87 : q76 ≠ h0 := fun h => by rw [h, k68] at k81; cases k81
  have ne88 : q76 ≠ q1 := fun h => by rw [h, k71] at k81; cases k81
  have ne89 : q76 ≠ q15 := fun h => by rw [h, k73] at k81; cases k81
  have ne90 : q76 ≠ q44 := fun h => by rw [h, k75] at k81; cases k81
  have k83 : K64 q77 = 24 := k83
  have m92 : q77 ∈ L63 := hLk _ (by rw [k83]; decide)
  have ne93 : q77 ≠ h0 := fun h => by rw [h, k68] at k83; cases k83
  have ne94 : q77 ≠ q1 := fun h => by rw [h, k71] at k83; cases k83
  have ne95 : q77 ≠ q15 := fun h => by rw [h, k73] at k83; cases k83
  have ne96 : q77 ≠ q44 := fun h => by rw [h, k75] at k83; cases k83
  have ne97 : q77 ≠ q76 := fun h => by rw [h, k81] at k83; cases k83
  have k84 : K64 q78 = 25 := k84
  have m99 : q78 ∈ L63 := hLk _ (by rw [k84]; decide)
  have ne100 : q78 ≠ h0 := fun h => by rw [h, k68] at k84; cases k84
  have ne101 : q78 ≠ q1 := fun h => by rw [h, k71] at k84; cases k84
  have ne102 : q78 ≠ q15 := fun h => by rw [h, k73] at k84; cases k84
  have ne103 : q78 ≠ q44 := fun h => by rw [h, k75] at k84; cases k84
  have ne104 : q78 ≠ q76 := fun h => by rw [h, k81] at k84; cases k84
  have ne105 : q78 ≠ q77 := fun h => by rw [h, k83] at k84; cases k84
  have hu22 : ∀ a, K64 a = 22 → a = q76 := fun a h9 => (h85 a h9).elim (fun w => (hz22 a w).elim) id
  refine th_put (D := (dC, dI)) (ci := 6) (v := .ref q44) (ty := .object "LaneWarps$Program") (C := RX6) (T := TX6) (N := 14) hx hb hts inX6 tyX6 tyX6_ok nmX6 hown hK hP hD hS m67 o69 rfl 3 (by decide) (hts _ T_170) (fun _ h9 => h9) rfl (by decide +kernel) rfl rfl (Nat.le_of_ble_eq_true rfl) dX6_init_32 (fun H locs hP hS => ?_)
  have hP : va_P (dC, dI) vwCl (va_pl L63 (va_up F65 h0 (.inr (6, [.ref q1, .int 0, .ref q15, .ref q44, .null, .int 0, .null, .null, .int 0, .int 0, .null, .null, .null, .long 0])))) H := hP
  obtain ⟨F107, hF107⟩ : ∃ M : Nat → va_E, M = va_up F65 h0 (.inr (6, [.ref q1, .int 0, .ref q15, .ref q44, .null, .int 0, .null, .null, .int 0, .int 0, .null, .null, .null, .long 0])) := ⟨_, rfl⟩
  rw [← hF107] at hP
  have hI : s_I K64 cs 0 F107 := by rw [hF107]; exact n_put0 hI k68
  have o108 : F107 q44 = .inr (2, [.ref q76, .ref q77, .ref q78, .int 0, .int 0, .int 0, .int 0]) := by rw [hF107]; exact th_ne ne48 o79
  have o109 : F107 q76 = .inl (cs 5, 40, .inr (.inr (.inr (.inr (fun j => some (q76 + 1 + j)))))) := by rw [hF107]; exact th_ne ne87 o80
  have o110 : F107 h0 = .inr (6, [.ref q1, .int 0, .ref q15, .ref q44, .null, .int 0, .null, .null, .int 0, .int 0, .null, .null, .null, .long 0]) := by rw [hF107]; exact th_up
  have hfr : ∀ a ∈ L, a ≠ h0 → F107 a = F a ∧ K64 a = K a := fun a ha hne => ⟨by rw [hF107]; exact th_ne hne (hfr a ha hne).1, (hfr a ha hne).2⟩
  refine lv_aload_n hx hb dX6_init_35 rfl (lv_at hl 0 rfl) ?_
  refine n_new (ci := 2) (fs := [.null, .null, .null, .int 0, .int 0, .int 0, .int 0]) (C := RX2) (T := TX2) (N := 7) hx hb hts inX2 tyX2 tyX2_ok hown (hts _ T_166) (hts _ T_167) (hts _ T_168) hK hP hD hS hA rfl dvX2 (Nat.le_of_ble_eq_true rfl) (Nat.le_of_ble_eq_true rfl) dX6_init_36 (fun q111 H hq hP hD hS => ?_)
  obtain ⟨L112, hL112⟩ : ∃ M, M = L63 ++ [q111] := ⟨_, rfl⟩
  rw [← hL112] at hP hD
  obtain ⟨F113, hF113⟩ : ∃ M : Nat → va_E, M = va_up F107 q111 (.inr (2, [.null, .null, .null, .int 0, .int 0, .int 0, .int 0])) := ⟨_, rfl⟩
  rw [← hF113] at hP
  obtain ⟨hI, hLk, hX1⟩ := n_add (c := 0) hI hLk hq trivial
  obtain ⟨K114, hK114⟩ : ∃ M, M = va_up K64 q111 0 := ⟨_, rfl⟩
  rw [← hK114, ← hF113] at hI
  rw [← hK114, ← hL112] at hLk
  rw [← hK114] at hX1
  have ne115 : q111 ≠ h0 := fun h => hq (h ▸ m67)
  have ne116 : q111 ≠ q1 := fun h => hq (h ▸ m70)
  have ne117 : q111 ≠ q15 := fun h => hq (h ▸ m72)
  have ne118 : q111 ≠ q44 := fun h => hq (h ▸ m74)
  have ne119 : q111 ≠ q76 := fun h => hq (h ▸ m86)
  have ne120 : q111 ≠ q77 := fun h => hq (h ▸ m92)
  have ne121 : q111 ≠ q78 := fun h => hq (h ▸ m99)
  have m122 : h0 ∈ L112 := by rw [hL112]; exact List.mem_append_left _ m67
  have k123 : K114 h0 = 0 := by rw [hK114]; exact th_ne (Ne.symm ne115) k68
  have o124 : F113 h0 = .inr (6, [.ref q1, .int 0, .ref q15, .ref q44, .null, .int 0, .null, .null, .int 0, .int 0, .null, .null, .null, .long 0]) := by rw [hF113]; exact th_ne (Ne.symm ne115) o110
  have m125 : q1 ∈ L112 := by rw [hL112]; exact List.mem_append_left _ m70
  have k126 : K114 q1 = 20 := by rw [hK114]; exact th_ne (Ne.symm ne116) k71
  have m127 : q15 ∈ L112 := by rw [hL112]; exact List.mem_append_left _ m72
  have k128 : K114 q15 = 4 := by rw [hK114]; exact th_ne (Ne.symm ne117) k73
  have m129 : q44 ∈ L112 := by rw [hL112]; exact List.mem_append_left _ m74
  have k130 : K114 q44 = 0 := by rw [hK114]; exact th_ne (Ne.symm ne118) k75
  have o131 : F113 q44 = .inr (2, [.ref q76, .ref q77, .ref q78, .int 0, .int 0, .int 0, .int 0]) := by rw [hF113]; exact th_ne (Ne.symm ne118) o108
  have m132 : q76 ∈ L112 := by rw [hL112]; exact List.mem_append_left _ m86
  have k133 : K114 q76 = 22 := by rw [hK114]; exact th_ne (Ne.symm ne119) k81
  have o134 : F113 q76 = .inl (cs 5, 40, .inr (.inr (.inr (.inr (fun j => some (q76 + 1 + j)))))) := by rw [hF113]; exact th_ne (Ne.symm ne119) o109
  have m135 : q77 ∈ L112 := by rw [hL112]; exact List.mem_append_left _ m92
  have k136 : K114 q77 = 24 := by rw [hK114]; exact th_ne (Ne.symm ne120) k83
  have m137 : q78 ∈ L112 := by rw [hL112]; exact List.mem_append_left _ m99
  have k138 : K114 q78 = 25 := by rw [hK114]; exact th_ne (Ne.symm ne121) k84
  have m139 : q111 ∈ L112 := by rw [hL112]; exact List.mem_append_right _ (List.mem_singleton.mpr rfl)
  have o140 : F113 q111 = (.inr (2, [.null, .null, .null, .int 0, .int 0, .int 0, .int 0])) := by rw [hF113]; exact th_up
  have k141 : K114 q111 = 0 := by rw [hK114]; exact th_up
  have nl142 : q111 ∉ L := fun h => hq (hsub q111 h)
  have hfr : ∀ a ∈ L, a ≠ h0 → F113 a = F a ∧ K114 a = K a := fun a ha hne => ⟨by rw [hF113]; exact th_ne (fun h => nl142 (h ▸ ha)) (hfr a ha hne).1, by rw [hK114]; exact th_ne (fun h => nl142 (h ▸ ha)) (hfr a ha hne).2⟩
  have hsub : ∀ a ∈ L, a ∈ L112 := fun a ha => by rw [hL112]; exact List.mem_append_left _ (hsub a ha)
  have hX : n_X K K114 := n_Xt hX hX1
  have hks : ∀ a, K114 a = K a ∨ K114 a ∈ [4, 5, 6, 20, 21, 22, 23, 24, 25, 26, 27, 28, 29, 30, 31, 32, 33, 34, 35, 36, 37, 38, 39, 42, 43] := fun a => by rw [hK114]; by_cases e9 : a = q111; (rw [e9, th_up]; left; exact (Classical.byContradiction (fun h => nl142 (hLk0 _ (fun h8 => h h8.symm))))); rw [show va_up K64 q111 0 a = K64 a from if_neg e9]; exact hks a
  have hzz : ∀ a, K114 a ∉ [1, 2, 3, 7, 8, 42, 43] := fun a h9 => by rw [hK114] at h9; by_cases e9 : a = q111; (rw [e9, th_up] at h9; exact absurd h9 (by decide)); rw [show va_up _ q111 0 a = _ from if_neg e9] at h9; exact hzz a h9
  have hu22 : ∀ a, K114 a = 22 → a = q76 := fun a h9 => by rw [hK114] at h9; exact (n_uu h9).elim (fun w => absurd w.2 (by decide)) (hu22 a)
  refine W.widen (k := 51) (n := 2214) (Nat.le_of_ble_eq_true rfl) (Nat.le_of_ble_eq_true rfl) ?_
  refine lv_dup hx hb dX6_init_39 rfl ?_
  have hz42 : ∀ a, K114 a = 42 → False := fun a h9 => hzz a (by rw [h9]; decide)
  have hzz : ∀ a, K114 a ∉ [1, 2, 3, 7, 8] := fun a h9 => hzz a (s_sub (by decide) h9)
  have hsb143 := hsub
  have hFc := n_free hD hS hA
  refine va_callv (va_runIN (As := []) (rest := [.ref q111, .ref h0]) ⟨hx, hb, hml, hown, hts⟩ (n_X2_initQ l dC dI H.size L112 K114 F113 q111 m139 hI hLk k141 o140) ⟨(va_cnB 0 hts (ax_gT T_6) rfl rfl rfl (ax_n5 hN) (hts _ T_168) (by decide +kernel) ⟨Nat.le_of_ble_eq_true rfl, Nat.le_of_ble_eq_true rfl⟩), rfl, hts _ T_169⟩ ⟨fun a U g mk q => ⟨q.1, n_pc (U := U) rfl rfl q.2⟩, fun U hU hW => ⟨rfl, n_pw hU hW hP hK hD hN⟩⟩ rfl rfl hl.1 rfl (lv_room (Nat.le_of_ble_eq_true rfl)) dX6_init_40 ⟨Nat.le_of_ble_eq_true rfl, Nat.le_of_ble_eq_true rfl⟩) hS (fun q _ h => hFc q h) hFc (fun u t H1 locs ht hvm hw hB hz1 hk1 hS => ?_)
  obtain ⟨L144, K145, F146⟩ := u
  obtain ⟨hP, hK1, hD1⟩ := hB
  rw [ht] at hP
  have hD : ∀ G, va_D A (va_pl L144 G) := fun G => (hD1 G).weaken (fun k q _ h => hFc _ h)
  generalize H1 = H at hP hS ⊢
  obtain ⟨⟨hs1, hX1, hf1, hk1, hI, hLk, hks1⟩, x147⟩ := hw
  have hP : va_P (dC, dI) vwCl (va_pl L144 F146) H := hP
  have hI : s_I K145 cs 0 F146 := hI
  have hLk : ∀ a, K145 a ≠ 0 → a ∈ L144 := hLk
  have m148 : h0 ∈ L144 := hs1 _ m122
  have k149 : K145 h0 = 0 := (hf1 _ m122 (Ne.symm ne115)).2.trans k123
  have o150 : F146 h0 = .inr (6, [.ref q1, .int 0, .ref q15, .ref q44, .null, .int 0, .null, .null, .int 0, .int 0, .null, .null, .null, .long 0]) := (hf1 _ m122 (Ne.symm ne115)).1.trans o124
  have m151 : q1 ∈ L144 := hs1 _ m125
  have k152 : K145 q1 = 20 := (hf1 _ m125 (Ne.symm ne116)).2.trans k126
  have m153 : q15 ∈ L144 := hs1 _ m127
  have k154 : K145 q15 = 4 := (hf1 _ m127 (Ne.symm ne117)).2.trans k128
  have m155 : q44 ∈ L144 := hs1 _ m129
  have k156 : K145 q44 = 0 := (hf1 _ m129 (Ne.symm ne118)).2.trans k130
  have o157 : F146 q44 = .inr (2, [.ref q76, .ref q77, .ref q78, .int 0, .int 0, .int 0, .int 0]) := (hf1 _ m129 (Ne.symm ne118)).1.trans o131
  have m158 : q76 ∈ L144 := hs1 _ m132
  have k159 : K145 q76 = 22 := (hf1 _ m132 (Ne.symm ne119)).2.trans k133
  have o160 : F146 q76 = .inl (cs 5, 40, .inr (.inr (.inr (.inr (fun j => some (q76 + 1 + j)))))) := (hf1 _ m132 (Ne.symm ne119)).1.trans o134
  have m161 : q77 ∈ L144 := hs1 _ m135
  have k162 : K145 q77 = 24 := (hf1 _ m135 (Ne.symm ne120)).2.trans k136
  have m163 : q78 ∈ L144 := hs1 _ m137
  have k164 : K145 q78 = 25 := (hf1 _ m137 (Ne.symm ne121)).2.trans k138
  have m165 : q111 ∈ L144 := hs1 _ m139
  have k166 : K145 q111 = 0 := hk1
  have hfr : ∀ a ∈ L, a ≠ h0 → F146 a = F a ∧ K145 a = K a := fun a ha hne => ⟨(hf1 a (hsub a ha) (fun h => nl142 (h ▸ ha))).1.trans (hfr a ha hne).1, (hf1 a (hsub a ha) (fun h => nl142 (h ▸ ha))).2.trans (hfr a ha hne).2⟩
  have hsub : ∀ a ∈ L, a ∈ L144 := fun a ha => hs1 a (hsub a ha)
  have hX : n_X K K145 := n_Xt hX hX1
  have hks : ∀ a, K145 a = K a ∨ K145 a ∈ [4, 5, 6, 20, 21, 22, 23, 24, 25, 26, 27, 28, 29, 30, 31, 32, 33, 34, 35, 36, 37, 38, 39, 42, 43] := fun a => (hks1 a).elim (fun h => by rw [show K145 a = K114 a from h]; exact hks a) (fun h => Or.inr (s_sub (by decide) h))
  have hzz : ∀ a, K145 a ∉ [1, 2, 3, 7, 8] := fun a h9 => (hks1 a).elim (fun h => hzz a (by rw [← show K145 a = K114 a from h]; exact h9)) (fun h => (show ∀ y ∈ [24, 25, 42, 43], y ∉ [1, 2, 3, 7, 8] by decide) _ h h9)
  have hu22 : ∀ a, K145 a = 22 → a = q76 := fun a h9 => (hks1 a).elim (fun h => hu22 a (h.symm.trans h9)) (fun h => absurd (show K145 a ∈ _ from h) (by rw [h9]; decide))
  refine W.widen (k := 94) (n := 2639) (Nat.le_of_ble_eq_true rfl) (Nat.le_of_ble_eq_true rfl) ?_
  obtain ⟨q167, q168, q169, o170, o171, k172, nl173, k174, k175, h176⟩ := x147
  have o170 : F146 q111 = .inr (2, [.ref q167, .ref q168, .ref q169, .int 0, .int 0, .int 0, .int 0]) := o170
  have o171 : F146 q167 = .inl (cs 5, 40, .inr (.inr (.inr (.inr (fun j => some (q167 + 1 + j)))))) := o171
  have k172 : K145 q167 = 42 := k172
  have m177 : q167 ∈ L144 := hLk _ (by rw [k172]; decide)
  have ne178 : q167 ≠ h0 := fun h => by rw [h, k149] at k172; cases k172
  have ne179 : q167 ≠ q1 := fun h => by rw [h, k152] at k172; cases k172
  have ne180 : q167 ≠ q15 := fun h => by rw [h, k154] at k172; cases k172
  have ne181 : q167 ≠ q44 := fun h => by rw [h, k156] at k172; cases k172
  have ne182 : q167 ≠ q76 := fun h => by rw [h, k159] at k172; cases k172
  have ne183 : q167 ≠ q77 := fun h => by rw [h, k162] at k172; cases k172
  have ne184 : q167 ≠ q78 := fun h => by rw [h, k164] at k172; cases k172
  have ne185 : q167 ≠ q111 := fun h => by rw [h, k166] at k172; cases k172
  have k174 : K145 q168 = 24 := k174
  have m187 : q168 ∈ L144 := hLk _ (by rw [k174]; decide)
  have ne188 : q168 ≠ h0 := fun h => by rw [h, k149] at k174; cases k174
  have ne189 : q168 ≠ q1 := fun h => by rw [h, k152] at k174; cases k174
  have ne190 : q168 ≠ q15 := fun h => by rw [h, k154] at k174; cases k174
  have ne191 : q168 ≠ q44 := fun h => by rw [h, k156] at k174; cases k174
  have ne192 : q168 ≠ q76 := fun h => by rw [h, k159] at k174; cases k174
  have ne194 : q168 ≠ q78 := fun h => by rw [h, k164] at k174; cases k174
  have ne195 : q168 ≠ q111 := fun h => by rw [h, k166] at k174; cases k174
  have ne196 : q168 ≠ q167 := fun h => by rw [h, k172] at k174; cases k174
  have k175 : K145 q169 = 25 := k175
  have m198 : q169 ∈ L144 := hLk _ (by rw [k175]; decide)
  have ne199 : q169 ≠ h0 := fun h => by rw [h, k149] at k175; cases k175
  have ne200 : q169 ≠ q1 := fun h => by rw [h, k152] at k175; cases k175
  have ne201 : q169 ≠ q15 := fun h => by rw [h, k154] at k175; cases k175
  have ne202 : q169 ≠ q44 := fun h => by rw [h, k156] at k175; cases k175
  have ne203 : q169 ≠ q76 := fun h => by rw [h, k159] at k175; cases k175
  have ne204 : q169 ≠ q77 := fun h => by rw [h, k162] at k175; cases k175
  have ne206 : q169 ≠ q111 := fun h => by rw [h, k166] at k175; cases k175
  have ne207 : q169 ≠ q167 := fun h => by rw [h, k172] at k175; cases k175
  have ne208 : q169 ≠ q168 := fun h => by rw [h, k174] at k175; cases k175
  have hu42 : ∀ a, K145 a = 42 → a = q167 := fun a h9 => (h176 a h9).elim (fun w => (hz42 a w).elim) id
  refine th_put (D := (dC, dI)) (ci := 6) (v := .ref q111) (ty := .object "LaneWarps$Program") (C := RX6) (T := TX6) (N := 14) hx hb hts inX6 tyX6 tyX6_ok nmX6 hown hK hP hD hS m148 o150 rfl 4 (by decide) (hts _ T_171) (fun _ h9 => h9) rfl (by decide +kernel) rfl rfl (Nat.le_of_ble_eq_true rfl) dX6_init_43 (fun H locs hP hS => ?_)
  have hP : va_P (dC, dI) vwCl (va_pl L144 (va_up F146 h0 (.inr (6, [.ref q1, .int 0, .ref q15, .ref q44, .ref q111, .int 0, .null, .null, .int 0, .int 0, .null, .null, .null, .long 0])))) H := hP
  obtain ⟨F210, hF210⟩ : ∃ M : Nat → va_E, M = va_up F146 h0 (.inr (6, [.ref q1, .int 0, .ref q15, .ref q44, .ref q111, .int 0, .null, .null, .int 0, .int 0, .null, .null, .null, .long 0])) := ⟨_, rfl⟩
  rw [← hF210] at hP
  have hI : s_I K145 cs 0 F210 := by rw [hF210]; exact n_put0 hI k149
  have o211 : F210 q44 = .inr (2, [.ref q76, .ref q77, .ref q78, .int 0, .int 0, .int 0, .int 0]) := by rw [hF210]; exact th_ne ne48 o157
  have o212 : F210 q76 = .inl (cs 5, 40, .inr (.inr (.inr (.inr (fun j => some (q76 + 1 + j)))))) := by rw [hF210]; exact th_ne ne87 o160
  have o213 : F210 q111 = .inr (2, [.ref q167, .ref q168, .ref q169, .int 0, .int 0, .int 0, .int 0]) := by rw [hF210]; exact th_ne ne115 o170
  have o214 : F210 q167 = .inl (cs 5, 40, .inr (.inr (.inr (.inr (fun j => some (q167 + 1 + j)))))) := by rw [hF210]; exact th_ne ne178 o171
  have o215 : F210 h0 = .inr (6, [.ref q1, .int 0, .ref q15, .ref q44, .ref q111, .int 0, .null, .null, .int 0, .int 0, .null, .null, .null, .long 0]) := by rw [hF210]; exact th_up
  have hfr : ∀ a ∈ L, a ≠ h0 → F210 a = F a ∧ K145 a = K a := fun a ha hne => ⟨by rw [hF210]; exact th_ne hne (hfr a ha hne).1, (hfr a ha hne).2⟩
  refine lv_aload_n hx hb dX6_init_46 rfl (lv_at hl 0 rfl) ?_
  refine n_new (ci := 4) (fs := [.null, .null, .null, .null, .null, .null, .null, .int 0, .int 0, .int 0, .int 0, .int 0, .int 0, .int 0, .int 0]) (C := RX4) (T := TX4) (N := 15) hx hb hts inX4 tyX4 tyX4_ok hown (hts _ T_172) (hts _ T_141) (hts _ T_142) hK hP hD hS hA rfl dvX4 (Nat.le_of_ble_eq_true rfl) (Nat.le_of_ble_eq_true rfl) dX6_init_47 (fun q216 H hq hP hD hS => ?_)
  obtain ⟨L217, hL217⟩ : ∃ M, M = L144 ++ [q216] := ⟨_, rfl⟩
  rw [← hL217] at hP hD
  obtain ⟨F218, hF218⟩ : ∃ M : Nat → va_E, M = va_up F210 q216 (.inr (4, [.null, .null, .null, .null, .null, .null, .null, .int 0, .int 0, .int 0, .int 0, .int 0, .int 0, .int 0, .int 0])) := ⟨_, rfl⟩
  rw [← hF218] at hP
  obtain ⟨hI, hLk, hX1⟩ := n_add (c := 0) hI hLk hq trivial
  obtain ⟨K219, hK219⟩ : ∃ M, M = va_up K145 q216 0 := ⟨_, rfl⟩
  rw [← hK219, ← hF218] at hI
  rw [← hK219, ← hL217] at hLk
  rw [← hK219] at hX1
  have ne220 : q216 ≠ h0 := fun h => hq (h ▸ m148)
  have ne221 : q216 ≠ q1 := fun h => hq (h ▸ m151)
  have ne222 : q216 ≠ q15 := fun h => hq (h ▸ m153)
  have ne223 : q216 ≠ q44 := fun h => hq (h ▸ m155)
  have ne224 : q216 ≠ q76 := fun h => hq (h ▸ m158)
  have ne225 : q216 ≠ q77 := fun h => hq (h ▸ m161)
  have ne226 : q216 ≠ q78 := fun h => hq (h ▸ m163)
  have ne227 : q216 ≠ q111 := fun h => hq (h ▸ m165)
  have ne228 : q216 ≠ q167 := fun h => hq (h ▸ m177)
  have ne229 : q216 ≠ q168 := fun h => hq (h ▸ m187)
  have ne230 : q216 ≠ q169 := fun h => hq (h ▸ m198)
  have m231 : h0 ∈ L217 := by rw [hL217]; exact List.mem_append_left _ m148
  have k232 : K219 h0 = 0 := by rw [hK219]; exact th_ne (Ne.symm ne220) k149
  have o233 : F218 h0 = .inr (6, [.ref q1, .int 0, .ref q15, .ref q44, .ref q111, .int 0, .null, .null, .int 0, .int 0, .null, .null, .null, .long 0]) := by rw [hF218]; exact th_ne (Ne.symm ne220) o215
  have m234 : q1 ∈ L217 := by rw [hL217]; exact List.mem_append_left _ m151
  have k235 : K219 q1 = 20 := by rw [hK219]; exact th_ne (Ne.symm ne221) k152
  have m236 : q15 ∈ L217 := by rw [hL217]; exact List.mem_append_left _ m153
  have k237 : K219 q15 = 4 := by rw [hK219]; exact th_ne (Ne.symm ne222) k154
  have m238 : q44 ∈ L217 := by rw [hL217]; exact List.mem_append_left _ m155
  have k239 : K219 q44 = 0 := by rw [hK219]; exact th_ne (Ne.symm ne223) k156
  have o240 : F218 q44 = .inr (2, [.ref q76, .ref q77, .ref q78, .int 0, .int 0, .int 0, .int 0]) := by rw [hF218]; exact th_ne (Ne.symm ne223) o211
  have m241 : q76 ∈ L217 := by rw [hL217]; exact List.mem_append_left _ m158
  have k242 : K219 q76 = 22 := by rw [hK219]; exact th_ne (Ne.symm ne224) k159
  have o243 : F218 q76 = .inl (cs 5, 40, .inr (.inr (.inr (.inr (fun j => some (q76 + 1 + j)))))) := by rw [hF218]; exact th_ne (Ne.symm ne224) o212
  have m244 : q77 ∈ L217 := by rw [hL217]; exact List.mem_append_left _ m161
  have k245 : K219 q77 = 24 := by rw [hK219]; exact th_ne (Ne.symm ne225) k162
  have m246 : q78 ∈ L217 := by rw [hL217]; exact List.mem_append_left _ m163
  have k247 : K219 q78 = 25 := by rw [hK219]; exact th_ne (Ne.symm ne226) k164
  have m248 : q111 ∈ L217 := by rw [hL217]; exact List.mem_append_left _ m165
  have k249 : K219 q111 = 0 := by rw [hK219]; exact th_ne (Ne.symm ne227) k166
  have o250 : F218 q111 = .inr (2, [.ref q167, .ref q168, .ref q169, .int 0, .int 0, .int 0, .int 0]) := by rw [hF218]; exact th_ne (Ne.symm ne227) o213
  have m251 : q167 ∈ L217 := by rw [hL217]; exact List.mem_append_left _ m177
  have k252 : K219 q167 = 42 := by rw [hK219]; exact th_ne (Ne.symm ne228) k172
  have o253 : F218 q167 = .inl (cs 5, 40, .inr (.inr (.inr (.inr (fun j => some (q167 + 1 + j)))))) := by rw [hF218]; exact th_ne (Ne.symm ne228) o214
  have m254 : q168 ∈ L217 := by rw [hL217]; exact List.mem_append_left _ m187
  have k255 : K219 q168 = 24 := by rw [hK219]; exact th_ne (Ne.symm ne229) k174
  have m256 : q169 ∈ L217 := by rw [hL217]; exact List.mem_append_left _ m198
  have k257 : K219 q169 = 25 := by rw [hK219]; exact th_ne (Ne.symm ne230) k175
  have m258 : q216 ∈ L217 := by rw [hL217]; exact List.mem_append_right _ (List.mem_singleton.mpr rfl)
  have o259 : F218 q216 = (.inr (4, [.null, .null, .null, .null, .null, .null, .null, .int 0, .int 0, .int 0, .int 0, .int 0, .int 0, .int 0, .int 0])) := by rw [hF218]; exact th_up
  have k260 : K219 q216 = 0 := by rw [hK219]; exact th_up
  have nl261 : q216 ∉ L := fun h => hq (hsub q216 h)
  have hfr : ∀ a ∈ L, a ≠ h0 → F218 a = F a ∧ K219 a = K a := fun a ha hne => ⟨by rw [hF218]; exact th_ne (fun h => nl261 (h ▸ ha)) (hfr a ha hne).1, by rw [hK219]; exact th_ne (fun h => nl261 (h ▸ ha)) (hfr a ha hne).2⟩
  have hsub : ∀ a ∈ L, a ∈ L217 := fun a ha => by rw [hL217]; exact List.mem_append_left _ (hsub a ha)
  have hX : n_X K K219 := n_Xt hX hX1
  have hks : ∀ a, K219 a = K a ∨ K219 a ∈ [4, 5, 6, 20, 21, 22, 23, 24, 25, 26, 27, 28, 29, 30, 31, 32, 33, 34, 35, 36, 37, 38, 39, 42, 43] := fun a => by rw [hK219]; by_cases e9 : a = q216; (rw [e9, th_up]; left; exact (Classical.byContradiction (fun h => nl261 (hLk0 _ (fun h8 => h h8.symm))))); rw [show va_up K145 q216 0 a = K145 a from if_neg e9]; exact hks a
  have hzz : ∀ a, K219 a ∉ [1, 2, 3, 7, 8] := fun a h9 => by rw [hK219] at h9; by_cases e9 : a = q216; (rw [e9, th_up] at h9; exact absurd h9 (by decide)); rw [show va_up _ q216 0 a = _ from if_neg e9] at h9; exact hzz a h9
  have hu22 : ∀ a, K219 a = 22 → a = q76 := fun a h9 => by rw [hK219] at h9; exact (n_uu h9).elim (fun w => absurd w.2 (by decide)) (hu22 a)
  have hu42 : ∀ a, K219 a = 42 → a = q167 := fun a h9 => by rw [hK219] at h9; exact (n_uu h9).elim (fun w => absurd w.2 (by decide)) (hu42 a)
  refine W.widen (k := 95) (n := 2654) (Nat.le_of_ble_eq_true rfl) (Nat.le_of_ble_eq_true rfl) ?_
  refine lv_dup hx hb dX6_init_50 rfl ?_
  have hsb262 := hsub
  have hFc := n_free hD hS hA
  refine va_callv (va_runI (As := []) (rest := [.ref q216, .ref h0]) ⟨hx, hb, hml, hown, hts⟩ (n_X4_init l dC dI H.size L217 K219 F218 q216 m258 hI hLk k260 o259) (cwI 0 hts (ax_gT T_3) rfl rfl rfl (hts _ T_142) (hts _ T_173) (hts _ T_144) rfl (by decide +kernel) ⟨Nat.le_of_ble_eq_true rfl, Nat.le_of_ble_eq_true rfl⟩) ⟨fun a U g mk q => ⟨q.1, n_pc (U := U) rfl rfl q.2⟩, fun U hU hW => ⟨rfl, n_pw hU hW hP hK hD hN⟩⟩ rfl rfl hl.1 rfl (lv_room (Nat.le_of_ble_eq_true rfl)) dX6_init_51 ⟨Nat.le_of_ble_eq_true rfl, Nat.le_of_ble_eq_true rfl⟩) hS (fun q _ h => hFc q h) hFc (fun u t H1 locs ht hvm hw hB hz1 hk1 hS => ?_)
  obtain ⟨L263, K264, F265⟩ := u
  obtain ⟨hP, hK1, hD1⟩ := hB
  rw [ht] at hP
  have hD : ∀ G, va_D A (va_pl L263 G) := fun G => (hD1 G).weaken (fun k q _ h => hFc _ h)
  generalize H1 = H at hP hS ⊢
  obtain ⟨hs1, hX1, hf1, hk1, hI, hLk, hks1⟩ := hw
  have hP : va_P (dC, dI) vwCl (va_pl L263 F265) H := hP
  have hI : s_I K264 cs 0 F265 := hI
  have hLk : ∀ a, K264 a ≠ 0 → a ∈ L263 := hLk
  have m267 : h0 ∈ L263 := hs1 _ m231
  have k268 : K264 h0 = 0 := (hf1 _ m231 (Ne.symm ne220)).2.trans k232
  have o269 : F265 h0 = .inr (6, [.ref q1, .int 0, .ref q15, .ref q44, .ref q111, .int 0, .null, .null, .int 0, .int 0, .null, .null, .null, .long 0]) := (hf1 _ m231 (Ne.symm ne220)).1.trans o233
  have m270 : q1 ∈ L263 := hs1 _ m234
  have k271 : K264 q1 = 20 := (hf1 _ m234 (Ne.symm ne221)).2.trans k235
  have m272 : q15 ∈ L263 := hs1 _ m236
  have k273 : K264 q15 = 4 := (hf1 _ m236 (Ne.symm ne222)).2.trans k237
  have m274 : q44 ∈ L263 := hs1 _ m238
  have k275 : K264 q44 = 0 := (hf1 _ m238 (Ne.symm ne223)).2.trans k239
  have o276 : F265 q44 = .inr (2, [.ref q76, .ref q77, .ref q78, .int 0, .int 0, .int 0, .int 0]) := (hf1 _ m238 (Ne.symm ne223)).1.trans o240
  have m277 : q76 ∈ L263 := hs1 _ m241
  have k278 : K264 q76 = 22 := (hf1 _ m241 (Ne.symm ne224)).2.trans k242
  have o279 : F265 q76 = .inl (cs 5, 40, .inr (.inr (.inr (.inr (fun j => some (q76 + 1 + j)))))) := (hf1 _ m241 (Ne.symm ne224)).1.trans o243
  have m280 : q77 ∈ L263 := hs1 _ m244
  have k281 : K264 q77 = 24 := (hf1 _ m244 (Ne.symm ne225)).2.trans k245
  have m282 : q78 ∈ L263 := hs1 _ m246
  have k283 : K264 q78 = 25 := (hf1 _ m246 (Ne.symm ne226)).2.trans k247
  have m284 : q111 ∈ L263 := hs1 _ m248
  have k285 : K264 q111 = 0 := (hf1 _ m248 (Ne.symm ne227)).2.trans k249
  have o286 : F265 q111 = .inr (2, [.ref q167, .ref q168, .ref q169, .int 0, .int 0, .int 0, .int 0]) := (hf1 _ m248 (Ne.symm ne227)).1.trans o250
  have m287 : q167 ∈ L263 := hs1 _ m251
  have k288 : K264 q167 = 42 := (hf1 _ m251 (Ne.symm ne228)).2.trans k252
  have o289 : F265 q167 = .inl (cs 5, 40, .inr (.inr (.inr (.inr (fun j => some (q167 + 1 + j)))))) := (hf1 _ m251 (Ne.symm ne228)).1.trans o253
  have m290 : q168 ∈ L263 := hs1 _ m254
  have k291 : K264 q168 = 24 := (hf1 _ m254 (Ne.symm ne229)).2.trans k255
  have m292 : q169 ∈ L263 := hs1 _ m256
  have k293 : K264 q169 = 25 := (hf1 _ m256 (Ne.symm ne230)).2.trans k257
  have m294 : q216 ∈ L263 := hs1 _ m258
  have k295 : K264 q216 = 5 := hk1
  have hfr : ∀ a ∈ L, a ≠ h0 → F265 a = F a ∧ K264 a = K a := fun a ha hne => ⟨(hf1 a (hsub a ha) (fun h => nl261 (h ▸ ha))).1.trans (hfr a ha hne).1, (hf1 a (hsub a ha) (fun h => nl261 (h ▸ ha))).2.trans (hfr a ha hne).2⟩
  have hsub : ∀ a ∈ L, a ∈ L263 := fun a ha => hs1 a (hsub a ha)
  have hX : n_X K K264 := n_Xt hX hX1
  have hks : ∀ a, K264 a = K a ∨ K264 a ∈ [4, 5, 6, 20, 21, 22, 23, 24, 25, 26, 27, 28, 29, 30, 31, 32, 33, 34, 35, 36, 37, 38, 39, 42, 43] := fun a => (hks1 a).elim (fun h => by rw [show K264 a = K219 a from h]; exact hks a) (fun h => Or.inr (s_sub (by decide) h))
  have hzz : ∀ a, K264 a ∉ [1, 2, 3, 7, 8] := fun a h9 => (hks1 a).elim (fun h => hzz a (by rw [← show K264 a = K219 a from h]; exact h9)) (fun h => (show ∀ y ∈ [5, 6, 24, 26, 27, 28, 29, 30, 31, 32], y ∉ [1, 2, 3, 7, 8] by decide) _ h h9)
  have hu22 : ∀ a, K264 a = 22 → a = q76 := fun a h9 => (hks1 a).elim (fun h => hu22 a (h.symm.trans h9)) (fun h => absurd (show K264 a ∈ _ from h) (by rw [h9]; decide))
  have hu42 : ∀ a, K264 a = 42 → a = q167 := fun a h9 => (hks1 a).elim (fun h => hu42 a (h.symm.trans h9)) (fun h => absurd (show K264 a ∈ _ from h) (by rw [h9]; decide))
  refine W.widen (k := 126) (n := 3588) (Nat.le_of_ble_eq_true rfl) (Nat.le_of_ble_eq_true rfl) ?_
  refine n_putF (D := (dC, dI)) (ci := 6) (v := .ref q216) (ty := .object "LaneWarps$State") (C := RX6) (T := TX6) (N := 14) hx hb hts inX6 tyX6 tyX6_ok nmX6 hown hK hP hD hS m267 o269 rfl 6 (by decide) (hts _ T_174) (fun _ h9 => h9) rfl hin rfl (by decide +kernel) rfl rfl (Nat.le_of_ble_eq_true rfl) dX6_init_54 (fun H locs hP hS => ?_)
  have hP : va_P (dC, dI) vwCl (va_pl L263 (va_up F265 h0 (.inr (6, [.ref q1, .int 0, .ref q15, .ref q44, .ref q111, .int 0, .ref q216, .null, .int 0, .int 0, .null, .null, .null, .long 0])))) H := hP
  obtain ⟨F296, hF296⟩ : ∃ M : Nat → va_E, M = va_up F265 h0 (.inr (6, [.ref q1, .int 0, .ref q15, .ref q44, .ref q111, .int 0, .ref q216, .null, .int 0, .int 0, .null, .null, .null, .long 0])) := ⟨_, rfl⟩
  rw [← hF296] at hP
  have hI : s_I K264 cs 0 F296 := by rw [hF296]; exact n_put0 hI k268
  have o297 : F296 q44 = .inr (2, [.ref q76, .ref q77, .ref q78, .int 0, .int 0, .int 0, .int 0]) := by rw [hF296]; exact th_ne ne48 o276
  have o298 : F296 q76 = .inl (cs 5, 40, .inr (.inr (.inr (.inr (fun j => some (q76 + 1 + j)))))) := by rw [hF296]; exact th_ne ne87 o279
  have o299 : F296 q111 = .inr (2, [.ref q167, .ref q168, .ref q169, .int 0, .int 0, .int 0, .int 0]) := by rw [hF296]; exact th_ne ne115 o286
  have o300 : F296 q167 = .inl (cs 5, 40, .inr (.inr (.inr (.inr (fun j => some (q167 + 1 + j)))))) := by rw [hF296]; exact th_ne ne178 o289
  have o301 : F296 h0 = .inr (6, [.ref q1, .int 0, .ref q15, .ref q44, .ref q111, .int 0, .ref q216, .null, .int 0, .int 0, .null, .null, .null, .long 0]) := by rw [hF296]; exact th_up
  have hfr : ∀ a ∈ L, a ≠ h0 → F296 a = F a ∧ K264 a = K a := fun a ha hne => ⟨by rw [hF296]; exact th_ne hne (hfr a ha hne).1, (hfr a ha hne).2⟩
  have hsn : ∀ a ∈ L263, a ≠ h0 → F296 a = F296 a ∧ K264 a = K264 a := fun _ _ _ => ⟨rfl, rfl⟩
  have hss : ∀ a ∈ L263, a ∈ L263 := fun _ h => h
  refine lv_aload_n hx hb dX6_init_57 rfl (lv_at hl 0 rfl) ?_
  refine lv_bipush (v := 20) hx hb dX6_init_58 (by decide) ?_
  refine n_newq (C := RX4) (N' := 20) hx hb hown (hts _ T_172) (ax_n6 hN) hK hP hD hS hA 4 rfl (by decide) (by decide) (Nat.le_of_ble_eq_true rfl) (Nat.le_of_ble_eq_true rfl) (Nat.le_of_ble_eq_true rfl) dX6_init_60 (fun q302 H hq hP hD hS => ?_)
  obtain ⟨L303, hL303⟩ : ∃ M, M = L263 ++ [q302] := ⟨_, rfl⟩
  rw [← hL303] at hP hD
  obtain ⟨F304, hF304⟩ : ∃ M : Nat → va_E, M = va_up F296 q302 (.inl (cs 4, 20, .inr (.inr (.inr (.inr (fun _ => none)))))) := ⟨_, rfl⟩
  rw [← hF304] at hP
  obtain ⟨hI, hLk, hX1⟩ := n_add (c := 0) hI hLk hq trivial
  obtain ⟨K305, hK305⟩ : ∃ M, M = va_up K264 q302 0 := ⟨_, rfl⟩
  rw [← hK305, ← hF304] at hI
  rw [← hK305, ← hL303] at hLk
  rw [← hK305] at hX1
  have ne306 : q302 ≠ h0 := fun h => hq (h ▸ m267)
  have m307 : h0 ∈ L303 := by rw [hL303]; exact List.mem_append_left _ m267
  have k308 : K305 h0 = 0 := by rw [hK305]; exact th_ne (Ne.symm ne306) k268
  have o309 : F304 h0 = .inr (6, [.ref q1, .int 0, .ref q15, .ref q44, .ref q111, .int 0, .ref q216, .null, .int 0, .int 0, .null, .null, .null, .long 0]) := by rw [hF304]; exact th_ne (Ne.symm ne306) o301
  have m310 : q302 ∈ L303 := by rw [hL303]; exact List.mem_append_right _ (List.mem_singleton.mpr rfl)
  have o311 : F304 q302 = (.inl (cs 4, 20, .inr (.inr (.inr (.inr (fun _ => none)))))) := by rw [hF304]; exact th_up
  have k312 : K305 q302 = 0 := by rw [hK305]; exact th_up
  have nl313 : q302 ∉ L := fun h => hq (hsub q302 h)
  have hfr : ∀ a ∈ L, a ≠ h0 → F304 a = F a ∧ K305 a = K a := fun a ha hne => ⟨by rw [hF304]; exact th_ne (fun h => nl313 (h ▸ ha)) (hfr a ha hne).1, by rw [hK305]; exact th_ne (fun h => nl313 (h ▸ ha)) (hfr a ha hne).2⟩
  have hsub : ∀ a ∈ L, a ∈ L303 := fun a ha => by rw [hL303]; exact List.mem_append_left _ (hsub a ha)
  have hX : n_X K K305 := n_Xt hX hX1
  have hks : ∀ a, K305 a = K a ∨ K305 a ∈ [4, 5, 6, 20, 21, 22, 23, 24, 25, 26, 27, 28, 29, 30, 31, 32, 33, 34, 35, 36, 37, 38, 39, 42, 43] := fun a => by rw [hK305]; by_cases e9 : a = q302; (rw [e9, th_up]; left; exact (Classical.byContradiction (fun h => nl313 (hLk0 _ (fun h8 => h h8.symm))))); rw [show va_up K264 q302 0 a = K264 a from if_neg e9]; exact hks a
  have hzz : ∀ a, K305 a ∉ [1, 2, 3, 7, 8] := fun a h9 => by rw [hK305] at h9; by_cases e9 : a = q302; (rw [e9, th_up] at h9; exact absurd h9 (by decide)); rw [show va_up _ q302 0 a = _ from if_neg e9] at h9; exact hzz a h9
  have hu22 : ∀ a, K305 a = 22 → a = q76 := fun a h9 => by rw [hK305] at h9; exact (n_uu h9).elim (fun w => absurd w.2 (by decide)) (hu22 a)
  have hu42 : ∀ a, K305 a = 42 → a = q167 := fun a h9 => by rw [hK305] at h9; exact (n_uu h9).elim (fun w => absurd w.2 (by decide)) (hu42 a)
  have nlsq302 : q302 ∉ L263 := fun h => hq (hss _ h)
  have hsn : ∀ a ∈ L263, a ≠ h0 → F304 a = F296 a ∧ K305 a = K264 a := fun a ha n0 => ⟨by rw [hF304]; exact th_ne (fun h => nlsq302 (h ▸ ha)) (hsn a ha n0).1, by rw [hK305]; exact th_ne (fun h => nlsq302 (h ▸ ha)) (hsn a ha n0).2⟩
  have hss : ∀ a ∈ L263, a ∈ L303 := fun a ha => by rw [hL303]; exact List.mem_append_left _ (hss a ha)
  refine W.widen (k := 127) (n := 3608) (Nat.le_of_ble_eq_true rfl) (Nat.le_of_ble_eq_true rfl) ?_
  refine n_putF (D := (dC, dI)) (ci := 6) (v := .ref q302) (ty := .array (.object "LaneWarps$State")) (C := RX6) (T := TX6) (N := 14) hx hb hts inX6 tyX6 tyX6_ok nmX6 hown hK hP hD hS m307 o309 rfl 7 (by decide) (hts _ T_175) (fun _ h9 => h9) rfl hin rfl (by decide +kernel) rfl rfl (Nat.le_of_ble_eq_true rfl) dX6_init_63 (fun H locs hP hS => ?_)
  have hP : va_P (dC, dI) vwCl (va_pl L303 (va_up F304 h0 (.inr (6, [.ref q1, .int 0, .ref q15, .ref q44, .ref q111, .int 0, .ref q216, .ref q302, .int 0, .int 0, .null, .null, .null, .long 0])))) H := hP
  obtain ⟨F314, hF314⟩ : ∃ M : Nat → va_E, M = va_up F304 h0 (.inr (6, [.ref q1, .int 0, .ref q15, .ref q44, .ref q111, .int 0, .ref q216, .ref q302, .int 0, .int 0, .null, .null, .null, .long 0])) := ⟨_, rfl⟩
  rw [← hF314] at hP
  have hI : s_I K305 cs 0 F314 := by rw [hF314]; exact n_put0 hI k308
  have o315 : F314 q302 = .inl (cs 4, 20, .inr (.inr (.inr (.inr (fun _ => none))))) := by rw [hF314]; exact th_ne ne306 o311
  have o316 : F314 h0 = .inr (6, [.ref q1, .int 0, .ref q15, .ref q44, .ref q111, .int 0, .ref q216, .ref q302, .int 0, .int 0, .null, .null, .null, .long 0]) := by rw [hF314]; exact th_up
  have hfr : ∀ a ∈ L, a ≠ h0 → F314 a = F a ∧ K305 a = K a := fun a ha hne => ⟨by rw [hF314]; exact th_ne hne (hfr a ha hne).1, (hfr a ha hne).2⟩
  have hsn : ∀ a ∈ L263, a ≠ h0 → F314 a = F296 a ∧ K305 a = K264 a := fun a ha n0 => ⟨by rw [hF314]; exact th_ne n0 (hsn a ha n0).1, (hsn a ha n0).2⟩
  refine lv_aload_n hx hb dX6_init_66 rfl (lv_at hl 0 rfl) ?_
  refine n_new (ci := 1) (fs := [.null, .null, .null, .null, .null, .null, .int 0, .int 0, .int 0, .int 0, .int 0, .long 0]) (C := RX1) (T := TX1) (N := 12) hx hb hts inX1 tyX1 tyX1_ok hown (hts _ T_176) (hts _ T_136) (hts _ T_137) hK hP hD hS hA rfl dvX1 (Nat.le_of_ble_eq_true rfl) (Nat.le_of_ble_eq_true rfl) dX6_init_67 (fun q317 H hq hP hD hS => ?_)
  obtain ⟨L318, hL318⟩ : ∃ M, M = L303 ++ [q317] := ⟨_, rfl⟩
  rw [← hL318] at hP hD
  obtain ⟨F319, hF319⟩ : ∃ M : Nat → va_E, M = va_up F314 q317 (.inr (1, [.null, .null, .null, .null, .null, .null, .int 0, .int 0, .int 0, .int 0, .int 0, .long 0])) := ⟨_, rfl⟩
  rw [← hF319] at hP
  obtain ⟨hI, hLk, hX1⟩ := n_add (c := 0) hI hLk hq trivial
  obtain ⟨K320, hK320⟩ : ∃ M, M = va_up K305 q317 0 := ⟨_, rfl⟩
  rw [← hK320, ← hF319] at hI
  rw [← hK320, ← hL318] at hLk
  rw [← hK320] at hX1
  have ne321 : q317 ≠ h0 := fun h => hq (h ▸ m307)
  have ne322 : q317 ≠ q302 := fun h => hq (h ▸ m310)
  have m323 : h0 ∈ L318 := by rw [hL318]; exact List.mem_append_left _ m307
  have k324 : K320 h0 = 0 := by rw [hK320]; exact th_ne (Ne.symm ne321) k308
  have o325 : F319 h0 = .inr (6, [.ref q1, .int 0, .ref q15, .ref q44, .ref q111, .int 0, .ref q216, .ref q302, .int 0, .int 0, .null, .null, .null, .long 0]) := by rw [hF319]; exact th_ne (Ne.symm ne321) o316
  have m326 : q302 ∈ L318 := by rw [hL318]; exact List.mem_append_left _ m310
  have k327 : K320 q302 = 0 := by rw [hK320]; exact th_ne (Ne.symm ne322) k312
  have o328 : F319 q302 = .inl (cs 4, 20, .inr (.inr (.inr (.inr (fun _ => none))))) := by rw [hF319]; exact th_ne (Ne.symm ne322) o315
  have m329 : q317 ∈ L318 := by rw [hL318]; exact List.mem_append_right _ (List.mem_singleton.mpr rfl)
  have o330 : F319 q317 = (.inr (1, [.null, .null, .null, .null, .null, .null, .int 0, .int 0, .int 0, .int 0, .int 0, .long 0])) := by rw [hF319]; exact th_up
  have k331 : K320 q317 = 0 := by rw [hK320]; exact th_up
  have nl332 : q317 ∉ L := fun h => hq (hsub q317 h)
  have hfr : ∀ a ∈ L, a ≠ h0 → F319 a = F a ∧ K320 a = K a := fun a ha hne => ⟨by rw [hF319]; exact th_ne (fun h => nl332 (h ▸ ha)) (hfr a ha hne).1, by rw [hK320]; exact th_ne (fun h => nl332 (h ▸ ha)) (hfr a ha hne).2⟩
  have hsub : ∀ a ∈ L, a ∈ L318 := fun a ha => by rw [hL318]; exact List.mem_append_left _ (hsub a ha)
  have hX : n_X K K320 := n_Xt hX hX1
  have hks : ∀ a, K320 a = K a ∨ K320 a ∈ [4, 5, 6, 20, 21, 22, 23, 24, 25, 26, 27, 28, 29, 30, 31, 32, 33, 34, 35, 36, 37, 38, 39, 42, 43] := fun a => by rw [hK320]; by_cases e9 : a = q317; (rw [e9, th_up]; left; exact (Classical.byContradiction (fun h => nl332 (hLk0 _ (fun h8 => h h8.symm))))); rw [show va_up K305 q317 0 a = K305 a from if_neg e9]; exact hks a
  have hzz : ∀ a, K320 a ∉ [1, 2, 3, 7, 8] := fun a h9 => by rw [hK320] at h9; by_cases e9 : a = q317; (rw [e9, th_up] at h9; exact absurd h9 (by decide)); rw [show va_up _ q317 0 a = _ from if_neg e9] at h9; exact hzz a h9
  have hu22 : ∀ a, K320 a = 22 → a = q76 := fun a h9 => by rw [hK320] at h9; exact (n_uu h9).elim (fun w => absurd w.2 (by decide)) (hu22 a)
  have hu42 : ∀ a, K320 a = 42 → a = q167 := fun a h9 => by rw [hK320] at h9; exact (n_uu h9).elim (fun w => absurd w.2 (by decide)) (hu42 a)
  have nlsq317 : q317 ∉ L263 := fun h => hq (hss _ h)
  have hsn : ∀ a ∈ L263, a ≠ h0 → F319 a = F296 a ∧ K320 a = K264 a := fun a ha n0 => ⟨by rw [hF319]; exact th_ne (fun h => nlsq317 (h ▸ ha)) (hsn a ha n0).1, by rw [hK320]; exact th_ne (fun h => nlsq317 (h ▸ ha)) (hsn a ha n0).2⟩
  have hss : ∀ a ∈ L263, a ∈ L318 := fun a ha => by rw [hL318]; exact List.mem_append_left _ (hss a ha)
  refine W.widen (k := 128) (n := 3620) (Nat.le_of_ble_eq_true rfl) (Nat.le_of_ble_eq_true rfl) ?_
  refine lv_dup hx hb dX6_init_70 rfl ?_
  have hssb := hss
  have hsb333 := hsub
  have hFc := n_free hD hS hA
  refine va_callv (va_runIN (As := []) (rest := [.ref q317, .ref h0]) ⟨hx, hb, hml, hown, hts⟩ (n_X1_init l dC dI H.size L318 K320 F319 q317 m329 hI hLk k331 o330) ⟨(va_cnB 0 hts (ax_gT T_2) rfl rfl rfl (ax_n7 hN) (hts _ T_137) (by decide +kernel) ⟨Nat.le_of_ble_eq_true rfl, Nat.le_of_ble_eq_true rfl⟩), rfl, hts _ T_138⟩ ⟨fun a U g mk q => ⟨q.1, n_pc (U := U) rfl rfl q.2⟩, fun U hU hW => ⟨rfl, n_pw hU hW hP hK hD hN⟩⟩ rfl rfl hl.1 rfl (lv_room (Nat.le_of_ble_eq_true rfl)) dX6_init_71 ⟨Nat.le_of_ble_eq_true rfl, Nat.le_of_ble_eq_true rfl⟩) hS (fun q _ h => hFc q h) hFc (fun u t H1 locs ht hvm hw hB hz1 hk1 hS => ?_)
  obtain ⟨L334, K335, F336⟩ := u
  obtain ⟨hP, hK1, hD1⟩ := hB
  rw [ht] at hP
  have hD : ∀ G, va_D A (va_pl L334 G) := fun G => (hD1 G).weaken (fun k q _ h => hFc _ h)
  generalize H1 = H at hP hS ⊢
  obtain ⟨⟨hs1, hX1, hf1, hk1, hI, hLk, hks1⟩, x337⟩ := hw
  have hP : va_P (dC, dI) vwCl (va_pl L334 F336) H := hP
  have hI : s_I K335 cs 0 F336 := hI
  have hLk : ∀ a, K335 a ≠ 0 → a ∈ L334 := hLk
  have m338 : h0 ∈ L334 := hs1 _ m323
  have k339 : K335 h0 = 0 := (hf1 _ m323 (Ne.symm ne321)).2.trans k324
  have o340 : F336 h0 = .inr (6, [.ref q1, .int 0, .ref q15, .ref q44, .ref q111, .int 0, .ref q216, .ref q302, .int 0, .int 0, .null, .null, .null, .long 0]) := (hf1 _ m323 (Ne.symm ne321)).1.trans o325
  have m341 : q302 ∈ L334 := hs1 _ m326
  have k342 : K335 q302 = 0 := (hf1 _ m326 (Ne.symm ne322)).2.trans k327
  have o343 : F336 q302 = .inl (cs 4, 20, .inr (.inr (.inr (.inr (fun _ => none))))) := (hf1 _ m326 (Ne.symm ne322)).1.trans o328
  have m344 : q317 ∈ L334 := hs1 _ m329
  have k345 : K335 q317 = 0 := hk1
  have hfr : ∀ a ∈ L, a ≠ h0 → F336 a = F a ∧ K335 a = K a := fun a ha hne => ⟨(hf1 a (hsub a ha) (fun h => nl332 (h ▸ ha))).1.trans (hfr a ha hne).1, (hf1 a (hsub a ha) (fun h => nl332 (h ▸ ha))).2.trans (hfr a ha hne).2⟩
  have hsub : ∀ a ∈ L, a ∈ L334 := fun a ha => hs1 a (hsub a ha)
  have hX : n_X K K335 := n_Xt hX hX1
  have hks : ∀ a, K335 a = K a ∨ K335 a ∈ [4, 5, 6, 20, 21, 22, 23, 24, 25, 26, 27, 28, 29, 30, 31, 32, 33, 34, 35, 36, 37, 38, 39, 42, 43] := fun a => (hks1 a).elim (fun h => by rw [show K335 a = K320 a from h]; exact hks a) (fun h => Or.inr (s_sub (by decide) h))
  have hzz : ∀ a, K335 a ∉ [1, 2, 3, 7, 8] := fun a h9 => (hks1 a).elim (fun h => hzz a (by rw [← show K335 a = K320 a from h]; exact h9)) (fun h => (show ∀ y ∈ [34, 35], y ∉ [1, 2, 3, 7, 8] by decide) _ h h9)
  have hu22 : ∀ a, K335 a = 22 → a = q76 := fun a h9 => (hks1 a).elim (fun h => hu22 a (h.symm.trans h9)) (fun h => absurd (show K335 a ∈ _ from h) (by rw [h9]; decide))
  have hu42 : ∀ a, K335 a = 42 → a = q167 := fun a h9 => (hks1 a).elim (fun h => hu42 a (h.symm.trans h9)) (fun h => absurd (show K335 a ∈ _ from h) (by rw [h9]; decide))
  have hsn : ∀ a ∈ L263, a ≠ h0 → F336 a = F296 a ∧ K335 a = K264 a := fun a ha n0 => ⟨(hf1 a (hss a ha) (fun h => nlsq317 (h ▸ ha))).1.trans (hsn a ha n0).1, (hf1 a (hss a ha) (fun h => nlsq317 (h ▸ ha))).2.trans (hsn a ha n0).2⟩
  have hss : ∀ a ∈ L263, a ∈ L334 := fun a ha => hs1 a (hss a ha)
  refine W.widen (k := 130) (n := 3632) (Nat.le_of_ble_eq_true rfl) (Nat.le_of_ble_eq_true rfl) ?_
  obtain ⟨q346, q347, o348, k349, k350⟩ := x337
  have o348 : F336 q317 = .inr (1, [.ref q346, .ref q347, .null, .null, .null, .null, .int 0, .int 0, .int 0, .int 0, .int 0, .long 0]) := o348
  have k349 : K335 q346 = 34 := k349
  have k350 : K335 q347 = 35 := k350
  have m351 : q346 ∈ L334 := hLk _ (by rw [k349]; decide)
  have ne352 : q346 ≠ h0 := fun h => by rw [h, k339] at k349; cases k349
  have ne353 : q346 ≠ q302 := fun h => by rw [h, k342] at k349; cases k349
  have ne354 : q346 ≠ q317 := fun h => by rw [h, k345] at k349; cases k349
  have m356 : q347 ∈ L334 := hLk _ (by rw [k350]; decide)
  have ne357 : q347 ≠ h0 := fun h => by rw [h, k339] at k350; cases k350
  have ne358 : q347 ≠ q302 := fun h => by rw [h, k342] at k350; cases k350
  have ne359 : q347 ≠ q317 := fun h => by rw [h, k345] at k350; cases k350
  have ne360 : q347 ≠ q346 := fun h => by rw [h, k349] at k350; cases k350
  refine n_putF (D := (dC, dI)) (ci := 6) (v := .ref q317) (ty := .object "LaneWarps$Machine") (C := RX6) (T := TX6) (N := 14) hx hb hts inX6 tyX6 tyX6_ok nmX6 hown hK hP hD hS m338 o340 rfl 10 (by decide) (hts _ T_177) (fun _ h9 => h9) rfl hin rfl (by decide +kernel) rfl rfl (Nat.le_of_ble_eq_true rfl) dX6_init_74 (fun H locs hP hS => ?_)
  have hP : va_P (dC, dI) vwCl (va_pl L334 (va_up F336 h0 (.inr (6, [.ref q1, .int 0, .ref q15, .ref q44, .ref q111, .int 0, .ref q216, .ref q302, .int 0, .int 0, .ref q317, .null, .null, .long 0])))) H := hP
  obtain ⟨F362, hF362⟩ : ∃ M : Nat → va_E, M = va_up F336 h0 (.inr (6, [.ref q1, .int 0, .ref q15, .ref q44, .ref q111, .int 0, .ref q216, .ref q302, .int 0, .int 0, .ref q317, .null, .null, .long 0])) := ⟨_, rfl⟩
  rw [← hF362] at hP
  have hI : s_I K335 cs 0 F362 := by rw [hF362]; exact n_put0 hI k339
  have o363 : F362 q302 = .inl (cs 4, 20, .inr (.inr (.inr (.inr (fun _ => none))))) := by rw [hF362]; exact th_ne ne306 o343
  have o364 : F362 q317 = .inr (1, [.ref q346, .ref q347, .null, .null, .null, .null, .int 0, .int 0, .int 0, .int 0, .int 0, .long 0]) := by rw [hF362]; exact th_ne ne321 o348
  have o365 : F362 h0 = .inr (6, [.ref q1, .int 0, .ref q15, .ref q44, .ref q111, .int 0, .ref q216, .ref q302, .int 0, .int 0, .ref q317, .null, .null, .long 0]) := by rw [hF362]; exact th_up
  have hfr : ∀ a ∈ L, a ≠ h0 → F362 a = F a ∧ K335 a = K a := fun a ha hne => ⟨by rw [hF362]; exact th_ne hne (hfr a ha hne).1, (hfr a ha hne).2⟩
  have hsn : ∀ a ∈ L263, a ≠ h0 → F362 a = F296 a ∧ K335 a = K264 a := fun a ha n0 => ⟨by rw [hF362]; exact th_ne n0 (hsn a ha n0).1, (hsn a ha n0).2⟩
  refine lv_aload_n hx hb dX6_init_77 rfl (lv_at hl 0 rfl) ?_
  refine n_new (ci := 0) (fs := [.null, .null, .null, .null, .null, .int 0, .null, .long 0, .null, .int 0, .null, .int 0, .int 0, .int 0]) (C := RX0) (T := TX0) (N := 14) hx hb hts inX0 tyX0 tyX0_ok hown (hts _ T_178) (hts _ T_179) (hts _ T_180) hK hP hD hS hA rfl dvX0 (Nat.le_of_ble_eq_true rfl) (Nat.le_of_ble_eq_true rfl) dX6_init_78 (fun q366 H hq hP hD hS => ?_)
  obtain ⟨L367, hL367⟩ : ∃ M, M = L334 ++ [q366] := ⟨_, rfl⟩
  rw [← hL367] at hP hD
  obtain ⟨F368, hF368⟩ : ∃ M : Nat → va_E, M = va_up F362 q366 (.inr (0, [.null, .null, .null, .null, .null, .int 0, .null, .long 0, .null, .int 0, .null, .int 0, .int 0, .int 0])) := ⟨_, rfl⟩
  rw [← hF368] at hP
  obtain ⟨hI, hLk, hX1⟩ := n_add (c := 0) hI hLk hq trivial
  obtain ⟨K369, hK369⟩ : ∃ M, M = va_up K335 q366 0 := ⟨_, rfl⟩
  rw [← hK369, ← hF368] at hI
  rw [← hK369, ← hL367] at hLk
  rw [← hK369] at hX1
  have ne370 : q366 ≠ h0 := fun h => hq (h ▸ m338)
  have ne371 : q366 ≠ q302 := fun h => hq (h ▸ m341)
  have ne372 : q366 ≠ q317 := fun h => hq (h ▸ m344)
  have ne373 : q366 ≠ q346 := fun h => hq (h ▸ m351)
  have ne374 : q366 ≠ q347 := fun h => hq (h ▸ m356)
  have m375 : h0 ∈ L367 := by rw [hL367]; exact List.mem_append_left _ m338
  have k376 : K369 h0 = 0 := by rw [hK369]; exact th_ne (Ne.symm ne370) k339
  have o377 : F368 h0 = .inr (6, [.ref q1, .int 0, .ref q15, .ref q44, .ref q111, .int 0, .ref q216, .ref q302, .int 0, .int 0, .ref q317, .null, .null, .long 0]) := by rw [hF368]; exact th_ne (Ne.symm ne370) o365
  have m378 : q302 ∈ L367 := by rw [hL367]; exact List.mem_append_left _ m341
  have k379 : K369 q302 = 0 := by rw [hK369]; exact th_ne (Ne.symm ne371) k342
  have o380 : F368 q302 = .inl (cs 4, 20, .inr (.inr (.inr (.inr (fun _ => none))))) := by rw [hF368]; exact th_ne (Ne.symm ne371) o363
  have m381 : q317 ∈ L367 := by rw [hL367]; exact List.mem_append_left _ m344
  have k382 : K369 q317 = 0 := by rw [hK369]; exact th_ne (Ne.symm ne372) k345
  have o383 : F368 q317 = .inr (1, [.ref q346, .ref q347, .null, .null, .null, .null, .int 0, .int 0, .int 0, .int 0, .int 0, .long 0]) := by rw [hF368]; exact th_ne (Ne.symm ne372) o364
  have m384 : q346 ∈ L367 := by rw [hL367]; exact List.mem_append_left _ m351
  have k385 : K369 q346 = 34 := by rw [hK369]; exact th_ne (Ne.symm ne373) k349
  have m386 : q347 ∈ L367 := by rw [hL367]; exact List.mem_append_left _ m356
  have k387 : K369 q347 = 35 := by rw [hK369]; exact th_ne (Ne.symm ne374) k350
  have m388 : q366 ∈ L367 := by rw [hL367]; exact List.mem_append_right _ (List.mem_singleton.mpr rfl)
  have o389 : F368 q366 = (.inr (0, [.null, .null, .null, .null, .null, .int 0, .null, .long 0, .null, .int 0, .null, .int 0, .int 0, .int 0])) := by rw [hF368]; exact th_up
  have k390 : K369 q366 = 0 := by rw [hK369]; exact th_up
  have nl391 : q366 ∉ L := fun h => hq (hsub q366 h)
  have hfr : ∀ a ∈ L, a ≠ h0 → F368 a = F a ∧ K369 a = K a := fun a ha hne => ⟨by rw [hF368]; exact th_ne (fun h => nl391 (h ▸ ha)) (hfr a ha hne).1, by rw [hK369]; exact th_ne (fun h => nl391 (h ▸ ha)) (hfr a ha hne).2⟩
  have hsub : ∀ a ∈ L, a ∈ L367 := fun a ha => by rw [hL367]; exact List.mem_append_left _ (hsub a ha)
  have hX : n_X K K369 := n_Xt hX hX1
  have hks : ∀ a, K369 a = K a ∨ K369 a ∈ [4, 5, 6, 20, 21, 22, 23, 24, 25, 26, 27, 28, 29, 30, 31, 32, 33, 34, 35, 36, 37, 38, 39, 42, 43] := fun a => by rw [hK369]; by_cases e9 : a = q366; (rw [e9, th_up]; left; exact (Classical.byContradiction (fun h => nl391 (hLk0 _ (fun h8 => h h8.symm))))); rw [show va_up K335 q366 0 a = K335 a from if_neg e9]; exact hks a
  have hzz : ∀ a, K369 a ∉ [1, 2, 3, 7, 8] := fun a h9 => by rw [hK369] at h9; by_cases e9 : a = q366; (rw [e9, th_up] at h9; exact absurd h9 (by decide)); rw [show va_up _ q366 0 a = _ from if_neg e9] at h9; exact hzz a h9
  have hu22 : ∀ a, K369 a = 22 → a = q76 := fun a h9 => by rw [hK369] at h9; exact (n_uu h9).elim (fun w => absurd w.2 (by decide)) (hu22 a)
  have hu42 : ∀ a, K369 a = 42 → a = q167 := fun a h9 => by rw [hK369] at h9; exact (n_uu h9).elim (fun w => absurd w.2 (by decide)) (hu42 a)
  have nlsq366 : q366 ∉ L263 := fun h => hq (hss _ h)
  have hsn : ∀ a ∈ L263, a ≠ h0 → F368 a = F296 a ∧ K369 a = K264 a := fun a ha n0 => ⟨by rw [hF368]; exact th_ne (fun h => nlsq366 (h ▸ ha)) (hsn a ha n0).1, by rw [hK369]; exact th_ne (fun h => nlsq366 (h ▸ ha)) (hsn a ha n0).2⟩
  have hss : ∀ a ∈ L263, a ∈ L367 := fun a ha => by rw [hL367]; exact List.mem_append_left _ (hss a ha)
  refine W.widen (k := 131) (n := 3646) (Nat.le_of_ble_eq_true rfl) (Nat.le_of_ble_eq_true rfl) ?_
  refine lv_dup hx hb dX6_init_81 rfl ?_
  have hssb := hss
  have hsb392 := hsub
  have hFc := n_free hD hS hA
  refine va_callv (va_runIN (As := []) (rest := [.ref q366, .ref h0]) ⟨hx, hb, hml, hown, hts⟩ (n_X0_init l dC dI H.size L367 K369 F368 q366 m388 hI hLk k390 o389) ⟨(va_cnB 0 hts (ax_gT T_7) rfl rfl rfl (ax_n8 hN) (hts _ T_180) (by decide +kernel) ⟨Nat.le_of_ble_eq_true rfl, Nat.le_of_ble_eq_true rfl⟩), rfl, hts _ T_181⟩ ⟨fun a U g mk q => ⟨q.1, n_pc (U := U) rfl rfl q.2⟩, fun U hU hW => ⟨rfl, n_pw hU hW hP hK hD hN⟩⟩ rfl rfl hl.1 rfl (lv_room (Nat.le_of_ble_eq_true rfl)) dX6_init_82 ⟨Nat.le_of_ble_eq_true rfl, Nat.le_of_ble_eq_true rfl⟩) hS (fun q _ h => hFc q h) hFc (fun u t H1 locs ht hvm hw hB hz1 hk1 hS => ?_)
  obtain ⟨L393, K394, F395⟩ := u
  obtain ⟨hP, hK1, hD1⟩ := hB
  rw [ht] at hP
  have hD : ∀ G, va_D A (va_pl L393 G) := fun G => (hD1 G).weaken (fun k q _ h => hFc _ h)
  generalize H1 = H at hP hS ⊢
  obtain ⟨⟨hs1, hX1, hf1, hk1, hI, hLk, hks1⟩, x396⟩ := hw
  have hP : va_P (dC, dI) vwCl (va_pl L393 F395) H := hP
  have hI : s_I K394 cs 0 F395 := hI
  have hLk : ∀ a, K394 a ≠ 0 → a ∈ L393 := hLk
  have m397 : h0 ∈ L393 := hs1 _ m375
  have k398 : K394 h0 = 0 := (hf1 _ m375 (Ne.symm ne370)).2.trans k376
  have o399 : F395 h0 = .inr (6, [.ref q1, .int 0, .ref q15, .ref q44, .ref q111, .int 0, .ref q216, .ref q302, .int 0, .int 0, .ref q317, .null, .null, .long 0]) := (hf1 _ m375 (Ne.symm ne370)).1.trans o377
  have m400 : q302 ∈ L393 := hs1 _ m378
  have k401 : K394 q302 = 0 := (hf1 _ m378 (Ne.symm ne371)).2.trans k379
  have o402 : F395 q302 = .inl (cs 4, 20, .inr (.inr (.inr (.inr (fun _ => none))))) := (hf1 _ m378 (Ne.symm ne371)).1.trans o380
  have m403 : q317 ∈ L393 := hs1 _ m381
  have k404 : K394 q317 = 0 := (hf1 _ m381 (Ne.symm ne372)).2.trans k382
  have o405 : F395 q317 = .inr (1, [.ref q346, .ref q347, .null, .null, .null, .null, .int 0, .int 0, .int 0, .int 0, .int 0, .long 0]) := (hf1 _ m381 (Ne.symm ne372)).1.trans o383
  have m406 : q346 ∈ L393 := hs1 _ m384
  have k407 : K394 q346 = 34 := (hf1 _ m384 (Ne.symm ne373)).2.trans k385
  have m408 : q347 ∈ L393 := hs1 _ m386
  have k409 : K394 q347 = 35 := (hf1 _ m386 (Ne.symm ne374)).2.trans k387
  have m410 : q366 ∈ L393 := hs1 _ m388
  have k411 : K394 q366 = 0 := hk1
  have hfr : ∀ a ∈ L, a ≠ h0 → F395 a = F a ∧ K394 a = K a := fun a ha hne => ⟨(hf1 a (hsub a ha) (fun h => nl391 (h ▸ ha))).1.trans (hfr a ha hne).1, (hf1 a (hsub a ha) (fun h => nl391 (h ▸ ha))).2.trans (hfr a ha hne).2⟩
  have hsub : ∀ a ∈ L, a ∈ L393 := fun a ha => hs1 a (hsub a ha)
  have hX : n_X K K394 := n_Xt hX hX1
  have hks : ∀ a, K394 a = K a ∨ K394 a ∈ [4, 5, 6, 20, 21, 22, 23, 24, 25, 26, 27, 28, 29, 30, 31, 32, 33, 34, 35, 36, 37, 38, 39, 42, 43] := fun a => (hks1 a).elim (fun h => by rw [show K394 a = K369 a from h]; exact hks a) (fun h => Or.inr (s_sub (by decide) h))
  have hzz : ∀ a, K394 a ∉ [1, 2, 3, 7, 8] := fun a h9 => (hks1 a).elim (fun h => hzz a (by rw [← show K394 a = K369 a from h]; exact h9)) (fun h => (show ∀ y ∈ [5, 6, 24, 26, 27, 28, 29, 30, 31, 32, 34, 35, 36, 37, 38], y ∉ [1, 2, 3, 7, 8] by decide) _ h h9)
  have hu22 : ∀ a, K394 a = 22 → a = q76 := fun a h9 => (hks1 a).elim (fun h => hu22 a (h.symm.trans h9)) (fun h => absurd (show K394 a ∈ _ from h) (by rw [h9]; decide))
  have hu42 : ∀ a, K394 a = 42 → a = q167 := fun a h9 => (hks1 a).elim (fun h => hu42 a (h.symm.trans h9)) (fun h => absurd (show K394 a ∈ _ from h) (by rw [h9]; decide))
  have hsn : ∀ a ∈ L263, a ≠ h0 → F395 a = F296 a ∧ K394 a = K264 a := fun a ha n0 => ⟨(hf1 a (hss a ha) (fun h => nlsq366 (h ▸ ha))).1.trans (hsn a ha n0).1, (hf1 a (hss a ha) (fun h => nlsq366 (h ▸ ha))).2.trans (hsn a ha n0).2⟩
  have hss : ∀ a ∈ L263, a ∈ L393 := fun a ha => hs1 a (hss a ha)
  refine W.widen (k := 233) (n := 7752) (Nat.le_of_ble_eq_true rfl) (Nat.le_of_ble_eq_true rfl) ?_
  obtain ⟨q412, q413, q414, q415, q416, q417, q418, q419, q420, o421, o422, ⟨m431, nl432, ne433, k434⟩, k423, k424, k425, k426, k427, k428, k429, k430⟩ := x396
  have o421 : F395 q366 = .inr (0, [.ref q412, .ref q413, .ref q414, .ref q415, .ref q416, .int 0, .ref q417, .long 0, .ref q418, .int 0, .null, .int 0, .int 0, .int 0]) := o421
  have o422 : F395 q412 = .inr (1, [.ref q419, .ref q420, .null, .null, .null, .null, .int 0, .int 0, .int 0, .int 0, .int 0, .long 0]) := o422
  have m431 : q412 ∈ L393 := m431
  have k434 : K394 q412 = 0 := k434
  have ne435 : q412 ≠ h0 := fun h => nl432 (h ▸ m375)
  have ne436 : q412 ≠ q302 := fun h => nl432 (h ▸ m378)
  have ne437 : q412 ≠ q317 := fun h => nl432 (h ▸ m381)
  have ne438 : q412 ≠ q346 := fun h => nl432 (h ▸ m384)
  have ne439 : q412 ≠ q347 := fun h => nl432 (h ▸ m386)
  have k423 : K394 q413 = 5 := k423
  have m440 : q413 ∈ L393 := hLk _ (by rw [k423]; decide)
  have ne441 : q413 ≠ h0 := fun h => by rw [h, k398] at k423; cases k423
  have ne442 : q413 ≠ q302 := fun h => by rw [h, k401] at k423; cases k423
  have ne443 : q413 ≠ q317 := fun h => by rw [h, k404] at k423; cases k423
  have ne444 : q413 ≠ q346 := fun h => by rw [h, k407] at k423; cases k423
  have ne445 : q413 ≠ q347 := fun h => by rw [h, k409] at k423; cases k423
  have ne446 : q413 ≠ q366 := fun h => by rw [h, k411] at k423; cases k423
  have ne447 : q413 ≠ q412 := fun h => by rw [h, k434] at k423; cases k423
  have k424 : K394 q414 = 5 := k424
  have m449 : q414 ∈ L393 := hLk _ (by rw [k424]; decide)
  have ne450 : q414 ≠ h0 := fun h => by rw [h, k398] at k424; cases k424
  have ne451 : q414 ≠ q302 := fun h => by rw [h, k401] at k424; cases k424
  have ne452 : q414 ≠ q317 := fun h => by rw [h, k404] at k424; cases k424
  have ne453 : q414 ≠ q346 := fun h => by rw [h, k407] at k424; cases k424
  have ne454 : q414 ≠ q347 := fun h => by rw [h, k409] at k424; cases k424
  have ne455 : q414 ≠ q366 := fun h => by rw [h, k411] at k424; cases k424
  have ne456 : q414 ≠ q412 := fun h => by rw [h, k434] at k424; cases k424
  have k425 : K394 q415 = 5 := k425
  have m459 : q415 ∈ L393 := hLk _ (by rw [k425]; decide)
  have ne460 : q415 ≠ h0 := fun h => by rw [h, k398] at k425; cases k425
  have ne461 : q415 ≠ q302 := fun h => by rw [h, k401] at k425; cases k425
  have ne462 : q415 ≠ q317 := fun h => by rw [h, k404] at k425; cases k425
  have ne463 : q415 ≠ q346 := fun h => by rw [h, k407] at k425; cases k425
  have ne464 : q415 ≠ q347 := fun h => by rw [h, k409] at k425; cases k425
  have ne465 : q415 ≠ q366 := fun h => by rw [h, k411] at k425; cases k425
  have ne466 : q415 ≠ q412 := fun h => by rw [h, k434] at k425; cases k425
  have k426 : K394 q416 = 36 := k426
  have m470 : q416 ∈ L393 := hLk _ (by rw [k426]; decide)
  have ne471 : q416 ≠ h0 := fun h => by rw [h, k398] at k426; cases k426
  have ne472 : q416 ≠ q302 := fun h => by rw [h, k401] at k426; cases k426
  have ne473 : q416 ≠ q317 := fun h => by rw [h, k404] at k426; cases k426
  have ne474 : q416 ≠ q346 := fun h => by rw [h, k407] at k426; cases k426
  have ne475 : q416 ≠ q347 := fun h => by rw [h, k409] at k426; cases k426
  have ne476 : q416 ≠ q366 := fun h => by rw [h, k411] at k426; cases k426
  have ne477 : q416 ≠ q412 := fun h => by rw [h, k434] at k426; cases k426
  have ne478 : q416 ≠ q413 := fun h => by rw [h, k423] at k426; cases k426
  have ne479 : q416 ≠ q414 := fun h => by rw [h, k424] at k426; cases k426
  have ne480 : q416 ≠ q415 := fun h => by rw [h, k425] at k426; cases k426
  have k427 : K394 q417 = 37 := k427
  have m482 : q417 ∈ L393 := hLk _ (by rw [k427]; decide)
  have ne483 : q417 ≠ h0 := fun h => by rw [h, k398] at k427; cases k427
  have ne484 : q417 ≠ q302 := fun h => by rw [h, k401] at k427; cases k427
  have ne485 : q417 ≠ q317 := fun h => by rw [h, k404] at k427; cases k427
  have ne486 : q417 ≠ q346 := fun h => by rw [h, k407] at k427; cases k427
  have ne487 : q417 ≠ q347 := fun h => by rw [h, k409] at k427; cases k427
  have ne488 : q417 ≠ q366 := fun h => by rw [h, k411] at k427; cases k427
  have ne489 : q417 ≠ q412 := fun h => by rw [h, k434] at k427; cases k427
  have ne490 : q417 ≠ q413 := fun h => by rw [h, k423] at k427; cases k427
  have ne491 : q417 ≠ q414 := fun h => by rw [h, k424] at k427; cases k427
  have ne492 : q417 ≠ q415 := fun h => by rw [h, k425] at k427; cases k427
  have ne493 : q417 ≠ q416 := fun h => by rw [h, k426] at k427; cases k427
  have k428 : K394 q418 = 38 := k428
  have m495 : q418 ∈ L393 := hLk _ (by rw [k428]; decide)
  have ne496 : q418 ≠ h0 := fun h => by rw [h, k398] at k428; cases k428
  have ne497 : q418 ≠ q302 := fun h => by rw [h, k401] at k428; cases k428
  have ne498 : q418 ≠ q317 := fun h => by rw [h, k404] at k428; cases k428
  have ne499 : q418 ≠ q346 := fun h => by rw [h, k407] at k428; cases k428
  have ne500 : q418 ≠ q347 := fun h => by rw [h, k409] at k428; cases k428
  have ne501 : q418 ≠ q366 := fun h => by rw [h, k411] at k428; cases k428
  have ne502 : q418 ≠ q412 := fun h => by rw [h, k434] at k428; cases k428
  have ne503 : q418 ≠ q413 := fun h => by rw [h, k423] at k428; cases k428
  have ne504 : q418 ≠ q414 := fun h => by rw [h, k424] at k428; cases k428
  have ne505 : q418 ≠ q415 := fun h => by rw [h, k425] at k428; cases k428
  have ne506 : q418 ≠ q416 := fun h => by rw [h, k426] at k428; cases k428
  have ne507 : q418 ≠ q417 := fun h => by rw [h, k427] at k428; cases k428
  have k429 : K394 q419 = 34 := k429
  have m509 : q419 ∈ L393 := hLk _ (by rw [k429]; decide)
  have ne510 : q419 ≠ h0 := fun h => by rw [h, k398] at k429; cases k429
  have ne511 : q419 ≠ q302 := fun h => by rw [h, k401] at k429; cases k429
  have ne512 : q419 ≠ q317 := fun h => by rw [h, k404] at k429; cases k429
  have ne514 : q419 ≠ q347 := fun h => by rw [h, k409] at k429; cases k429
  have ne515 : q419 ≠ q366 := fun h => by rw [h, k411] at k429; cases k429
  have ne516 : q419 ≠ q412 := fun h => by rw [h, k434] at k429; cases k429
  have ne517 : q419 ≠ q413 := fun h => by rw [h, k423] at k429; cases k429
  have ne518 : q419 ≠ q414 := fun h => by rw [h, k424] at k429; cases k429
  have ne519 : q419 ≠ q415 := fun h => by rw [h, k425] at k429; cases k429
  have ne520 : q419 ≠ q416 := fun h => by rw [h, k426] at k429; cases k429
  have ne521 : q419 ≠ q417 := fun h => by rw [h, k427] at k429; cases k429
  have ne522 : q419 ≠ q418 := fun h => by rw [h, k428] at k429; cases k429
  have k430 : K394 q420 = 35 := k430
  have m524 : q420 ∈ L393 := hLk _ (by rw [k430]; decide)
  have ne525 : q420 ≠ h0 := fun h => by rw [h, k398] at k430; cases k430
  have ne526 : q420 ≠ q302 := fun h => by rw [h, k401] at k430; cases k430
  have ne527 : q420 ≠ q317 := fun h => by rw [h, k404] at k430; cases k430
  have ne528 : q420 ≠ q346 := fun h => by rw [h, k407] at k430; cases k430
  have ne530 : q420 ≠ q366 := fun h => by rw [h, k411] at k430; cases k430
  have ne531 : q420 ≠ q412 := fun h => by rw [h, k434] at k430; cases k430
  have ne532 : q420 ≠ q413 := fun h => by rw [h, k423] at k430; cases k430
  have ne533 : q420 ≠ q414 := fun h => by rw [h, k424] at k430; cases k430
  have ne534 : q420 ≠ q415 := fun h => by rw [h, k425] at k430; cases k430
  have ne535 : q420 ≠ q416 := fun h => by rw [h, k426] at k430; cases k430
  have ne536 : q420 ≠ q417 := fun h => by rw [h, k427] at k430; cases k430
  have ne537 : q420 ≠ q418 := fun h => by rw [h, k428] at k430; cases k430
  have ne538 : q420 ≠ q419 := fun h => by rw [h, k429] at k430; cases k430
  have nlsq412 : q412 ∉ L263 := fun h => nl432 (hssb _ h)
  refine n_putF (D := (dC, dI)) (ci := 6) (v := .ref q366) (ty := .object "LaneWarps$Forecast") (C := RX6) (T := TX6) (N := 14) hx hb hts inX6 tyX6 tyX6_ok nmX6 hown hK hP hD hS m397 o399 rfl 11 (by decide) (hts _ T_182) (fun _ h9 => h9) rfl hin rfl (by decide +kernel) rfl rfl (Nat.le_of_ble_eq_true rfl) dX6_init_85 (fun H locs hP hS => ?_)
  have hP : va_P (dC, dI) vwCl (va_pl L393 (va_up F395 h0 (.inr (6, [.ref q1, .int 0, .ref q15, .ref q44, .ref q111, .int 0, .ref q216, .ref q302, .int 0, .int 0, .ref q317, .ref q366, .null, .long 0])))) H := hP
  obtain ⟨F540, hF540⟩ : ∃ M : Nat → va_E, M = va_up F395 h0 (.inr (6, [.ref q1, .int 0, .ref q15, .ref q44, .ref q111, .int 0, .ref q216, .ref q302, .int 0, .int 0, .ref q317, .ref q366, .null, .long 0])) := ⟨_, rfl⟩
  rw [← hF540] at hP
  have hI : s_I K394 cs 0 F540 := by rw [hF540]; exact n_put0 hI k398
  have o541 : F540 q302 = .inl (cs 4, 20, .inr (.inr (.inr (.inr (fun _ => none))))) := by rw [hF540]; exact th_ne ne306 o402
  have o542 : F540 q317 = .inr (1, [.ref q346, .ref q347, .null, .null, .null, .null, .int 0, .int 0, .int 0, .int 0, .int 0, .long 0]) := by rw [hF540]; exact th_ne ne321 o405
  have o543 : F540 q366 = .inr (0, [.ref q412, .ref q413, .ref q414, .ref q415, .ref q416, .int 0, .ref q417, .long 0, .ref q418, .int 0, .null, .int 0, .int 0, .int 0]) := by rw [hF540]; exact th_ne ne370 o421
  have o544 : F540 q412 = .inr (1, [.ref q419, .ref q420, .null, .null, .null, .null, .int 0, .int 0, .int 0, .int 0, .int 0, .long 0]) := by rw [hF540]; exact th_ne ne435 o422
  have o545 : F540 h0 = .inr (6, [.ref q1, .int 0, .ref q15, .ref q44, .ref q111, .int 0, .ref q216, .ref q302, .int 0, .int 0, .ref q317, .ref q366, .null, .long 0]) := by rw [hF540]; exact th_up
  have hfr : ∀ a ∈ L, a ≠ h0 → F540 a = F a ∧ K394 a = K a := fun a ha hne => ⟨by rw [hF540]; exact th_ne hne (hfr a ha hne).1, (hfr a ha hne).2⟩
  have hsn : ∀ a ∈ L263, a ≠ h0 → F540 a = F296 a ∧ K394 a = K264 a := fun a ha n0 => ⟨by rw [hF540]; exact th_ne n0 (hsn a ha n0).1, (hsn a ha n0).2⟩
  refine lv_aload_n hx hb dX6_init_88 rfl (lv_at hl 0 rfl) ?_
  refine lv_bipush (v := 6) hx hb dX6_init_89 (by decide) ?_
  refine n_newa (atype := .int) (a0 := (6, .inl (fun _ => 0))) hx hb (hts _ T_99) rfl hK hP hD hS hA 0 rfl (fun _ => rfl) (by decide) (by decide) (Nat.le_of_ble_eq_true rfl) (Nat.le_of_ble_eq_true rfl) (Nat.le_of_ble_eq_true rfl) dX6_init_91 (fun q546 H hq hP hD hS => ?_)
  obtain ⟨L547, hL547⟩ : ∃ M, M = L393 ++ [q546] := ⟨_, rfl⟩
  rw [← hL547] at hP hD
  obtain ⟨F548, hF548⟩ : ∃ M : Nat → va_E, M = va_up F540 q546 (.inl (cs 0, 6, .inl (fun _ => 0))) := ⟨_, rfl⟩
  rw [← hF548] at hP
  obtain ⟨hI, hLk, hX1⟩ := n_add (c := 39) hI hLk hq (show ok_39 cs _ from ⟨_, rfl, trivial⟩)
  obtain ⟨K549, hK549⟩ : ∃ M, M = va_up K394 q546 39 := ⟨_, rfl⟩
  rw [← hK549, ← hF548] at hI
  rw [← hK549, ← hL547] at hLk
  rw [← hK549] at hX1
  have ne550 : q546 ≠ h0 := fun h => hq (h ▸ m397)
  have ne551 : q546 ≠ q302 := fun h => hq (h ▸ m400)
  have ne552 : q546 ≠ q317 := fun h => hq (h ▸ m403)
  have ne553 : q546 ≠ q346 := fun h => hq (h ▸ m406)
  have ne554 : q546 ≠ q347 := fun h => hq (h ▸ m408)
  have ne555 : q546 ≠ q366 := fun h => hq (h ▸ m410)
  have ne556 : q546 ≠ q412 := fun h => hq (h ▸ m431)
  have ne557 : q546 ≠ q413 := fun h => hq (h ▸ m440)
  have ne558 : q546 ≠ q414 := fun h => hq (h ▸ m449)
  have ne559 : q546 ≠ q415 := fun h => hq (h ▸ m459)
  have ne560 : q546 ≠ q416 := fun h => hq (h ▸ m470)
  have ne561 : q546 ≠ q417 := fun h => hq (h ▸ m482)
  have ne562 : q546 ≠ q418 := fun h => hq (h ▸ m495)
  have ne563 : q546 ≠ q419 := fun h => hq (h ▸ m509)
  have ne564 : q546 ≠ q420 := fun h => hq (h ▸ m524)
  have m565 : h0 ∈ L547 := by rw [hL547]; exact List.mem_append_left _ m397
  have k566 : K549 h0 = 0 := by rw [hK549]; exact th_ne (Ne.symm ne550) k398
  have o567 : F548 h0 = .inr (6, [.ref q1, .int 0, .ref q15, .ref q44, .ref q111, .int 0, .ref q216, .ref q302, .int 0, .int 0, .ref q317, .ref q366, .null, .long 0]) := by rw [hF548]; exact th_ne (Ne.symm ne550) o545
  have m568 : q302 ∈ L547 := by rw [hL547]; exact List.mem_append_left _ m400
  have k569 : K549 q302 = 0 := by rw [hK549]; exact th_ne (Ne.symm ne551) k401
  have o570 : F548 q302 = .inl (cs 4, 20, .inr (.inr (.inr (.inr (fun _ => none))))) := by rw [hF548]; exact th_ne (Ne.symm ne551) o541
  have m571 : q317 ∈ L547 := by rw [hL547]; exact List.mem_append_left _ m403
  have k572 : K549 q317 = 0 := by rw [hK549]; exact th_ne (Ne.symm ne552) k404
  have o573 : F548 q317 = .inr (1, [.ref q346, .ref q347, .null, .null, .null, .null, .int 0, .int 0, .int 0, .int 0, .int 0, .long 0]) := by rw [hF548]; exact th_ne (Ne.symm ne552) o542
  have m574 : q346 ∈ L547 := by rw [hL547]; exact List.mem_append_left _ m406
  have k575 : K549 q346 = 34 := by rw [hK549]; exact th_ne (Ne.symm ne553) k407
  have m576 : q347 ∈ L547 := by rw [hL547]; exact List.mem_append_left _ m408
  have k577 : K549 q347 = 35 := by rw [hK549]; exact th_ne (Ne.symm ne554) k409
  have m578 : q366 ∈ L547 := by rw [hL547]; exact List.mem_append_left _ m410
  have k579 : K549 q366 = 0 := by rw [hK549]; exact th_ne (Ne.symm ne555) k411
  have o580 : F548 q366 = .inr (0, [.ref q412, .ref q413, .ref q414, .ref q415, .ref q416, .int 0, .ref q417, .long 0, .ref q418, .int 0, .null, .int 0, .int 0, .int 0]) := by rw [hF548]; exact th_ne (Ne.symm ne555) o543
  have m581 : q412 ∈ L547 := by rw [hL547]; exact List.mem_append_left _ m431
  have k582 : K549 q412 = 0 := by rw [hK549]; exact th_ne (Ne.symm ne556) k434
  have o583 : F548 q412 = .inr (1, [.ref q419, .ref q420, .null, .null, .null, .null, .int 0, .int 0, .int 0, .int 0, .int 0, .long 0]) := by rw [hF548]; exact th_ne (Ne.symm ne556) o544
  have m584 : q413 ∈ L547 := by rw [hL547]; exact List.mem_append_left _ m440
  have k585 : K549 q413 = 5 := by rw [hK549]; exact th_ne (Ne.symm ne557) k423
  have m586 : q414 ∈ L547 := by rw [hL547]; exact List.mem_append_left _ m449
  have k587 : K549 q414 = 5 := by rw [hK549]; exact th_ne (Ne.symm ne558) k424
  have m588 : q415 ∈ L547 := by rw [hL547]; exact List.mem_append_left _ m459
  have k589 : K549 q415 = 5 := by rw [hK549]; exact th_ne (Ne.symm ne559) k425
  have m590 : q416 ∈ L547 := by rw [hL547]; exact List.mem_append_left _ m470
  have k591 : K549 q416 = 36 := by rw [hK549]; exact th_ne (Ne.symm ne560) k426
  have m592 : q417 ∈ L547 := by rw [hL547]; exact List.mem_append_left _ m482
  have k593 : K549 q417 = 37 := by rw [hK549]; exact th_ne (Ne.symm ne561) k427
  have m594 : q418 ∈ L547 := by rw [hL547]; exact List.mem_append_left _ m495
  have k595 : K549 q418 = 38 := by rw [hK549]; exact th_ne (Ne.symm ne562) k428
  have m596 : q419 ∈ L547 := by rw [hL547]; exact List.mem_append_left _ m509
  have k597 : K549 q419 = 34 := by rw [hK549]; exact th_ne (Ne.symm ne563) k429
  have m598 : q420 ∈ L547 := by rw [hL547]; exact List.mem_append_left _ m524
  have k599 : K549 q420 = 35 := by rw [hK549]; exact th_ne (Ne.symm ne564) k430
  have m600 : q546 ∈ L547 := by rw [hL547]; exact List.mem_append_right _ (List.mem_singleton.mpr rfl)
  have o601 : F548 q546 = (.inl (cs 0, 6, .inl (fun _ => 0))) := by rw [hF548]; exact th_up
  have k602 : K549 q546 = 39 := by rw [hK549]; exact th_up
  have nl603 : q546 ∉ L := fun h => hq (hsub q546 h)
  have hfr : ∀ a ∈ L, a ≠ h0 → F548 a = F a ∧ K549 a = K a := fun a ha hne => ⟨by rw [hF548]; exact th_ne (fun h => nl603 (h ▸ ha)) (hfr a ha hne).1, by rw [hK549]; exact th_ne (fun h => nl603 (h ▸ ha)) (hfr a ha hne).2⟩
  have hsub : ∀ a ∈ L, a ∈ L547 := fun a ha => by rw [hL547]; exact List.mem_append_left _ (hsub a ha)
  have hX : n_X K K549 := n_Xt hX hX1
  have hks : ∀ a, K549 a = K a ∨ K549 a ∈ [4, 5, 6, 20, 21, 22, 23, 24, 25, 26, 27, 28, 29, 30, 31, 32, 33, 34, 35, 36, 37, 38, 39, 42, 43] := fun a => by rw [hK549]; by_cases e9 : a = q546; (rw [e9, th_up]; right; decide); rw [show va_up K394 q546 39 a = K394 a from if_neg e9]; exact hks a
  have hzz : ∀ a, K549 a ∉ [1, 2, 3, 7, 8] := fun a h9 => by rw [hK549] at h9; by_cases e9 : a = q546; (rw [e9, th_up] at h9; exact absurd h9 (by decide)); rw [show va_up _ q546 39 a = _ from if_neg e9] at h9; exact hzz a h9
  have hu22 : ∀ a, K549 a = 22 → a = q76 := fun a h9 => by rw [hK549] at h9; exact (n_uu h9).elim (fun w => absurd w.2 (by decide)) (hu22 a)
  have hu42 : ∀ a, K549 a = 42 → a = q167 := fun a h9 => by rw [hK549] at h9; exact (n_uu h9).elim (fun w => absurd w.2 (by decide)) (hu42 a)
  have nlsq546 : q546 ∉ L263 := fun h => hq (hss _ h)
  have hsn : ∀ a ∈ L263, a ≠ h0 → F548 a = F296 a ∧ K549 a = K264 a := fun a ha n0 => ⟨by rw [hF548]; exact th_ne (fun h => nlsq546 (h ▸ ha)) (hsn a ha n0).1, by rw [hK549]; exact th_ne (fun h => nlsq546 (h ▸ ha)) (hsn a ha n0).2⟩
  have hss : ∀ a ∈ L263, a ∈ L547 := fun a ha => by rw [hL547]; exact List.mem_append_left _ (hss a ha)
  refine W.widen (k := 234) (n := 7758) (Nat.le_of_ble_eq_true rfl) (Nat.le_of_ble_eq_true rfl) ?_
  refine n_putF (D := (dC, dI)) (ci := 6) (v := .ref q546) (ty := .array .int) (C := RX6) (T := TX6) (N := 14) hx hb hts inX6 tyX6 tyX6_ok nmX6 hown hK hP hD hS m565 o567 rfl 12 (by decide) (hts _ T_183) (fun _ h9 => h9) rfl hin rfl (by decide +kernel) rfl rfl (Nat.le_of_ble_eq_true rfl) dX6_init_93 (fun H locs hP hS => ?_)
  have hP : va_P (dC, dI) vwCl (va_pl L547 (va_up F548 h0 (.inr (6, [.ref q1, .int 0, .ref q15, .ref q44, .ref q111, .int 0, .ref q216, .ref q302, .int 0, .int 0, .ref q317, .ref q366, .ref q546, .long 0])))) H := hP
  obtain ⟨F604, hF604⟩ : ∃ M : Nat → va_E, M = va_up F548 h0 (.inr (6, [.ref q1, .int 0, .ref q15, .ref q44, .ref q111, .int 0, .ref q216, .ref q302, .int 0, .int 0, .ref q317, .ref q366, .ref q546, .long 0])) := ⟨_, rfl⟩
  rw [← hF604] at hP
  have hI : s_I K549 cs 0 F604 := by rw [hF604]; exact n_put0 hI k566
  have o605 : F604 q302 = .inl (cs 4, 20, .inr (.inr (.inr (.inr (fun _ => none))))) := by rw [hF604]; exact th_ne ne306 o570
  have o606 : F604 q317 = .inr (1, [.ref q346, .ref q347, .null, .null, .null, .null, .int 0, .int 0, .int 0, .int 0, .int 0, .long 0]) := by rw [hF604]; exact th_ne ne321 o573
  have o607 : F604 q366 = .inr (0, [.ref q412, .ref q413, .ref q414, .ref q415, .ref q416, .int 0, .ref q417, .long 0, .ref q418, .int 0, .null, .int 0, .int 0, .int 0]) := by rw [hF604]; exact th_ne ne370 o580
  have o608 : F604 q412 = .inr (1, [.ref q419, .ref q420, .null, .null, .null, .null, .int 0, .int 0, .int 0, .int 0, .int 0, .long 0]) := by rw [hF604]; exact th_ne ne435 o583
  have o609 : F604 h0 = .inr (6, [.ref q1, .int 0, .ref q15, .ref q44, .ref q111, .int 0, .ref q216, .ref q302, .int 0, .int 0, .ref q317, .ref q366, .ref q546, .long 0]) := by rw [hF604]; exact th_up
  have hfr : ∀ a ∈ L, a ≠ h0 → F604 a = F a ∧ K549 a = K a := fun a ha hne => ⟨by rw [hF604]; exact th_ne hne (hfr a ha hne).1, (hfr a ha hne).2⟩
  have hsn : ∀ a ∈ L263, a ≠ h0 → F604 a = F296 a ∧ K549 a = K264 a := fun a ha n0 => ⟨by rw [hF604]; exact th_ne n0 (hsn a ha n0).1, (hsn a ha n0).2⟩
  refine lv_aload_n hx hb dX6_init_96 rfl (lv_at hl 0 rfl) ?_
  refine lv_lconst (v := 1) hx hb dX6_init_97 (by decide) ?_
  refine th_put (D := (dC, dI)) (ci := 6) (v := .long 1) (ty := .long) (C := RX6) (T := TX6) (N := 14) hx hb hts inX6 tyX6 tyX6_ok nmX6 hown hK hP hD hS m565 o609 rfl 13 (by decide) (hts _ T_184) (fun _ h9 => h9) rfl (by decide +kernel) rfl rfl (Nat.le_of_ble_eq_true rfl) dX6_init_98 (fun H locs hP hS => ?_)
  have hP : va_P (dC, dI) vwCl (va_pl L547 (va_up F604 h0 (.inr (6, [.ref q1, .int 0, .ref q15, .ref q44, .ref q111, .int 0, .ref q216, .ref q302, .int 0, .int 0, .ref q317, .ref q366, .ref q546, .long 1])))) H := hP
  obtain ⟨F610, hF610⟩ : ∃ M : Nat → va_E, M = va_up F604 h0 (.inr (6, [.ref q1, .int 0, .ref q15, .ref q44, .ref q111, .int 0, .ref q216, .ref q302, .int 0, .int 0, .ref q317, .ref q366, .ref q546, .long 1])) := ⟨_, rfl⟩
  rw [← hF610] at hP
  have hI : s_I K549 cs 0 F610 := by rw [hF610]; exact n_put0 hI k566
  have o611 : F610 q302 = .inl (cs 4, 20, .inr (.inr (.inr (.inr (fun _ => none))))) := by rw [hF610]; exact th_ne ne306 o605
  have o612 : F610 q317 = .inr (1, [.ref q346, .ref q347, .null, .null, .null, .null, .int 0, .int 0, .int 0, .int 0, .int 0, .long 0]) := by rw [hF610]; exact th_ne ne321 o606
  have o613 : F610 q366 = .inr (0, [.ref q412, .ref q413, .ref q414, .ref q415, .ref q416, .int 0, .ref q417, .long 0, .ref q418, .int 0, .null, .int 0, .int 0, .int 0]) := by rw [hF610]; exact th_ne ne370 o607
  have o614 : F610 q412 = .inr (1, [.ref q419, .ref q420, .null, .null, .null, .null, .int 0, .int 0, .int 0, .int 0, .int 0, .long 0]) := by rw [hF610]; exact th_ne ne435 o608
  have o615 : F610 h0 = .inr (6, [.ref q1, .int 0, .ref q15, .ref q44, .ref q111, .int 0, .ref q216, .ref q302, .int 0, .int 0, .ref q317, .ref q366, .ref q546, .long 1]) := by rw [hF610]; exact th_up
  have hfr : ∀ a ∈ L, a ≠ h0 → F610 a = F a ∧ K549 a = K a := fun a ha hne => ⟨by rw [hF610]; exact th_ne hne (hfr a ha hne).1, (hfr a ha hne).2⟩
  have hsn : ∀ a ∈ L263, a ≠ h0 → F610 a = F296 a ∧ K549 a = K264 a := fun a ha n0 => ⟨by rw [hF610]; exact th_ne n0 (hsn a ha n0).1, (hsn a ha n0).2⟩
  have m616 : q1 ∈ L547 := hss _ m270
  have k617 : K549 q1 = 20 := (hsn _ m270 ne5).2.trans k271
  have ne618 : q302 ≠ q1 := fun h => nlsq302 (h ▸ m270)
  have ne619 : q317 ≠ q1 := fun h => nlsq317 (h ▸ m270)
  have ne620 : q346 ≠ q1 := fun h => by rw [h, k617] at k575; cases k575
  have ne621 : q347 ≠ q1 := fun h => by rw [h, k617] at k577; cases k577
  have ne622 : q366 ≠ q1 := fun h => nlsq366 (h ▸ m270)
  have ne623 : q412 ≠ q1 := fun h => nlsq412 (h ▸ m270)
  have ne624 : q413 ≠ q1 := fun h => by rw [h, k617] at k585; cases k585
  have ne625 : q414 ≠ q1 := fun h => by rw [h, k617] at k587; cases k587
  have ne626 : q415 ≠ q1 := fun h => by rw [h, k617] at k589; cases k589
  have ne627 : q416 ≠ q1 := fun h => by rw [h, k617] at k591; cases k591
  have ne628 : q417 ≠ q1 := fun h => by rw [h, k617] at k593; cases k593
  have ne629 : q418 ≠ q1 := fun h => by rw [h, k617] at k595; cases k595
  have ne630 : q419 ≠ q1 := fun h => by rw [h, k617] at k597; cases k597
  have ne631 : q420 ≠ q1 := fun h => by rw [h, k617] at k599; cases k599
  have ne632 : q546 ≠ q1 := fun h => nlsq546 (h ▸ m270)
  have m633 : q15 ∈ L547 := hss _ m272
  have k634 : K549 q15 = 4 := (hsn _ m272 ne19).2.trans k273
  have ne635 : q302 ≠ q15 := fun h => nlsq302 (h ▸ m272)
  have ne636 : q317 ≠ q15 := fun h => nlsq317 (h ▸ m272)
  have ne637 : q346 ≠ q15 := fun h => by rw [h, k634] at k575; cases k575
  have ne638 : q347 ≠ q15 := fun h => by rw [h, k634] at k577; cases k577
  have ne639 : q366 ≠ q15 := fun h => nlsq366 (h ▸ m272)
  have ne640 : q412 ≠ q15 := fun h => nlsq412 (h ▸ m272)
  have ne641 : q413 ≠ q15 := fun h => by rw [h, k634] at k585; cases k585
  have ne642 : q414 ≠ q15 := fun h => by rw [h, k634] at k587; cases k587
  have ne643 : q415 ≠ q15 := fun h => by rw [h, k634] at k589; cases k589
  have ne644 : q416 ≠ q15 := fun h => by rw [h, k634] at k591; cases k591
  have ne645 : q417 ≠ q15 := fun h => by rw [h, k634] at k593; cases k593
  have ne646 : q418 ≠ q15 := fun h => by rw [h, k634] at k595; cases k595
  have ne647 : q419 ≠ q15 := fun h => by rw [h, k634] at k597; cases k597
  have ne648 : q420 ≠ q15 := fun h => by rw [h, k634] at k599; cases k599
  have ne649 : q546 ≠ q15 := fun h => nlsq546 (h ▸ m272)
  have m650 : q44 ∈ L547 := hss _ m274
  have k651 : K549 q44 = 0 := (hsn _ m274 ne48).2.trans k275
  have o652 : F610 q44 = .inr (2, [.ref q76, .ref q77, .ref q78, .int 0, .int 0, .int 0, .int 0]) := (hsn _ m274 ne48).1.trans o297
  have ne653 : q302 ≠ q44 := fun h => nlsq302 (h ▸ m274)
  have ne654 : q317 ≠ q44 := fun h => nlsq317 (h ▸ m274)
  have ne655 : q346 ≠ q44 := fun h => by rw [h, k651] at k575; cases k575
  have ne656 : q347 ≠ q44 := fun h => by rw [h, k651] at k577; cases k577
  have ne657 : q366 ≠ q44 := fun h => nlsq366 (h ▸ m274)
  have ne658 : q412 ≠ q44 := fun h => nlsq412 (h ▸ m274)
  have ne659 : q413 ≠ q44 := fun h => by rw [h, k651] at k585; cases k585
  have ne660 : q414 ≠ q44 := fun h => by rw [h, k651] at k587; cases k587
  have ne661 : q415 ≠ q44 := fun h => by rw [h, k651] at k589; cases k589
  have ne662 : q416 ≠ q44 := fun h => by rw [h, k651] at k591; cases k591
  have ne663 : q417 ≠ q44 := fun h => by rw [h, k651] at k593; cases k593
  have ne664 : q418 ≠ q44 := fun h => by rw [h, k651] at k595; cases k595
  have ne665 : q419 ≠ q44 := fun h => by rw [h, k651] at k597; cases k597
  have ne666 : q420 ≠ q44 := fun h => by rw [h, k651] at k599; cases k599
  have ne667 : q546 ≠ q44 := fun h => nlsq546 (h ▸ m274)
  have m668 : q76 ∈ L547 := hss _ m277
  have k669 : K549 q76 = 22 := (hsn _ m277 ne87).2.trans k278
  have o670 : F610 q76 = .inl (cs 5, 40, .inr (.inr (.inr (.inr (fun j => some (q76 + 1 + j)))))) := (hsn _ m277 ne87).1.trans o298
  have ne671 : q302 ≠ q76 := fun h => nlsq302 (h ▸ m277)
  have ne672 : q317 ≠ q76 := fun h => nlsq317 (h ▸ m277)
  have ne673 : q346 ≠ q76 := fun h => by rw [h, k669] at k575; cases k575
  have ne674 : q347 ≠ q76 := fun h => by rw [h, k669] at k577; cases k577
  have ne675 : q366 ≠ q76 := fun h => nlsq366 (h ▸ m277)
  have ne676 : q412 ≠ q76 := fun h => nlsq412 (h ▸ m277)
  have ne677 : q413 ≠ q76 := fun h => by rw [h, k669] at k585; cases k585
  have ne678 : q414 ≠ q76 := fun h => by rw [h, k669] at k587; cases k587
  have ne679 : q415 ≠ q76 := fun h => by rw [h, k669] at k589; cases k589
  have ne680 : q416 ≠ q76 := fun h => by rw [h, k669] at k591; cases k591
  have ne681 : q417 ≠ q76 := fun h => by rw [h, k669] at k593; cases k593
  have ne682 : q418 ≠ q76 := fun h => by rw [h, k669] at k595; cases k595
  have ne683 : q419 ≠ q76 := fun h => by rw [h, k669] at k597; cases k597
  have ne684 : q420 ≠ q76 := fun h => by rw [h, k669] at k599; cases k599
  have ne685 : q546 ≠ q76 := fun h => nlsq546 (h ▸ m277)
  have m686 : q77 ∈ L547 := hss _ m280
  have k687 : K549 q77 = 24 := (hsn _ m280 ne93).2.trans k281
  have ne688 : q302 ≠ q77 := fun h => nlsq302 (h ▸ m280)
  have ne689 : q317 ≠ q77 := fun h => nlsq317 (h ▸ m280)
  have ne690 : q346 ≠ q77 := fun h => by rw [h, k687] at k575; cases k575
  have ne691 : q347 ≠ q77 := fun h => by rw [h, k687] at k577; cases k577
  have ne692 : q366 ≠ q77 := fun h => nlsq366 (h ▸ m280)
  have ne693 : q412 ≠ q77 := fun h => nlsq412 (h ▸ m280)
  have ne694 : q413 ≠ q77 := fun h => by rw [h, k687] at k585; cases k585
  have ne695 : q414 ≠ q77 := fun h => by rw [h, k687] at k587; cases k587
  have ne696 : q415 ≠ q77 := fun h => by rw [h, k687] at k589; cases k589
  have ne697 : q416 ≠ q77 := fun h => by rw [h, k687] at k591; cases k591
  have ne698 : q417 ≠ q77 := fun h => by rw [h, k687] at k593; cases k593
  have ne699 : q418 ≠ q77 := fun h => by rw [h, k687] at k595; cases k595
  have ne700 : q419 ≠ q77 := fun h => by rw [h, k687] at k597; cases k597
  have ne701 : q420 ≠ q77 := fun h => by rw [h, k687] at k599; cases k599
  have ne702 : q546 ≠ q77 := fun h => nlsq546 (h ▸ m280)
  have m703 : q78 ∈ L547 := hss _ m282
  have k704 : K549 q78 = 25 := (hsn _ m282 ne100).2.trans k283
  have ne705 : q302 ≠ q78 := fun h => nlsq302 (h ▸ m282)
  have ne706 : q317 ≠ q78 := fun h => nlsq317 (h ▸ m282)
  have ne707 : q346 ≠ q78 := fun h => by rw [h, k704] at k575; cases k575
  have ne708 : q347 ≠ q78 := fun h => by rw [h, k704] at k577; cases k577
  have ne709 : q366 ≠ q78 := fun h => nlsq366 (h ▸ m282)
  have ne710 : q412 ≠ q78 := fun h => nlsq412 (h ▸ m282)
  have ne711 : q413 ≠ q78 := fun h => by rw [h, k704] at k585; cases k585
  have ne712 : q414 ≠ q78 := fun h => by rw [h, k704] at k587; cases k587
  have ne713 : q415 ≠ q78 := fun h => by rw [h, k704] at k589; cases k589
  have ne714 : q416 ≠ q78 := fun h => by rw [h, k704] at k591; cases k591
  have ne715 : q417 ≠ q78 := fun h => by rw [h, k704] at k593; cases k593
  have ne716 : q418 ≠ q78 := fun h => by rw [h, k704] at k595; cases k595
  have ne717 : q419 ≠ q78 := fun h => by rw [h, k704] at k597; cases k597
  have ne718 : q420 ≠ q78 := fun h => by rw [h, k704] at k599; cases k599
  have ne719 : q546 ≠ q78 := fun h => nlsq546 (h ▸ m282)
  have m720 : q111 ∈ L547 := hss _ m284
  have k721 : K549 q111 = 0 := (hsn _ m284 ne115).2.trans k285
  have o722 : F610 q111 = .inr (2, [.ref q167, .ref q168, .ref q169, .int 0, .int 0, .int 0, .int 0]) := (hsn _ m284 ne115).1.trans o299
  have ne723 : q302 ≠ q111 := fun h => nlsq302 (h ▸ m284)
  have ne724 : q317 ≠ q111 := fun h => nlsq317 (h ▸ m284)
  have ne725 : q346 ≠ q111 := fun h => by rw [h, k721] at k575; cases k575
  have ne726 : q347 ≠ q111 := fun h => by rw [h, k721] at k577; cases k577
  have ne727 : q366 ≠ q111 := fun h => nlsq366 (h ▸ m284)
  have ne728 : q412 ≠ q111 := fun h => nlsq412 (h ▸ m284)
  have ne729 : q413 ≠ q111 := fun h => by rw [h, k721] at k585; cases k585
  have ne730 : q414 ≠ q111 := fun h => by rw [h, k721] at k587; cases k587
  have ne731 : q415 ≠ q111 := fun h => by rw [h, k721] at k589; cases k589
  have ne732 : q416 ≠ q111 := fun h => by rw [h, k721] at k591; cases k591
  have ne733 : q417 ≠ q111 := fun h => by rw [h, k721] at k593; cases k593
  have ne734 : q418 ≠ q111 := fun h => by rw [h, k721] at k595; cases k595
  have ne735 : q419 ≠ q111 := fun h => by rw [h, k721] at k597; cases k597
  have ne736 : q420 ≠ q111 := fun h => by rw [h, k721] at k599; cases k599
  have ne737 : q546 ≠ q111 := fun h => nlsq546 (h ▸ m284)
  have m738 : q167 ∈ L547 := hss _ m287
  have k739 : K549 q167 = 42 := (hsn _ m287 ne178).2.trans k288
  have o740 : F610 q167 = .inl (cs 5, 40, .inr (.inr (.inr (.inr (fun j => some (q167 + 1 + j)))))) := (hsn _ m287 ne178).1.trans o300
  have ne741 : q302 ≠ q167 := fun h => nlsq302 (h ▸ m287)
  have ne742 : q317 ≠ q167 := fun h => nlsq317 (h ▸ m287)
  have ne743 : q346 ≠ q167 := fun h => by rw [h, k739] at k575; cases k575
  have ne744 : q347 ≠ q167 := fun h => by rw [h, k739] at k577; cases k577
  have ne745 : q366 ≠ q167 := fun h => nlsq366 (h ▸ m287)
  have ne746 : q412 ≠ q167 := fun h => nlsq412 (h ▸ m287)
  have ne747 : q413 ≠ q167 := fun h => by rw [h, k739] at k585; cases k585
  have ne748 : q414 ≠ q167 := fun h => by rw [h, k739] at k587; cases k587
  have ne749 : q415 ≠ q167 := fun h => by rw [h, k739] at k589; cases k589
  have ne750 : q416 ≠ q167 := fun h => by rw [h, k739] at k591; cases k591
  have ne751 : q417 ≠ q167 := fun h => by rw [h, k739] at k593; cases k593
  have ne752 : q418 ≠ q167 := fun h => by rw [h, k739] at k595; cases k595
  have ne753 : q419 ≠ q167 := fun h => by rw [h, k739] at k597; cases k597
  have ne754 : q420 ≠ q167 := fun h => by rw [h, k739] at k599; cases k599
  have ne755 : q546 ≠ q167 := fun h => nlsq546 (h ▸ m287)
  have m756 : q168 ∈ L547 := hss _ m290
  have k757 : K549 q168 = 24 := (hsn _ m290 ne188).2.trans k291
  have ne758 : q302 ≠ q168 := fun h => nlsq302 (h ▸ m290)
  have ne759 : q317 ≠ q168 := fun h => nlsq317 (h ▸ m290)
  have ne760 : q346 ≠ q168 := fun h => by rw [h, k757] at k575; cases k575
  have ne761 : q347 ≠ q168 := fun h => by rw [h, k757] at k577; cases k577
  have ne762 : q366 ≠ q168 := fun h => nlsq366 (h ▸ m290)
  have ne763 : q412 ≠ q168 := fun h => nlsq412 (h ▸ m290)
  have ne764 : q413 ≠ q168 := fun h => by rw [h, k757] at k585; cases k585
  have ne765 : q414 ≠ q168 := fun h => by rw [h, k757] at k587; cases k587
  have ne766 : q415 ≠ q168 := fun h => by rw [h, k757] at k589; cases k589
  have ne767 : q416 ≠ q168 := fun h => by rw [h, k757] at k591; cases k591
  have ne768 : q417 ≠ q168 := fun h => by rw [h, k757] at k593; cases k593
  have ne769 : q418 ≠ q168 := fun h => by rw [h, k757] at k595; cases k595
  have ne770 : q419 ≠ q168 := fun h => by rw [h, k757] at k597; cases k597
  have ne771 : q420 ≠ q168 := fun h => by rw [h, k757] at k599; cases k599
  have ne772 : q546 ≠ q168 := fun h => nlsq546 (h ▸ m290)
  have m773 : q169 ∈ L547 := hss _ m292
  have k774 : K549 q169 = 25 := (hsn _ m292 ne199).2.trans k293
  have ne775 : q302 ≠ q169 := fun h => nlsq302 (h ▸ m292)
  have ne776 : q317 ≠ q169 := fun h => nlsq317 (h ▸ m292)
  have ne777 : q346 ≠ q169 := fun h => by rw [h, k774] at k575; cases k575
  have ne778 : q347 ≠ q169 := fun h => by rw [h, k774] at k577; cases k577
  have ne779 : q366 ≠ q169 := fun h => nlsq366 (h ▸ m292)
  have ne780 : q412 ≠ q169 := fun h => nlsq412 (h ▸ m292)
  have ne781 : q413 ≠ q169 := fun h => by rw [h, k774] at k585; cases k585
  have ne782 : q414 ≠ q169 := fun h => by rw [h, k774] at k587; cases k587
  have ne783 : q415 ≠ q169 := fun h => by rw [h, k774] at k589; cases k589
  have ne784 : q416 ≠ q169 := fun h => by rw [h, k774] at k591; cases k591
  have ne785 : q417 ≠ q169 := fun h => by rw [h, k774] at k593; cases k593
  have ne786 : q418 ≠ q169 := fun h => by rw [h, k774] at k595; cases k595
  have ne787 : q419 ≠ q169 := fun h => by rw [h, k774] at k597; cases k597
  have ne788 : q420 ≠ q169 := fun h => by rw [h, k774] at k599; cases k599
  have ne789 : q546 ≠ q169 := fun h => nlsq546 (h ▸ m292)
  have m790 : q216 ∈ L547 := hss _ m294
  have k791 : K549 q216 = 5 := (hsn _ m294 ne220).2.trans k295
  have ne792 : q302 ≠ q216 := fun h => nlsq302 (h ▸ m294)
  have ne793 : q317 ≠ q216 := fun h => nlsq317 (h ▸ m294)
  have ne794 : q346 ≠ q216 := fun h => by rw [h, k791] at k575; cases k575
  have ne795 : q347 ≠ q216 := fun h => by rw [h, k791] at k577; cases k577
  have ne796 : q366 ≠ q216 := fun h => nlsq366 (h ▸ m294)
  have ne797 : q412 ≠ q216 := fun h => nlsq412 (h ▸ m294)
  have ne798 : q416 ≠ q216 := fun h => by rw [h, k791] at k591; cases k591
  have ne799 : q417 ≠ q216 := fun h => by rw [h, k791] at k593; cases k593
  have ne800 : q418 ≠ q216 := fun h => by rw [h, k791] at k595; cases k595
  have ne801 : q419 ≠ q216 := fun h => by rw [h, k791] at k597; cases k597
  have ne802 : q420 ≠ q216 := fun h => by rw [h, k791] at k599; cases k599
  have ne803 : q546 ≠ q216 := fun h => nlsq546 (h ▸ m294)
  refine lv_aload_n hx hb dX6_init_101 rfl (lv_at hl 0 rfl) ?_
  refine th_get (D := (dC, dI)) (ci := 6) (v := .ref q317) (C := RX6) (T := TX6) (N := 14) hx hb hts inX6 hown hK hP m565 o615 rfl 10 (by decide) (hts _ T_177) (fun _ h9 => h9) rfl dX6_init_102 ?_
  refine lv_aload_n hx hb dX6_init_105 rfl (lv_at hl 0 rfl) ?_
  refine th_get (D := (dC, dI)) (ci := 6) (v := .ref q44) (C := RX6) (T := TX6) (N := 14) hx hb hts inX6 hown hK hP m565 o615 rfl 3 (by decide) (hts _ T_170) (fun _ h9 => h9) rfl dX6_init_106 ?_
  have hFd := fun q (h : q ∈ L547) => n_in hD h
  refine va_callv (va_runV (As := [.ref q44]) (rest := []) ⟨hx, hb, hml, hown, hts⟩ (t_X1_take l dC dI H.size F610 q317 q44 m571 (.ref q346) (.ref q347) (.null) (.null) (.null) (.null) (.int 0) (.int 0) (.int 0) (.int 0) (.int 0) (.long 0) o612) (cwV 1 hts (ax_gV T_185 T_153 T_154 T_137 T_4) rfl rfl rfl (by decide +kernel) ⟨Nat.le_of_ble_eq_true rfl, Nat.le_of_ble_eq_true rfl⟩) ⟨fun a U g mk q => ⟨q.1, s_pc (U := U) rfl rfl q.2⟩, s_recv hK hP m571 (ci := 1) rfl o612, fun U hU hW => ⟨rfl, s_pw hU hW hP hK (n_DL hD) hN⟩⟩ rfl rfl hl.1 rfl (lv_room (Nat.le_of_ble_eq_true rfl)) dX6_init_109 ⟨Nat.le_of_ble_eq_true rfl, Nat.le_of_ble_eq_true rfl⟩) hS (fun q _ h => hFd q h) hFd (fun F804 t H1 locs ht hvm hw hB hz1 hk1 hS => ?_)
  obtain ⟨hP, hK1⟩ := hB
  rw [ht] at hP
  generalize H1 = H at hP hS ⊢
  rw [hw] at hP
  have hP : va_P (dC, dI) vwCl (va_pl L547 (va_up F610 q317 (.inr (1, [.ref q346, .ref q347, .ref q44, .null, .null, .null, .int 0, .int 0, .int 0, .int 0, .int 0, .long 0])))) H := hP
  obtain ⟨F805, hF805⟩ : ∃ M : Nat → va_E, M = va_up F610 q317 (.inr (1, [.ref q346, .ref q347, .ref q44, .null, .null, .null, .int 0, .int 0, .int 0, .int 0, .int 0, .long 0])) := ⟨_, rfl⟩
  rw [← hF805] at hP
  have hI : s_I K549 cs 0 F805 := by rw [hF805]; exact n_put0 hI k572
  have o806 : F805 h0 = .inr (6, [.ref q1, .int 0, .ref q15, .ref q44, .ref q111, .int 0, .ref q216, .ref q302, .int 0, .int 0, .ref q317, .ref q366, .ref q546, .long 1]) := by rw [hF805]; exact th_ne (Ne.symm ne321) o615
  have o807 : F805 q302 = .inl (cs 4, 20, .inr (.inr (.inr (.inr (fun _ => none))))) := by rw [hF805]; exact th_ne (Ne.symm ne322) o611
  have o808 : F805 q366 = .inr (0, [.ref q412, .ref q413, .ref q414, .ref q415, .ref q416, .int 0, .ref q417, .long 0, .ref q418, .int 0, .null, .int 0, .int 0, .int 0]) := by rw [hF805]; exact th_ne ne372 o613
  have o809 : F805 q412 = .inr (1, [.ref q419, .ref q420, .null, .null, .null, .null, .int 0, .int 0, .int 0, .int 0, .int 0, .long 0]) := by rw [hF805]; exact th_ne ne437 o614
  have o810 : F805 q44 = .inr (2, [.ref q76, .ref q77, .ref q78, .int 0, .int 0, .int 0, .int 0]) := by rw [hF805]; exact th_ne (Ne.symm ne654) o652
  have o811 : F805 q76 = .inl (cs 5, 40, .inr (.inr (.inr (.inr (fun j => some (q76 + 1 + j)))))) := by rw [hF805]; exact th_ne (Ne.symm ne672) o670
  have o812 : F805 q111 = .inr (2, [.ref q167, .ref q168, .ref q169, .int 0, .int 0, .int 0, .int 0]) := by rw [hF805]; exact th_ne (Ne.symm ne724) o722
  have o813 : F805 q167 = .inl (cs 5, 40, .inr (.inr (.inr (.inr (fun j => some (q167 + 1 + j)))))) := by rw [hF805]; exact th_ne (Ne.symm ne742) o740
  have o814 : F805 q317 = .inr (1, [.ref q346, .ref q347, .ref q44, .null, .null, .null, .int 0, .int 0, .int 0, .int 0, .int 0, .long 0]) := by rw [hF805]; exact th_up
  have hfr : ∀ a ∈ L, a ≠ h0 → F805 a = F a ∧ K549 a = K a := fun a ha hne => ⟨by rw [hF805]; exact th_ne (fun h => nl332 (h ▸ ha)) (hfr a ha hne).1, (hfr a ha hne).2⟩
  clear hw
  clear hK1
  refine lv_aload_n hx hb dX6_init_112 rfl (lv_at hl 0 rfl) ?_
  refine th_get (D := (dC, dI)) (ci := 6) (v := .ref q366) (C := RX6) (T := TX6) (N := 14) hx hb hts inX6 hown hK hP m565 o806 rfl 11 (by decide) (hts _ T_182) (fun _ h9 => h9) rfl dX6_init_113 ?_
  refine lv_aload_n hx hb dX6_init_116 rfl (lv_at hl 0 rfl) ?_
  refine th_get (D := (dC, dI)) (ci := 6) (v := .ref q44) (C := RX6) (T := TX6) (N := 14) hx hb hts inX6 hown hK hP m565 o806 rfl 3 (by decide) (hts _ T_170) (fun _ h9 => h9) rfl dX6_init_117 ?_
  have hFd := fun q (h : q ∈ L547) => n_in hD h
  refine va_callv (va_runV (As := [.ref q44]) (rest := []) ⟨hx, hb, hml, hown, hts⟩ (t_X0_take l dC dI H.size F805 q366 q44 q412 m578 m581 (.ref q413) (.ref q414) (.ref q415) (.ref q416) (.int 0) (.ref q417) (.long 0) (.ref q418) (.int 0) (.null) (.int 0) (.int 0) (.int 0) (.ref q419) (.ref q420) (.null) (.null) (.null) (.null) (.int 0) (.int 0) (.int 0) (.int 0) (.int 0) (.long 0) o808 o809) (cwV 1 hts (ax_gV T_186 T_187 T_188 T_180 T_8) rfl rfl rfl (by decide +kernel) ⟨Nat.le_of_ble_eq_true rfl, Nat.le_of_ble_eq_true rfl⟩) ⟨fun a U g mk q => ⟨q.1, s_pc (U := U) rfl rfl q.2⟩, s_recv hK hP m578 (ci := 0) rfl o808, fun U hU hW => ⟨rfl, s_pw hU hW hP hK (n_DL hD) hN⟩⟩ rfl rfl hl.1 rfl (lv_room (Nat.le_of_ble_eq_true rfl)) dX6_init_120 ⟨Nat.le_of_ble_eq_true rfl, Nat.le_of_ble_eq_true rfl⟩) hS (fun q _ h => hFd q h) hFd (fun F815 t H1 locs ht hvm hw hB hz1 hk1 hS => ?_)
  obtain ⟨hP, hK1⟩ := hB
  rw [ht] at hP
  generalize H1 = H at hP hS ⊢
  obtain ⟨o816, o817, g818⟩ := hw
  have o816 : F815 q366 = .inr (0, [.ref q412, .ref q413, .ref q414, .ref q415, .ref q416, .int 0, .ref q417, .long 0, .ref q418, .int 0, .ref q44, .int 0, .int 0, .int 0]) := o816
  have o817 : F815 q412 = .inr (1, [.ref q419, .ref q420, .ref q44, .null, .null, .null, .int 0, .int 0, .int 0, .int 0, .int 0, .long 0]) := o817
  have hI : s_I K549 cs 0 F815 := n_put2 hI k579 k582 g818
  have o819 : F815 h0 = .inr (6, [.ref q1, .int 0, .ref q15, .ref q44, .ref q111, .int 0, .ref q216, .ref q302, .int 0, .int 0, .ref q317, .ref q366, .ref q546, .long 1]) := (g818 _ (Ne.symm ne370) (Ne.symm ne435)).trans o806
  have o820 : F815 q302 = .inl (cs 4, 20, .inr (.inr (.inr (.inr (fun _ => none))))) := (g818 _ (Ne.symm ne371) (Ne.symm ne436)).trans o807
  have o821 : F815 q317 = .inr (1, [.ref q346, .ref q347, .ref q44, .null, .null, .null, .int 0, .int 0, .int 0, .int 0, .int 0, .long 0]) := (g818 _ (Ne.symm ne372) (Ne.symm ne437)).trans o814
  have o822 : F815 q44 = .inr (2, [.ref q76, .ref q77, .ref q78, .int 0, .int 0, .int 0, .int 0]) := (g818 _ (Ne.symm ne657) (Ne.symm ne658)).trans o810
  have o823 : F815 q76 = .inl (cs 5, 40, .inr (.inr (.inr (.inr (fun j => some (q76 + 1 + j)))))) := (g818 _ (Ne.symm ne675) (Ne.symm ne676)).trans o811
  have o824 : F815 q111 = .inr (2, [.ref q167, .ref q168, .ref q169, .int 0, .int 0, .int 0, .int 0]) := (g818 _ (Ne.symm ne727) (Ne.symm ne728)).trans o812
  have o825 : F815 q167 = .inl (cs 5, 40, .inr (.inr (.inr (.inr (fun j => some (q167 + 1 + j)))))) := (g818 _ (Ne.symm ne745) (Ne.symm ne746)).trans o813
  have hfr : ∀ a ∈ L, a ≠ h0 → F815 a = F a ∧ K549 a = K a := fun a ha hne => ⟨(g818 a (fun h => nl391 (h ▸ ha)) (fun h => (fun h => nl432 (hsb392 _ h)) (h ▸ ha))).trans (hfr a ha hne).1, (hfr a ha hne).2⟩
  clear hK1
  have hsn : ∀ a ∈ L547, a ≠ h0 → a ≠ q302 → F815 a = F815 a ∧ K549 a = K549 a := fun _ _ _ _ => ⟨rfl, rfl⟩
  have hss : ∀ a ∈ L547, a ∈ L547 := fun _ h => h
  obtain ⟨fn826, hfn826⟩ : ∃ f : Nat → Option Nat, f = (fun _ => none) := ⟨_, rfl⟩
  rw [← hfn826] at o820
  have hel : ∀ j, j < 0 → ∃ x, fn826 j = some x ∧ K549 x = 5 := fun j hj => absurd hj (by omega)
  refine lv_iconst (v := 0) hx hb dX6_init_123 (by decide) ?_
  refine lv_istore_n (lv' := [(1, .int 0), (0, .ref h0)]) hx hb dX6_init_124 rfl hl (by decide) rfl (fun ls hl => ?_)
  refine n_loop (fun i g H locs => ∃ (L9 : List Nat) (K9 : Nat → Nat) (F9 : Nat → va_E) (fn : Nat → Option Nat) (ls : Array Slot) (v : Int32), g = F0 m 125 ls [] ∧ lv_has ls 2 [(1, .int v), (0, .ref h0)] ∧ v.toInt = (i : Int) ∧ va_P (dC, dI) vwCl (va_pl L9 F9) H ∧ va_S A s.heap H locs ∧ (∀ G, va_D A (va_pl L9 G)) ∧ s_I K9 cs 0 F9 ∧ (∀ a, K9 a ≠ 0 → a ∈ L9) ∧ n_X K K9 ∧ (∀ a ∈ L, a ∈ L9) ∧ (∀ a ∈ L, a ≠ h0 → F9 a = F a ∧ K9 a = K a) ∧ (∀ a, K9 a = K a ∨ K9 a ∈ [4, 5, 6, 20, 21, 22, 23, 24, 25, 26, 27, 28, 29, 30, 31, 32, 33, 34, 35, 36, 37, 38, 39, 42, 43]) ∧ (∀ a ∈ L547, a ≠ h0 → a ≠ q302 → F9 a = F815 a ∧ K9 a = K549 a) ∧ (∀ a ∈ L547, a ∈ L9) ∧ (∀ a, K9 a ∉ [1, 2, 3, 7, 8]) ∧ (∀ a, K9 a = 22 → a = q76) ∧ (∀ a, K9 a = 42 → a = q167) ∧ F9 h0 = .inr (6, [.ref q1, .int 0, .ref q15, .ref q44, .ref q111, .int 0, .ref q216, .ref q302, .int 0, .int 0, .ref q317, .ref q366, .ref q546, .long 1]) ∧ K9 h0 = 0 ∧ h0 ∈ L9 ∧ F9 q302 = .inl (cs 4, 20, .inr (.inr (.inr (.inr fn)))) ∧ K9 q302 = 0 ∧ q302 ∈ L9 ∧ (∀ j, j < i → ∃ x, fn j = some x ∧ K9 x = 5)) 20 32 949 ⟨L547, K549, F815, fn826, _, 0, rfl, hl, by decide, hP, hS, hD, hI, hLk, hX, hsub, hfr, hks, hsn, hss, hzz, hu22, hu42, o819, k566, m565, o820, k569, m568, hel⟩ (fun i hi ih g H locs hq => ?_) (fun g H locs hq => ?_)
  · obtain ⟨L9, K9, F9, fn9, ls, v, rfl, hl, hv, hP, hS, hD, hI, hLk, hX, hsub, hfr, hks, hsn, hss, hzz, hu22, hu42, oX, kX, mX, oP, kP, mP, hel⟩ := hq
    have hn9 : (20 : Int32).toInt = 20 := by decide
    refine lv_iload_n hx hb dX6_init_125 rfl (lv_at hl 0 rfl) ?_
    refine lv_bipush (v := 20) hx hb dX6_init_126 (by decide) ?_
    refine lv_icmp_ge (tgt := 150) hx hb dX6_init_128 (by decide) (fun c9 => absurd (Int32.le_iff_toInt_le.mp c9) (by omega)) (fun _ => ?_)
    refine lv_aload_n hx hb dX6_init_131 rfl (lv_at hl 1 rfl) ?_
    refine th_get (D := (dC, dI)) (ci := 6) (v := .ref q302) (C := RX6) (T := TX6) (N := 14) hx hb hts inX6 hown hK hP mX oX rfl 7 (by decide) (hts _ T_175) (fun _ h9 => h9) rfl dX6_init_132 ?_
    refine lv_iload_n hx hb dX6_init_135 rfl (lv_at hl 0 rfl) ?_
    refine n_new (ci := 4) (fs := [.null, .null, .null, .null, .null, .null, .null, .int 0, .int 0, .int 0, .int 0, .int 0, .int 0, .int 0, .int 0]) (C := RX4) (T := TX4) (N := 15) hx hb hts inX4 tyX4 tyX4_ok hown (hts _ T_172) (hts _ T_141) (hts _ T_142) hK hP hD hS hA rfl dvX4 (by show _ ≤ 874; omega) (by show _ ≤ 26738; omega) dX6_init_136 (fun q827 H hq hP hD hS => ?_)
    obtain ⟨L828, hL828⟩ : ∃ M, M = L9 ++ [q827] := ⟨_, rfl⟩
    rw [← hL828] at hP hD
    obtain ⟨F829, hF829⟩ : ∃ M : Nat → va_E, M = va_up F9 q827 (.inr (4, [.null, .null, .null, .null, .null, .null, .null, .int 0, .int 0, .int 0, .int 0, .int 0, .int 0, .int 0, .int 0])) := ⟨_, rfl⟩
    rw [← hF829] at hP
    obtain ⟨hI, hLk, hX1⟩ := n_add (c := 0) hI hLk hq trivial
    obtain ⟨K830, hK830⟩ : ∃ M, M = va_up K9 q827 0 := ⟨_, rfl⟩
    rw [← hK830, ← hF829] at hI
    rw [← hK830, ← hL828] at hLk
    rw [← hK830] at hX1
    have ne831 : q827 ≠ h0 := fun h => hq (h ▸ mX)
    have ne832 : q827 ≠ q302 := fun h => hq (h ▸ mP)
    have m833 : h0 ∈ L828 := by rw [hL828]; exact List.mem_append_left _ mX
    have k834 : K830 h0 = 0 := by rw [hK830]; exact th_ne (Ne.symm ne831) kX
    have o835 : F829 h0 = .inr (6, [.ref q1, .int 0, .ref q15, .ref q44, .ref q111, .int 0, .ref q216, .ref q302, .int 0, .int 0, .ref q317, .ref q366, .ref q546, .long 1]) := by rw [hF829]; exact th_ne (Ne.symm ne831) oX
    have m836 : q302 ∈ L828 := by rw [hL828]; exact List.mem_append_left _ mP
    have k837 : K830 q302 = 0 := by rw [hK830]; exact th_ne (Ne.symm ne832) kP
    have o838 : F829 q302 = .inl (cs 4, 20, .inr (.inr (.inr (.inr fn9)))) := by rw [hF829]; exact th_ne (Ne.symm ne832) oP
    have m839 : q827 ∈ L828 := by rw [hL828]; exact List.mem_append_right _ (List.mem_singleton.mpr rfl)
    have o840 : F829 q827 = (.inr (4, [.null, .null, .null, .null, .null, .null, .null, .int 0, .int 0, .int 0, .int 0, .int 0, .int 0, .int 0, .int 0])) := by rw [hF829]; exact th_up
    have k841 : K830 q827 = 0 := by rw [hK830]; exact th_up
    have nl842 : q827 ∉ L := fun h => hq (hsub q827 h)
    have hfr : ∀ a ∈ L, a ≠ h0 → F829 a = F a ∧ K830 a = K a := fun a ha hne => ⟨by rw [hF829]; exact th_ne (fun h => nl842 (h ▸ ha)) (hfr a ha hne).1, by rw [hK830]; exact th_ne (fun h => nl842 (h ▸ ha)) (hfr a ha hne).2⟩
    have hsub : ∀ a ∈ L, a ∈ L828 := fun a ha => by rw [hL828]; exact List.mem_append_left _ (hsub a ha)
    have hX : n_X K K830 := n_Xt hX hX1
    have hks : ∀ a, K830 a = K a ∨ K830 a ∈ [4, 5, 6, 20, 21, 22, 23, 24, 25, 26, 27, 28, 29, 30, 31, 32, 33, 34, 35, 36, 37, 38, 39, 42, 43] := fun a => by rw [hK830]; by_cases e9 : a = q827; (rw [e9, th_up]; left; exact (Classical.byContradiction (fun h => nl842 (hLk0 _ (fun h8 => h h8.symm))))); rw [show va_up K9 q827 0 a = K9 a from if_neg e9]; exact hks a
    have hzz : ∀ a, K830 a ∉ [1, 2, 3, 7, 8] := fun a h9 => by rw [hK830] at h9; by_cases e9 : a = q827; (rw [e9, th_up] at h9; exact absurd h9 (by decide)); rw [show va_up _ q827 0 a = _ from if_neg e9] at h9; exact hzz a h9
    have hu22 : ∀ a, K830 a = 22 → a = q76 := fun a h9 => by rw [hK830] at h9; exact (n_uu h9).elim (fun w => absurd w.2 (by decide)) (hu22 a)
    have hu42 : ∀ a, K830 a = 42 → a = q167 := fun a h9 => by rw [hK830] at h9; exact (n_uu h9).elim (fun w => absurd w.2 (by decide)) (hu42 a)
    have nlsq827 : q827 ∉ L547 := fun h => hq (hss _ h)
    have hsn : ∀ a ∈ L547, a ≠ h0 → a ≠ q302 → F829 a = F815 a ∧ K830 a = K549 a := fun a ha n0 n1 => ⟨by rw [hF829]; exact th_ne (fun h => nlsq827 (h ▸ ha)) (hsn a ha n0 n1).1, by rw [hK830]; exact th_ne (fun h => nlsq827 (h ▸ ha)) (hsn a ha n0 n1).2⟩
    have hss : ∀ a ∈ L547, a ∈ L828 := fun a ha => by rw [hL828]; exact List.mem_append_left _ (hss a ha)
    have hel : ∀ j, j < i → ∃ x, fn9 j = some x ∧ K830 x = 5 := fun j hj => (hel j hj).imp (fun x w => ⟨w.1, n_Xc hX1 (by decide) w.2⟩)
    refine lv_dup hx hb dX6_init_139 rfl ?_
    have hssb := hss
    have hsb843 := hsub
    have hFc := n_free hD hS hA
    refine va_callv (va_runI (As := []) (rest := [.ref q827, .int v, .ref q302]) ⟨hx, hb, hml, hown, hts⟩ (n_X4_init l dC dI H.size L828 K830 F829 q827 m839 hI hLk k841 o840) (cwI 0 hts (ax_gT T_3) rfl rfl rfl (hts _ T_142) (hts _ T_173) (hts _ T_144) rfl (by decide +kernel) ⟨Nat.le_of_ble_eq_true rfl, Nat.le_of_ble_eq_true rfl⟩) ⟨fun a U g mk q => ⟨q.1, n_pc (U := U) rfl rfl q.2⟩, fun U hU hW => ⟨rfl, n_pw hU hW hP hK hD hN⟩⟩ rfl rfl hl.1 rfl (lv_room (Nat.le_of_ble_eq_true rfl)) dX6_init_140 ⟨(by show _ ≤ 874; omega), (by show _ ≤ 26738; omega)⟩) hS (fun q _ h => hFc q h) hFc (fun u t H1 locs ht hvm hw hB hz1 hk1 hS => ?_)
    obtain ⟨L844, K845, F846⟩ := u
    obtain ⟨hP, hK1, hD1⟩ := hB
    rw [ht] at hP
    have hD : ∀ G, va_D A (va_pl L844 G) := fun G => (hD1 G).weaken (fun k q _ h => hFc _ h)
    generalize H1 = H at hP hS ⊢
    obtain ⟨hs1, hX1, hf1, hk1, hI, hLk, hks1⟩ := hw
    have hP : va_P (dC, dI) vwCl (va_pl L844 F846) H := hP
    have hI : s_I K845 cs 0 F846 := hI
    have hLk : ∀ a, K845 a ≠ 0 → a ∈ L844 := hLk
    have m848 : h0 ∈ L844 := hs1 _ m833
    have k849 : K845 h0 = 0 := (hf1 _ m833 (Ne.symm ne831)).2.trans k834
    have o850 : F846 h0 = .inr (6, [.ref q1, .int 0, .ref q15, .ref q44, .ref q111, .int 0, .ref q216, .ref q302, .int 0, .int 0, .ref q317, .ref q366, .ref q546, .long 1]) := (hf1 _ m833 (Ne.symm ne831)).1.trans o835
    have m851 : q302 ∈ L844 := hs1 _ m836
    have k852 : K845 q302 = 0 := (hf1 _ m836 (Ne.symm ne832)).2.trans k837
    have o853 : F846 q302 = .inl (cs 4, 20, .inr (.inr (.inr (.inr fn9)))) := (hf1 _ m836 (Ne.symm ne832)).1.trans o838
    have m854 : q827 ∈ L844 := hs1 _ m839
    have k855 : K845 q827 = 5 := hk1
    have hfr : ∀ a ∈ L, a ≠ h0 → F846 a = F a ∧ K845 a = K a := fun a ha hne => ⟨(hf1 a (hsub a ha) (fun h => nl842 (h ▸ ha))).1.trans (hfr a ha hne).1, (hf1 a (hsub a ha) (fun h => nl842 (h ▸ ha))).2.trans (hfr a ha hne).2⟩
    have hsub : ∀ a ∈ L, a ∈ L844 := fun a ha => hs1 a (hsub a ha)
    have hX : n_X K K845 := n_Xt hX hX1
    have hks : ∀ a, K845 a = K a ∨ K845 a ∈ [4, 5, 6, 20, 21, 22, 23, 24, 25, 26, 27, 28, 29, 30, 31, 32, 33, 34, 35, 36, 37, 38, 39, 42, 43] := fun a => (hks1 a).elim (fun h => by rw [show K845 a = K830 a from h]; exact hks a) (fun h => Or.inr (s_sub (by decide) h))
    have hzz : ∀ a, K845 a ∉ [1, 2, 3, 7, 8] := fun a h9 => (hks1 a).elim (fun h => hzz a (by rw [← show K845 a = K830 a from h]; exact h9)) (fun h => (show ∀ y ∈ [5, 6, 24, 26, 27, 28, 29, 30, 31, 32], y ∉ [1, 2, 3, 7, 8] by decide) _ h h9)
    have hu22 : ∀ a, K845 a = 22 → a = q76 := fun a h9 => (hks1 a).elim (fun h => hu22 a (h.symm.trans h9)) (fun h => absurd (show K845 a ∈ _ from h) (by rw [h9]; decide))
    have hu42 : ∀ a, K845 a = 42 → a = q167 := fun a h9 => (hks1 a).elim (fun h => hu42 a (h.symm.trans h9)) (fun h => absurd (show K845 a ∈ _ from h) (by rw [h9]; decide))
    have hsn : ∀ a ∈ L547, a ≠ h0 → a ≠ q302 → F846 a = F815 a ∧ K845 a = K549 a := fun a ha n0 n1 => ⟨(hf1 a (hss a ha) (fun h => nlsq827 (h ▸ ha))).1.trans (hsn a ha n0 n1).1, (hf1 a (hss a ha) (fun h => nlsq827 (h ▸ ha))).2.trans (hsn a ha n0 n1).2⟩
    have hss : ∀ a ∈ L547, a ∈ L844 := fun a ha => hs1 a (hss a ha)
    have hel : ∀ j, j < i → ∃ x, fn9 j = some x ∧ K845 x = 5 := fun j hj => (hel j hj).imp (fun x w => ⟨w.1, n_Xc hX1 (by decide) w.2⟩)
    have hvn : v.toNatClampNeg = i := by have q9 : v.toInt = (v.toNatClampNeg : Int) := (Int.toNat_of_nonneg (by omega)).symm; omega
    obtain ⟨y0, y1, y2, y3, y4, y5, y6, y7, y8, y9, y10, y11, y12, y13, y14, o856, -⟩ := s_op5 hI k855
    refine n_astq (r := (RX4, TX4, 15)) hx hb hK hP hD hS m851 m854 4 4 o853 rfl o856 rfl (th_in ⟨by omega, by omega⟩) dX6_init_143 (fun H locs hP hS => ?_)
    have hP : va_P (dC, dI) vwCl (va_pl L844 (va_up F846 q302 (.inl (cs 4, 20, .inr (.inr (.inr (.inr (va_up fn9 v.toNatClampNeg (some q827))))))))) H := hP
    obtain ⟨F857, hF857⟩ : ∃ M : Nat → va_E, M = va_up F846 q302 (.inl (cs 4, 20, .inr (.inr (.inr (.inr (va_up fn9 v.toNatClampNeg (some q827))))))) := ⟨_, rfl⟩
    rw [← hF857] at hP
    have hI : s_I K845 cs 0 F857 := by rw [hF857]; exact n_put0 hI k852
    have o858 : F857 h0 = .inr (6, [.ref q1, .int 0, .ref q15, .ref q44, .ref q111, .int 0, .ref q216, .ref q302, .int 0, .int 0, .ref q317, .ref q366, .ref q546, .long 1]) := by rw [hF857]; exact th_ne (Ne.symm ne306) o850
    have o859 : F857 q302 = .inl (cs 4, 20, .inr (.inr (.inr (.inr (va_up fn9 v.toNatClampNeg (some q827)))))) := by rw [hF857]; exact th_up
    have hfr : ∀ a ∈ L, a ≠ h0 → F857 a = F a ∧ K845 a = K a := fun a ha hne => ⟨by rw [hF857]; exact th_ne (fun h => nl313 (h ▸ ha)) (hfr a ha hne).1, (hfr a ha hne).2⟩
    have hsn : ∀ a ∈ L547, a ≠ h0 → a ≠ q302 → F857 a = F815 a ∧ K845 a = K549 a := fun a ha n0 n1 => ⟨by rw [hF857]; exact th_ne n1 (hsn a ha n0 n1).1, (hsn a ha n0 n1).2⟩
    have hel : ∀ j, j < i + 1 → ∃ x, (va_up fn9 v.toNatClampNeg (some q827)) j = some x ∧ K845 x = 5 := fun j hj => by rw [hvn]; by_cases e9 : j = i; (rw [e9]; exact ⟨q827, th_up, k855⟩); rw [show va_up fn9 i (some q827) j = fn9 j from if_neg e9]; exact hel j (by omega)
    obtain ⟨v2, ev2⟩ : ∃ y : Int32, v + 1 = y := ⟨_, rfl⟩
    have hv2 : v2.toInt = v.toInt + 1 := by rw [← ev2]; exact th_add rfl (by decide) ⟨by omega, by omega⟩
    refine lv_iinc (v := v2) (lv' := [(1, .int v2), (0, .ref h0)]) hx hb dX6_init_144 hl (k := 0) rfl ev2 (by decide) rfl (fun ls hl => ?_)
    refine lv_goto (tgt := 125) hx hb dX6_init_147 (by decide) ?_
    refine W.widen (k := 234 + (i + 1) * 32) (n := 7758 + (i + 1) * 949) (by omega) (by omega) ?_
    exact ih _ _ _ ⟨L844, K845, F857, (va_up fn9 v.toNatClampNeg (some q827)), _, v2, rfl, hl, by omega, hP, hS, hD, hI, hLk, hX, hsub, hfr, hks, hsn, hss, hzz, hu22, hu42, o858, k849, m848, o859, k852, m851, hel⟩
  obtain ⟨L9, K9, F9, fn9, ls, v, rfl, hl, hv, hP, hS, hD, hI, hLk, hX, hsub, hfr, hks, hsn, hss, hzz, hu22, hu42, oX, kX, mX, oP, kP, mP, hel⟩ := hq
  have hn9 : (20 : Int32).toInt = 20 := by decide
  refine W.widen (k := 874) (n := 26738) (Nat.le_of_ble_eq_true rfl) (Nat.le_of_ble_eq_true rfl) ?_
  refine lv_iload_n hx hb dX6_init_125 rfl (lv_at hl 0 rfl) ?_
  refine lv_bipush (v := 20) hx hb dX6_init_126 (by decide) ?_
  refine lv_icmp_ge (tgt := 150) hx hb dX6_init_128 (by decide) (fun _ => ?_) (fun c9 => absurd (Int32.le_iff_toInt_le.mpr (by omega)) c9)
  have m860 : q317 ∈ L9 := hss _ m571
  have k861 : K9 q317 = 0 := (hsn _ m571 ne321 ne322).2.trans k572
  have o862 : F9 q317 = .inr (1, [.ref q346, .ref q347, .ref q44, .null, .null, .null, .int 0, .int 0, .int 0, .int 0, .int 0, .long 0]) := (hsn _ m571 ne321 ne322).1.trans o821
  have m863 : q346 ∈ L9 := hss _ m574
  have k864 : K9 q346 = 34 := (hsn _ m574 ne352 ne353).2.trans k575
  have m865 : q347 ∈ L9 := hss _ m576
  have k866 : K9 q347 = 35 := (hsn _ m576 ne357 ne358).2.trans k577
  have m867 : q366 ∈ L9 := hss _ m578
  have k868 : K9 q366 = 0 := (hsn _ m578 ne370 ne371).2.trans k579
  have o869 : F9 q366 = .inr (0, [.ref q412, .ref q413, .ref q414, .ref q415, .ref q416, .int 0, .ref q417, .long 0, .ref q418, .int 0, .ref q44, .int 0, .int 0, .int 0]) := (hsn _ m578 ne370 ne371).1.trans o816
  have m870 : q412 ∈ L9 := hss _ m581
  have k871 : K9 q412 = 0 := (hsn _ m581 ne435 ne436).2.trans k582
  have o872 : F9 q412 = .inr (1, [.ref q419, .ref q420, .ref q44, .null, .null, .null, .int 0, .int 0, .int 0, .int 0, .int 0, .long 0]) := (hsn _ m581 ne435 ne436).1.trans o817
  have m873 : q413 ∈ L9 := hss _ m584
  have k874 : K9 q413 = 5 := (hsn _ m584 ne441 ne442).2.trans k585
  have m875 : q414 ∈ L9 := hss _ m586
  have k876 : K9 q414 = 5 := (hsn _ m586 ne450 ne451).2.trans k587
  have m877 : q415 ∈ L9 := hss _ m588
  have k878 : K9 q415 = 5 := (hsn _ m588 ne460 ne461).2.trans k589
  have m879 : q416 ∈ L9 := hss _ m590
  have k880 : K9 q416 = 36 := (hsn _ m590 ne471 ne472).2.trans k591
  have m881 : q417 ∈ L9 := hss _ m592
  have k882 : K9 q417 = 37 := (hsn _ m592 ne483 ne484).2.trans k593
  have m883 : q418 ∈ L9 := hss _ m594
  have k884 : K9 q418 = 38 := (hsn _ m594 ne496 ne497).2.trans k595
  have m885 : q419 ∈ L9 := hss _ m596
  have k886 : K9 q419 = 34 := (hsn _ m596 ne510 ne511).2.trans k597
  have m887 : q420 ∈ L9 := hss _ m598
  have k888 : K9 q420 = 35 := (hsn _ m598 ne525 ne526).2.trans k599
  have m889 : q546 ∈ L9 := hss _ m600
  have k890 : K9 q546 = 39 := (hsn _ m600 ne550 ne551).2.trans k602
  have m891 : q1 ∈ L9 := hss _ m616
  have k892 : K9 q1 = 20 := (hsn _ m616 ne5 (Ne.symm ne618)).2.trans k617
  have m893 : q15 ∈ L9 := hss _ m633
  have k894 : K9 q15 = 4 := (hsn _ m633 ne19 (Ne.symm ne635)).2.trans k634
  have m895 : q44 ∈ L9 := hss _ m650
  have k896 : K9 q44 = 0 := (hsn _ m650 ne48 (Ne.symm ne653)).2.trans k651
  have o897 : F9 q44 = .inr (2, [.ref q76, .ref q77, .ref q78, .int 0, .int 0, .int 0, .int 0]) := (hsn _ m650 ne48 (Ne.symm ne653)).1.trans o822
  have m898 : q76 ∈ L9 := hss _ m668
  have k899 : K9 q76 = 22 := (hsn _ m668 ne87 (Ne.symm ne671)).2.trans k669
  have o900 : F9 q76 = .inl (cs 5, 40, .inr (.inr (.inr (.inr (fun j => some (q76 + 1 + j)))))) := (hsn _ m668 ne87 (Ne.symm ne671)).1.trans o823
  have m901 : q77 ∈ L9 := hss _ m686
  have k902 : K9 q77 = 24 := (hsn _ m686 ne93 (Ne.symm ne688)).2.trans k687
  have m903 : q78 ∈ L9 := hss _ m703
  have k904 : K9 q78 = 25 := (hsn _ m703 ne100 (Ne.symm ne705)).2.trans k704
  have m905 : q111 ∈ L9 := hss _ m720
  have k906 : K9 q111 = 0 := (hsn _ m720 ne115 (Ne.symm ne723)).2.trans k721
  have o907 : F9 q111 = .inr (2, [.ref q167, .ref q168, .ref q169, .int 0, .int 0, .int 0, .int 0]) := (hsn _ m720 ne115 (Ne.symm ne723)).1.trans o824
  have m908 : q167 ∈ L9 := hss _ m738
  have k909 : K9 q167 = 42 := (hsn _ m738 ne178 (Ne.symm ne741)).2.trans k739
  have o910 : F9 q167 = .inl (cs 5, 40, .inr (.inr (.inr (.inr (fun j => some (q167 + 1 + j)))))) := (hsn _ m738 ne178 (Ne.symm ne741)).1.trans o825
  have m911 : q168 ∈ L9 := hss _ m756
  have k912 : K9 q168 = 24 := (hsn _ m756 ne188 (Ne.symm ne758)).2.trans k757
  have m913 : q169 ∈ L9 := hss _ m773
  have k914 : K9 q169 = 25 := (hsn _ m773 ne199 (Ne.symm ne775)).2.trans k774
  have m915 : q216 ∈ L9 := hss _ m790
  have k916 : K9 q216 = 5 := (hsn _ m790 ne220 (Ne.symm ne792)).2.trans k791
  obtain ⟨hI, hLk, hX1⟩ := n_kind (c := 33) hI hLk mP kP (by rw [oP]; exact (show ok_33 (va_up K9 q302 33) cs _ from ⟨_, rfl, fun j hj => by obtain ⟨x, h1, h2⟩ := hel j hj; exact ⟨x, h1, n_Xc (n_Xu kP) (by decide) h2⟩⟩))
  obtain ⟨K917, hK917⟩ : ∃ M, M = va_up K9 q302 33 := ⟨_, rfl⟩
  rw [← hK917] at hI hLk hX1
  have k918 : K917 h0 = 0 := by rw [hK917]; exact th_ne (Ne.symm ne306) kX
  have k919 : K917 q317 = 0 := by rw [hK917]; exact th_ne ne322 k861
  have k920 : K917 q346 = 34 := by rw [hK917]; exact th_ne ne353 k864
  have k921 : K917 q347 = 35 := by rw [hK917]; exact th_ne ne358 k866
  have k922 : K917 q366 = 0 := by rw [hK917]; exact th_ne ne371 k868
  have k923 : K917 q412 = 0 := by rw [hK917]; exact th_ne ne436 k871
  have k924 : K917 q413 = 5 := by rw [hK917]; exact th_ne ne442 k874
  have k925 : K917 q414 = 5 := by rw [hK917]; exact th_ne ne451 k876
  have k926 : K917 q415 = 5 := by rw [hK917]; exact th_ne ne461 k878
  have k927 : K917 q416 = 36 := by rw [hK917]; exact th_ne ne472 k880
  have k928 : K917 q417 = 37 := by rw [hK917]; exact th_ne ne484 k882
  have k929 : K917 q418 = 38 := by rw [hK917]; exact th_ne ne497 k884
  have k930 : K917 q419 = 34 := by rw [hK917]; exact th_ne ne511 k886
  have k931 : K917 q420 = 35 := by rw [hK917]; exact th_ne ne526 k888
  have k932 : K917 q546 = 39 := by rw [hK917]; exact th_ne ne551 k890
  have k933 : K917 q1 = 20 := by rw [hK917]; exact th_ne (Ne.symm ne618) k892
  have k934 : K917 q15 = 4 := by rw [hK917]; exact th_ne (Ne.symm ne635) k894
  have k935 : K917 q44 = 0 := by rw [hK917]; exact th_ne (Ne.symm ne653) k896
  have k936 : K917 q76 = 22 := by rw [hK917]; exact th_ne (Ne.symm ne671) k899
  have k937 : K917 q77 = 24 := by rw [hK917]; exact th_ne (Ne.symm ne688) k902
  have k938 : K917 q78 = 25 := by rw [hK917]; exact th_ne (Ne.symm ne705) k904
  have k939 : K917 q111 = 0 := by rw [hK917]; exact th_ne (Ne.symm ne723) k906
  have k940 : K917 q167 = 42 := by rw [hK917]; exact th_ne (Ne.symm ne741) k909
  have k941 : K917 q168 = 24 := by rw [hK917]; exact th_ne (Ne.symm ne758) k912
  have k942 : K917 q169 = 25 := by rw [hK917]; exact th_ne (Ne.symm ne775) k914
  have k943 : K917 q216 = 5 := by rw [hK917]; exact th_ne (Ne.symm ne792) k916
  have k944 : K917 q302 = 33 := by rw [hK917]; exact th_up
  have hfr : ∀ a ∈ L, a ≠ h0 → F9 a = F a ∧ K917 a = K a := fun a ha hne => ⟨(hfr a ha hne).1, by rw [hK917]; exact th_ne (fun h => nl313 (h ▸ ha)) (hfr a ha hne).2⟩
  have hX : n_X K K917 := n_Xt hX hX1
  have hks : ∀ a, K917 a = K a ∨ K917 a ∈ [4, 5, 6, 20, 21, 22, 23, 24, 25, 26, 27, 28, 29, 30, 31, 32, 33, 34, 35, 36, 37, 38, 39, 42, 43] := fun a => by rw [hK917]; by_cases e9 : a = q302; (rw [e9, th_up]; right; decide); rw [show va_up K9 q302 33 a = K9 a from if_neg e9]; exact hks a
  have hzz : ∀ a, K917 a ∉ [1, 2, 3, 7, 8] := fun a h9 => by rw [hK917] at h9; by_cases e9 : a = q302; (rw [e9, th_up] at h9; exact absurd h9 (by decide)); rw [show va_up _ q302 33 a = _ from if_neg e9] at h9; exact hzz a h9
  have hu22 : ∀ a, K917 a = 22 → a = q76 := fun a h9 => by rw [hK917] at h9; exact (n_uu h9).elim (fun w => absurd w.2 (by decide)) (hu22 a)
  have hu42 : ∀ a, K917 a = 42 → a = q167 := fun a h9 => by rw [hK917] at h9; exact (n_uu h9).elim (fun w => absurd w.2 (by decide)) (hu42 a)
  obtain ⟨cs', hcs⟩ : ∃ w : Nat → ClassId, w = fun i => if i = 20 then q317 else if i = 21 then q412 else if i = 22 then q366 else if i = 24 then 0 else cs i := ⟨_, rfl⟩
  have c20 : q317 = cs' 20 := by rw [hcs]; rfl
  have c21 : q412 = cs' 21 := by rw [hcs]; rfl
  have c22 : q366 = cs' 22 := by rw [hcs]; rfl
  have c24 : cs' 24 = 0 := by rw [hcs]; rfl
  have hci : ∀ i, i < 20 → cs' i = cs i := fun i hi => by rw [hcs]; show (if i = 20 then _ else _) = _; rw [if_neg (by omega), if_neg (by omega), if_neg (by omega), if_neg (by omega)]
  have hI : s_I K917 cs' 0 F9 := n_cs hI (fun a => ⟨fun h9 => hzz a (by rw [h9]; decide), fun h9 => hzz a (by rw [h9]; decide)⟩) hci
  obtain ⟨hI, hLk, hX1⟩ := n_kind (c := 3) hI hLk m895 k935 (by rw [o897]; exact (show ok_3 (va_up K917 q44 3) cs' 0 _ from ⟨q76, q77, q78, 0, 0, 0, 0, rfl, (n_Xc (n_Xu k935) (by decide) k936), (n_Xc (n_Xu k935) (by decide) k937), (n_Xc (n_Xu k935) (by decide) k938), ⟨by decide, by decide⟩, ⟨by decide, by decide⟩, trivial⟩))
  obtain ⟨K945, hK945⟩ : ∃ M, M = va_up K917 q44 3 := ⟨_, rfl⟩
  rw [← hK945] at hI hLk hX1
  have k946 : K945 h0 = 0 := by rw [hK945]; exact th_ne (Ne.symm ne48) k918
  have k947 : K945 q302 = 33 := by rw [hK945]; exact th_ne ne653 k944
  have k948 : K945 q317 = 0 := by rw [hK945]; exact th_ne ne654 k919
  have k949 : K945 q346 = 34 := by rw [hK945]; exact th_ne ne655 k920
  have k950 : K945 q347 = 35 := by rw [hK945]; exact th_ne ne656 k921
  have k951 : K945 q366 = 0 := by rw [hK945]; exact th_ne ne657 k922
  have k952 : K945 q412 = 0 := by rw [hK945]; exact th_ne ne658 k923
  have k953 : K945 q413 = 5 := by rw [hK945]; exact th_ne ne659 k924
  have k954 : K945 q414 = 5 := by rw [hK945]; exact th_ne ne660 k925
  have k955 : K945 q415 = 5 := by rw [hK945]; exact th_ne ne661 k926
  have k956 : K945 q416 = 36 := by rw [hK945]; exact th_ne ne662 k927
  have k957 : K945 q417 = 37 := by rw [hK945]; exact th_ne ne663 k928
  have k958 : K945 q418 = 38 := by rw [hK945]; exact th_ne ne664 k929
  have k959 : K945 q419 = 34 := by rw [hK945]; exact th_ne ne665 k930
  have k960 : K945 q420 = 35 := by rw [hK945]; exact th_ne ne666 k931
  have k961 : K945 q546 = 39 := by rw [hK945]; exact th_ne ne667 k932
  have k962 : K945 q1 = 20 := by rw [hK945]; exact th_ne (Ne.symm ne49) k933
  have k963 : K945 q15 = 4 := by rw [hK945]; exact th_ne (Ne.symm ne50) k934
  have k964 : K945 q76 = 22 := by rw [hK945]; exact th_ne ne90 k936
  have k965 : K945 q77 = 24 := by rw [hK945]; exact th_ne ne96 k937
  have k966 : K945 q78 = 25 := by rw [hK945]; exact th_ne ne103 k938
  have k967 : K945 q111 = 0 := by rw [hK945]; exact th_ne ne118 k939
  have k968 : K945 q167 = 42 := by rw [hK945]; exact th_ne ne181 k940
  have k969 : K945 q168 = 24 := by rw [hK945]; exact th_ne ne191 k941
  have k970 : K945 q169 = 25 := by rw [hK945]; exact th_ne ne202 k942
  have k971 : K945 q216 = 5 := by rw [hK945]; exact th_ne ne223 k943
  have k972 : K945 q44 = 3 := by rw [hK945]; exact th_up
  have hfr : ∀ a ∈ L, a ≠ h0 → F9 a = F a ∧ K945 a = K a := fun a ha hne => ⟨(hfr a ha hne).1, by rw [hK945]; exact th_ne (fun h => nl61 (h ▸ ha)) (hfr a ha hne).2⟩
  have hX : n_X K K945 := n_Xt hX hX1
  obtain ⟨hI, hLk, hX1⟩ := n_kind (c := 8) hI hLk m905 k967 (by rw [o907]; exact (show ok_8 (va_up K945 q111 8) cs' 0 _ from ⟨q167, q168, q169, 0, 0, 0, 0, rfl, (n_Xc (n_Xu k967) (by decide) k968), (n_Xc (n_Xu k967) (by decide) k969), (n_Xc (n_Xu k967) (by decide) k970), ⟨by decide, by decide⟩, ⟨by decide, by decide⟩, trivial⟩))
  obtain ⟨K973, hK973⟩ : ∃ M, M = va_up K945 q111 8 := ⟨_, rfl⟩
  rw [← hK973] at hI hLk hX1
  have k974 : K973 h0 = 0 := by rw [hK973]; exact th_ne (Ne.symm ne115) k946
  have k975 : K973 q302 = 33 := by rw [hK973]; exact th_ne ne723 k947
  have k976 : K973 q317 = 0 := by rw [hK973]; exact th_ne ne724 k948
  have k977 : K973 q346 = 34 := by rw [hK973]; exact th_ne ne725 k949
  have k978 : K973 q347 = 35 := by rw [hK973]; exact th_ne ne726 k950
  have k979 : K973 q366 = 0 := by rw [hK973]; exact th_ne ne727 k951
  have k980 : K973 q412 = 0 := by rw [hK973]; exact th_ne ne728 k952
  have k981 : K973 q413 = 5 := by rw [hK973]; exact th_ne ne729 k953
  have k982 : K973 q414 = 5 := by rw [hK973]; exact th_ne ne730 k954
  have k983 : K973 q415 = 5 := by rw [hK973]; exact th_ne ne731 k955
  have k984 : K973 q416 = 36 := by rw [hK973]; exact th_ne ne732 k956
  have k985 : K973 q417 = 37 := by rw [hK973]; exact th_ne ne733 k957
  have k986 : K973 q418 = 38 := by rw [hK973]; exact th_ne ne734 k958
  have k987 : K973 q419 = 34 := by rw [hK973]; exact th_ne ne735 k959
  have k988 : K973 q420 = 35 := by rw [hK973]; exact th_ne ne736 k960
  have k989 : K973 q546 = 39 := by rw [hK973]; exact th_ne ne737 k961
  have k990 : K973 q1 = 20 := by rw [hK973]; exact th_ne (Ne.symm ne116) k962
  have k991 : K973 q15 = 4 := by rw [hK973]; exact th_ne (Ne.symm ne117) k963
  have k992 : K973 q44 = 3 := by rw [hK973]; exact th_ne (Ne.symm ne118) k972
  have k993 : K973 q76 = 22 := by rw [hK973]; exact th_ne (Ne.symm ne119) k964
  have k994 : K973 q77 = 24 := by rw [hK973]; exact th_ne (Ne.symm ne120) k965
  have k995 : K973 q78 = 25 := by rw [hK973]; exact th_ne (Ne.symm ne121) k966
  have k996 : K973 q167 = 42 := by rw [hK973]; exact th_ne ne185 k968
  have k997 : K973 q168 = 24 := by rw [hK973]; exact th_ne ne195 k969
  have k998 : K973 q169 = 25 := by rw [hK973]; exact th_ne ne206 k970
  have k999 : K973 q216 = 5 := by rw [hK973]; exact th_ne ne227 k971
  have k1000 : K973 q111 = 8 := by rw [hK973]; exact th_up
  have hfr : ∀ a ∈ L, a ≠ h0 → F9 a = F a ∧ K973 a = K a := fun a ha hne => ⟨(hfr a ha hne).1, by rw [hK973]; exact th_ne (fun h => nl142 (h ▸ ha)) (hfr a ha hne).2⟩
  have hX : n_X K K973 := n_Xt hX hX1
  obtain ⟨hI, hLk, hX1⟩ := n_kind (c := 2) hI hLk m860 k976 (by rw [o862]; exact (show ok_2 (va_up K973 q317 2) cs' 0 _ from ⟨q346, q347, q44, none, none, none, 0, 0, 0, 0, 0, 0, rfl, (n_Xc (n_Xu k976) (by decide) k977), (n_Xc (n_Xu k976) (by decide) k978), (n_Xc (n_Xu k976) (by decide) k992), (fun q e => by cases e), (fun q e => by cases e), ⟨by decide, by decide⟩, ⟨by decide, by decide⟩, trivial⟩))
  obtain ⟨K1001, hK1001⟩ : ∃ M, M = va_up K973 q317 2 := ⟨_, rfl⟩
  rw [← hK1001] at hI hLk hX1
  have k1002 : K1001 h0 = 0 := by rw [hK1001]; exact th_ne (Ne.symm ne321) k974
  have k1003 : K1001 q302 = 33 := by rw [hK1001]; exact th_ne (Ne.symm ne322) k975
  have k1004 : K1001 q346 = 34 := by rw [hK1001]; exact th_ne ne354 k977
  have k1005 : K1001 q347 = 35 := by rw [hK1001]; exact th_ne ne359 k978
  have k1006 : K1001 q366 = 0 := by rw [hK1001]; exact th_ne ne372 k979
  have k1007 : K1001 q412 = 0 := by rw [hK1001]; exact th_ne ne437 k980
  have k1008 : K1001 q413 = 5 := by rw [hK1001]; exact th_ne ne443 k981
  have k1009 : K1001 q414 = 5 := by rw [hK1001]; exact th_ne ne452 k982
  have k1010 : K1001 q415 = 5 := by rw [hK1001]; exact th_ne ne462 k983
  have k1011 : K1001 q416 = 36 := by rw [hK1001]; exact th_ne ne473 k984
  have k1012 : K1001 q417 = 37 := by rw [hK1001]; exact th_ne ne485 k985
  have k1013 : K1001 q418 = 38 := by rw [hK1001]; exact th_ne ne498 k986
  have k1014 : K1001 q419 = 34 := by rw [hK1001]; exact th_ne ne512 k987
  have k1015 : K1001 q420 = 35 := by rw [hK1001]; exact th_ne ne527 k988
  have k1016 : K1001 q546 = 39 := by rw [hK1001]; exact th_ne ne552 k989
  have k1017 : K1001 q1 = 20 := by rw [hK1001]; exact th_ne (Ne.symm ne619) k990
  have k1018 : K1001 q15 = 4 := by rw [hK1001]; exact th_ne (Ne.symm ne636) k991
  have k1019 : K1001 q44 = 3 := by rw [hK1001]; exact th_ne (Ne.symm ne654) k992
  have k1020 : K1001 q76 = 22 := by rw [hK1001]; exact th_ne (Ne.symm ne672) k993
  have k1021 : K1001 q77 = 24 := by rw [hK1001]; exact th_ne (Ne.symm ne689) k994
  have k1022 : K1001 q78 = 25 := by rw [hK1001]; exact th_ne (Ne.symm ne706) k995
  have k1023 : K1001 q111 = 8 := by rw [hK1001]; exact th_ne (Ne.symm ne724) k1000
  have k1024 : K1001 q167 = 42 := by rw [hK1001]; exact th_ne (Ne.symm ne742) k996
  have k1025 : K1001 q168 = 24 := by rw [hK1001]; exact th_ne (Ne.symm ne759) k997
  have k1026 : K1001 q169 = 25 := by rw [hK1001]; exact th_ne (Ne.symm ne776) k998
  have k1027 : K1001 q216 = 5 := by rw [hK1001]; exact th_ne (Ne.symm ne793) k999
  have k1028 : K1001 q317 = 2 := by rw [hK1001]; exact th_up
  have hfr : ∀ a ∈ L, a ≠ h0 → F9 a = F a ∧ K1001 a = K a := fun a ha hne => ⟨(hfr a ha hne).1, by rw [hK1001]; exact th_ne (fun h => nl332 (h ▸ ha)) (hfr a ha hne).2⟩
  have hX : n_X K K1001 := n_Xt hX hX1
  obtain ⟨hI, hLk, hX1⟩ := n_kind (c := 2) hI hLk m870 k1007 (by rw [o872]; exact (show ok_2 (va_up K1001 q412 2) cs' 0 _ from ⟨q419, q420, q44, none, none, none, 0, 0, 0, 0, 0, 0, rfl, (n_Xc (n_Xu k1007) (by decide) k1014), (n_Xc (n_Xu k1007) (by decide) k1015), (n_Xc (n_Xu k1007) (by decide) k1019), (fun q e => by cases e), (fun q e => by cases e), ⟨by decide, by decide⟩, ⟨by decide, by decide⟩, trivial⟩))
  obtain ⟨K1029, hK1029⟩ : ∃ M, M = va_up K1001 q412 2 := ⟨_, rfl⟩
  rw [← hK1029] at hI hLk hX1
  have k1030 : K1029 h0 = 0 := by rw [hK1029]; exact th_ne (Ne.symm ne435) k1002
  have k1031 : K1029 q302 = 33 := by rw [hK1029]; exact th_ne (Ne.symm ne436) k1003
  have k1032 : K1029 q317 = 2 := by rw [hK1029]; exact th_ne (Ne.symm ne437) k1028
  have k1033 : K1029 q346 = 34 := by rw [hK1029]; exact th_ne (Ne.symm ne438) k1004
  have k1034 : K1029 q347 = 35 := by rw [hK1029]; exact th_ne (Ne.symm ne439) k1005
  have k1035 : K1029 q366 = 0 := by rw [hK1029]; exact th_ne (Ne.symm ne433) k1006
  have k1036 : K1029 q413 = 5 := by rw [hK1029]; exact th_ne ne447 k1008
  have k1037 : K1029 q414 = 5 := by rw [hK1029]; exact th_ne ne456 k1009
  have k1038 : K1029 q415 = 5 := by rw [hK1029]; exact th_ne ne466 k1010
  have k1039 : K1029 q416 = 36 := by rw [hK1029]; exact th_ne ne477 k1011
  have k1040 : K1029 q417 = 37 := by rw [hK1029]; exact th_ne ne489 k1012
  have k1041 : K1029 q418 = 38 := by rw [hK1029]; exact th_ne ne502 k1013
  have k1042 : K1029 q419 = 34 := by rw [hK1029]; exact th_ne ne516 k1014
  have k1043 : K1029 q420 = 35 := by rw [hK1029]; exact th_ne ne531 k1015
  have k1044 : K1029 q546 = 39 := by rw [hK1029]; exact th_ne ne556 k1016
  have k1045 : K1029 q1 = 20 := by rw [hK1029]; exact th_ne (Ne.symm ne623) k1017
  have k1046 : K1029 q15 = 4 := by rw [hK1029]; exact th_ne (Ne.symm ne640) k1018
  have k1047 : K1029 q44 = 3 := by rw [hK1029]; exact th_ne (Ne.symm ne658) k1019
  have k1048 : K1029 q76 = 22 := by rw [hK1029]; exact th_ne (Ne.symm ne676) k1020
  have k1049 : K1029 q77 = 24 := by rw [hK1029]; exact th_ne (Ne.symm ne693) k1021
  have k1050 : K1029 q78 = 25 := by rw [hK1029]; exact th_ne (Ne.symm ne710) k1022
  have k1051 : K1029 q111 = 8 := by rw [hK1029]; exact th_ne (Ne.symm ne728) k1023
  have k1052 : K1029 q167 = 42 := by rw [hK1029]; exact th_ne (Ne.symm ne746) k1024
  have k1053 : K1029 q168 = 24 := by rw [hK1029]; exact th_ne (Ne.symm ne763) k1025
  have k1054 : K1029 q169 = 25 := by rw [hK1029]; exact th_ne (Ne.symm ne780) k1026
  have k1055 : K1029 q216 = 5 := by rw [hK1029]; exact th_ne (Ne.symm ne797) k1027
  have k1056 : K1029 q412 = 2 := by rw [hK1029]; exact th_up
  have hfr : ∀ a ∈ L, a ≠ h0 → F9 a = F a ∧ K1029 a = K a := fun a ha hne => ⟨(hfr a ha hne).1, by rw [hK1029]; exact th_ne (fun h => (fun h => nl432 (hsb392 _ h)) (h ▸ ha)) (hfr a ha hne).2⟩
  have hX : n_X K K1029 := n_Xt hX hX1
  obtain ⟨hI, hLk, hX1⟩ := n_kind (c := 1) hI hLk m867 k1035 (by rw [o869]; exact (show ok_1 (va_up K1029 q366 1) cs' 0 _ from ⟨q412, q413, q414, q415, q416, 0, q417, 0, q418, 0, q44, 0, 0, 0, rfl, (n_Xc (n_Xu k1035) (by decide) k1056), (n_Xc (n_Xu k1035) (by decide) k1036), (n_Xc (n_Xu k1035) (by decide) k1037), (n_Xc (n_Xu k1035) (by decide) k1038), (n_Xc (n_Xu k1035) (by decide) k1039), (n_Xc (n_Xu k1035) (by decide) k1040), (n_Xc (n_Xu k1035) (by decide) k1041), (n_Xc (n_Xu k1035) (by decide) k1047), ⟨by decide, by decide⟩, ⟨by decide, by decide⟩, ⟨by decide, by decide⟩, c21, trivial⟩))
  obtain ⟨K1057, hK1057⟩ : ∃ M, M = va_up K1029 q366 1 := ⟨_, rfl⟩
  rw [← hK1057] at hI hLk hX1
  have k1058 : K1057 h0 = 0 := by rw [hK1057]; exact th_ne (Ne.symm ne370) k1030
  have k1059 : K1057 q302 = 33 := by rw [hK1057]; exact th_ne (Ne.symm ne371) k1031
  have k1060 : K1057 q317 = 2 := by rw [hK1057]; exact th_ne (Ne.symm ne372) k1032
  have k1061 : K1057 q346 = 34 := by rw [hK1057]; exact th_ne (Ne.symm ne373) k1033
  have k1062 : K1057 q347 = 35 := by rw [hK1057]; exact th_ne (Ne.symm ne374) k1034
  have k1063 : K1057 q412 = 2 := by rw [hK1057]; exact th_ne ne433 k1056
  have k1064 : K1057 q413 = 5 := by rw [hK1057]; exact th_ne ne446 k1036
  have k1065 : K1057 q414 = 5 := by rw [hK1057]; exact th_ne ne455 k1037
  have k1066 : K1057 q415 = 5 := by rw [hK1057]; exact th_ne ne465 k1038
  have k1067 : K1057 q416 = 36 := by rw [hK1057]; exact th_ne ne476 k1039
  have k1068 : K1057 q417 = 37 := by rw [hK1057]; exact th_ne ne488 k1040
  have k1069 : K1057 q418 = 38 := by rw [hK1057]; exact th_ne ne501 k1041
  have k1070 : K1057 q419 = 34 := by rw [hK1057]; exact th_ne ne515 k1042
  have k1071 : K1057 q420 = 35 := by rw [hK1057]; exact th_ne ne530 k1043
  have k1072 : K1057 q546 = 39 := by rw [hK1057]; exact th_ne ne555 k1044
  have k1073 : K1057 q1 = 20 := by rw [hK1057]; exact th_ne (Ne.symm ne622) k1045
  have k1074 : K1057 q15 = 4 := by rw [hK1057]; exact th_ne (Ne.symm ne639) k1046
  have k1075 : K1057 q44 = 3 := by rw [hK1057]; exact th_ne (Ne.symm ne657) k1047
  have k1076 : K1057 q76 = 22 := by rw [hK1057]; exact th_ne (Ne.symm ne675) k1048
  have k1077 : K1057 q77 = 24 := by rw [hK1057]; exact th_ne (Ne.symm ne692) k1049
  have k1078 : K1057 q78 = 25 := by rw [hK1057]; exact th_ne (Ne.symm ne709) k1050
  have k1079 : K1057 q111 = 8 := by rw [hK1057]; exact th_ne (Ne.symm ne727) k1051
  have k1080 : K1057 q167 = 42 := by rw [hK1057]; exact th_ne (Ne.symm ne745) k1052
  have k1081 : K1057 q168 = 24 := by rw [hK1057]; exact th_ne (Ne.symm ne762) k1053
  have k1082 : K1057 q169 = 25 := by rw [hK1057]; exact th_ne (Ne.symm ne779) k1054
  have k1083 : K1057 q216 = 5 := by rw [hK1057]; exact th_ne (Ne.symm ne796) k1055
  have k1084 : K1057 q366 = 1 := by rw [hK1057]; exact th_up
  have hfr : ∀ a ∈ L, a ≠ h0 → F9 a = F a ∧ K1057 a = K a := fun a ha hne => ⟨(hfr a ha hne).1, by rw [hK1057]; exact th_ne (fun h => nl391 (h ▸ ha)) (hfr a ha hne).2⟩
  have hX : n_X K K1057 := n_Xt hX hX1
  obtain ⟨hI, hLk, hX1⟩ := n_kind (c := 7) hI hLk mX k1058 (by rw [oX]; exact (show ok_7 (va_up K1057 h0 7) cs' 0 _ from ⟨q1, 0, q15, q44, q111, 0, q216, q302, 0, 0, q317, q366, q546, 1, rfl, (n_Xc (n_Xu k1058) (by decide) k1073), ⟨by decide, by decide⟩, (n_Xc (n_Xu k1058) (by decide) k1074), (n_Xc (n_Xu k1058) (by decide) k1075), (n_Xc (n_Xu k1058) (by decide) k1079), (n_Xc (n_Xu k1058) (by decide) k1083), (n_Xc (n_Xu k1058) (by decide) k1059), ⟨by decide, by decide⟩, ⟨by decide, by decide⟩, (n_Xc (n_Xu k1058) (by decide) k1060), (n_Xc (n_Xu k1058) (by decide) k1084), (n_Xc (n_Xu k1058) (by decide) k1072), ⟨⟨c20, c22⟩, Or.inl c24⟩, trivial⟩))
  obtain ⟨K1085, hK1085⟩ : ∃ M, M = va_up K1057 h0 7 := ⟨_, rfl⟩
  rw [← hK1085] at hI hLk hX1
  have k1086 : K1085 q302 = 33 := by rw [hK1085]; exact th_ne ne306 k1059
  have k1087 : K1085 q317 = 2 := by rw [hK1085]; exact th_ne ne321 k1060
  have k1088 : K1085 q346 = 34 := by rw [hK1085]; exact th_ne ne352 k1061
  have k1089 : K1085 q347 = 35 := by rw [hK1085]; exact th_ne ne357 k1062
  have k1090 : K1085 q366 = 1 := by rw [hK1085]; exact th_ne ne370 k1084
  have k1091 : K1085 q412 = 2 := by rw [hK1085]; exact th_ne ne435 k1063
  have k1092 : K1085 q413 = 5 := by rw [hK1085]; exact th_ne ne441 k1064
  have k1093 : K1085 q414 = 5 := by rw [hK1085]; exact th_ne ne450 k1065
  have k1094 : K1085 q415 = 5 := by rw [hK1085]; exact th_ne ne460 k1066
  have k1095 : K1085 q416 = 36 := by rw [hK1085]; exact th_ne ne471 k1067
  have k1096 : K1085 q417 = 37 := by rw [hK1085]; exact th_ne ne483 k1068
  have k1097 : K1085 q418 = 38 := by rw [hK1085]; exact th_ne ne496 k1069
  have k1098 : K1085 q419 = 34 := by rw [hK1085]; exact th_ne ne510 k1070
  have k1099 : K1085 q420 = 35 := by rw [hK1085]; exact th_ne ne525 k1071
  have k1100 : K1085 q546 = 39 := by rw [hK1085]; exact th_ne ne550 k1072
  have k1101 : K1085 q1 = 20 := by rw [hK1085]; exact th_ne ne5 k1073
  have k1102 : K1085 q15 = 4 := by rw [hK1085]; exact th_ne ne19 k1074
  have k1103 : K1085 q44 = 3 := by rw [hK1085]; exact th_ne ne48 k1075
  have k1104 : K1085 q76 = 22 := by rw [hK1085]; exact th_ne ne87 k1076
  have k1105 : K1085 q77 = 24 := by rw [hK1085]; exact th_ne ne93 k1077
  have k1106 : K1085 q78 = 25 := by rw [hK1085]; exact th_ne ne100 k1078
  have k1107 : K1085 q111 = 8 := by rw [hK1085]; exact th_ne ne115 k1079
  have k1108 : K1085 q167 = 42 := by rw [hK1085]; exact th_ne ne178 k1080
  have k1109 : K1085 q168 = 24 := by rw [hK1085]; exact th_ne ne188 k1081
  have k1110 : K1085 q169 = 25 := by rw [hK1085]; exact th_ne ne199 k1082
  have k1111 : K1085 q216 = 5 := by rw [hK1085]; exact th_ne ne220 k1083
  have k1112 : K1085 h0 = 7 := by rw [hK1085]; exact th_up
  have hfr : ∀ a ∈ L, a ≠ h0 → F9 a = F a ∧ K1085 a = K a := fun a ha hne => ⟨(hfr a ha hne).1, by rw [hK1085]; exact th_ne hne (hfr a ha hne).2⟩
  have hX : n_X K K1085 := n_Xt hX hX1
  have hKe : K1085 = (va_up (va_up (va_up (va_up (va_up (va_up K917 q44 3) q111 8) q317 2) q412 2) q366 1) h0 7) := by rw [hK1085, hK1057, hK1029, hK1001, hK973, hK945]
  have hz5 : ∀ a, K917 a ≠ 1 ∧ K917 a ≠ 2 ∧ K917 a ≠ 3 ∧ K917 a ≠ 7 ∧ K917 a ≠ 8 := fun a => ⟨fun h9 => hzz a (by rw [h9]; decide), fun h9 => hzz a (by rw [h9]; decide), fun h9 => hzz a (by rw [h9]; decide), fun h9 => hzz a (by rw [h9]; decide), fun h9 => hzz a (by rw [h9]; decide)⟩
  have hUQ : s_UQ K1085 cs' h0 := by rw [hKe]; exact n_uq hz5 c20 c21 c22 (Ne.symm ne437)
  have hPG : s_PG K1085 cs' F9 := n_pg (fun a ha => by rw [hKe] at ha; exact n_uc hz5 ha) o897
  have hRI : s_RI K1085 cs' F9 := n_ri (fun a h9 => by rw [hKe] at h9; rcases n_uu h9 with w | h9; (exact absurd w.2 (by decide)); rcases n_uu h9 with w | h9; (exact absurd w.2 (by decide)); rcases n_uu h9 with w | h9; (exact absurd w.2 (by decide)); rcases n_uu h9 with w | h9; (exact absurd w.2 (by decide)); rcases n_uu h9 with w | h9; (exact absurd w.2 (by decide)); rcases n_uu h9 with w | h9; (exact absurd w.2 (by decide)); exact hu42 a h9) (by rw [hci 5 (by decide)]; exact o910)
  have hRJ : s_RJ K1085 cs' F9 := n_rj (fun a h9 => by rw [hKe] at h9; rcases n_uu h9 with w | h9; (exact absurd w.2 (by decide)); rcases n_uu h9 with w | h9; (exact absurd w.2 (by decide)); rcases n_uu h9 with w | h9; (exact absurd w.2 (by decide)); rcases n_uu h9 with w | h9; (exact absurd w.2 (by decide)); rcases n_uu h9 with w | h9; (exact absurd w.2 (by decide)); rcases n_uu h9 with w | h9; (exact absurd w.2 (by decide)); exact hu22 a h9) (by rw [hci 5 (by decide)]; exact o900)
  have hks : ∀ a, K1085 a = 0 ∨ K1085 a ∈ [1, 2, 3, 4, 5, 6, 7, 8, 20, 21, 22, 23, 24, 25, 26, 27, 28, 29, 30, 31, 32, 33, 34, 35, 36, 37, 38, 39, 42, 43] := fun a => by rw [hKe]; by_cases e9 : a = h0; (right; rw [e9, th_up]; decide); rw [show va_up _ h0 7 a = _ from if_neg e9]; by_cases e9 : a = q366; (right; rw [e9, th_up]; decide); rw [show va_up _ q366 1 a = _ from if_neg e9]; by_cases e9 : a = q412; (right; rw [e9, th_up]; decide); rw [show va_up _ q412 2 a = _ from if_neg e9]; by_cases e9 : a = q317; (right; rw [e9, th_up]; decide); rw [show va_up _ q317 2 a = _ from if_neg e9]; by_cases e9 : a = q111; (right; rw [e9, th_up]; decide); rw [show va_up _ q111 8 a = _ from if_neg e9]; by_cases e9 : a = q44; (right; rw [e9, th_up]; decide); rw [show va_up _ q44 3 a = _ from if_neg e9]; exact (hks a).elim (fun h => Or.inl (h.trans (hK0 a))) (fun h => Or.inr (s_sub (by decide) h))
  exact W.vret hx hb hr (fun t ht hW => ⟨⟨(L9, K1085, F9, cs'), rfl, ⟨hsub, fun a ha hne => ⟨(hfr a ha hne).1, (hfr a ha hne).2.trans (hK0 a)⟩, k1112, hI, hLk, hks, hci, hUQ, hPG, hRI, hRJ, c24, y_fi6 oX⟩, by rw [ht]; exact hP, va_K.moved hW.alike hK, hD⟩, hS.F ht⟩) hS.2.2 dX6_init_150

