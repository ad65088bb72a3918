set_option maxHeartbeats 4000000 in
set_option maxRecDepth 100000 in
theorem y_X7_aCycle (l : Launch) (dC : Nat → ClassId) (dI : Nat → Nat → Nat) (sz : Nat) {L : List Nat} {K : Nat → Nat} {cs : Nat → ClassId} (hLK : ∀ a {k : Nat}, K a = k → k ≠ 0 → a ∈ L) (A : Nat → Nat) (hA : y_A K A) (F : Nat → va_E) (a0 : Nat) (ha0 : K a0 = 9) (hI : y_I K cs A F) (hPG : y_PG (y_at F (A 13))) (hNG : y_NG (y_at F (A 13)) (y_at F (A 20))) : Met l yX7_aCycle (Cond.code yX7_aCycle cX7_aCycle 2 none :: T0) ({ frames := 7, cells := 0, slots := 0, locals := 167 }) (va_Pc [.ref a0] (s_W dC dI sz L F [(cs 0, .int), (cs 1, .byte), (cs 2, .long), (cs 3, .object RX5), (cs 4, .object RX4), (cs 5, .array .int), (cs 6, .char), (cs 7, .boolean)])) (va_Qv (fun (G : Nat → va_E) => True ∧ True ∧ y_I K cs A G ∧ (∀ b, K b ∉ [70, 71, 72] → G b = F b) ∧ (∀ k, k ∈ ([1, 2, 3, 4, 5, 6, 7, 8, 11, 15, 16, 19, 25, 26, 27, 31, 32] : List Nat) → y_fi G a0 k = y_fi F a0 k) ∧ (y_NG (y_at F (A 13)) (y_at G (A 20)) ∧ y_c (y_at G (A 20)) 3 = y_c (y_at F (A 20)) 3 ∧ y_c (y_at G (A 20)) 4 = y_c (y_at F (A 20)) 4)) (fun (G : Nat → va_E) (t : State) => va_P (dC, dI) vwCl (va_pl L G) t.heap ∧ va_K (dC, dI) vwCl [(cs 0, .int), (cs 1, .byte), (cs 2, .long), (cs 3, .object RX5), (cs 4, .object RX4), (cs 5, .array .int), (cs 6, .char), (cs 7, .boolean)] t) (fun q => q ∈ L)) 0 0 (fun q => q ∈ L) := by
  refine Met.ofW (cc := cX7_aCycle) (maxL := 2) (ret := none) (by decide) rfl ?_
  intro p e s m args below meth c s₁ B hml hv
  obtain ⟨rfl, hsz, hP, hK, hD, hN⟩ := hv
  have hx := B.exec
  have hb := B.bytes
  have hr := B.returns
  have hts : ∀ w ∈ T0, w.before _ s = true := fun w h => atoms_spec (ws := Cond.code yX7_aCycle cX7_aCycle 2 none :: T0) B.pre w (List.mem_cons_of_mem _ h)
  have hown : s.vm.findClass RX7 = some m.cls := findClass_of_methodNamed B.named
  have hlocks := B.notSynchronized
  have hS : va_S (fun q => q ∈ L) s.heap s.heap [] := va_S.rf
  have hfr : ∀ b, K b ∉ [70, 71, 72] → F b = F b := fun _ _ => rfl
  have hl := lv_entry ([.ref a0]) (n := 2) (Nat.le_of_ble_eq_true rfl)
  rw [lg_entry_eq]
  generalize (lg_sl ([.ref a0]) ++ List.replicate (2 - (lg_sl ([.ref a0])).length) Slot.unset).toArray = ls at hl ⊢
  have hl : lv_has ls 2 [(0, .ref a0)] := hl
  refine s_gen hP hS (fun H locs hP hS => ?_)
  obtain ⟨z0, q0, oY0, bz0, bq0⟩ := y_opY hI ha0
  have hz0 : ∀ k, k ∈ ([1, 2, 3, 4, 5, 6, 7, 8, 11, 15, 16, 19, 25, 26, 27, 31, 32] : List Nat) → z0 k = z0 k := fun _ _ => rfl
  obtain ⟨f1, o2, b3⟩ := y_op13 hI
  obtain ⟨f4, o5, b6⟩ := y_op20 hI
  replace hPG : y_PG f1 := by have q9 := hPG; rw [y_atE o2] at q9; exact q9
  replace hNG : y_NG f1 f4 := by have q9 := hNG; rw [y_atE o2, y_atE o5] at q9; exact q9
  have hL := y_P0L hPG.1
  have hW := y_P0W hPG.1
  have hnn := And.intro hNG.1 (And.intro hNG.2.1 (And.intro hNG.2.2.1 hNG.2.2.2.1))
  refine lv_aload_n hx hb dX7_aCycle_0 rfl (lv_at hl 0 rfl) ?_
  refine va_calli (va_runV (As := []) (rest := []) ⟨hx, hb, hml, hown, hts⟩ (y_X7_goer l dC dI H.size hLK A hA F a0 ha0 hI (by rw [y_atE o2]; exact hPG) (by rw [y_atE o2, y_atE o5]; exact hNG)) (cwV 0 hts (ax_gV T_981 T_983 T_984 T_265 T_982) rfl rfl rfl (by decide +kernel) ⟨Nat.le_of_ble_eq_true rfl, Nat.le_of_ble_eq_true rfl⟩) ⟨fun a U g mk q => ⟨q.1, s_pc (U := U) rfl rfl q.2⟩, s_recv hK hP (hLK _ ha0 (by decide)) (ci := 7) rfl oY0, fun U hU hW => ⟨rfl, s_pw hU hW hP hK hD hN⟩⟩ rfl rfl hl.1 rfl (lv_room (Nat.le_of_ble_eq_true rfl)) dX7_aCycle_1 ⟨Nat.zero_le _, Nat.zero_le _⟩) hS (fun q _ h => h) (fun q h => h) (fun r8 F9 t H1 locs ht hvm hw hB hz1 hk1 hS => ?_)
  obtain ⟨hP, hK1⟩ := hB
  rw [ht] at hP
  generalize H1 = H at hP hS ⊢
  clear hz1 hk1 hvm hK1
  obtain ⟨h10, h12, hI, hfr1, hzf, h11⟩ := hw
  have o13 : F9 (A 13) = .inl (cs 0, 400, .inl f1) := (hfr1 _ (by rw [(y_k13 hA)]; decide)).trans o2
  have o14 : F9 (A 20) = .inl (cs 0, 918, .inl f4) := (hfr1 _ (by rw [(y_k20 hA)]; decide)).trans o5
  have oY15 : F9 a0 = .inr (7, y_fl A z0 q0) := (hfr1 _ (by rw [ha0]; decide)).trans oY0
  have hfr : ∀ b, K b ∉ [70, 71, 72] → F9 b = F b := fun b hb9 => (hfr1 b (fun q => hb9 (s_sub (by decide) q))).trans (hfr b hb9)
  replace h11 : (r8.toInt = -1 ∨ (0 ≤ r8.toInt ∧ r8.toInt < (y_c f1 384).toInt ∧ y_go f4 r8.toInt)) := by have q9 := h11; rw [y_atE o2, y_atE o5] at q9; exact q9
  refine lv_istore_n (lv' := [(1, .int r8), (0, .ref a0)]) hx hb dX7_aCycle_4 rfl hl (by decide) rfl (fun ls hl => ?_)
  refine lv_iload_n hx hb dX7_aCycle_5 rfl (lv_at hl 0 rfl) ?_
  refine lv_iconst (v := (-1)) hx hb dX7_aCycle_6 (by decide) ?_
  refine lv_icmp_eq (tgt := 15) hx hb dX7_aCycle_7 (by decide) (fun c16 => ?_) (fun c16 => ?_)
  · have c16 := (ax_eq (n := (-1)) (by decide)).mp c16
    refine lv_aload_n hx hb dX7_aCycle_15 rfl (lv_at hl 1 rfl) ?_
    refine va_callv (va_runV (As := []) (rest := []) ⟨hx, hb, hml, hown, hts⟩ (y_X7_opensBar l dC dI H.size hLK A hA F9 a0 ha0 hI (by rw [y_atE o13]; exact hPG) (by rw [y_atE o13, y_atE o14]; exact hNG)) (cwV 0 hts (ax_gV T_989 T_991 T_992 T_265 T_990) rfl rfl rfl (by decide +kernel) ⟨Nat.le_of_ble_eq_true rfl, Nat.le_of_ble_eq_true rfl⟩) ⟨fun a U g mk q => ⟨q.1, s_pc (U := U) rfl rfl q.2⟩, s_recv hK hP (hLK _ ha0 (by decide)) (ci := 7) rfl oY15, fun U hU hW => ⟨rfl, s_pw hU hW hP hK hD hN⟩⟩ rfl rfl hl.1 rfl (lv_room (Nat.le_of_ble_eq_true rfl)) dX7_aCycle_16 ⟨Nat.zero_le _, Nat.zero_le _⟩) hS (fun q _ h => h) (fun q h => h) (fun F18 t H1 locs ht hvm hw hB hz1 hk1 hS => ?_)
    obtain ⟨hP, hK1⟩ := hB
    rw [ht] at hP
    generalize H1 = H at hP hS ⊢
    clear hz1 hk1 hvm hK1
    obtain ⟨h19, h21, hI, hfr1, hzf, h20⟩ := hw
    have o22 : F18 (A 13) = .inl (cs 0, 400, .inl f1) := (hfr1 _ (by rw [(y_k13 hA)]; decide)).trans o13
    have oY23 : F18 a0 = .inr (7, y_fl A z0 q0) := (hfr1 _ (by rw [ha0]; decide)).trans oY15
    have hfr : ∀ b, K b ∉ [70, 71, 72] → F18 b = F b := fun b hb9 => (hfr1 b (fun q => hb9 (s_sub (by decide) q))).trans (hfr b hb9)
    obtain ⟨f24, o25, b26⟩ := y_op20 hI
    replace h20 : (y_NG f1 f24 ∧ y_c f24 3 = y_c f4 3 ∧ y_c f24 4 = y_c f4 4) := by have q9 := h20; rw [y_atE o13, y_atE o25, y_atE o14] at q9; exact q9
    refine lv_aload_n hx hb dX7_aCycle_19 rfl (lv_at hl 1 rfl) ?_
    refine th_get (D := (dC, dI)) (ci := 7) (v := .ref (A 20)) (C := RX7) (T := TX7) (N := 34) hx hb hts inX7 hown hK hP (hLK _ ha0 (by decide)) oY23 rfl 20 (by decide) (hts _ T_251) (fun _ h9 => h9) rfl dX7_aCycle_20 ?_
    refine lv_iconst (v := 0) hx hb dX7_aCycle_23 (by decide) ?_
    refine lv_dup2_11 hx hb dX7_aCycle_24 rfl rfl ?_
    refine th_iald hx hb hK hP (hLK _ (y_k20 hA) (by decide)) 0 o25 rfl (ax_in (by decide)) dX7_aCycle_25 ?_
    refine lv_topi (fun v27 ev27 => ?_)
    refine lv_iconst (v := 1) hx hb dX7_aCycle_26 (by decide) ?_
    refine lv_iadd hx hb dX7_aCycle_27 ?_
    refine lv_topi (fun v28 ev28 => ?_)
    refine th_iast hx hb hK hP hD hS (hLK _ (y_k20 hA) (by decide)) 0 o25 rfl (ax_in (by decide)) dX7_aCycle_28 (fun H locs hP hS => ?_)
    obtain ⟨f29, u30⟩ : ∃ g : Nat → Int32, g = upd f24 (0 : Int32).toNatClampNeg v28 := ⟨_, rfl⟩
    rw [← u30] at hP
    have b31 : y_bd 20 f29 := trivial
    have hP : va_P (dC, dI) vwCl (va_pl L (va_up F18 (A 20) (.inl (cs 0, 918, .inl f29)))) H := hP
    obtain ⟨F32, hF33⟩ : ∃ G : Nat → va_E, G = va_up F18 (A 20) (.inl (cs 0, 918, .inl f29)) := ⟨_, rfl⟩
    rw [← hF33] at hP
    have hI : y_I K cs A F32 := by rw [hF33]; exact y_clA (i := 20) hA hI (by decide) b31
    have hfr : ∀ b, K b ∉ [70, 71, 72] → F32 b = F b := by rw [hF33]; exact s_fr hfr (y_k20 hA) (by decide)
    have o34 : F32 (A 13) = .inl (cs 0, 400, .inl f1) := by rw [hF33]; exact th_ne (th_kd (y_k13 hA) (y_k20 hA) (by decide)) o22
    have oY35 : F32 a0 = .inr (7, y_fl A z0 q0) := by rw [hF33]; exact th_ne (th_kd ha0 (y_k20 hA) (by decide)) oY23
    have o36 : F32 (A 20) = .inl (cs 0, 918, .inl f29) := by rw [hF33]; exact th_up
    have u37 : ∀ j : Int, 0 ≤ j → y_c f29 j = if j = 0 then v28 else y_c f24 j := by rw [u30]; exact y_cu (by decide) (by decide)
    have k38 : y_NG f1 f29 := y_NGe (y_E_u u37 (by omega)) h20.1 (by rw [u37 6 (by omega), if_neg (by omega)]; exact h20.1.2.2.1) (by rw [u37 7 (by omega), if_neg (by omega)]; exact h20.1.2.2.2.1) (by omega)
    have k39x : y_c f29 3 = y_c f4 3 := by rw [u37 3 (by omega), if_neg (by omega)] <;> exact (h20.2.1.trans rfl)
    have k39y : y_c f29 4 = y_c f4 4 := by rw [u37 4 (by omega), if_neg (by omega)] <;> exact (h20.2.2.trans rfl)
    exact W.vret hx hb hr (fun t ht hW => ⟨⟨F32, rfl, ⟨trivial, trivial, hI, hfr, fun k hk => (y_fiZ oY35 (s_sub (by decide) hk)).trans ((hz0 k hk).trans (y_fiZ oY0 (s_sub (by decide) hk)).symm), (by rw [y_atE o2, y_atE o36, y_atE o5]; exact ⟨k38, k39x, k39y⟩)⟩, by rw [ht]; exact hP, va_K.moved hW.alike hK⟩, hS.F ht⟩) hS.2.2 dX7_aCycle_29
  · have c16 := mt (ax_eq (n := (-1)) (by decide)).mpr c16
    refine lv_aload_n hx hb dX7_aCycle_10 rfl (lv_at hl 1 rfl) ?_
    refine lv_iload_n hx hb dX7_aCycle_11 rfl (lv_at hl 0 rfl) ?_
    have h40 : 0 ≤ r8.toInt ∧ r8.toInt ≤ 3 := by have q9 := h11.resolve_left (by omega); exact ⟨by omega, by omega⟩
    have rg41 : 0 ≤ r8.toInt ∧ r8.toInt ≤ 3 := ⟨by omega, by omega⟩
    refine va_callv (va_runV (As := [.int r8]) (rest := []) ⟨hx, hb, hml, hown, hts⟩ (y_X7_goes0 l dC dI H.size hLK A hA F9 a0 r8 ha0 rg41 hI (by rw [y_atE o13]; exact hPG) (by rw [y_atE o13, y_atE o14]; exact hNG) (by first | (rw [y_atE o13]; omega) | rw [y_atE o13]) (by rw [y_atE o14]; exact (h11.resolve_left (by omega)).2.2)) (cwV 1 hts (ax_gV T_985 T_987 T_988 T_265 T_986) rfl rfl rfl (by decide +kernel) ⟨Nat.le_of_ble_eq_true rfl, Nat.le_of_ble_eq_true rfl⟩) ⟨fun a U g mk q => ⟨q.1, s_pc (U := U) rfl rfl q.2⟩, s_recv hK hP (hLK _ ha0 (by decide)) (ci := 7) rfl oY15, fun U hU hW => ⟨rfl, s_pw hU hW hP hK hD hN⟩⟩ rfl rfl hl.1 rfl (lv_room (Nat.le_of_ble_eq_true rfl)) dX7_aCycle_12 ⟨Nat.zero_le _, Nat.zero_le _⟩) hS (fun q _ h => h) (fun q h => h) (fun F43 t H1 locs ht hvm hw hB hz1 hk1 hS => ?_)
    obtain ⟨hP, hK1⟩ := hB
    rw [ht] at hP
    generalize H1 = H at hP hS ⊢
    clear hz1 hk1 hvm hK1
    obtain ⟨h44, h46, hI, hfr1, hzf, h45⟩ := hw
    have o47 : F43 (A 13) = .inl (cs 0, 400, .inl f1) := (hfr1 _ (by rw [(y_k13 hA)]; decide)).trans o13
    have oY48 : F43 a0 = .inr (7, y_fl A z0 q0) := (hfr1 _ (by rw [ha0]; decide)).trans oY15
    have hfr : ∀ b, K b ∉ [70, 71, 72] → F43 b = F b := fun b hb9 => (hfr1 b (fun q => hb9 (s_sub (by decide) q))).trans (hfr b hb9)
    obtain ⟨f49, o50, b51⟩ := y_op20 hI
    replace h45 : (y_NG f1 f49 ∧ y_c f49 3 = y_c f4 3 ∧ y_c f49 4 = y_c f4 4) := by have q9 := h45; rw [y_atE o13, y_atE o50, y_atE o14] at q9; exact q9
    refine lv_aload_n hx hb dX7_aCycle_15 rfl (lv_at hl 1 rfl) ?_
    refine va_callv (va_runV (As := []) (rest := []) ⟨hx, hb, hml, hown, hts⟩ (y_X7_opensBar l dC dI H.size hLK A hA F43 a0 ha0 hI (by rw [y_atE o47]; exact hPG) (by rw [y_atE o47, y_atE o50]; exact h45.1)) (cwV 0 hts (ax_gV T_989 T_991 T_992 T_265 T_990) rfl rfl rfl (by decide +kernel) ⟨Nat.le_of_ble_eq_true rfl, Nat.le_of_ble_eq_true rfl⟩) ⟨fun a U g mk q => ⟨q.1, s_pc (U := U) rfl rfl q.2⟩, s_recv hK hP (hLK _ ha0 (by decide)) (ci := 7) rfl oY48, fun U hU hW => ⟨rfl, s_pw hU hW hP hK hD hN⟩⟩ rfl rfl hl.1 rfl (lv_room (Nat.le_of_ble_eq_true rfl)) dX7_aCycle_16 ⟨Nat.zero_le _, Nat.zero_le _⟩) hS (fun q _ h => h) (fun q h => h) (fun F53 t H1 locs ht hvm hw hB hz1 hk1 hS => ?_)
    obtain ⟨hP, hK1⟩ := hB
    rw [ht] at hP
    generalize H1 = H at hP hS ⊢
    clear hz1 hk1 hvm hK1
    obtain ⟨h54, h56, hI, hfr1, hzf, h55⟩ := hw
    have o57 : F53 (A 13) = .inl (cs 0, 400, .inl f1) := (hfr1 _ (by rw [(y_k13 hA)]; decide)).trans o47
    have oY58 : F53 a0 = .inr (7, y_fl A z0 q0) := (hfr1 _ (by rw [ha0]; decide)).trans oY48
    have hfr : ∀ b, K b ∉ [70, 71, 72] → F53 b = F b := fun b hb9 => (hfr1 b (fun q => hb9 (s_sub (by decide) q))).trans (hfr b hb9)
    obtain ⟨f59, o60, b61⟩ := y_op20 hI
    replace h55 : (y_NG f1 f59 ∧ y_c f59 3 = y_c f49 3 ∧ y_c f59 4 = y_c f49 4) := by have q9 := h55; rw [y_atE o47, y_atE o60, y_atE o50] at q9; exact q9
    refine lv_aload_n hx hb dX7_aCycle_19 rfl (lv_at hl 1 rfl) ?_
    refine th_get (D := (dC, dI)) (ci := 7) (v := .ref (A 20)) (C := RX7) (T := TX7) (N := 34) hx hb hts inX7 hown hK hP (hLK _ ha0 (by decide)) oY58 rfl 20 (by decide) (hts _ T_251) (fun _ h9 => h9) rfl dX7_aCycle_20 ?_
    refine lv_iconst (v := 0) hx hb dX7_aCycle_23 (by decide) ?_
    refine lv_dup2_11 hx hb dX7_aCycle_24 rfl rfl ?_
    refine th_iald hx hb hK hP (hLK _ (y_k20 hA) (by decide)) 0 o60 rfl (ax_in (by decide)) dX7_aCycle_25 ?_
    refine lv_topi (fun v62 ev62 => ?_)
    refine lv_iconst (v := 1) hx hb dX7_aCycle_26 (by decide) ?_
    refine lv_iadd hx hb dX7_aCycle_27 ?_
    refine lv_topi (fun v63 ev63 => ?_)
    refine th_iast hx hb hK hP hD hS (hLK _ (y_k20 hA) (by decide)) 0 o60 rfl (ax_in (by decide)) dX7_aCycle_28 (fun H locs hP hS => ?_)
    obtain ⟨f64, u65⟩ : ∃ g : Nat → Int32, g = upd f59 (0 : Int32).toNatClampNeg v63 := ⟨_, rfl⟩
    rw [← u65] at hP
    have b66 : y_bd 20 f64 := trivial
    have hP : va_P (dC, dI) vwCl (va_pl L (va_up F53 (A 20) (.inl (cs 0, 918, .inl f64)))) H := hP
    obtain ⟨F67, hF68⟩ : ∃ G : Nat → va_E, G = va_up F53 (A 20) (.inl (cs 0, 918, .inl f64)) := ⟨_, rfl⟩
    rw [← hF68] at hP
    have hI : y_I K cs A F67 := by rw [hF68]; exact y_clA (i := 20) hA hI (by decide) b66
    have hfr : ∀ b, K b ∉ [70, 71, 72] → F67 b = F b := by rw [hF68]; exact s_fr hfr (y_k20 hA) (by decide)
    have o69 : F67 (A 13) = .inl (cs 0, 400, .inl f1) := by rw [hF68]; exact th_ne (th_kd (y_k13 hA) (y_k20 hA) (by decide)) o57
    have oY70 : F67 a0 = .inr (7, y_fl A z0 q0) := by rw [hF68]; exact th_ne (th_kd ha0 (y_k20 hA) (by decide)) oY58
    have o71 : F67 (A 20) = .inl (cs 0, 918, .inl f64) := by rw [hF68]; exact th_up
    have u72 : ∀ j : Int, 0 ≤ j → y_c f64 j = if j = 0 then v63 else y_c f59 j := by rw [u65]; exact y_cu (by decide) (by decide)
    have k73 : y_NG f1 f64 := y_NGe (y_E_u u72 (by omega)) h55.1 (by rw [u72 6 (by omega), if_neg (by omega)]; exact h55.1.2.2.1) (by rw [u72 7 (by omega), if_neg (by omega)]; exact h55.1.2.2.2.1) (by omega)
    have k74x : y_c f64 3 = y_c f4 3 := by rw [u72 3 (by omega), if_neg (by omega)] <;> exact (h55.2.1.trans (h45.2.1.trans rfl))
    have k74y : y_c f64 4 = y_c f4 4 := by rw [u72 4 (by omega), if_neg (by omega)] <;> exact (h55.2.2.trans (h45.2.2.trans rfl))
    exact W.vret hx hb hr (fun t ht hW => ⟨⟨F67, rfl, ⟨trivial, trivial, hI, hfr, fun k hk => (y_fiZ oY70 (s_sub (by decide) hk)).trans ((hz0 k hk).trans (y_fiZ oY0 (s_sub (by decide) hk)).symm), (by rw [y_atE o2, y_atE o71, y_atE o5]; exact ⟨k73, k74x, k74y⟩)⟩, by rw [ht]; exact hP, va_K.moved hW.alike hK⟩, hS.F ht⟩) hS.2.2 dX7_aCycle_29
