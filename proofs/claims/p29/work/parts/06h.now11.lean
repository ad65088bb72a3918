set_option maxHeartbeats 4000000 in
set_option maxRecDepth 100000 in
theorem y_X7_aCycle (l : Launch) (dC : Nat → ClassId) (dI : Nat → Nat → Nat) (sz : Nat) {L : List Nat} {K : Nat → Nat} {cs : Nat → ClassId} (hLK : ∀ a {k : Nat}, K a = k → k ≠ 0 → a ∈ L) (A : Nat → Nat) (hA : y_A K A) (F : Nat → va_E) (a0 : Nat) (ha0 : K a0 = 9) (hI : y_I K cs A F) (hPG : y_PG (y_at F (A 13))) (hNG : y_NG (y_at F (A 13)) (y_at F (A 20))) : Met l yX7_aCycle (Cond.code yX7_aCycle cX7_aCycle 2 none :: T0) ({ frames := 7, cells := 0, slots := 0, locals := 167 }) (va_Pc [.ref a0] (s_W dC dI sz L F [(cs 0, .int), (cs 1, .byte), (cs 2, .long), (cs 3, .object RX5), (cs 4, .object RX4), (cs 5, .array .int), (cs 6, .char), (cs 7, .boolean)])) (va_Qv (fun (G : Nat → va_E) => True ∧ True ∧ y_I K cs A G ∧ (∀ b, K b ∉ [70, 71, 72] → G b = F b) ∧ (∀ k, k ∈ ([1, 2, 3, 4, 5, 6, 7, 8, 11, 15, 16, 19, 25, 26, 27, 31, 32] : List Nat) → y_fi G a0 k = y_fi F a0 k) ∧ (y_NG (y_at F (A 13)) (y_at G (A 20)) ∧ y_c (y_at G (A 20)) 3 = y_c (y_at F (A 20)) 3 ∧ y_c (y_at G (A 20)) 4 = y_c (y_at F (A 20)) 4)) (fun (G : Nat → va_E) (t : State) => va_P (dC, dI) vwCl (va_pl L G) t.heap ∧ va_K (dC, dI) vwCl [(cs 0, .int), (cs 1, .byte), (cs 2, .long), (cs 3, .object RX5), (cs 4, .object RX4), (cs 5, .array .int), (cs 6, .char), (cs 7, .boolean)] t) (fun q => q ∈ L)) 0 0 (fun q => q ∈ L) := by
  refine Met.ofW (cc := cX7_aCycle) (maxL := 2) (ret := none) (by decide) rfl ?_
  intro p e s m args below meth c s₁ B hml hv
  obtain ⟨rfl, hsz, hP, hK, hD, hN⟩ := hv
  have hx := B.exec
  have hb := B.bytes
  have hr := B.returns
  have hts : ∀ w ∈ T0, w.before _ s = true := fun w h => atoms_spec (ws := Cond.code yX7_aCycle cX7_aCycle 2 none :: T0) B.pre w (List.mem_cons_of_mem _ h)
  have hown : s.vm.findClass RX7 = some m.cls := findClass_of_methodNamed B.named
  have hlocks := B.notSynchronized
  have hS : va_S (fun q => q ∈ L) s.heap s.heap [] := va_S.rf
  have hfr : ∀ b, K b ∉ [70, 71, 72] → F b = F b := fun _ _ => rfl
  have hl := lv_entry ([.ref a0]) (n := 2) (Nat.le_of_ble_eq_true rfl)
  rw [lg_entry_eq]
  generalize (lg_sl ([.ref a0]) ++ List.replicate (2 - (lg_sl ([.ref a0])).length) Slot.unset).toArray = ls at hl ⊢
  have hl : lv_has ls 2 [(0, .ref a0)] := hl
  refine s_gen hP hS (fun H locs hP hS => ?_)
  obtain ⟨z0, q0, oY0, bz0, bq0⟩ := y_opY hI ha0
  have hz0 : ∀ k, k ∈ ([1, 2, 3, 4, 5, 6, 7, 8, 11, 15, 16, 19, 25, 26, 27, 31, 32] : List Nat) → z0 k = z0 k := fun _ _ => rfl
  obtain ⟨f1, o2, b3⟩ := y_op13 hI
  obtain ⟨f4, o5, b6⟩ := y_op20 hI
  have hPG : y_PG f1 := by have q9 := hPG; rw [y_atE o2] at q9; exact q9
  have hNG : y_NG f1 f4 := by have q9 := hNG; rw [y_atE o2, y_atE o5] at q9; exact q9
  have hL := y_P0L hPG.1
  have hW := y_P0W hPG.1
  have hnn := And.intro hNG.1 (And.intro hNG.2.1 (And.intro hNG.2.2.1 hNG.2.2.2.1))
  refine lv_aload_n hx hb dX7_aCycle_0 rfl (lv_at hl 0 rfl) ?_
  refine va_calli (va_runV (As := []) (rest := []) ⟨hx, hb, hml, hown, hts⟩ (y_X7_goer l dC dI H.size hLK A hA F a0 ha0 hI (by rw [y_atE o2]; exact hPG) (by rw [y_atE o2, y_atE o5]; exact hNG)) (cwV 0 hts (ax_gV T_981 T_983 T_984 T_265 T_982) rfl rfl rfl (by decide +kernel) ⟨Nat.le_of_ble_eq_true rfl, Nat.le_of_ble_eq_true rfl⟩) ⟨fun a U g mk q => ⟨q.1, s_pc rfl rfl q.2⟩, s_recv hK hP (hLK _ ha0 (by decide)) (ci := 7) rfl oY0, fun U hU hW => ⟨rfl, s_pw hU hW hP hK hD hN⟩⟩ rfl rfl hl.1 rfl (lv_room (Nat.le_of_ble_eq_true rfl)) dX7_aCycle_1 ⟨Nat.zero_le _, Nat.zero_le _⟩) hS (fun q _ h => h) (fun q h => h) (fun r8 F9 t H1 locs ht hvm hw hB hz1 hk1 hS => ?_)
  obtain ⟨hP, hK1⟩ := hB
  rw [ht] at hP
  generalize H1 = H at hP hS ⊢
  obtain ⟨h10, h12, hI, hfr1, hzf, h11⟩ := hw
  have o13 : F9 (A 13) = .inl (cs 0, 400, .inl f1) := (hfr1 _ (by rw [(y_k13 hA)]; decide)).trans o2
  have o14 : F9 (A 20) = .inl (cs 0, 918, .inl f4) := (hfr1 _ (by rw [(y_k20 hA)]; decide)).trans o5
  have oY15 : F9 a0 = .inr (7, y_fl A z0 q0) := (hfr1 _ (by rw [ha0]; decide)).trans oY0
  have hfr : ∀ b, K b ∉ [70, 71, 72] → F9 b = F b := fun b hb9 => (hfr1 b (fun q => hb9 (s_sub (by decide) q))).trans (hfr b hb9)
  have h11 : (r8.toInt = -1 ∨ (0 ≤ r8.toInt ∧ r8.toInt < (y_c f1 384).toInt ∧ y_go f4 r8.toInt)) := by have q9 := h11; rw [y_atE o2, y_atE o5] at q9; exact q9
  refine lv_istore_n (lv' := [(1, .int r8), (0, .ref a0)]) hx hb dX7_aCycle_4 rfl hl (by decide) rfl (fun ls hl => ?_)
  refine lv_iload_n hx hb dX7_aCycle_5 rfl (lv_at hl 0 rfl) ?_
  refine lv_iconst (v := (-1)) hx hb dX7_aCycle_6 (by decide) ?_
  refine lv_icmp_eq (tgt := 15) hx hb dX7_aCycle_7 (by decide) (fun c16 => ?_) (fun c16 => ?_)
  · have c16 := (ax_eq (n := (-1)) (by decide)).mp c16
    refine lv_aload_n hx hb dX7_aCycle_15 rfl (lv_at hl 1 rfl) ?_
    refine va_callv (va_runV (As := []) (rest := []) ⟨hx, hb, hml, hown, hts⟩ (y_X7_opensBar l dC dI H.size hLK A hA F9 a0 ha0 hI (by rw [y_atE o13]; exact hPG) (by rw [y_atE o13, y_atE o14]; exact hNG)) (cwV 0 hts (ax_gV T_989 T_991 T_992 T_265 T_990) rfl rfl rfl (by decide +kernel) ⟨Nat.le_of_ble_eq_true rfl, Nat.le_of_ble_eq_true rfl⟩) ⟨fun a U g mk q => ⟨q.1, s_pc rfl rfl q.2⟩, s_recv hK hP (hLK _ ha0 (by decide)) (ci := 7) rfl oY15, fun U hU hW => ⟨rfl, s_pw hU hW hP hK hD hN⟩⟩ rfl rfl hl.1 rfl (lv_room (Nat.le_of_ble_eq_true rfl)) dX7_aCycle_16 ⟨Nat.zero_le _, Nat.zero_le _⟩) hS (fun q _ h => h) (fun q h => h) (fun F18 t H1 locs ht hvm hw hB hz1 hk1 hS => ?_)
    obtain ⟨hP, hK1⟩ := hB
    rw [ht] at hP
    generalize H1 = H at hP hS ⊢
    obtain ⟨h19, h21, hI, hfr1, hzf, h20⟩ := hw
    have o22 : F18 (A 13) = .inl (cs 0, 400, .inl f1) := (hfr1 _ (by rw [(y_k13 hA)]; decide)).trans o13
    have oY23 : F18 a0 = .inr (7, y_fl A z0 q0) := (hfr1 _ (by rw [ha0]; decide)).trans oY15
    have hfr : ∀ b, K b ∉ [70, 71, 72] → F18 b = F b := fun b hb9 => (hfr1 b (fun q => hb9 (s_sub (by decide) q))).trans (hfr b hb9)
    obtain ⟨f24, o25, b26⟩ := y_op20 hI
    have h20 : (y_NG f1 f24 ∧ y_c f24 3 = y_c f4 3 ∧ y_c f24 4 = y_c f4 4) := by have q9 := h20; rw [y_atE o13, y_atE o25, y_atE o14] at q9; exact q9
    refine lv_aload_n hx hb dX7_aCycle_19 rfl (lv_at hl 1 rfl) ?_
    refine th_get (D := (dC, dI)) (ci := 7) (v := .ref (A 20)) (C := RX7) (T := TX7) (N := 34) hx hb hts inX7 hown hK hP (hLK _ ha0 (by decide)) oY23 rfl 20 (by decide) (hts _ T_251) (fun _ h9 => h9) rfl dX7_aCycle_20 ?_
    refine lv_iconst (v := 0) hx hb dX7_aCycle_23 (by decide) ?_
    refine lv_dup2_11 hx hb dX7_aCycle_24 rfl rfl ?_
    refine th_iald hx hb hK hP (hLK _ (y_k20 hA) (by decide)) 0 o25 rfl (ax_in (by decide)) dX7_aCycle_25 ?_
    refine lv_topi (fun v27 ev27 => ?_)
    refine lv_iconst (v := 1) hx hb dX7_aCycle_26 (by decide) ?_
    refine lv_iadd hx hb dX7_aCycle_27 ?_
    refine lv_topi (fun v28 ev28 => ?_)
    refine th_iast hx hb hK hP hD hS (hLK _ (y_k20 hA) (by decide)) 0 o25 rfl (ax_in (by decide)) dX7_aCycle_28 (fun H locs hP hS => ?_)
    obtain ⟨f29, u30⟩ : ∃ g : Nat → Int32, g = upd f24 (0 : Int32).toNatClampNeg v28 := ⟨_, rfl⟩
    rw [← u30] at hP
    have b31 : y_bd 20 f29 := trivial
    have hP : va_P (dC, dI) vwCl (va_pl L (va_up F18 (A 20) (.inl (cs 0, 918, .inl f29)))) H := hP
    obtain ⟨F32, hF33⟩ : ∃ G : Nat → va_E, G = va_up F18 (A 20) (.inl (cs 0, 918, .inl f29)) := ⟨_, rfl⟩
    rw [← hF33] at hP
    have hI : y_I K cs A F32 := by rw [hF33]; exact y_clA (i := 20) hA hI (by decide) b31
    have hfr : ∀ b, K b ∉ [70, 71, 72] → F32 b = F b := by rw [hF33]; exact s_fr hfr (y_k20 hA) (by decide)
    have o34 : F32 (A 13) = .inl (cs 0, 400, .inl f1) := by rw [hF33]; exact th_ne (th_kd (y_k13 hA) (y_k20 hA) (by decide)) o22
    have oY35 : F32 a0 = .inr (7, y_fl A z0 q0) := by rw [hF33]; exact th_ne (th_kd ha0 (y_k20 hA) (by decide)) oY23
    have o36 : F32 (A 20) = .inl (cs 0, 918, .inl f29) := by rw [hF33]; exact th_up
    have u37 : ∀ j : Int, 0 ≤ j → y_c f29 j = if j = 0 then v28 else y_c f24 j := by rw [u30]; exact y_cu (by decide) (by decide)
    have k38 : y_NG f1 f29 := y_NGe (y_E_u u37 (by omega)) h20.1 (by rw [u37 6 (by omega), if_neg (by omega)]; exact h20.1.2.2.1) (by rw [u37 7 (by omega), if_neg (by omega)]; exact h20.1.2.2.2.1) (by omega)
    have k39x : y_c f29 3 = y_c f4 3 := by rw [u37 3 (by omega), if_neg (by omega)]; exact (h20.2.1.trans rfl)
    have k39y : y_c f29 4 = y_c f4 4 := by rw [u37 4 (by omega), if_neg (by omega)]; exact (h20.2.2.trans rfl)
    exact W.vret hx hb hr (fun t ht hW => ⟨⟨F32, rfl, ⟨trivial, trivial, hI, hfr, fun k hk => (y_fiZ oY35 (s_sub (by decide) hk)).trans ((hz0 k hk).trans (y_fiZ oY0 (s_sub (by decide) hk)).symm), (by rw [y_atE o2, y_atE o36, y_atE o5]; exact ⟨k38, k39x, k39y⟩)⟩, by rw [ht]; exact hP, va_K.moved hW.alike hK⟩, hS.F ht⟩) hS.2.2 dX7_aCycle_29
  · have c16 := mt (ax_eq (n := (-1)) (by decide)).mpr c16
    refine lv_aload_n hx hb dX7_aCycle_10 rfl (lv_at hl 1 rfl) ?_
    refine lv_iload_n hx hb dX7_aCycle_11 rfl (lv_at hl 0 rfl) ?_
    have h40 : 0 ≤ r8.toInt ∧ r8.toInt ≤ 3 := by have q9 := h11.resolve_left (by omega); exact ⟨by omega, by omega⟩
    refine va_callv (va_runV (As := [.int r8]) (rest := []) ⟨hx, hb, hml, hown, hts⟩ (y_X7_goes0 l dC dI H.size hLK A hA F9 a0 r8 ha0 (⟨by omega, by omega⟩) hI (by rw [y_atE o13]; exact hPG) (by rw [y_atE o13, y_atE o14]; exact hNG) (by first | (rw [y_atE o13]; omega) | rw [y_atE o13]) (by rw [y_atE o14]; exact (h11.resolve_left (by omega)).2.2)) (cwV 1 hts (ax_gV T_985 T_987 T_988 T_265 T_986) rfl rfl rfl (by decide +kernel) ⟨Nat.le_of_ble_eq_true rfl, Nat.le_of_ble_eq_true rfl⟩) ⟨fun a U g mk q => ⟨q.1, s_pc rfl rfl q.2⟩, s_recv hK hP (hLK _ ha0 (by decide)) (ci := 7) rfl oY15, fun U hU hW => ⟨rfl, s_pw hU hW hP hK hD hN⟩⟩ rfl rfl hl.1 rfl (lv_room (Nat.le_of_ble_eq_true rfl)) dX7_aCycle_12 ⟨Nat.zero_le _, Nat.zero_le _⟩) hS (fun q _ h => h) (fun q h => h) (fun F42 t H1 locs ht hvm hw hB hz1 hk1 hS => ?_)
    obtain ⟨hP, hK1⟩ := hB
    rw [ht] at hP
    generalize H1 = H at hP hS ⊢
    obtain ⟨h43, h45, hI, hfr1, hzf, h44⟩ := hw
    have o46 : F42 (A 13) = .inl (cs 0, 400, .inl f1) := (hfr1 _ (by rw [(y_k13 hA)]; decide)).trans o13
    have oY47 : F42 a0 = .inr (7, y_fl A z0 q0) := (hfr1 _ (by rw [ha0]; decide)).trans oY15
    have hfr : ∀ b, K b ∉ [70, 71, 72] → F42 b = F b := fun b hb9 => (hfr1 b (fun q => hb9 (s_sub (by decide) q))).trans (hfr b hb9)
    obtain ⟨f48, o49, b50⟩ := y_op20 hI
    have h44 : (y_NG f1 f48 ∧ y_c f48 3 = y_c f4 3 ∧ y_c f48 4 = y_c f4 4) := by have q9 := h44; rw [y_atE o13, y_atE o49, y_atE o14] at q9; exact q9
    refine lv_aload_n hx hb dX7_aCycle_15 rfl (lv_at hl 1 rfl) ?_
    refine va_callv (va_runV (As := []) (rest := []) ⟨hx, hb, hml, hown, hts⟩ (y_X7_opensBar l dC dI H.size hLK A hA F42 a0 ha0 hI (by rw [y_atE o46]; exact hPG) (by rw [y_atE o46, y_atE o49]; exact h44.1)) (cwV 0 hts (ax_gV T_989 T_991 T_992 T_265 T_990) rfl rfl rfl (by decide +kernel) ⟨Nat.le_of_ble_eq_true rfl, Nat.le_of_ble_eq_true rfl⟩) ⟨fun a U g mk q => ⟨q.1, s_pc rfl rfl q.2⟩, s_recv hK hP (hLK _ ha0 (by decide)) (ci := 7) rfl oY47, fun U hU hW => ⟨rfl, s_pw hU hW hP hK hD hN⟩⟩ rfl rfl hl.1 rfl (lv_room (Nat.le_of_ble_eq_true rfl)) dX7_aCycle_16 ⟨Nat.zero_le _, Nat.zero_le _⟩) hS (fun q _ h => h) (fun q h => h) (fun F52 t H1 locs ht hvm hw hB hz1 hk1 hS => ?_)
    obtain ⟨hP, hK1⟩ := hB
    rw [ht] at hP
    generalize H1 = H at hP hS ⊢
    obtain ⟨h53, h55, hI, hfr1, hzf, h54⟩ := hw
    have o56 : F52 (A 13) = .inl (cs 0, 400, .inl f1) := (hfr1 _ (by rw [(y_k13 hA)]; decide)).trans o46
    have oY57 : F52 a0 = .inr (7, y_fl A z0 q0) := (hfr1 _ (by rw [ha0]; decide)).trans oY47
    have hfr : ∀ b, K b ∉ [70, 71, 72] → F52 b = F b := fun b hb9 => (hfr1 b (fun q => hb9 (s_sub (by decide) q))).trans (hfr b hb9)
    obtain ⟨f58, o59, b60⟩ := y_op20 hI
    have h54 : (y_NG f1 f58 ∧ y_c f58 3 = y_c f48 3 ∧ y_c f58 4 = y_c f48 4) := by have q9 := h54; rw [y_atE o46, y_atE o59, y_atE o49] at q9; exact q9
    refine lv_aload_n hx hb dX7_aCycle_19 rfl (lv_at hl 1 rfl) ?_
    refine th_get (D := (dC, dI)) (ci := 7) (v := .ref (A 20)) (C := RX7) (T := TX7) (N := 34) hx hb hts inX7 hown hK hP (hLK _ ha0 (by decide)) oY57 rfl 20 (by decide) (hts _ T_251) (fun _ h9 => h9) rfl dX7_aCycle_20 ?_
    refine lv_iconst (v := 0) hx hb dX7_aCycle_23 (by decide) ?_
    refine lv_dup2_11 hx hb dX7_aCycle_24 rfl rfl ?_
    refine th_iald hx hb hK hP (hLK _ (y_k20 hA) (by decide)) 0 o59 rfl (ax_in (by decide)) dX7_aCycle_25 ?_
    refine lv_topi (fun v61 ev61 => ?_)
    refine lv_iconst (v := 1) hx hb dX7_aCycle_26 (by decide) ?_
    refine lv_iadd hx hb dX7_aCycle_27 ?_
    refine lv_topi (fun v62 ev62 => ?_)
    refine th_iast hx hb hK hP hD hS (hLK _ (y_k20 hA) (by decide)) 0 o59 rfl (ax_in (by decide)) dX7_aCycle_28 (fun H locs hP hS => ?_)
    obtain ⟨f63, u64⟩ : ∃ g : Nat → Int32, g = upd f58 (0 : Int32).toNatClampNeg v62 := ⟨_, rfl⟩
    rw [← u64] at hP
    have b65 : y_bd 20 f63 := trivial
    have hP : va_P (dC, dI) vwCl (va_pl L (va_up F52 (A 20) (.inl (cs 0, 918, .inl f63)))) H := hP
    obtain ⟨F66, hF67⟩ : ∃ G : Nat → va_E, G = va_up F52 (A 20) (.inl (cs 0, 918, .inl f63)) := ⟨_, rfl⟩
    rw [← hF67] at hP
    have hI : y_I K cs A F66 := by rw [hF67]; exact y_clA (i := 20) hA hI (by decide) b65
    have hfr : ∀ b, K b ∉ [70, 71, 72] → F66 b = F b := by rw [hF67]; exact s_fr hfr (y_k20 hA) (by decide)
    have o68 : F66 (A 13) = .inl (cs 0, 400, .inl f1) := by rw [hF67]; exact th_ne (th_kd (y_k13 hA) (y_k20 hA) (by decide)) o56
    have oY69 : F66 a0 = .inr (7, y_fl A z0 q0) := by rw [hF67]; exact th_ne (th_kd ha0 (y_k20 hA) (by decide)) oY57
    have o70 : F66 (A 20) = .inl (cs 0, 918, .inl f63) := by rw [hF67]; exact th_up
    have u71 : ∀ j : Int, 0 ≤ j → y_c f63 j = if j = 0 then v62 else y_c f58 j := by rw [u64]; exact y_cu (by decide) (by decide)
    have k72 : y_NG f1 f63 := y_NGe (y_E_u u71 (by omega)) h54.1 (by rw [u71 6 (by omega), if_neg (by omega)]; exact h54.1.2.2.1) (by rw [u71 7 (by omega), if_neg (by omega)]; exact h54.1.2.2.2.1) (by omega)
    have k73x : y_c f63 3 = y_c f4 3 := by rw [u71 3 (by omega), if_neg (by omega)]; exact (h54.2.1.trans (h44.2.1.trans rfl))
    have k73y : y_c f63 4 = y_c f4 4 := by rw [u71 4 (by omega), if_neg (by omega)]; exact (h54.2.2.trans (h44.2.2.trans rfl))
    exact W.vret hx hb hr (fun t ht hW => ⟨⟨F66, rfl, ⟨trivial, trivial, hI, hfr, fun k hk => (y_fiZ oY69 (s_sub (by decide) hk)).trans ((hz0 k hk).trans (y_fiZ oY0 (s_sub (by decide) hk)).symm), (by rw [y_atE o2, y_atE o70, y_atE o5]; exact ⟨k72, k73x, k73y⟩)⟩, by rw [ht]; exact hP, va_K.moved hW.alike hK⟩, hS.F ht⟩) hS.2.2 dX7_aCycle_29
