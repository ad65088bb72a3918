set_option maxHeartbeats 4000000 in
set_option maxRecDepth 100000 in
theorem y_X7_isOver (l : Launch) (dC : Nat → ClassId) (dI : Nat → Nat → Nat) (sz : Nat) {L : List Nat} {K : Nat → Nat} {cs : Nat → ClassId} (hLK : ∀ a {k : Nat}, K a = k → k ≠ 0 → a ∈ L) (A : Nat → Nat) (hA : y_A K A) (F : Nat → va_E) (a0 : Nat) (x1 : Int32) (ha0 : K a0 = 9) (hx1 : 0 ≤ x1.toInt ∧ x1.toInt ≤ 400) (hI : y_I K cs A F) (hPG : y_PG (y_at F (A 13))) (hNG : y_NG (y_at F (A 13)) (y_at F (A 20))) : Met l yX7_isOver (Cond.code yX7_isOver cX7_isOver 3 (some .boolean) :: T0) ({ frames := 5, cells := 0, slots := 0, locals := 110 }) (va_Pc [.ref a0, .int x1] (s_W dC dI sz L F [(cs 0, .int), (cs 1, .byte), (cs 2, .long), (cs 3, .object RX5), (cs 4, .object RX4), (cs 5, .array .int), (cs 6, .char), (cs 7, .boolean)])) (va_Qi (fun (r : Int32) (G : Nat → va_E) => (0 ≤ r.toInt ∧ r.toInt ≤ 1) ∧ True ∧ y_I K cs A G ∧ (∀ b, K b ∉ [9, 74] → G b = F b) ∧ (∀ k, k ∈ ([1, 2, 3, 4, 5, 6, 7, 8, 11, 15, 16, 19, 26, 31, 32] : List Nat) → y_fi G a0 k = y_fi F a0 k) ∧ True) (fun (G : Nat → va_E) (t : State) => va_P (dC, dI) vwCl (va_pl L G) t.heap ∧ va_K (dC, dI) vwCl [(cs 0, .int), (cs 1, .byte), (cs 2, .long), (cs 3, .object RX5), (cs 4, .object RX4), (cs 5, .array .int), (cs 6, .char), (cs 7, .boolean)] t) (fun q => q ∈ L)) 0 0 (fun q => q ∈ L) := by
  refine Met.ofW (cc := cX7_isOver) (maxL := 3) (ret := (some .boolean)) (by decide) rfl ?_
  intro p e s m args below meth c s₁ B hml hv
  obtain ⟨rfl, hsz, hP, hK, hD, hN⟩ := hv
  have hx := B.exec
  have hb := B.bytes
  have hr := B.returns
  have hts : ∀ w ∈ T0, w.before _ s = true := fun w h => atoms_spec (ws := Cond.code yX7_isOver cX7_isOver 3 (some .boolean) :: T0) B.pre w (List.mem_cons_of_mem _ h)
  have hown : s.vm.findClass RX7 = some m.cls := findClass_of_methodNamed B.named
  have hlocks := B.notSynchronized
  have hS : va_S (fun q => q ∈ L) s.heap s.heap [] := va_S.rf
  have hfr : ∀ b, K b ∉ [9, 74] → F b = F b := fun _ _ => rfl
  have hl := lv_entry ([.ref a0, .int x1]) (n := 3) (Nat.le_of_ble_eq_true rfl)
  rw [lg_entry_eq]
  generalize (lg_sl ([.ref a0, .int x1]) ++ List.replicate (3 - (lg_sl ([.ref a0, .int x1])).length) Slot.unset).toArray = ls at hl ⊢
  have hl : lv_has ls 3 [(0, .ref a0), (1, .int x1)] := hl
  refine s_gen hP hS (fun H locs hP hS => ?_)
  obtain ⟨z0, q0, oY0, bz0, bq0⟩ := y_opY hI ha0
  have hz0 : ∀ k, k ∈ ([1, 2, 3, 4, 5, 6, 7, 8, 11, 15, 16, 19, 26, 31, 32] : List Nat) → z0 k = z0 k := fun _ _ => rfl
  obtain ⟨f1, o2, b3⟩ := y_op13 hI
  obtain ⟨f4, o5, b6⟩ := y_op20 hI
  replace hPG : y_PG f1 := by have q9 := hPG; rw [y_atE o2] at q9; exact q9
  replace hNG : y_NG f1 f4 := by have q9 := hNG; rw [y_atE o2, y_atE o5] at q9; exact q9
  have hL := y_P0L hPG.1
  have hW := y_P0W hPG.1
  have hnn := And.intro hNG.1 (And.intro hNG.2.1 (And.intro hNG.2.2.1 hNG.2.2.2.1))
  refine th_join (fun g H locs => ∃ (G : Nat → va_E) (ls : Array Slot) (w7 : Int32), g = F0 m 24 ls [.int w7, .ref a0] ∧ lv_has ls 3 [(0, .ref a0), (1, .int x1)] ∧ va_P (dC, dI) vwCl (va_pl L G) H ∧ va_S (fun q => q ∈ L) s.heap H locs ∧ y_I K cs A G ∧ (∀ b, K b ∉ [9, 74] → G b = F b) ∧ (∀ k, k ∈ ([1, 2, 3, 4, 5, 6, 7, 8, 11, 15, 16, 19, 26, 31, 32] : List Nat) → y_fi G a0 k = z0 k) ∧ (0 ≤ w7.toInt ∧ w7.toInt ≤ 3) ∧ (0 ≤ x1.toInt ∧ x1.toInt ≤ 400)) (fun K24 => ?_) ?_
  · refine lv_aload_n hx hb dX7_isOver_0 rfl (lv_at hl 0 rfl) ?_
    refine lv_aload_n hx hb dX7_isOver_1 rfl (lv_at hl 0 rfl) ?_
    refine va_calli (va_runV (As := []) (rest := [.ref a0]) ⟨hx, hb, hml, hown, hts⟩ (y_X7_isEnded l dC dI H.size hLK A hA F a0 ha0 hI (by rw [y_atE o2]; exact hPG)) (cwV 0 hts (ax_gV T_1102 T_1104 T_1105 T_265 T_1103) rfl rfl rfl (by decide +kernel) ⟨Nat.le_of_ble_eq_true rfl, Nat.le_of_ble_eq_true rfl⟩) ⟨fun a U g mk q => ⟨q.1, s_pc (U := U) rfl rfl q.2⟩, s_recv hK hP (hLK _ ha0 (by decide)) (ci := 7) rfl oY0, fun U hU hW => ⟨rfl, s_pw hU hW hP hK hD hN⟩⟩ rfl rfl hl.1 rfl (lv_room (Nat.le_of_ble_eq_true rfl)) dX7_isOver_2 ⟨Nat.zero_le _, Nat.zero_le _⟩) hS (fun q _ h => h) (fun q h => h) (fun r9 F10 t H1 locs ht hvm hw hB hz1 hk1 hS => ?_)
    obtain ⟨hP, hK1⟩ := hB
    rw [ht] at hP
    generalize H1 = H at hP hS ⊢
    clear hz1 hk1 hvm hK1
    obtain ⟨h11, h13, hI, hfr1, hzf, h12⟩ := hw
    have o14 : F10 (A 13) = .inl (cs 0, 400, .inl f1) := (hfr1 _ (by rw [(y_k13 hA)]; decide)).trans o2
    have o15 : F10 (A 20) = .inl (cs 0, 918, .inl f4) := (hfr1 _ (by rw [(y_k20 hA)]; decide)).trans o5
    have oY16 : F10 a0 = .inr (7, y_fl A z0 q0) := (hfr1 _ (by rw [ha0]; decide)).trans oY0
    have hfr : ∀ b, K b ∉ [9, 74] → F10 b = F b := fun b hb9 => (hfr1 b (fun q => hb9 (s_sub (by decide) q))).trans (hfr b hb9)
    refine lv_if_eq (tgt := 12) hx hb dX7_isOver_5 (by decide) (fun c17 => ?_) (fun c17 => ?_)
    · have c17 := (ax_eq (n := 0) (by decide)).mp c17
      refine lv_aload_n hx hb dX7_isOver_12 rfl (lv_at hl 0 rfl) ?_
      refine va_calli (va_runV (As := []) (rest := [.ref a0]) ⟨hx, hb, hml, hown, hts⟩ (y_X7_isStuck l dC dI H.size hLK A hA F10 a0 ha0 hI (by rw [y_atE o14]; exact hPG) (by rw [y_atE o14, y_atE o15]; exact hNG)) (cwV 0 hts (ax_gV T_1219 T_1221 T_1222 T_265 T_1220) rfl rfl rfl (by decide +kernel) ⟨Nat.le_of_ble_eq_true rfl, Nat.le_of_ble_eq_true rfl⟩) ⟨fun a U g mk q => ⟨q.1, s_pc (U := U) rfl rfl q.2⟩, s_recv hK hP (hLK _ ha0 (by decide)) (ci := 7) rfl oY16, fun U hU hW => ⟨rfl, s_pw hU hW hP hK hD hN⟩⟩ rfl rfl hl.1 rfl (lv_room (Nat.le_of_ble_eq_true rfl)) dX7_isOver_13 ⟨Nat.zero_le _, Nat.zero_le _⟩) hS (fun q _ h => h) (fun q h => h) (fun r19 F20 t H1 locs ht hvm hw hB hz1 hk1 hS => ?_)
      obtain ⟨hP, hK1⟩ := hB
      rw [ht] at hP
      generalize H1 = H at hP hS ⊢
      clear hz1 hk1 hvm hK1
      obtain ⟨h21, h23, hI, hfr1, hzf, h22⟩ := hw
      have o24 : F20 (A 13) = .inl (cs 0, 400, .inl f1) := (hfr1 _ (by rw [(y_k13 hA)]; decide)).trans o14
      have o25 : F20 (A 20) = .inl (cs 0, 918, .inl f4) := (hfr1 _ (by rw [(y_k20 hA)]; decide)).trans o15
      have oY26 : F20 a0 = .inr (7, y_fl A z0 q0) := (hfr1 _ (by rw [ha0]; decide)).trans oY16
      have hfr : ∀ b, K b ∉ [9, 74] → F20 b = F b := fun b hb9 => (hfr1 b (fun q => hb9 (s_sub (by decide) q))).trans (hfr b hb9)
      refine lv_if_eq (tgt := 23) hx hb dX7_isOver_16 (by decide) (fun c27 => ?_) (fun c27 => ?_)
      · have c27 := (ax_eq (n := 0) (by decide)).mp c27
        refine lv_iconst (v := 3) hx hb dX7_isOver_23 (by decide) ?_
        have h28 : (3 : Int32).toInt = 3 := by decide
        exact K24 _ _ _ ⟨F20, _, 3, rfl, lv_sub hl [0, 1] rfl, hP, hS, hI, hfr, (fun k hk => (y_fiZ oY26 (s_sub (by decide) hk)).trans (hz0 k hk)), (by decide), ⟨by omega, by omega⟩⟩
      · have c27 := mt (ax_eq (n := 0) (by decide)).mpr c27
        refine lv_iconst (v := 1) hx hb dX7_isOver_19 (by decide) ?_
        refine lv_goto (tgt := 24) hx hb dX7_isOver_20 (by decide) ?_
        have h29 : (1 : Int32).toInt = 1 := by decide
        exact K24 _ _ _ ⟨F20, _, 1, rfl, lv_sub hl [0, 1] rfl, hP, hS, hI, hfr, (fun k hk => (y_fiZ oY26 (s_sub (by decide) hk)).trans (hz0 k hk)), (by decide), ⟨by omega, by omega⟩⟩
    · have c17 := mt (ax_eq (n := 0) (by decide)).mpr c17
      refine lv_iconst (v := 0) hx hb dX7_isOver_8 (by decide) ?_
      refine lv_goto (tgt := 24) hx hb dX7_isOver_9 (by decide) ?_
      have h30 : (0 : Int32).toInt = 0 := by decide
      exact K24 _ _ _ ⟨F10, _, 0, rfl, lv_sub hl [0, 1] rfl, hP, hS, hI, hfr, (fun k hk => (y_fiZ oY16 (s_sub (by decide) hk)).trans (hz0 k hk)), (by decide), ⟨by omega, by omega⟩⟩
  · intro g H locs hq
    obtain ⟨F33, ls, w7, rfl, hl, hP, hS, hI, hfr, hz0, h31, h32⟩ := hq
    have o34 : F33 (A 13) = .inl (cs 0, 400, .inl f1) := (hfr _ (by rw [(y_k13 hA)]; decide)).trans o2
    have o35 : F33 (A 20) = .inl (cs 0, 918, .inl f4) := (hfr _ (by rw [(y_k20 hA)]; decide)).trans o5
    obtain ⟨z36, q37, oY38, bz39, bq40⟩ := y_opY hI ha0
    have hz0 : ∀ k, k ∈ ([1, 2, 3, 4, 5, 6, 7, 8, 11, 15, 16, 19, 26, 31, 32] : List Nat) → z36 k = z0 k := fun k hk => (y_fiZ oY38 (s_sub (by decide) hk)).symm.trans (hz0 k hk)
    refine th_put (D := (dC, dI)) (ci := 7) (v := .int w7) (ty := .int) (C := RX7) (T := TX7) (N := 34) hx hb hts inX7 tyX7 tyX7_ok nmX7 hown hK hP hD hS (hLK _ ha0 (by decide)) oY38 rfl 25 (by decide) (hts _ T_1223) (fun _ h9 => h9) rfl (by decide +kernel) rfl rfl (Nat.le_of_ble_eq_true rfl) dX7_isOver_24 (fun H locs hP hS => ?_)
    rw [y_fs25] at hP
    obtain ⟨z41, hz42⟩ : ∃ g : Nat → Int32, g = upd z36 25 w7 := ⟨_, rfl⟩
    rw [← hz42] at hP
    have bz43 : y_bY z41 := by rw [hz42]; exact y_bp25 bz39
    have hP : va_P (dC, dI) vwCl (va_pl L (va_up F33 a0 (.inr (7, y_fl A z41 q37)))) H := hP
    obtain ⟨F44, hF45⟩ : ∃ G : Nat → va_E, G = va_up F33 a0 (.inr (7, y_fl A z41 q37)) := ⟨_, rfl⟩
    rw [← hF45] at hP
    have hI : y_I K cs A F44 := by rw [hF45]; exact y_clY hA hI ha0 bz43 bq40
    have hfr : ∀ b, K b ∉ [9, 74] → F44 b = F b := by rw [hF45]; exact s_fr hfr ha0 (by decide)
    have o46 : F44 (A 13) = .inl (cs 0, 400, .inl f1) := by rw [hF45]; exact th_ne (th_kd (y_k13 hA) ha0 (by decide)) o34
    have o47 : F44 (A 20) = .inl (cs 0, 918, .inl f4) := by rw [hF45]; exact th_ne (th_kd (y_k20 hA) ha0 (by decide)) o35
    have oY48 : F44 a0 = .inr (7, y_fl A z41 q37) := by rw [hF45]; exact th_up
    have hz0 : ∀ k, k ∈ ([1, 2, 3, 4, 5, 6, 7, 8, 11, 15, 16, 19, 26, 31, 32] : List Nat) → z41 k = z0 k := fun k hk => by rw [hz42]; exact (y_un (fun q => absurd hk (by rw [q]; decide))).trans (hz0 k hk)
    obtain ⟨v49, ev49⟩ : ∃ y : Int32, y = z41 25 := ⟨_, rfl⟩
    have qv49 : v49.toInt = w7.toInt := by rw [ev49, hz42, y_ue]
    refine lv_aload_n hx hb dX7_isOver_27 rfl (lv_at hl 0 rfl) ?_
    refine th_get (D := (dC, dI)) (ci := 7) (v := .int (z41 25)) (C := RX7) (T := TX7) (N := 34) hx hb hts inX7 hown hK hP (hLK _ ha0 (by decide)) oY48 rfl 25 (by decide) (hts _ T_1223) (fun _ h9 => h9) rfl dX7_isOver_28 ?_
    refine ax_eqi (y := v49) ev49.symm ?_
    refine lv_iconst (v := 3) hx hb dX7_isOver_31 (by decide) ?_
    refine lv_icmp_ge (tgt := 37) hx hb dX7_isOver_32 (by decide) (fun c50 => ?_) (fun c50 => ?_)
    · have c50 := (ax_ge (n := 3) (by decide)).mp c50
      refine lv_aload_n hx hb dX7_isOver_37 rfl (lv_at hl 0 rfl) ?_
      refine lv_iload_n hx hb dX7_isOver_38 rfl (lv_at hl 1 rfl) ?_
      have rg51 : 0 ≤ x1.toInt ∧ x1.toInt ≤ 400 := ⟨by omega, by omega⟩
      refine va_callv (va_runV (As := [.int x1]) (rest := []) ⟨hx, hb, hml, hown, hts⟩ (y_X7_laysState l dC dI H.size hLK A hA F44 a0 x1 ha0 rg51 hI) (cwV 1 hts (ax_gV T_1224 T_1226 T_1227 T_265 T_1225) rfl rfl rfl (by decide +kernel) ⟨Nat.le_of_ble_eq_true rfl, Nat.le_of_ble_eq_true rfl⟩) ⟨fun a U g mk q => ⟨q.1, s_pc (U := U) rfl rfl q.2⟩, s_recv hK hP (hLK _ ha0 (by decide)) (ci := 7) rfl oY48, fun U hU hW => ⟨rfl, s_pw hU hW hP hK hD hN⟩⟩ rfl rfl hl.1 rfl (lv_room (Nat.le_of_ble_eq_true rfl)) dX7_isOver_39 ⟨Nat.zero_le _, Nat.zero_le _⟩) hS (fun q _ h => h) (fun q h => h) (fun F53 t H1 locs ht hvm hw hB hz1 hk1 hS => ?_)
      obtain ⟨hP, hK1⟩ := hB
      rw [ht] at hP
      generalize H1 = H at hP hS ⊢
      clear hz1 hk1 hvm hK1
      obtain ⟨h54, h56, hI, hfr1, hzf, h55⟩ := hw
      have o57 : F53 (A 13) = .inl (cs 0, 400, .inl f1) := (hfr1 _ (by rw [(y_k13 hA)]; decide)).trans o46
      have o58 : F53 (A 20) = .inl (cs 0, 918, .inl f4) := (hfr1 _ (by rw [(y_k20 hA)]; decide)).trans o47
      have oY59 : F53 a0 = .inr (7, y_fl A z41 q37) := (hfr1 _ (by rw [ha0]; decide)).trans oY48
      have hfr : ∀ b, K b ∉ [9, 74] → F53 b = F b := fun b hb9 => (hfr1 b (fun q => hb9 (s_sub (by decide) q))).trans (hfr b hb9)
      refine lv_aload_n hx hb dX7_isOver_42 rfl (lv_at hl 0 rfl) ?_
      refine lv_iload_n hx hb dX7_isOver_43 rfl (lv_at hl 1 rfl) ?_
      refine va_calli (va_runV (As := [.int x1]) (rest := []) ⟨hx, hb, hml, hown, hts⟩ (y_X7_likeOf l dC dI H.size hLK A hA F53 a0 x1 ha0 rg51 hI) (cwV 1 hts (ax_gV T_1228 T_1230 T_1231 T_265 T_1229) rfl rfl rfl (by decide +kernel) ⟨Nat.le_of_ble_eq_true rfl, Nat.le_of_ble_eq_true rfl⟩) ⟨fun a U g mk q => ⟨q.1, s_pc (U := U) rfl rfl q.2⟩, s_recv hK hP (hLK _ ha0 (by decide)) (ci := 7) rfl oY59, fun U hU hW => ⟨rfl, s_pw hU hW hP hK hD hN⟩⟩ rfl rfl hl.1 rfl (lv_room (Nat.le_of_ble_eq_true rfl)) dX7_isOver_44 ⟨Nat.zero_le _, Nat.zero_le _⟩) hS (fun q _ h => h) (fun q h => h) (fun r61 F62 t H1 locs ht hvm hw hB hz1 hk1 hS => ?_)
      obtain ⟨hP, hK1⟩ := hB
      rw [ht] at hP
      generalize H1 = H at hP hS ⊢
      clear hz1 hk1 hvm hK1
      obtain ⟨h63, h65, hI, hfr1, hzf, h64⟩ := hw
      have o66 : F62 (A 13) = .inl (cs 0, 400, .inl f1) := (hfr1 _ (by rw [(y_k13 hA)]; decide)).trans o57
      have o67 : F62 (A 20) = .inl (cs 0, 918, .inl f4) := (hfr1 _ (by rw [(y_k20 hA)]; decide)).trans o58
      have oY68 : F62 a0 = .inr (7, y_fl A z41 q37) := (hfr1 _ (by rw [ha0]; decide)).trans oY59
      have hfr : ∀ b, K b ∉ [9, 74] → F62 b = F b := fun b hb9 => (hfr1 b (fun q => hb9 (s_sub (by decide) q))).trans (hfr b hb9)
      refine lv_istore_n (lv' := [(2, .int r61), (0, .ref a0), (1, .int x1)]) hx hb dX7_isOver_47 rfl hl (by decide) rfl (fun ls hl => ?_)
      refine lv_iload_n hx hb dX7_isOver_48 rfl (lv_at hl 0 rfl) ?_
      refine lv_iconst (v := (-1)) hx hb dX7_isOver_49 (by decide) ?_
      refine lv_icmp_ne (tgt := 55) hx hb dX7_isOver_50 (by decide) (fun c69 => ?_) (fun c69 => ?_)
      · have c69 := mt (ax_eq (n := (-1)) (by decide)).mpr c69
        refine lv_aload_n hx hb dX7_isOver_55 rfl (lv_at hl 1 rfl) ?_
        refine lv_iconst (v := 2) hx hb dX7_isOver_56 (by decide) ?_
        refine th_put (D := (dC, dI)) (ci := 7) (v := .int 2) (ty := .int) (C := RX7) (T := TX7) (N := 34) hx hb hts inX7 tyX7 tyX7_ok nmX7 hown hK hP hD hS (hLK _ ha0 (by decide)) oY68 rfl 25 (by decide) (hts _ T_1223) (fun _ h9 => h9) rfl (by decide +kernel) rfl rfl (Nat.le_of_ble_eq_true rfl) dX7_isOver_57 (fun H locs hP hS => ?_)
        rw [y_fs25] at hP
        obtain ⟨z70, hz71⟩ : ∃ g : Nat → Int32, g = upd z41 25 2 := ⟨_, rfl⟩
        rw [← hz71] at hP
        have bz72 : y_bY z70 := by rw [hz71]; exact y_bp25 bz43
        have hP : va_P (dC, dI) vwCl (va_pl L (va_up F62 a0 (.inr (7, y_fl A z70 q37)))) H := hP
        obtain ⟨F73, hF74⟩ : ∃ G : Nat → va_E, G = va_up F62 a0 (.inr (7, y_fl A z70 q37)) := ⟨_, rfl⟩
        rw [← hF74] at hP
        have hI : y_I K cs A F73 := by rw [hF74]; exact y_clY hA hI ha0 bz72 bq40
        have hfr : ∀ b, K b ∉ [9, 74] → F73 b = F b := by rw [hF74]; exact s_fr hfr ha0 (by decide)
        have o75 : F73 (A 13) = .inl (cs 0, 400, .inl f1) := by rw [hF74]; exact th_ne (th_kd (y_k13 hA) ha0 (by decide)) o66
        have o76 : F73 (A 20) = .inl (cs 0, 918, .inl f4) := by rw [hF74]; exact th_ne (th_kd (y_k20 hA) ha0 (by decide)) o67
        have oY77 : F73 a0 = .inr (7, y_fl A z70 q37) := by rw [hF74]; exact th_up
        have hz0 : ∀ k, k ∈ ([1, 2, 3, 4, 5, 6, 7, 8, 11, 15, 16, 19, 26, 31, 32] : List Nat) → z70 k = z0 k := fun k hk => by rw [hz71]; exact (y_un (fun q => absurd hk (by rw [q]; decide))).trans (hz0 k hk)
        obtain ⟨v78, ev78⟩ : ∃ y : Int32, y = z70 25 := ⟨_, rfl⟩
        have qv78 : v78.toInt = 2 := by rw [ev78, hz71, y_ue]; decide
        refine lv_aload_n hx hb dX7_isOver_60 rfl (lv_at hl 1 rfl) ?_
        refine lv_iload_n hx hb dX7_isOver_61 rfl (lv_at hl 2 rfl) ?_
        refine lv_iload_n hx hb dX7_isOver_62 rfl (lv_at hl 0 rfl) ?_
        refine lv_isub hx hb dX7_isOver_63 ?_
        refine lv_topi (fun v79 ev79 => ?_)
        have qv79 : v79.toInt = x1.toInt - r61.toInt := by rw [ev79]; exact th_sub rfl rfl ⟨by omega, by omega⟩
        refine th_put (D := (dC, dI)) (ci := 7) (v := .int v79) (ty := .int) (C := RX7) (T := TX7) (N := 34) hx hb hts inX7 tyX7 tyX7_ok nmX7 hown hK hP hD hS (hLK _ ha0 (by decide)) oY77 rfl 27 (by decide) (hts _ T_1183) (fun _ h9 => h9) rfl (by decide +kernel) rfl rfl (Nat.le_of_ble_eq_true rfl) dX7_isOver_64 (fun H locs hP hS => ?_)
        rw [y_fs27] at hP
        obtain ⟨z80, hz81⟩ : ∃ g : Nat → Int32, g = upd z70 27 v79 := ⟨_, rfl⟩
        rw [← hz81] at hP
        have bz82 : y_bY z80 := by rw [hz81]; exact y_bp27 bz72
        have hP : va_P (dC, dI) vwCl (va_pl L (va_up F73 a0 (.inr (7, y_fl A z80 q37)))) H := hP
        obtain ⟨F83, hF84⟩ : ∃ G : Nat → va_E, G = va_up F73 a0 (.inr (7, y_fl A z80 q37)) := ⟨_, rfl⟩
        rw [← hF84] at hP
        have hI : y_I K cs A F83 := by rw [hF84]; exact y_clY hA hI ha0 bz82 bq40
        have hfr : ∀ b, K b ∉ [9, 74] → F83 b = F b := by rw [hF84]; exact s_fr hfr ha0 (by decide)
        have o85 : F83 (A 13) = .inl (cs 0, 400, .inl f1) := by rw [hF84]; exact th_ne (th_kd (y_k13 hA) ha0 (by decide)) o75
        have o86 : F83 (A 20) = .inl (cs 0, 918, .inl f4) := by rw [hF84]; exact th_ne (th_kd (y_k20 hA) ha0 (by decide)) o76
        have oY87 : F83 a0 = .inr (7, y_fl A z80 q37) := by rw [hF84]; exact th_up
        have hz0 : ∀ k, k ∈ ([1, 2, 3, 4, 5, 6, 7, 8, 11, 15, 16, 19, 26, 31, 32] : List Nat) → z80 k = z0 k := fun k hk => by rw [hz81]; exact (y_un (fun q => absurd hk (by rw [q]; decide))).trans (hz0 k hk)
        have ev78 : v78 = z80 25 := by rw [hz81]; exact ev78.trans (y_un (by decide)).symm
        obtain ⟨v88, ev88⟩ : ∃ y : Int32, y = z80 27 := ⟨_, rfl⟩
        have qv88 : v88.toInt = v79.toInt := by rw [ev88, hz81, y_ue]
        refine lv_iconst (v := 1) hx hb dX7_isOver_67 (by decide) ?_
        have h89 : (1 : Int32).toInt = 1 := by decide
        exact W.zret (v := 1) (ty := .boolean) hx hb hr (by decide) (fun t ht hW => ⟨⟨1, F83, rfl, ⟨(by decide), trivial, hI, hfr, fun k hk => (y_fiZ oY87 (s_sub (by decide) hk)).trans ((hz0 k hk).trans (y_fiZ oY0 (s_sub (by decide) hk)).symm), trivial⟩, by rw [ht]; exact hP, va_K.moved hW.alike hK⟩, hS.F ht⟩) hS.2.2 dX7_isOver_68
      · have c69 := (ax_eq (n := (-1)) (by decide)).mp c69
        refine lv_iconst (v := 0) hx hb dX7_isOver_53 (by decide) ?_
        have h90 : (0 : Int32).toInt = 0 := by decide
        exact W.zret (v := 0) (ty := .boolean) hx hb hr (by decide) (fun t ht hW => ⟨⟨0, F62, rfl, ⟨(by decide), trivial, hI, hfr, fun k hk => (y_fiZ oY68 (s_sub (by decide) hk)).trans ((hz0 k hk).trans (y_fiZ oY0 (s_sub (by decide) hk)).symm), trivial⟩, by rw [ht]; exact hP, va_K.moved hW.alike hK⟩, hS.F ht⟩) hS.2.2 dX7_isOver_54
    · have c50 := mt (ax_ge (n := 3) (by decide)).mpr c50
      refine lv_iconst (v := 1) hx hb dX7_isOver_35 (by decide) ?_
      have h91 : (1 : Int32).toInt = 1 := by decide
      exact W.zret (v := 1) (ty := .boolean) hx hb hr (by decide) (fun t ht hW => ⟨⟨1, F44, rfl, ⟨(by decide), trivial, hI, hfr, fun k hk => (y_fiZ oY48 (s_sub (by decide) hk)).trans ((hz0 k hk).trans (y_fiZ oY0 (s_sub (by decide) hk)).symm), trivial⟩, by rw [ht]; exact hP, va_K.moved hW.alike hK⟩, hS.F ht⟩) hS.2.2 dX7_isOver_36

set_option maxHeartbeats 4000000 in
set_option maxRecDepth 100000 in
theorem y_X7_goesOn (l : Launch) (dC : Nat → ClassId) (dI : Nat → Nat → Nat) (sz : Nat) {L : List Nat} {K : Nat → Nat} {cs : Nat → ClassId} (hLK : ∀ a {k : Nat}, K a = k → k ≠ 0 → a ∈ L) (A : Nat → Nat) (hA : y_A K A) (F : Nat → va_E) (a0 : Nat) (ha0 : K a0 = 9) (hI : y_I K cs A F) (hPG : y_PG (y_at F (A 13))) (hNG : y_NG (y_at F (A 13)) (y_at F (A 20))) : Met l yX7_goesOn (Cond.code yX7_goesOn cX7_goesOn 1 none :: T0) ({ frames := 8, cells := 0, slots := 0, locals := 188 }) (va_Pc [.ref a0] (s_W dC dI sz L F [(cs 0, .int), (cs 1, .byte), (cs 2, .long), (cs 3, .object RX5), (cs 4, .object RX4), (cs 5, .array .int), (cs 6, .char), (cs 7, .boolean)])) (va_Qv (fun (G : Nat → va_E) => True ∧ True ∧ y_I K cs A G ∧ (∀ b, K b ∉ [9, 70, 71, 72, 74] → G b = F b) ∧ (∀ k, k ∈ ([1, 2, 3, 4, 5, 6, 7, 8, 11, 15, 16, 19, 31, 32] : List Nat) → y_fi G a0 k = y_fi F a0 k) ∧ (y_NG (y_at F (A 13)) (y_at G (A 20)))) (fun (G : Nat → va_E) (t : State) => va_P (dC, dI) vwCl (va_pl L G) t.heap ∧ va_K (dC, dI) vwCl [(cs 0, .int), (cs 1, .byte), (cs 2, .long), (cs 3, .object RX5), (cs 4, .object RX4), (cs 5, .array .int), (cs 6, .char), (cs 7, .boolean)] t) (fun q => q ∈ L)) 0 0 (fun q => q ∈ L) := by
  refine Met.ofW (cc := cX7_goesOn) (maxL := 1) (ret := none) (by decide) rfl ?_
  intro p e s m args below meth c s₁ B hml hv
  obtain ⟨rfl, hsz, hP, hK, hD, hN⟩ := hv
  have hx := B.exec
  have hb := B.bytes
  have hr := B.returns
  have hts : ∀ w ∈ T0, w.before _ s = true := fun w h => atoms_spec (ws := Cond.code yX7_goesOn cX7_goesOn 1 none :: T0) B.pre w (List.mem_cons_of_mem _ h)
  have hown : s.vm.findClass RX7 = some m.cls := findClass_of_methodNamed B.named
  have hlocks := B.notSynchronized
  have hS : va_S (fun q => q ∈ L) s.heap s.heap [] := va_S.rf
  have hfr : ∀ b, K b ∉ [9, 70, 71, 72, 74] → F b = F b := fun _ _ => rfl
  have hl := lv_entry ([.ref a0]) (n := 1) (Nat.le_of_ble_eq_true rfl)
  rw [lg_entry_eq]
  generalize (lg_sl ([.ref a0]) ++ List.replicate (1 - (lg_sl ([.ref a0])).length) Slot.unset).toArray = ls at hl ⊢
  have hl : lv_has ls 1 [(0, .ref a0)] := hl
  refine s_gen hP hS (fun H locs hP hS => ?_)
  obtain ⟨z0, q0, oY0, bz0, bq0⟩ := y_opY hI ha0
  have hz0 : ∀ k, k ∈ ([1, 2, 3, 4, 5, 6, 7, 8, 11, 15, 16, 19, 31, 32] : List Nat) → z0 k = z0 k := fun _ _ => rfl
  obtain ⟨f1, o2, b3⟩ := y_op13 hI
  obtain ⟨f4, o5, b6⟩ := y_op20 hI
  replace hPG : y_PG f1 := by have q9 := hPG; rw [y_atE o2] at q9; exact q9
  replace hNG : y_NG f1 f4 := by have q9 := hNG; rw [y_atE o2, y_atE o5] at q9; exact q9
  have hL := y_P0L hPG.1
  have hW := y_P0W hPG.1
  have hnn := And.intro hNG.1 (And.intro hNG.2.1 (And.intro hNG.2.2.1 hNG.2.2.2.1))
  refine lv_aload_n hx hb dX7_goesOn_0 rfl (lv_at hl 0 rfl) ?_
  refine lv_iconst (v := (-1)) hx hb dX7_goesOn_1 (by decide) ?_
  refine th_put (D := (dC, dI)) (ci := 7) (v := .int (-1)) (ty := .int) (C := RX7) (T := TX7) (N := 34) hx hb hts inX7 tyX7 tyX7_ok nmX7 hown hK hP hD hS (hLK _ ha0 (by decide)) oY0 rfl 27 (by decide) (hts _ T_1183) (fun _ h9 => h9) rfl (by decide +kernel) rfl rfl (Nat.le_of_ble_eq_true rfl) dX7_goesOn_2 (fun H locs hP hS => ?_)
  rw [y_fs27] at hP
  obtain ⟨z7, hz8⟩ : ∃ g : Nat → Int32, g = upd z0 27 (-1) := ⟨_, rfl⟩
  rw [← hz8] at hP
  have bz9 : y_bY z7 := by rw [hz8]; exact y_bp27 bz0
  have hP : va_P (dC, dI) vwCl (va_pl L (va_up F a0 (.inr (7, y_fl A z7 q0)))) H := hP
  obtain ⟨F10, hF11⟩ : ∃ G : Nat → va_E, G = va_up F a0 (.inr (7, y_fl A z7 q0)) := ⟨_, rfl⟩
  rw [← hF11] at hP
  have hI : y_I K cs A F10 := by rw [hF11]; exact y_clY hA hI ha0 bz9 bq0
  have hfr : ∀ b, K b ∉ [9, 70, 71, 72, 74] → F10 b = F b := by rw [hF11]; exact s_fr hfr ha0 (by decide)
  have o12 : F10 (A 13) = .inl (cs 0, 400, .inl f1) := by rw [hF11]; exact th_ne (th_kd (y_k13 hA) ha0 (by decide)) o2
  have o13 : F10 (A 20) = .inl (cs 0, 918, .inl f4) := by rw [hF11]; exact th_ne (th_kd (y_k20 hA) ha0 (by decide)) o5
  have oY14 : F10 a0 = .inr (7, y_fl A z7 q0) := by rw [hF11]; exact th_up
  have hz0 : ∀ k, k ∈ ([1, 2, 3, 4, 5, 6, 7, 8, 11, 15, 16, 19, 31, 32] : List Nat) → z7 k = z0 k := fun k hk => by rw [hz8]; exact (y_un (fun q => absurd hk (by rw [q]; decide))).trans (hz0 k hk)
  obtain ⟨v15, ev15⟩ : ∃ y : Int32, y = z7 27 := ⟨_, rfl⟩
  have qv15 : v15.toInt = (-1) := by rw [ev15, hz8, y_ue]; decide
  refine lv_aload_n hx hb dX7_goesOn_5 rfl (lv_at hl 0 rfl) ?_
  refine lv_iconst (v := 0) hx hb dX7_goesOn_6 (by decide) ?_
  refine th_put (D := (dC, dI)) (ci := 7) (v := .int 0) (ty := .int) (C := RX7) (T := TX7) (N := 34) hx hb hts inX7 tyX7 tyX7_ok nmX7 hown hK hP hD hS (hLK _ ha0 (by decide)) oY14 rfl 26 (by decide) (hts _ T_1184) (fun _ h9 => h9) rfl (by decide +kernel) rfl rfl (Nat.le_of_ble_eq_true rfl) dX7_goesOn_7 (fun H locs hP hS => ?_)
  rw [y_fs26] at hP
  obtain ⟨z16, hz17⟩ : ∃ g : Nat → Int32, g = upd z7 26 0 := ⟨_, rfl⟩
  rw [← hz17] at hP
  have bz18 : y_bY z16 := by rw [hz17]; exact y_bp26 bz9 (by decide)
  have hP : va_P (dC, dI) vwCl (va_pl L (va_up F10 a0 (.inr (7, y_fl A z16 q0)))) H := hP
  obtain ⟨F19, hF20⟩ : ∃ G : Nat → va_E, G = va_up F10 a0 (.inr (7, y_fl A z16 q0)) := ⟨_, rfl⟩
  rw [← hF20] at hP
  have hI : y_I K cs A F19 := by rw [hF20]; exact y_clY hA hI ha0 bz18 bq0
  have hfr : ∀ b, K b ∉ [9, 70, 71, 72, 74] → F19 b = F b := by rw [hF20]; exact s_fr hfr ha0 (by decide)
  have o21 : F19 (A 13) = .inl (cs 0, 400, .inl f1) := by rw [hF20]; exact th_ne (th_kd (y_k13 hA) ha0 (by decide)) o12
  have o22 : F19 (A 20) = .inl (cs 0, 918, .inl f4) := by rw [hF20]; exact th_ne (th_kd (y_k20 hA) ha0 (by decide)) o13
  have oY23 : F19 a0 = .inr (7, y_fl A z16 q0) := by rw [hF20]; exact th_up
  have hz0 : ∀ k, k ∈ ([1, 2, 3, 4, 5, 6, 7, 8, 11, 15, 16, 19, 31, 32] : List Nat) → z16 k = z0 k := fun k hk => by rw [hz17]; exact (y_un (fun q => absurd hk (by rw [q]; decide))).trans (hz0 k hk)
  have ev15 : v15 = z16 27 := by rw [hz17]; exact ev15.trans (y_un (by decide)).symm
  obtain ⟨v24, ev24⟩ : ∃ y : Int32, y = z16 26 := ⟨_, rfl⟩
  have qv24 : v24.toInt = 0 := by rw [ev24, hz17, y_ue]; decide
  refine th_loop (fun n g H locs => ∃ (G : Nat → va_E) (ls : Array Slot), g = F0 m 10 ls [] ∧ lv_has ls 1 [(0, .ref a0)] ∧ va_P (dC, dI) vwCl (va_pl L G) H ∧ va_S (fun q => q ∈ L) s.heap H locs ∧ y_I K cs A G ∧ (∀ b, K b ∉ [9, 70, 71, 72, 74] → G b = F b) ∧ (∀ k, k ∈ ([1, 2, 3, 4, 5, 6, 7, 8, 11, 15, 16, 19, 31, 32] : List Nat) → y_fi G a0 k = z0 k) ∧ (y_NG f1 (y_at G (A 20))) ∧ (0 ≤ (y_fi G a0 26).toInt) ∧ n = (402 - (y_fi G a0 26).toInt).toNat) _ ⟨F19, _, rfl, lv_sub hl [0] rfl, hP, hS, hI, hfr, (fun k hk => (y_fiZ oY23 (s_sub (by decide) hk)).trans (hz0 k hk)), (by rw [y_atE o22]; exact hNG), (by first | (rw [y_fiZ oY23 (k := 26) (by decide), ← ev24]; omega) | rw [y_fiZ oY23 (k := 26) (by decide), ← ev24]), rfl⟩ (fun n ih10 g H locs hq => ?_)
  obtain ⟨F27, ls, rfl, hl, hP, hS, hI, hfr, hz0, h25, h26, hn⟩ := hq
  have o28 : F27 (A 13) = .inl (cs 0, 400, .inl f1) := (hfr _ (by rw [(y_k13 hA)]; decide)).trans o2
  obtain ⟨z29, q30, oY31, bz32, bq33⟩ := y_opY hI ha0
  have hz0 : ∀ k, k ∈ ([1, 2, 3, 4, 5, 6, 7, 8, 11, 15, 16, 19, 31, 32] : List Nat) → z29 k = z0 k := fun k hk => (y_fiZ oY31 (s_sub (by decide) hk)).symm.trans (hz0 k hk)
  obtain ⟨f34, o35, b36⟩ := y_op20 hI
  replace h25 : (y_NG f1 f34) := by have q9 := h25; rw [y_atE o35] at q9; exact q9
  obtain ⟨v37, ev37⟩ : ∃ y : Int32, y = z29 26 := ⟨_, rfl⟩
  have qv37 : -1 ≤ v37.toInt ∧ v37.toInt ≤ 400 := by rw [ev37]; exact y_bY26 bz32
  replace h26 : (0 ≤ v37.toInt) := by have q9 := h26; rw [y_fiZ oY31 (k := 26) (by decide), ← ev37] at q9; exact q9
  replace hn : n = (402 - v37.toInt).toNat := by have q9 := hn; rw [y_fiZ oY31 (k := 26) (by decide), ← ev37] at q9; exact q9
  have hn_37 := hn
  have h38 : (z29 26).toInt = v37.toInt := by rw [ev37]
  refine lv_aload_n hx hb dX7_goesOn_10 rfl (lv_at hl 0 rfl) ?_
  refine lv_aload_n hx hb dX7_goesOn_11 rfl (lv_at hl 0 rfl) ?_
  refine th_get (D := (dC, dI)) (ci := 7) (v := .int (z29 26)) (C := RX7) (T := TX7) (N := 34) hx hb hts inX7 hown hK hP (hLK _ ha0 (by decide)) oY31 rfl 26 (by decide) (hts _ T_1184) (fun _ h9 => h9) rfl dX7_goesOn_12 ?_
  refine ax_eqi (y := v37) ev37.symm ?_
  have h39 : 0 ≤ v37.toInt ∧ v37.toInt ≤ 400 := ⟨by omega, by omega⟩
  have rg40 : 0 ≤ v37.toInt ∧ v37.toInt ≤ 400 := ⟨by omega, by omega⟩
  refine va_calli (va_runV (As := [.int v37]) (rest := []) ⟨hx, hb, hml, hown, hts⟩ (y_X7_isOver l dC dI H.size hLK A hA F27 a0 v37 ha0 rg40 hI (by rw [y_atE o28]; exact hPG) (by rw [y_atE o28, y_atE o35]; exact h25)) (cwV 1 hts (ax_gV T_1185 T_1187 T_1188 T_265 T_1186) rfl rfl rfl (by decide +kernel) ⟨Nat.le_of_ble_eq_true rfl, Nat.le_of_ble_eq_true rfl⟩) ⟨fun a U g mk q => ⟨q.1, s_pc (U := U) rfl rfl q.2⟩, s_recv hK hP (hLK _ ha0 (by decide)) (ci := 7) rfl oY31, fun U hU hW => ⟨rfl, s_pw hU hW hP hK hD hN⟩⟩ rfl rfl hl.1 rfl (lv_room (Nat.le_of_ble_eq_true rfl)) dX7_goesOn_15 ⟨Nat.zero_le _, Nat.zero_le _⟩) hS (fun q _ h => h) (fun q h => h) (fun r42 F43 t H1 locs ht hvm hw hB hz1 hk1 hS => ?_)
  obtain ⟨hP, hK1⟩ := hB
  rw [ht] at hP
  generalize H1 = H at hP hS ⊢
  clear hz1 hk1 hvm hK1
  obtain ⟨h44, h46, hI, hfr1, hzf, h45⟩ := hw
  have o47 : F43 (A 13) = .inl (cs 0, 400, .inl f1) := (hfr1 _ (by rw [(y_k13 hA)]; decide)).trans o28
  have o48 : F43 (A 20) = .inl (cs 0, 918, .inl f34) := (hfr1 _ (by rw [(y_k20 hA)]; decide)).trans o35
  obtain ⟨z49, q50, oY51, bz52, bq53⟩ := y_opY hI ha0
  have hzf : ∀ k, k ∈ ([1, 2, 3, 4, 5, 6, 7, 8, 11, 15, 16, 19, 26, 31, 32] : List Nat) → z49 k = z29 k := fun k hk => by have q9 := hzf k hk; rw [y_fiZ oY51 (s_sub (by decide) hk), y_fiZ oY31 (s_sub (by decide) hk)] at q9; exact q9
  have hz0 : ∀ k, k ∈ ([1, 2, 3, 4, 5, 6, 7, 8, 11, 15, 16, 19, 31, 32] : List Nat) → z49 k = z0 k := fun k hk => (hzf k (s_sub (by decide) hk)).trans (hz0 k hk)
  have ev37 : v37 = z49 26 := ev37.trans (hzf 26 (by decide)).symm
  have hfr : ∀ b, K b ∉ [9, 70, 71, 72, 74] → F43 b = F b := fun b hb9 => (hfr1 b (fun q => hb9 (s_sub (by decide) q))).trans (hfr b hb9)
  refine lv_if_ne (tgt := 54) hx hb dX7_goesOn_18 (by decide) (fun c54 => ?_) (fun c54 => ?_)
  · have c54 := mt (ax_eq (n := 0) (by decide)).mpr c54
    exact W.vret hx hb hr (fun t ht hW => ⟨⟨F43, rfl, ⟨trivial, trivial, hI, hfr, fun k hk => (y_fiZ oY51 (s_sub (by decide) hk)).trans ((hz0 k hk).trans (y_fiZ oY0 (s_sub (by decide) hk)).symm), (by rw [y_atE o2, y_atE o48]; exact h25)⟩, by rw [ht]; exact hP, va_K.moved hW.alike hK⟩, hS.F ht⟩) hS.2.2 dX7_goesOn_54
  · have c54 := (ax_eq (n := 0) (by decide)).mp c54
    refine lv_aload_n hx hb dX7_goesOn_21 rfl (lv_at hl 0 rfl) ?_
    refine th_get (D := (dC, dI)) (ci := 7) (v := .int (z49 26)) (C := RX7) (T := TX7) (N := 34) hx hb hts inX7 hown hK hP (hLK _ ha0 (by decide)) oY51 rfl 26 (by decide) (hts _ T_1184) (fun _ h9 => h9) rfl dX7_goesOn_22 ?_
    refine ax_eqi (y := v37) ev37.symm ?_
    refine lv_sipush (v := 400) hx hb dX7_goesOn_25 (by decide) ?_
    refine lv_icmp_ne (tgt := 37) hx hb dX7_goesOn_28 (by decide) (fun c55 => ?_) (fun c55 => ?_)
    · have c55 := mt (ax_eq (n := 400) (by decide)).mpr c55
      refine lv_aload_n hx hb dX7_goesOn_37 rfl (lv_at hl 0 rfl) ?_
      refine va_callv (va_runV (As := []) (rest := []) ⟨hx, hb, hml, hown, hts⟩ (y_X7_aCycle l dC dI H.size hLK A hA F43 a0 ha0 hI (by rw [y_atE o47]; exact hPG) (by rw [y_atE o47, y_atE o48]; exact h25)) (cwV 0 hts (ax_gV T_1070 T_1072 T_1073 T_265 T_1071) rfl rfl rfl (by decide +kernel) ⟨Nat.le_of_ble_eq_true rfl, Nat.le_of_ble_eq_true rfl⟩) ⟨fun a U g mk q => ⟨q.1, s_pc (U := U) rfl rfl q.2⟩, s_recv hK hP (hLK _ ha0 (by decide)) (ci := 7) rfl oY51, fun U hU hW => ⟨rfl, s_pw hU hW hP hK hD hN⟩⟩ rfl rfl hl.1 rfl (lv_room (Nat.le_of_ble_eq_true rfl)) dX7_goesOn_38 ⟨Nat.zero_le _, Nat.zero_le _⟩) hS (fun q _ h => h) (fun q h => h) (fun F57 t H1 locs ht hvm hw hB hz1 hk1 hS => ?_)
      obtain ⟨hP, hK1⟩ := hB
      rw [ht] at hP
      generalize H1 = H at hP hS ⊢
      clear hz1 hk1 hvm hK1
      obtain ⟨h58, h60, hI, hfr1, hzf, h59⟩ := hw
      have o61 : F57 (A 13) = .inl (cs 0, 400, .inl f1) := (hfr1 _ (by rw [(y_k13 hA)]; decide)).trans o47
      have oY62 : F57 a0 = .inr (7, y_fl A z49 q50) := (hfr1 _ (by rw [ha0]; decide)).trans oY51
      have hfr : ∀ b, K b ∉ [9, 70, 71, 72, 74] → F57 b = F b := fun b hb9 => (hfr1 b (fun q => hb9 (s_sub (by decide) q))).trans (hfr b hb9)
      obtain ⟨f63, o64, b65⟩ := y_op20 hI
      replace h59 : (y_NG f1 f63 ∧ y_c f63 3 = y_c f34 3 ∧ y_c f63 4 = y_c f34 4) := by have q9 := h59; rw [y_atE o47, y_atE o64, y_atE o48] at q9; exact q9
      refine lv_aload_n hx hb dX7_goesOn_41 rfl (lv_at hl 0 rfl) ?_
      refine lv_dup hx hb dX7_goesOn_42 rfl ?_
      refine th_get (D := (dC, dI)) (ci := 7) (v := .int (z49 26)) (C := RX7) (T := TX7) (N := 34) hx hb hts inX7 hown hK hP (hLK _ ha0 (by decide)) oY62 rfl 26 (by decide) (hts _ T_1184) (fun _ h9 => h9) rfl dX7_goesOn_43 ?_
      refine ax_eqi (y := v37) ev37.symm ?_
      refine lv_iconst (v := 1) hx hb dX7_goesOn_46 (by decide) ?_
      refine lv_iadd hx hb dX7_goesOn_47 ?_
      refine lv_topi (fun v66 ev66 => ?_)
      have qv66 : v66.toInt = v37.toInt + 1 := by rw [ev66]; exact th_add rfl (by decide) ⟨by omega, by omega⟩
      refine th_put (D := (dC, dI)) (ci := 7) (v := .int v66) (ty := .int) (C := RX7) (T := TX7) (N := 34) hx hb hts inX7 tyX7 tyX7_ok nmX7 hown hK hP hD hS (hLK _ ha0 (by decide)) oY62 rfl 26 (by decide) (hts _ T_1184) (fun _ h9 => h9) rfl (by decide +kernel) rfl rfl (Nat.le_of_ble_eq_true rfl) dX7_goesOn_48 (fun H locs hP hS => ?_)
      rw [y_fs26] at hP
      obtain ⟨z67, hz68⟩ : ∃ g : Nat → Int32, g = upd z49 26 v66 := ⟨_, rfl⟩
      rw [← hz68] at hP
      have bz69 : y_bY z67 := by rw [hz68]; exact y_bp26 bz52 ⟨by omega, by omega⟩
      have hP : va_P (dC, dI) vwCl (va_pl L (va_up F57 a0 (.inr (7, y_fl A z67 q50)))) H := hP
      obtain ⟨F70, hF71⟩ : ∃ G : Nat → va_E, G = va_up F57 a0 (.inr (7, y_fl A z67 q50)) := ⟨_, rfl⟩
      rw [← hF71] at hP
      have hI : y_I K cs A F70 := by rw [hF71]; exact y_clY hA hI ha0 bz69 bq53
      have hfr : ∀ b, K b ∉ [9, 70, 71, 72, 74] → F70 b = F b := by rw [hF71]; exact s_fr hfr ha0 (by decide)
      have o72 : F70 (A 13) = .inl (cs 0, 400, .inl f1) := by rw [hF71]; exact th_ne (th_kd (y_k13 hA) ha0 (by decide)) o61
      have o73 : F70 (A 20) = .inl (cs 0, 918, .inl f63) := by rw [hF71]; exact th_ne (th_kd (y_k20 hA) ha0 (by decide)) o64
      have oY74 : F70 a0 = .inr (7, y_fl A z67 q50) := by rw [hF71]; exact th_up
      have hz0 : ∀ k, k ∈ ([1, 2, 3, 4, 5, 6, 7, 8, 11, 15, 16, 19, 31, 32] : List Nat) → z67 k = z0 k := fun k hk => by rw [hz68]; exact (y_un (fun q => absurd hk (by rw [q]; decide))).trans (hz0 k hk)
      obtain ⟨v75, ev75⟩ : ∃ y : Int32, y = z67 26 := ⟨_, rfl⟩
      have qv75 : v75.toInt = v66.toInt := by rw [ev75, hz68, y_ue]
      refine lv_goto (tgt := 10) hx hb dX7_goesOn_51 (by decide) ?_
      have h76 : (y_fi F70 a0 26).toInt = v75.toInt := by rw [y_fiZ oY74 (k := 26) (by decide), ← ev75]
      exact ih10 _ _ _ _ (by omega) ⟨F70, _, rfl, lv_sub hl [0] rfl, hP, hS, hI, hfr, (fun k hk => (y_fiZ oY74 (s_sub (by decide) hk)).trans (hz0 k hk)), (by rw [y_atE o73]; exact h59.1), (by first | (rw [y_fiZ oY74 (k := 26) (by decide), ← ev75]; omega) | rw [y_fiZ oY74 (k := 26) (by decide), ← ev75]), rfl⟩
    · have c55 := (ax_eq (n := 400) (by decide)).mp c55
      refine lv_aload_n hx hb dX7_goesOn_31 rfl (lv_at hl 0 rfl) ?_
      refine lv_iconst (v := (-1)) hx hb dX7_goesOn_32 (by decide) ?_
      refine th_put (D := (dC, dI)) (ci := 7) (v := .int (-1)) (ty := .int) (C := RX7) (T := TX7) (N := 34) hx hb hts inX7 tyX7 tyX7_ok nmX7 hown hK hP hD hS (hLK _ ha0 (by decide)) oY51 rfl 26 (by decide) (hts _ T_1184) (fun _ h9 => h9) rfl (by decide +kernel) rfl rfl (Nat.le_of_ble_eq_true rfl) dX7_goesOn_33 (fun H locs hP hS => ?_)
      rw [y_fs26] at hP
      obtain ⟨z77, hz78⟩ : ∃ g : Nat → Int32, g = upd z49 26 (-1) := ⟨_, rfl⟩
      rw [← hz78] at hP
      have bz79 : y_bY z77 := by rw [hz78]; exact y_bp26 bz52 (by decide)
      have hP : va_P (dC, dI) vwCl (va_pl L (va_up F43 a0 (.inr (7, y_fl A z77 q50)))) H := hP
      obtain ⟨F80, hF81⟩ : ∃ G : Nat → va_E, G = va_up F43 a0 (.inr (7, y_fl A z77 q50)) := ⟨_, rfl⟩
      rw [← hF81] at hP
      have hI : y_I K cs A F80 := by rw [hF81]; exact y_clY hA hI ha0 bz79 bq53
      have hfr : ∀ b, K b ∉ [9, 70, 71, 72, 74] → F80 b = F b := by rw [hF81]; exact s_fr hfr ha0 (by decide)
      have o82 : F80 (A 13) = .inl (cs 0, 400, .inl f1) := by rw [hF81]; exact th_ne (th_kd (y_k13 hA) ha0 (by decide)) o47
      have o83 : F80 (A 20) = .inl (cs 0, 918, .inl f34) := by rw [hF81]; exact th_ne (th_kd (y_k20 hA) ha0 (by decide)) o48
      have oY84 : F80 a0 = .inr (7, y_fl A z77 q50) := by rw [hF81]; exact th_up
      have hz0 : ∀ k, k ∈ ([1, 2, 3, 4, 5, 6, 7, 8, 11, 15, 16, 19, 31, 32] : List Nat) → z77 k = z0 k := fun k hk => by rw [hz78]; exact (y_un (fun q => absurd hk (by rw [q]; decide))).trans (hz0 k hk)
      obtain ⟨v85, ev85⟩ : ∃ y : Int32, y = z77 26 := ⟨_, rfl⟩
      have qv85 : v85.toInt = (-1) := by rw [ev85, hz78, y_ue]; decide
      exact W.vret hx hb hr (fun t ht hW => ⟨⟨F80, rfl, ⟨trivial, trivial, hI, hfr, fun k hk => (y_fiZ oY84 (s_sub (by decide) hk)).trans ((hz0 k hk).trans (y_fiZ oY0 (s_sub (by decide) hk)).symm), (by rw [y_atE o2, y_atE o83]; exact h25)⟩, by rw [ht]; exact hP, va_K.moved hW.alike hK⟩, hS.F ht⟩) hS.2.2 dX7_goesOn_36

set_option maxHeartbeats 4000000 in
set_option maxRecDepth 100000 in
theorem y_X7_told (l : Launch) (dC : Nat → ClassId) (dI : Nat → Nat → Nat) (sz : Nat) {L : List Nat} {K : Nat → Nat} {cs : Nat → ClassId} (hLK : ∀ a {k : Nat}, K a = k → k ≠ 0 → a ∈ L) (A : Nat → Nat) (hA : y_A K A) (F : Nat → va_E) (a0 : Nat) (x1 : Int32) (ha0 : K a0 = 9) (hI : y_I K cs A F) : Met l yX7_told (Cond.code yX7_told cX7_told 2 (some .int) :: T0) ({ frames := 0, cells := 0, slots := 0, locals := 0 }) (va_Pc [.ref a0, .int x1] (s_W dC dI sz L F [(cs 0, .int), (cs 1, .byte), (cs 2, .long), (cs 3, .object RX5), (cs 4, .object RX4), (cs 5, .array .int), (cs 6, .char), (cs 7, .boolean)])) (va_Qi (fun (r : Int32) (G : Nat → va_E) => True ∧ True ∧ y_I K cs A G ∧ (∀ b, K b ∉ ([] : List Nat) → G b = F b) ∧ (∀ k, k ∈ ([1, 2, 3, 4, 5, 6, 7, 8, 11, 15, 16, 19, 25, 26, 27, 31, 32] : List Nat) → y_fi G a0 k = y_fi F a0 k) ∧ True) (fun (G : Nat → va_E) (t : State) => va_P (dC, dI) vwCl (va_pl L G) t.heap ∧ va_K (dC, dI) vwCl [(cs 0, .int), (cs 1, .byte), (cs 2, .long), (cs 3, .object RX5), (cs 4, .object RX4), (cs 5, .array .int), (cs 6, .char), (cs 7, .boolean)] t) (fun q => q ∈ L)) 0 0 (fun q => q ∈ L) := by
  refine Met.ofW (cc := cX7_told) (maxL := 2) (ret := (some .int)) (by decide) rfl ?_
  intro p e s m args below meth c s₁ B hml hv
  obtain ⟨rfl, hsz, hP, hK, hD, hN⟩ := hv
  have hx := B.exec
  have hb := B.bytes
  have hr := B.returns
  have hts : ∀ w ∈ T0, w.before _ s = true := fun w h => atoms_spec (ws := Cond.code yX7_told cX7_told 2 (some .int) :: T0) B.pre w (List.mem_cons_of_mem _ h)
  have hown : s.vm.findClass RX7 = some m.cls := findClass_of_methodNamed B.named
  have hlocks := B.notSynchronized
  have hS : va_S (fun q => q ∈ L) s.heap s.heap [] := va_S.rf
  have hfr : ∀ b, K b ∉ ([] : List Nat) → F b = F b := fun _ _ => rfl
  have hl := lv_entry ([.ref a0, .int x1]) (n := 2) (Nat.le_of_ble_eq_true rfl)
  rw [lg_entry_eq]
  generalize (lg_sl ([.ref a0, .int x1]) ++ List.replicate (2 - (lg_sl ([.ref a0, .int x1])).length) Slot.unset).toArray = ls at hl ⊢
  have hl : lv_has ls 2 [(0, .ref a0), (1, .int x1)] := hl
  refine s_gen hP hS (fun H locs hP hS => ?_)
  obtain ⟨z0, q0, oY0, bz0, bq0⟩ := y_opY hI ha0
  have hz0 : ∀ k, k ∈ ([1, 2, 3, 4, 5, 6, 7, 8, 11, 15, 16, 19, 25, 26, 27, 31, 32] : List Nat) → z0 k = z0 k := fun _ _ => rfl
  refine lv_iload_n hx hb dX7_told_0 rfl (lv_at hl 1 rfl) ?_
  refine lv_if_ne (tgt := 11) hx hb dX7_told_1 (by decide) (fun c1 => ?_) (fun c1 => ?_)
  · have c1 := mt (ax_eq (n := 0) (by decide)).mpr c1
    refine lv_iload_n hx hb dX7_told_11 rfl (lv_at hl 1 rfl) ?_
    refine lv_iconst (v := 1) hx hb dX7_told_12 (by decide) ?_
    refine lv_icmp_ne (tgt := 23) hx hb dX7_told_13 (by decide) (fun c2 => ?_) (fun c2 => ?_)
    · have c2 := mt (ax_eq (n := 1) (by decide)).mpr c2
      refine lv_aload_n hx hb dX7_told_23 rfl (lv_at hl 0 rfl) ?_
      refine th_get (D := (dC, dI)) (ci := 7) (v := .int (z0 27)) (C := RX7) (T := TX7) (N := 34) hx hb hts inX7 hown hK hP (hLK _ ha0 (by decide)) oY0 rfl 27 (by decide) (hts _ T_1183) (fun _ h9 => h9) rfl dX7_told_24 ?_
      refine lv_topi (fun v3 ev3 => ?_)
      exact W.iret (v := v3) hx hb hr (fun t ht hW => ⟨⟨v3, F, rfl, ⟨trivial, trivial, hI, hfr, fun k hk => (y_fiZ oY0 (s_sub (by decide) hk)).trans ((hz0 k hk).trans (y_fiZ oY0 (s_sub (by decide) hk)).symm), trivial⟩, by rw [ht]; exact hP, va_K.moved hW.alike hK⟩, hS.F ht⟩) hS.2.2 dX7_told_27
    · have c2 := (ax_eq (n := 1) (by decide)).mp c2
      refine lv_aload_n hx hb dX7_told_16 rfl (lv_at hl 0 rfl) ?_
      refine th_get (D := (dC, dI)) (ci := 7) (v := .int (z0 26)) (C := RX7) (T := TX7) (N := 34) hx hb hts inX7 hown hK hP (hLK _ ha0 (by decide)) oY0 rfl 26 (by decide) (hts _ T_1184) (fun _ h9 => h9) rfl dX7_told_17 ?_
      refine lv_topi (fun v4 ev4 => ?_)
      have qv4 : -1 ≤ v4.toInt ∧ v4.toInt ≤ 400 := by rw [ev4]; exact y_bY26 bz0
      refine lv_goto (tgt := 27) hx hb dX7_told_20 (by decide) ?_
      exact W.iret (v := v4) hx hb hr (fun t ht hW => ⟨⟨v4, F, rfl, ⟨trivial, trivial, hI, hfr, fun k hk => (y_fiZ oY0 (s_sub (by decide) hk)).trans ((hz0 k hk).trans (y_fiZ oY0 (s_sub (by decide) hk)).symm), trivial⟩, by rw [ht]; exact hP, va_K.moved hW.alike hK⟩, hS.F ht⟩) hS.2.2 dX7_told_27
  · have c1 := (ax_eq (n := 0) (by decide)).mp c1
    refine lv_aload_n hx hb dX7_told_4 rfl (lv_at hl 0 rfl) ?_
    refine th_get (D := (dC, dI)) (ci := 7) (v := .int (z0 25)) (C := RX7) (T := TX7) (N := 34) hx hb hts inX7 hown hK hP (hLK _ ha0 (by decide)) oY0 rfl 25 (by decide) (hts _ T_1223) (fun _ h9 => h9) rfl dX7_told_5 ?_
    refine lv_topi (fun v5 ev5 => ?_)
    refine lv_goto (tgt := 27) hx hb dX7_told_8 (by decide) ?_
    exact W.iret (v := v5) hx hb hr (fun t ht hW => ⟨⟨v5, F, rfl, ⟨trivial, trivial, hI, hfr, fun k hk => (y_fiZ oY0 (s_sub (by decide) hk)).trans ((hz0 k hk).trans (y_fiZ oY0 (s_sub (by decide) hk)).symm), trivial⟩, by rw [ht]; exact hP, va_K.moved hW.alike hK⟩, hS.F ht⟩) hS.2.2 dX7_told_27

set_option maxHeartbeats 4000000 in
set_option maxRecDepth 100000 in
theorem y_X7_goes (l : Launch) (dC : Nat → ClassId) (dI : Nat → Nat → Nat) (sz : Nat) {L : List Nat} {K : Nat → Nat} {cs : Nat → ClassId} (hLK : ∀ a {k : Nat}, K a = k → k ≠ 0 → a ∈ L) (A : Nat → Nat) (hA : y_A K A) (F : Nat → va_E) (a0 : Nat) (x1 : Int32) (ha0 : K a0 = 9) (hI : y_I K cs A F) (hT : y_T (y_fi F a0 15) (y_at F (A 13)) (y_at F (A 20)) (y_at F (A 30)) (y_fi F a0 31) (y_fi F a0 32)) : Met l yX7_goes (Cond.code yX7_goes cX7_goes 2 (some .int) :: T0) ({ frames := 9, cells := 0, slots := 0, locals := 208 }) (va_Pc [.ref a0, .int x1] (s_W dC dI sz L F [(cs 0, .int), (cs 1, .byte), (cs 2, .long), (cs 3, .object RX5), (cs 4, .object RX4), (cs 5, .array .int), (cs 6, .char), (cs 7, .boolean)])) (va_Qi (fun (r : Int32) (G : Nat → va_E) => True ∧ True ∧ y_I K cs A G ∧ (∀ b, K b ∉ [9, 70, 71, 72, 73, 74] → G b = F b) ∧ (∀ k, k ∈ ([1, 2, 3, 4, 5, 6, 7, 8, 11, 15, 16, 19, 31, 32] : List Nat) → y_fi G a0 k = y_fi F a0 k) ∧ (y_T (y_fi G a0 15) (y_at G (A 13)) (y_at G (A 20)) (y_at G (A 30)) (y_fi G a0 31) (y_fi G a0 32))) (fun (G : Nat → va_E) (t : State) => va_P (dC, dI) vwCl (va_pl L G) t.heap ∧ va_K (dC, dI) vwCl [(cs 0, .int), (cs 1, .byte), (cs 2, .long), (cs 3, .object RX5), (cs 4, .object RX4), (cs 5, .array .int), (cs 6, .char), (cs 7, .boolean)] t) (fun q => q ∈ L)) 0 0 (fun q => q ∈ L) := by
  refine Met.ofW (cc := cX7_goes) (maxL := 2) (ret := (some .int)) (by decide) rfl ?_
  intro p e s m args below meth c s₁ B hml hv
  obtain ⟨rfl, hsz, hP, hK, hD, hN⟩ := hv
  have hx := B.exec
  have hb := B.bytes
  have hr := B.returns
  have hts : ∀ w ∈ T0, w.before _ s = true := fun w h => atoms_spec (ws := Cond.code yX7_goes cX7_goes 2 (some .int) :: T0) B.pre w (List.mem_cons_of_mem _ h)
  have hown : s.vm.findClass RX7 = some m.cls := findClass_of_methodNamed B.named
  have hlocks := B.notSynchronized
  have hS : va_S (fun q => q ∈ L) s.heap s.heap [] := va_S.rf
  have hfr : ∀ b, K b ∉ [9, 70, 71, 72, 73, 74] → F b = F b := fun _ _ => rfl
  have hl := lv_entry ([.ref a0, .int x1]) (n := 2) (Nat.le_of_ble_eq_true rfl)
  rw [lg_entry_eq]
  generalize (lg_sl ([.ref a0, .int x1]) ++ List.replicate (2 - (lg_sl ([.ref a0, .int x1])).length) Slot.unset).toArray = ls at hl ⊢
  have hl : lv_has ls 2 [(0, .ref a0), (1, .int x1)] := hl
  refine s_gen hP hS (fun H locs hP hS => ?_)
  obtain ⟨z0, q0, oY0, bz0, bq0⟩ := y_opY hI ha0
  have hz0 : ∀ k, k ∈ ([1, 2, 3, 4, 5, 6, 7, 8, 11, 15, 16, 19, 31, 32] : List Nat) → z0 k = z0 k := fun _ _ => rfl
  obtain ⟨f1, o2, b3⟩ := y_op13 hI
  obtain ⟨f4, o5, b6⟩ := y_op20 hI
  obtain ⟨f7, o8, b9⟩ := y_op30 hI
  obtain ⟨v10, ev10⟩ : ∃ y : Int32, y = z0 15 := ⟨_, rfl⟩
  have qv10 : 0 ≤ v10.toInt ∧ v10.toInt ≤ 1 := by rw [ev10]; exact y_bY15 bz0
  have eF_15 := ev10
  obtain ⟨v11, ev11⟩ : ∃ y : Int32, y = z0 31 := ⟨_, rfl⟩
  have qv11 : 0 ≤ v11.toInt ∧ v11.toInt ≤ 20 := by rw [ev11]; exact y_bY31 bz0
  have eF_31 := ev11
  obtain ⟨v12, ev12⟩ : ∃ y : Int32, y = z0 32 := ⟨_, rfl⟩
  have qv12 : 0 ≤ v12.toInt ∧ v12.toInt ≤ 19 := by rw [ev12]; exact y_bY32 bz0
  have eF_32 := ev12
  replace hT : y_T v10 f1 f4 f7 v11 v12 := by have q9 := hT; rw [y_fiZ oY0 (k := 15) (by decide), ← ev10, y_atE o2, y_atE o5, y_atE o8, y_fiZ oY0 (k := 31) (by decide), ← ev11, y_fiZ oY0 (k := 32) (by decide), ← ev12] at q9; exact q9
  have e0_v10 := ev10
  have e0_v11 := ev11
  have e0_v12 := ev12
  refine lv_aload_n hx hb dX7_goes_0 rfl (lv_at hl 0 rfl) ?_
  refine th_get (D := (dC, dI)) (ci := 7) (v := .int (z0 15)) (C := RX7) (T := TX7) (N := 34) hx hb hts inX7 hown hK hP (hLK _ ha0 (by decide)) oY0 rfl 15 (by decide) (hts _ T_271) (fun _ h9 => h9) rfl dX7_goes_1 ?_
  refine ax_eqi (y := v10) ev10.symm ?_
  refine lv_if_eq (tgt := 19) hx hb dX7_goes_4 (by decide) (fun c13 => ?_) (fun c13 => ?_)
  · have c13 := (ax_eq (n := 0) (by decide)).mp c13
    refine lv_iconst (v := (-1)) hx hb dX7_goes_19 (by decide) ?_
    have h14 : ((-1) : Int32).toInt = (-1) := by decide
    exact W.iret (v := (-1)) hx hb hr (fun t ht hW => ⟨⟨(-1), F, rfl, ⟨trivial, trivial, hI, hfr, fun k hk => (y_fiZ oY0 (s_sub (by decide) hk)).trans ((hz0 k hk).trans (y_fiZ oY0 (s_sub (by decide) hk)).symm), (by rw [y_fiZ oY0 (k := 15) (by decide), ← ev10, y_atE o2, y_atE o5, y_atE o8, y_fiZ oY0 (k := 31) (by decide), ← ev11, y_fiZ oY0 (k := 32) (by decide), ← ev12]; exact hT)⟩, by rw [ht]; exact hP, va_K.moved hW.alike hK⟩, hS.F ht⟩) hS.2.2 dX7_goes_20
  · have c13 := mt (ax_eq (n := 0) (by decide)).mpr c13
    obtain ⟨htd, hPG, hNG, hUG⟩ := y_TT hT (by omega)
    have hL := y_P0L hPG.1
    have hW := y_P0W hPG.1
    have hnn := And.intro hNG.1 (And.intro hNG.2.1 (And.intro hNG.2.2.1 hNG.2.2.2.1))
    refine lv_iload_n hx hb dX7_goes_7 rfl (lv_at hl 1 rfl) ?_
    refine lv_i2l hx hb dX7_goes_8 rfl ?_
    refine lv_topl (fun v15 ev15 => ?_)
    have qv15 : v15.toInt = x1.toInt := y_i2l ev15
    refine lv_lconst (v := 0) hx hb dX7_goes_9 (by decide) ?_
    refine lv_ldc2 hx hb hown (hts _ T_1040) dX7_goes_10 ?_
    refine va_calli (va_runS (As := [.long v15, .long 0, .long 2]) (rest := []) ⟨hx, hb, hml, hown, hts⟩ (y_X7_isIn l dC dI H.size F v15 0 2) (cwS 3 hts (ax_gS T_267 T_268 T_265 T_21) rfl rfl rfl (by decide +kernel) ⟨Nat.le_of_ble_eq_true rfl, Nat.le_of_ble_eq_true rfl⟩) ⟨fun a U g mk q => ⟨q.1, s_pc (U := U) rfl rfl q.2⟩, fun U hU hW => ⟨rfl, s_pw hU hW hP hK hD hN⟩⟩ rfl rfl hl.1 rfl (lv_room (Nat.le_of_ble_eq_true rfl)) dX7_goes_13 ⟨Nat.zero_le _, Nat.zero_le _⟩) hS (fun q _ h => h) (fun q h => h) (fun r17 F18 t H1 locs ht hvm hw hB hz1 hk1 hS => ?_)
    obtain ⟨hP, hK1⟩ := hB
    rw [ht] at hP
    generalize H1 = H at hP hS ⊢
    clear hz1 hk1 hvm hK1
    obtain ⟨h19, h21, hG9, h20⟩ := hw
    rw [hG9] at hP
    replace h20 : ((r17.toInt = 0 ∧ (v15.toInt < 0 ∨ 2 < v15.toInt)) ∨ (r17.toInt = 1 ∧ 0 ≤ v15.toInt ∧ v15.toInt ≤ 2)) := by have q9 := h20; exact q9
    refine lv_if_ne (tgt := 21) hx hb dX7_goes_16 (by decide) (fun c22 => ?_) (fun c22 => ?_)
    · have c22 := mt (ax_eq (n := 0) (by decide)).mpr c22
      refine lv_aload_n hx hb dX7_goes_21 rfl (lv_at hl 0 rfl) ?_
      refine va_callv (va_runV (As := []) (rest := []) ⟨hx, hb, hml, hown, hts⟩ (y_X7_putsAside l dC dI H.size hLK A hA F a0 ha0 hI) (cwV 0 hts (ax_gV T_1041 T_1043 T_1044 T_265 T_1042) rfl rfl rfl (by decide +kernel) ⟨Nat.le_of_ble_eq_true rfl, Nat.le_of_ble_eq_true rfl⟩) ⟨fun a U g mk q => ⟨q.1, s_pc (U := U) rfl rfl q.2⟩, s_recv hK hP (hLK _ ha0 (by decide)) (ci := 7) rfl oY0, fun U hU hW => ⟨rfl, s_pw hU hW hP hK hD hN⟩⟩ rfl rfl hl.1 rfl (lv_room (Nat.le_of_ble_eq_true rfl)) dX7_goes_22 ⟨Nat.zero_le _, Nat.zero_le _⟩) hS (fun q _ h => h) (fun q h => h) (fun F24 t H1 locs ht hvm hw hB hz1 hk1 hS => ?_)
      obtain ⟨hP, hK1⟩ := hB
      rw [ht] at hP
      generalize H1 = H at hP hS ⊢
      clear hz1 hk1 hvm hK1
      obtain ⟨h25, h27, hI, hfr1, hzf, h26⟩ := hw
      have o28 : F24 (A 13) = .inl (cs 0, 400, .inl f1) := (hfr1 _ (by rw [(y_k13 hA)]; decide)).trans o2
      have o29 : F24 (A 20) = .inl (cs 0, 918, .inl f4) := (hfr1 _ (by rw [(y_k20 hA)]; decide)).trans o5
      have o30 : F24 (A 30) = .inl (cs 0, 18360, .inl f7) := (hfr1 _ (by rw [(y_k30 hA)]; decide)).trans o8
      have oY31 : F24 a0 = .inr (7, y_fl A z0 q0) := (hfr1 _ (by rw [ha0]; decide)).trans oY0
      have hfr : ∀ b, K b ∉ [9, 70, 71, 72, 73, 74] → F24 b = F b := fun b hb9 => (hfr1 b (fun q => hb9 (s_sub (by decide) q))).trans (hfr b hb9)
      obtain ⟨f32, o33, b34⟩ := y_op23 hI
      replace h26 : (y_CP f4 f32) := by have q9 := h26; rw [y_atE o5, y_atE o33] at q9; exact q9
      refine lv_aload_n hx hb dX7_goes_25 rfl (lv_at hl 0 rfl) ?_
      refine va_callv (va_runV (As := []) (rest := []) ⟨hx, hb, hml, hown, hts⟩ (y_X7_goesOn l dC dI H.size hLK A hA F24 a0 ha0 hI (by rw [y_atE o28]; exact hPG) (by rw [y_atE o28, y_atE o29]; exact hNG)) (cwV 0 hts (ax_gV T_1045 T_1047 T_1048 T_265 T_1046) rfl rfl rfl (by decide +kernel) ⟨Nat.le_of_ble_eq_true rfl, Nat.le_of_ble_eq_true rfl⟩) ⟨fun a U g mk q => ⟨q.1, s_pc (U := U) rfl rfl q.2⟩, s_recv hK hP (hLK _ ha0 (by decide)) (ci := 7) rfl oY31, fun U hU hW => ⟨rfl, s_pw hU hW hP hK hD hN⟩⟩ rfl rfl hl.1 rfl (lv_room (Nat.le_of_ble_eq_true rfl)) dX7_goes_26 ⟨Nat.zero_le _, Nat.zero_le _⟩) hS (fun q _ h => h) (fun q h => h) (fun F36 t H1 locs ht hvm hw hB hz1 hk1 hS => ?_)
      obtain ⟨hP, hK1⟩ := hB
      rw [ht] at hP
      generalize H1 = H at hP hS ⊢
      clear hz1 hk1 hvm hK1
      obtain ⟨h37, h39, hI, hfr1, hzf, h38⟩ := hw
      have o40 : F36 (A 13) = .inl (cs 0, 400, .inl f1) := (hfr1 _ (by rw [(y_k13 hA)]; decide)).trans o28
      have o41 : F36 (A 30) = .inl (cs 0, 18360, .inl f7) := (hfr1 _ (by rw [(y_k30 hA)]; decide)).trans o30
      have o42 : F36 (A 23) = .inl (cs 0, 918, .inl f32) := (hfr1 _ (by rw [(y_k23 hA)]; decide)).trans o33
      obtain ⟨z43, q44, oY45, bz46, bq47⟩ := y_opY hI ha0
      have hzf : ∀ k, k ∈ ([1, 2, 3, 4, 5, 6, 7, 8, 11, 15, 16, 19, 31, 32] : List Nat) → z43 k = z0 k := fun k hk => by have q9 := hzf k hk; rw [y_fiZ oY45 (s_sub (by decide) hk), y_fiZ oY31 (s_sub (by decide) hk)] at q9; exact q9
      have hz0 : ∀ k, k ∈ ([1, 2, 3, 4, 5, 6, 7, 8, 11, 15, 16, 19, 31, 32] : List Nat) → z43 k = z0 k := fun k hk => (hzf k (s_sub (by decide) hk)).trans (hz0 k hk)
      have ev10 : v10 = z43 15 := ev10.trans (hzf 15 (by decide)).symm
      have ev11 : v11 = z43 31 := ev11.trans (hzf 31 (by decide)).symm
      have ev12 : v12 = z43 32 := ev12.trans (hzf 32 (by decide)).symm
      have hfr : ∀ b, K b ∉ [9, 70, 71, 72, 73, 74] → F36 b = F b := fun b hb9 => (hfr1 b (fun q => hb9 (s_sub (by decide) q))).trans (hfr b hb9)
      obtain ⟨f48, o49, b50⟩ := y_op20 hI
      replace h38 : (y_NG f1 f48) := by have q9 := h38; rw [y_atE o28, y_atE o49] at q9; exact q9
      refine lv_aload_n hx hb dX7_goes_29 rfl (lv_at hl 0 rfl) ?_
      refine va_callv (va_runV (As := []) (rest := []) ⟨hx, hb, hml, hown, hts⟩ (y_X7_takesBack l dC dI H.size hLK A hA F36 a0 ha0 hI) (cwV 0 hts (ax_gV T_1049 T_1051 T_1052 T_265 T_1050) rfl rfl rfl (by decide +kernel) ⟨Nat.le_of_ble_eq_true rfl, Nat.le_of_ble_eq_true rfl⟩) ⟨fun a U g mk q => ⟨q.1, s_pc (U := U) rfl rfl q.2⟩, s_recv hK hP (hLK _ ha0 (by decide)) (ci := 7) rfl oY45, fun U hU hW => ⟨rfl, s_pw hU hW hP hK hD hN⟩⟩ rfl rfl hl.1 rfl (lv_room (Nat.le_of_ble_eq_true rfl)) dX7_goes_30 ⟨Nat.zero_le _, Nat.zero_le _⟩) hS (fun q _ h => h) (fun q h => h) (fun F52 t H1 locs ht hvm hw hB hz1 hk1 hS => ?_)
      obtain ⟨hP, hK1⟩ := hB
      rw [ht] at hP
      generalize H1 = H at hP hS ⊢
      clear hz1 hk1 hvm hK1
      obtain ⟨h53, h55, hI, hfr1, hzf, h54⟩ := hw
      have o56 : F52 (A 13) = .inl (cs 0, 400, .inl f1) := (hfr1 _ (by rw [(y_k13 hA)]; decide)).trans o40
      have o57 : F52 (A 30) = .inl (cs 0, 18360, .inl f7) := (hfr1 _ (by rw [(y_k30 hA)]; decide)).trans o41
      have o58 : F52 (A 23) = .inl (cs 0, 918, .inl f32) := (hfr1 _ (by rw [(y_k23 hA)]; decide)).trans o42
      have oY59 : F52 a0 = .inr (7, y_fl A z43 q44) := (hfr1 _ (by rw [ha0]; decide)).trans oY45
      have hfr : ∀ b, K b ∉ [9, 70, 71, 72, 73, 74] → F52 b = F b := fun b hb9 => (hfr1 b (fun q => hb9 (s_sub (by decide) q))).trans (hfr b hb9)
      obtain ⟨f60, o61, b62⟩ := y_op20 hI
      replace h54 : (y_CP f32 f60) := by have q9 := h54; rw [y_atE o42, y_atE o61] at q9; exact q9
      refine lv_aload_n hx hb dX7_goes_33 rfl (lv_at hl 0 rfl) ?_
      refine lv_iload_n hx hb dX7_goes_34 rfl (lv_at hl 1 rfl) ?_
      refine va_calli (va_runV (As := [.int x1]) (rest := []) ⟨hx, hb, hml, hown, hts⟩ (y_X7_told l dC dI H.size hLK A hA F52 a0 x1 ha0 hI) (cwV 1 hts (ax_gV T_1053 T_1055 T_1056 T_265 T_1054) rfl rfl rfl (by decide +kernel) ⟨Nat.le_of_ble_eq_true rfl, Nat.le_of_ble_eq_true rfl⟩) ⟨fun a U g mk q => ⟨q.1, s_pc (U := U) rfl rfl q.2⟩, s_recv hK hP (hLK _ ha0 (by decide)) (ci := 7) rfl oY59, fun U hU hW => ⟨rfl, s_pw hU hW hP hK hD hN⟩⟩ rfl rfl hl.1 rfl (lv_room (Nat.le_of_ble_eq_true rfl)) dX7_goes_35 ⟨Nat.zero_le _, Nat.zero_le _⟩) hS (fun q _ h => h) (fun q h => h) (fun r64 F65 t H1 locs ht hvm hw hB hz1 hk1 hS => ?_)
      obtain ⟨hP, hK1⟩ := hB
      rw [ht] at hP
      generalize H1 = H at hP hS ⊢
      clear hz1 hk1 hvm hK1
      obtain ⟨h66, h68, hI, hfr1, hzf, h67⟩ := hw
      have o69 : F65 (A 13) = .inl (cs 0, 400, .inl f1) := (hfr1 _ (by rw [(y_k13 hA)]; decide)).trans o56
      have o70 : F65 (A 30) = .inl (cs 0, 18360, .inl f7) := (hfr1 _ (by rw [(y_k30 hA)]; decide)).trans o57
      have o71 : F65 (A 23) = .inl (cs 0, 918, .inl f32) := (hfr1 _ (by rw [(y_k23 hA)]; decide)).trans o58
      have o72 : F65 (A 20) = .inl (cs 0, 918, .inl f60) := (hfr1 _ (by rw [(y_k20 hA)]; decide)).trans o61
      have oY73 : F65 a0 = .inr (7, y_fl A z43 q44) := (hfr1 _ (by rw [ha0]; decide)).trans oY59
      have hfr : ∀ b, K b ∉ [9, 70, 71, 72, 73, 74] → F65 b = F b := fun b hb9 => (hfr1 b (fun q => hb9 (s_sub (by decide) q))).trans (hfr b hb9)
      exact W.iret (v := r64) hx hb hr (fun t ht hW => ⟨⟨r64, F65, rfl, ⟨trivial, trivial, hI, hfr, fun k hk => (y_fiZ oY73 (s_sub (by decide) hk)).trans ((hz0 k hk).trans (y_fiZ oY0 (s_sub (by decide) hk)).symm), (by rw [y_fiZ oY73 (k := 15) (by decide), ← ev10, y_atE o69, y_atE o72, y_atE o70, y_fiZ oY73 (k := 31) (by decide), ← ev11, y_fiZ oY73 (k := 32) (by decide), ← ev12]; exact (y_Tc (y_CP_t h26 h54) hT))⟩, by rw [ht]; exact hP, va_K.moved hW.alike hK⟩, hS.F ht⟩) hS.2.2 dX7_goes_38
    · have c22 := (ax_eq (n := 0) (by decide)).mp c22
      refine lv_iconst (v := (-1)) hx hb dX7_goes_19 (by decide) ?_
      have h74 : ((-1) : Int32).toInt = (-1) := by decide
      exact W.iret (v := (-1)) hx hb hr (fun t ht hW => ⟨⟨(-1), F, rfl, ⟨trivial, trivial, hI, hfr, fun k hk => (y_fiZ oY0 (s_sub (by decide) hk)).trans ((hz0 k hk).trans (y_fiZ oY0 (s_sub (by decide) hk)).symm), (by rw [y_fiZ oY0 (k := 15) (by decide), ← ev10, y_atE o2, y_atE o5, y_atE o8, y_fiZ oY0 (k := 31) (by decide), ← ev11, y_fiZ oY0 (k := 32) (by decide), ← ev12]; exact hT)⟩, by rw [ht]; exact hP, va_K.moved hW.alike hK⟩, hS.F ht⟩) hS.2.2 dX7_goes_20
