set_option maxHeartbeats 4000000 in
set_option maxRecDepth 100000 in
theorem y_X7_partsWays (l : Launch) (dC : Nat → ClassId) (dI : Nat → Nat → Nat) (sz : Nat) {L : List Nat} {K : Nat → Nat} {cs : Nat → ClassId} (hLK : ∀ a {k : Nat}, K a = k → k ≠ 0 → a ∈ L) (A : Nat → Nat) (hA : y_A K A) (F : Nat → va_E) (a0 : Nat) (x1 : Int32) (x2 : Int32) (x3 : Int32) (ha0 : K a0 = 9) (hx1 : 0 ≤ x1.toInt ∧ x1.toInt ≤ 3) (hx2 : 0 ≤ x2.toInt ∧ x2.toInt ≤ 39) (hI : y_I K cs A F) (hPG : y_PG (y_at F (A 13))) (hln : (x2.toInt < (y_c (y_at F (A 13)) 387).toInt)) (hW0 : y_W0 (y_at F (A 20)) x1.toInt) (hWs : y_Ws (y_c (y_at F (A 13)) 387).toInt (y_at F (A 20)) x1.toInt) (hws3 : (0 < (y_c (y_at F (A 20)) (109 + 6 * x1.toInt)).toInt ∧ y_sub x3 (y_c (y_at F (A 20)) (287 + 48 * x1.toInt + 3 * (y_c (y_at F (A 20)) (109 + 6 * x1.toInt)).toInt)))) (hop : ((y_c (y_at F (A 13)) (8 * x2.toInt)).toInt = 12)) : Met l yX7_partsWays (Cond.code yX7_partsWays cX7_partsWays 7 none :: T0) ({ frames := 4, cells := 0, slots := 0, locals := 92 }) (va_Pc [.ref a0, .int x1, .int x2, .int x3] (s_W dC dI sz L F [(cs 0, .int), (cs 1, .byte), (cs 2, .long), (cs 3, .object RX5), (cs 4, .object RX4), (cs 5, .array .int), (cs 6, .char), (cs 7, .boolean)])) (va_Qv (fun (G : Nat → va_E) => True ∧ True ∧ y_I K cs A G ∧ (∀ b, K b ∉ [70] → G b = F b) ∧ (∀ k, k ∈ ([1, 2, 3, 4, 5, 6, 7, 8, 11, 15, 16, 19, 25, 26, 27, 31, 32] : List Nat) → y_fi G a0 k = y_fi F a0 k) ∧ (y_W0 (y_at G (A 20)) x1.toInt ∧ y_Ws (y_c (y_at F (A 13)) 387).toInt (y_at G (A 20)) x1.toInt ∧ y_fw x1.toInt (y_at F (A 20)) (y_at G (A 20)) ∧ 0 < (y_c (y_at G (A 20)) (109 + 6 * x1.toInt)).toInt)) (fun (G : Nat → va_E) (t : State) => va_P (dC, dI) vwCl (va_pl L G) t.heap ∧ va_K (dC, dI) vwCl [(cs 0, .int), (cs 1, .byte), (cs 2, .long), (cs 3, .object RX5), (cs 4, .object RX4), (cs 5, .array .int), (cs 6, .char), (cs 7, .boolean)] t) (fun q => q ∈ L)) 0 0 (fun q => q ∈ L) := by
  refine Met.ofW (cc := cX7_partsWays) (maxL := 7) (ret := none) (by decide) rfl ?_
  intro p e s m args below meth c s₁ B hml hv
  obtain ⟨rfl, hsz, hP, hK, hD, hN⟩ := hv
  have hx := B.exec
  have hb := B.bytes
  have hr := B.returns
  have hts : ∀ w ∈ T0, w.before _ s = true := fun w h => atoms_spec (ws := Cond.code yX7_partsWays cX7_partsWays 7 none :: T0) B.pre w (List.mem_cons_of_mem _ h)
  have hown : s.vm.findClass RX7 = some m.cls := findClass_of_methodNamed B.named
  have hlocks := B.notSynchronized
  have hS : va_S (fun q => q ∈ L) s.heap s.heap [] := va_S.rf
  have hfr : ∀ b, K b ∉ [70] → F b = F b := fun _ _ => rfl
  have hl := lv_entry ([.ref a0, .int x1, .int x2, .int x3]) (n := 7) (Nat.le_of_ble_eq_true rfl)
  rw [lg_entry_eq]
  generalize (lg_sl ([.ref a0, .int x1, .int x2, .int x3]) ++ List.replicate (7 - (lg_sl ([.ref a0, .int x1, .int x2, .int x3])).length) Slot.unset).toArray = ls at hl ⊢
  have hl : lv_has ls 7 [(0, .ref a0), (1, .int x1), (2, .int x2), (3, .int x3)] := hl
  refine s_gen hP hS (fun H locs hP hS => ?_)
  obtain ⟨z0, q0, oY0, bz0, bq0⟩ := y_opY hI ha0
  have hz0 : ∀ k, k ∈ ([1, 2, 3, 4, 5, 6, 7, 8, 11, 15, 16, 19, 25, 26, 27, 31, 32] : List Nat) → z0 k = z0 k := fun _ _ => rfl
  obtain ⟨f1, o2, b3⟩ := y_op13 hI
  obtain ⟨f4, o5, b6⟩ := y_op20 hI
  replace hPG : y_PG f1 := by have q9 := hPG; rw [y_atE o2] at q9; exact q9
  replace hln : (x2.toInt < (y_c f1 387).toInt) := by have q9 := hln; rw [y_atE o2] at q9; exact q9
  replace hW0 : y_W0 f4 x1.toInt := by have q9 := hW0; rw [y_atE o5] at q9; exact q9
  replace hWs : y_Ws (y_c f1 387).toInt f4 x1.toInt := by have q9 := hWs; rw [y_atE o2, y_atE o5] at q9; exact q9
  replace hws3 : (0 < (y_c f4 (109 + 6 * x1.toInt)).toInt ∧ y_sub x3 (y_c f4 (287 + 48 * x1.toInt + 3 * (y_c f4 (109 + 6 * x1.toInt)).toInt))) := by have q9 := hws3; rw [y_atE o5] at q9; exact q9
  replace hop : ((y_c f1 (8 * x2.toInt)).toInt = 12) := by have q9 := hop; rw [y_atE o2] at q9; exact q9
  have hL := y_P0L hPG.1
  have hW := y_P0W hPG.1
  have hnw := hW0.2.2.2
  have hn0 := hws3.1
  have htg := y_PGt hPG (i := x2.toInt) (by omega) (by omega) hop
  refine lv_aload_n hx hb dX7_partsWays_0 rfl (lv_at hl 0 rfl) ?_
  refine lv_iload_n hx hb dX7_partsWays_1 rfl (lv_at hl 1 rfl) ?_
  have rg7 : 0 ≤ x1.toInt ∧ x1.toInt ≤ 3 := ⟨by omega, by omega⟩
  refine va_calli (va_runV (As := [.int x1]) (rest := []) ⟨hx, hb, hml, hown, hts⟩ (y_X7_top l dC dI H.size hLK A hA F a0 x1 ha0 rg7 hI) (cwV 1 hts (ax_gV T_1074 T_1076 T_1077 T_265 T_1075) rfl rfl rfl (by decide +kernel) ⟨Nat.le_of_ble_eq_true rfl, Nat.le_of_ble_eq_true rfl⟩) ⟨fun a U g mk q => ⟨q.1, s_pc (U := U) rfl rfl q.2⟩, s_recv hK hP (hLK _ ha0 (by decide)) (ci := 7) rfl oY0, fun U hU hW => ⟨rfl, s_pw hU hW hP hK hD hN⟩⟩ rfl rfl hl.1 rfl (lv_room (Nat.le_of_ble_eq_true rfl)) dX7_partsWays_2 ⟨Nat.zero_le _, Nat.zero_le _⟩) hS (fun q _ h => h) (fun q h => h) (fun r9 F10 t H1 locs ht hvm hw hB hz1 hk1 hS => ?_)
  obtain ⟨hP, hK1⟩ := hB
  rw [ht] at hP
  generalize H1 = H at hP hS ⊢
  clear hz1 hk1 hvm hK1
  obtain ⟨h11, h13, hI, hfr1, hzf, h12⟩ := hw
  have o14 : F10 (A 13) = .inl (cs 0, 400, .inl f1) := (hfr1 _ (by rw [(y_k13 hA)]; decide)).trans o2
  have o15 : F10 (A 20) = .inl (cs 0, 918, .inl f4) := (hfr1 _ (by rw [(y_k20 hA)]; decide)).trans o5
  have oY16 : F10 a0 = .inr (7, y_fl A z0 q0) := (hfr1 _ (by rw [ha0]; decide)).trans oY0
  have hfr : ∀ b, K b ∉ [70] → F10 b = F b := fun b hb9 => (hfr1 b (fun q => hb9 (s_sub (by decide) q))).trans (hfr b hb9)
  replace h12 : (r9 = y_c f4 (109 + 6 * x1.toInt) - 1) := by have q9 := h12; rw [y_atE o5] at q9; exact q9
  have h17 := congrArg Int32.toInt h12
  have h18 : 0 ≤ r9.toInt ∧ r9.toInt ≤ 14 := by have q9 : r9.toInt = (y_c f4 (109 + 6 * x1.toInt)).toInt - 1 := (by rw [h12]; exact th_sub rfl (by decide) ⟨by omega, by omega⟩); exact ⟨by omega, by omega⟩
  have h19 : r9.toInt = (y_c f4 (109 + 6 * x1.toInt)).toInt - 1 := by rw [h12]; exact th_sub rfl (by decide) ⟨by omega, by omega⟩
  refine lv_istore (lv' := [(4, .int r9), (0, .ref a0), (1, .int x1), (2, .int x2), (3, .int x3)]) hx hb dX7_partsWays_5 hl (by decide) rfl (fun ls hl => ?_)
  refine lv_aload_n hx hb dX7_partsWays_7 rfl (lv_at hl 1 rfl) ?_
  refine lv_iload_n hx hb dX7_partsWays_8 rfl (lv_at hl 3 rfl) ?_
  refine lv_iload_n hx hb dX7_partsWays_9 rfl (lv_at hl 4 rfl) ?_
  have rg20 : 0 ≤ x2.toInt ∧ x2.toInt ≤ 39 := ⟨by omega, by omega⟩
  refine va_calli (va_runV (As := [.int x2, .int x3]) (rest := []) ⟨hx, hb, hml, hown, hts⟩ (y_X7_holding l dC dI H.size hLK A hA F10 a0 x2 x3 ha0 rg20 hI (by rw [y_atE o14]; exact hPG) (by first | (rw [y_atE o14]; omega) | rw [y_atE o14])) (cwV 2 hts (ax_gV T_1167 T_1169 T_1170 T_265 T_1168) rfl rfl rfl (by decide +kernel) ⟨Nat.le_of_ble_eq_true rfl, Nat.le_of_ble_eq_true rfl⟩) ⟨fun a U g mk q => ⟨q.1, s_pc (U := U) rfl rfl q.2⟩, s_recv hK hP (hLK _ ha0 (by decide)) (ci := 7) rfl oY16, fun U hU hW => ⟨rfl, s_pw hU hW hP hK hD hN⟩⟩ rfl rfl hl.1 rfl (lv_room (Nat.le_of_ble_eq_true rfl)) dX7_partsWays_10 ⟨Nat.zero_le _, Nat.zero_le _⟩) hS (fun q _ h => h) (fun q h => h) (fun r22 F23 t H1 locs ht hvm hw hB hz1 hk1 hS => ?_)
  obtain ⟨hP, hK1⟩ := hB
  rw [ht] at hP
  generalize H1 = H at hP hS ⊢
  clear hz1 hk1 hvm hK1
  obtain ⟨h24, h26, hI, hfr1, hzf, h25⟩ := hw
  have o27 : F23 (A 13) = .inl (cs 0, 400, .inl f1) := (hfr1 _ (by rw [(y_k13 hA)]; decide)).trans o14
  have o28 : F23 (A 20) = .inl (cs 0, 918, .inl f4) := (hfr1 _ (by rw [(y_k20 hA)]; decide)).trans o15
  have oY29 : F23 a0 = .inr (7, y_fl A z0 q0) := (hfr1 _ (by rw [ha0]; decide)).trans oY16
  have hfr : ∀ b, K b ∉ [70] → F23 b = F b := fun b hb9 => (hfr1 b (fun q => hb9 (s_sub (by decide) q))).trans (hfr b hb9)
  replace h25 : (y_sub r22 x3 ∧ (r22 = x3 ∨ ((y_c f1 (8 * x2.toInt)).toInt = 12 ∧ ¬ (y_c f1 (8 * x2.toInt + 5)).toInt = -1000000))) := by have q9 := h25; rw [y_atE o14] at q9; exact q9
  refine lv_istore (lv' := [(5, .int r22), (4, .int r9), (0, .ref a0), (1, .int x1), (2, .int x2), (3, .int x3)]) hx hb dX7_partsWays_13 hl (by decide) rfl (fun ls hl => ?_)
  refine lv_iload hx hb dX7_partsWays_15 (lv_at hl 0 rfl) ?_
  refine lv_iload_n hx hb dX7_partsWays_17 rfl (lv_at hl 5 rfl) ?_
  refine lv_icmp_eq (tgt := 26) hx hb dX7_partsWays_18 (by decide) (fun c30 => ?_) (fun c30 => ?_)
  · have c30 := Int32.toInt_inj.symm.mp c30
    refine lv_aload_n hx hb dX7_partsWays_26 rfl (lv_at hl 2 rfl) ?_
    refine th_get (D := (dC, dI)) (ci := 7) (v := .ref (A 20)) (C := RX7) (T := TX7) (N := 34) hx hb hts inX7 hown hK hP (hLK _ ha0 (by decide)) oY29 rfl 20 (by decide) (hts _ T_251) (fun _ h9 => h9) rfl dX7_partsWays_27 ?_
    refine lv_iload_n hx hb dX7_partsWays_30 rfl (lv_at hl 3 rfl) ?_
    refine lv_iload hx hb dX7_partsWays_31 (lv_at hl 1 rfl) ?_
    refine lv_iconst (v := 0) hx hb dX7_partsWays_33 (by decide) ?_
    have rg31 : 0 ≤ r9.toInt ∧ r9.toInt ≤ 15 := ⟨by omega, by omega⟩
    refine va_calli (va_runS (As := [.int x1, .int r9, .int 0]) (rest := [.ref (A 20)]) ⟨hx, hb, hml, hown, hts⟩ (y_X7_partAt l dC dI H.size F23 x1 r9 0 rg7 rg31 (by decide)) (cwS 3 hts (ax_gS T_1078 T_1080 T_265 T_1079) rfl rfl rfl (by decide +kernel) ⟨Nat.le_of_ble_eq_true rfl, Nat.le_of_ble_eq_true rfl⟩) ⟨fun a U g mk q => ⟨q.1, s_pc (U := U) rfl rfl q.2⟩, fun U hU hW => ⟨rfl, s_pw hU hW hP hK hD hN⟩⟩ rfl rfl hl.1 rfl (lv_room (Nat.le_of_ble_eq_true rfl)) dX7_partsWays_34 ⟨Nat.zero_le _, Nat.zero_le _⟩) hS (fun q _ h => h) (fun q h => h) (fun r33 F34 t H1 locs ht hvm hw hB hz1 hk1 hS => ?_)
    obtain ⟨hP, hK1⟩ := hB
    rw [ht] at hP
    generalize H1 = H at hP hS ⊢
    clear hz1 hk1 hvm hK1
    obtain ⟨h35, h37, hG9, h36⟩ := hw
    rw [hG9] at hP
    replace h36 : (r33.toInt = 288 + 48 * x1.toInt + 3 * r9.toInt + 0) := by have q9 := h36; exact q9
    refine lv_iload hx hb dX7_partsWays_37 (lv_at hl 0 rfl) ?_
    refine lv_if_ne (tgt := 48) hx hb dX7_partsWays_39 (by decide) (fun c38 => ?_) (fun c38 => ?_)
    · have c38 := mt (ax_eq (n := 0) (by decide)).mpr c38
      refine lv_aload_n hx hb dX7_partsWays_48 rfl (lv_at hl 2 rfl) ?_
      refine lv_iload_n hx hb dX7_partsWays_49 rfl (lv_at hl 4 rfl) ?_
      refine lv_iconst (v := 4) hx hb dX7_partsWays_50 (by decide) ?_
      have rg39 : 0 ≤ x2.toInt ∧ x2.toInt ≤ 40 := ⟨by omega, by omega⟩
      refine va_calli (va_runV (As := [.int x2, .int 4]) (rest := [.int r33, .ref (A 20)]) ⟨hx, hb, hml, hown, hts⟩ (y_X7_of l dC dI H.size hLK A hA F23 a0 x2 4 ha0 rg39 (by decide) hI) (cwV 2 hts (ax_gV T_1131 T_1133 T_1134 T_265 T_1132) rfl rfl rfl (by decide +kernel) ⟨Nat.le_of_ble_eq_true rfl, Nat.le_of_ble_eq_true rfl⟩) ⟨fun a U g mk q => ⟨q.1, s_pc (U := U) rfl rfl q.2⟩, s_recv hK hP (hLK _ ha0 (by decide)) (ci := 7) rfl oY29, fun U hU hW => ⟨rfl, s_pw hU hW hP hK hD hN⟩⟩ rfl rfl hl.1 rfl (lv_room (Nat.le_of_ble_eq_true rfl)) dX7_partsWays_51 ⟨Nat.zero_le _, Nat.zero_le _⟩) hS (fun q _ h => h) (fun q h => h) (fun r41 F42 t H1 locs ht hvm hw hB hz1 hk1 hS => ?_)
      obtain ⟨hP, hK1⟩ := hB
      rw [ht] at hP
      generalize H1 = H at hP hS ⊢
      clear hz1 hk1 hvm hK1
      obtain ⟨h43, h45, hI, hfr1, hzf, h44⟩ := hw
      have o46 : F42 (A 13) = .inl (cs 0, 400, .inl f1) := (hfr1 _ (by rw [(y_k13 hA)]; decide)).trans o27
      have o47 : F42 (A 20) = .inl (cs 0, 918, .inl f4) := (hfr1 _ (by rw [(y_k20 hA)]; decide)).trans o28
      have oY48 : F42 a0 = .inr (7, y_fl A z0 q0) := (hfr1 _ (by rw [ha0]; decide)).trans oY29
      have hfr : ∀ b, K b ∉ [70] → F42 b = F b := fun b hb9 => (hfr1 b (fun q => hb9 (s_sub (by decide) q))).trans (hfr b hb9)
      replace h44 : (r41 = y_c f1 (8 * x2.toInt + 4)) := by have q9 := h44; rw [y_atE o27] at q9; exact q9
      have h44 : r41 = y_c f1 (8 * x2.toInt + 4) := h44.trans (congrArg (y_c f1) (by omega))
      have h49 := congrArg Int32.toInt h44
      have h50 : 0 ≤ r41.toInt ∧ r41.toInt ≤ 40 := by have q9 := congrArg Int32.toInt h44; exact ⟨by omega, by omega⟩
      refine th_iast hx hb hK hP hD hS (hLK _ (y_k20 hA) (by decide)) 0 o47 rfl (th_in ⟨by omega, by omega⟩) dX7_partsWays_54 (fun H locs hP hS => ?_)
      obtain ⟨f51, u52⟩ : ∃ g : Nat → Int32, g = upd f4 (r33 : Int32).toNatClampNeg r41 := ⟨_, rfl⟩
      rw [← u52] at hP
      have b53 : y_bd 20 f51 := trivial
      have hP : va_P (dC, dI) vwCl (va_pl L (va_up F42 (A 20) (.inl (cs 0, 918, .inl f51)))) H := hP
      obtain ⟨F54, hF55⟩ : ∃ G : Nat → va_E, G = va_up F42 (A 20) (.inl (cs 0, 918, .inl f51)) := ⟨_, rfl⟩
      rw [← hF55] at hP
      have hI : y_I K cs A F54 := by rw [hF55]; exact y_clA (i := 20) hA hI (by decide) b53
      have hfr : ∀ b, K b ∉ [70] → F54 b = F b := by rw [hF55]; exact s_fr hfr (y_k20 hA) (by decide)
      have o56 : F54 (A 13) = .inl (cs 0, 400, .inl f1) := by rw [hF55]; exact th_ne (th_kd (y_k13 hA) (y_k20 hA) (by decide)) o46
      have oY57 : F54 a0 = .inr (7, y_fl A z0 q0) := by rw [hF55]; exact th_ne (th_kd ha0 (y_k20 hA) (by decide)) oY48
      have o58 : F54 (A 20) = .inl (cs 0, 918, .inl f51) := by rw [hF55]; exact th_up
      have u59 : ∀ j : Int, 0 ≤ j → y_c f51 j = if j = r33.toInt then r41 else y_c f4 j := by rw [u52]; exact y_cu rfl (by omega)
      exact W.vret hx hb hr (fun t ht hW => ⟨⟨F54, rfl, ⟨trivial, trivial, hI, hfr, fun k hk => (y_fiZ oY57 (s_sub (by decide) hk)).trans ((hz0 k hk).trans (y_fiZ oY0 (s_sub (by decide) hk)).symm), (by rw [y_atE o58, y_atE o2, y_atE o5]; have q9 := y_Ws_top (L := (y_c f1 387).toInt) (v := r41) ⟨by omega, by omega⟩ u59 (by omega) ⟨by omega, by omega⟩ hW0 (by omega) hWs; exact ⟨q9.1, q9.2, y_fw_u u59 (by omega), by rw [u59 _ (by omega), if_neg (by omega)]; exact hn0⟩)⟩, by rw [ht]; exact hP, va_K.moved hW.alike hK⟩, hS.F ht⟩) hS.2.2 dX7_partsWays_55
    · have c38 := (ax_eq (n := 0) (by decide)).mp c38
      refine lv_iload_n hx hb dX7_partsWays_42 rfl (lv_at hl 4 rfl) ?_
      refine lv_iconst (v := 1) hx hb dX7_partsWays_43 (by decide) ?_
      refine lv_iadd hx hb dX7_partsWays_44 ?_
      refine lv_topi (fun v60 ev60 => ?_)
      have qv60 : v60.toInt = x2.toInt + 1 := by rw [ev60]; exact th_add rfl (by decide) ⟨by omega, by omega⟩
      refine lv_goto (tgt := 54) hx hb dX7_partsWays_45 (by decide) ?_
      refine th_iast hx hb hK hP hD hS (hLK _ (y_k20 hA) (by decide)) 0 o28 rfl (th_in ⟨by omega, by omega⟩) dX7_partsWays_54 (fun H locs hP hS => ?_)
      obtain ⟨f61, u62⟩ : ∃ g : Nat → Int32, g = upd f4 (r33 : Int32).toNatClampNeg v60 := ⟨_, rfl⟩
      rw [← u62] at hP
      have b63 : y_bd 20 f61 := trivial
      have hP : va_P (dC, dI) vwCl (va_pl L (va_up F23 (A 20) (.inl (cs 0, 918, .inl f61)))) H := hP
      obtain ⟨F64, hF65⟩ : ∃ G : Nat → va_E, G = va_up F23 (A 20) (.inl (cs 0, 918, .inl f61)) := ⟨_, rfl⟩
      rw [← hF65] at hP
      have hI : y_I K cs A F64 := by rw [hF65]; exact y_clA (i := 20) hA hI (by decide) b63
      have hfr : ∀ b, K b ∉ [70] → F64 b = F b := by rw [hF65]; exact s_fr hfr (y_k20 hA) (by decide)
      have o66 : F64 (A 13) = .inl (cs 0, 400, .inl f1) := by rw [hF65]; exact th_ne (th_kd (y_k13 hA) (y_k20 hA) (by decide)) o27
      have oY67 : F64 a0 = .inr (7, y_fl A z0 q0) := by rw [hF65]; exact th_ne (th_kd ha0 (y_k20 hA) (by decide)) oY29
      have o68 : F64 (A 20) = .inl (cs 0, 918, .inl f61) := by rw [hF65]; exact th_up
      have u69 : ∀ j : Int, 0 ≤ j → y_c f61 j = if j = r33.toInt then v60 else y_c f4 j := by rw [u62]; exact y_cu rfl (by omega)
      exact W.vret hx hb hr (fun t ht hW => ⟨⟨F64, rfl, ⟨trivial, trivial, hI, hfr, fun k hk => (y_fiZ oY67 (s_sub (by decide) hk)).trans ((hz0 k hk).trans (y_fiZ oY0 (s_sub (by decide) hk)).symm), (by rw [y_atE o68, y_atE o2, y_atE o5]; have q9 := y_Ws_top (L := (y_c f1 387).toInt) (v := v60) ⟨by omega, by omega⟩ u69 (by omega) ⟨by omega, by omega⟩ hW0 (by omega) hWs; exact ⟨q9.1, q9.2, y_fw_u u69 (by omega), by rw [u69 _ (by omega), if_neg (by omega)]; exact hn0⟩)⟩, by rw [ht]; exact hP, va_K.moved hW.alike hK⟩, hS.F ht⟩) hS.2.2 dX7_partsWays_55
  · have c30 := mt Int32.toInt_inj.symm.mpr c30
    have hg1 : ¬ r22 = x3 := fun q => c30 (by rw [q])
    refine lv_iload hx hb dX7_partsWays_21 (lv_at hl 0 rfl) ?_
    refine lv_if_ne (tgt := 56) hx hb dX7_partsWays_23 (by decide) (fun c70 => ?_) (fun c70 => ?_)
    · have c70 := mt (ax_eq (n := 0) (by decide)).mpr c70
      have hg0 := y_nz32 c70
      have hfk := h25.2.resolve_left hg1
      have hmt := y_PGm hPG (i := x2.toInt) (by omega) (by omega) hop (by omega)
      refine lv_aload_n hx hb dX7_partsWays_56 rfl (lv_at hl 2 rfl) ?_
      refine lv_iload_n hx hb dX7_partsWays_57 rfl (lv_at hl 4 rfl) ?_
      refine lv_bipush (v := 6) hx hb dX7_partsWays_58 (by decide) ?_
      have rg71 : 0 ≤ x2.toInt ∧ x2.toInt ≤ 40 := ⟨by omega, by omega⟩
      refine va_calli (va_runV (As := [.int x2, .int 6]) (rest := []) ⟨hx, hb, hml, hown, hts⟩ (y_X7_of l dC dI H.size hLK A hA F23 a0 x2 6 ha0 rg71 (by decide) hI) (cwV 2 hts (ax_gV T_1131 T_1133 T_1134 T_265 T_1132) rfl rfl rfl (by decide +kernel) ⟨Nat.le_of_ble_eq_true rfl, Nat.le_of_ble_eq_true rfl⟩) ⟨fun a U g mk q => ⟨q.1, s_pc (U := U) rfl rfl q.2⟩, s_recv hK hP (hLK _ ha0 (by decide)) (ci := 7) rfl oY29, fun U hU hW => ⟨rfl, s_pw hU hW hP hK hD hN⟩⟩ rfl rfl hl.1 rfl (lv_room (Nat.le_of_ble_eq_true rfl)) dX7_partsWays_60 ⟨Nat.zero_le _, Nat.zero_le _⟩) hS (fun q _ h => h) (fun q h => h) (fun r73 F74 t H1 locs ht hvm hw hB hz1 hk1 hS => ?_)
      obtain ⟨hP, hK1⟩ := hB
      rw [ht] at hP
      generalize H1 = H at hP hS ⊢
      clear hz1 hk1 hvm hK1
      obtain ⟨h75, h77, hI, hfr1, hzf, h76⟩ := hw
      have o78 : F74 (A 13) = .inl (cs 0, 400, .inl f1) := (hfr1 _ (by rw [(y_k13 hA)]; decide)).trans o27
      have o79 : F74 (A 20) = .inl (cs 0, 918, .inl f4) := (hfr1 _ (by rw [(y_k20 hA)]; decide)).trans o28
      have oY80 : F74 a0 = .inr (7, y_fl A z0 q0) := (hfr1 _ (by rw [ha0]; decide)).trans oY29
      have hfr : ∀ b, K b ∉ [70] → F74 b = F b := fun b hb9 => (hfr1 b (fun q => hb9 (s_sub (by decide) q))).trans (hfr b hb9)
      replace h76 : (r73 = y_c f1 (8 * x2.toInt + 6)) := by have q9 := h76; rw [y_atE o27] at q9; exact q9
      have h76 : r73 = y_c f1 (8 * x2.toInt + 6) := h76.trans (congrArg (y_c f1) (by omega))
      have h81 := congrArg Int32.toInt h76
      have h82 : 0 ≤ r73.toInt ∧ r73.toInt ≤ 40 := by have q9 := congrArg Int32.toInt h76; exact ⟨by omega, by omega⟩
      refine lv_istore (lv' := [(6, .int r73), (5, .int r22), (4, .int r9), (0, .ref a0), (1, .int x1), (2, .int x2), (3, .int x3)]) hx hb dX7_partsWays_63 hl (by decide) rfl (fun ls hl => ?_)
      refine lv_aload_n hx hb dX7_partsWays_65 rfl (lv_at hl 3 rfl) ?_
      refine th_get (D := (dC, dI)) (ci := 7) (v := .ref (A 20)) (C := RX7) (T := TX7) (N := 34) hx hb hts inX7 hown hK hP (hLK _ ha0 (by decide)) oY80 rfl 20 (by decide) (hts _ T_251) (fun _ h9 => h9) rfl dX7_partsWays_66 ?_
      refine lv_iload_n hx hb dX7_partsWays_69 rfl (lv_at hl 4 rfl) ?_
      refine lv_iload hx hb dX7_partsWays_70 (lv_at hl 2 rfl) ?_
      refine lv_iconst (v := 0) hx hb dX7_partsWays_72 (by decide) ?_
      have rg83 : 0 ≤ r9.toInt ∧ r9.toInt ≤ 15 := ⟨by omega, by omega⟩
      refine va_calli (va_runS (As := [.int x1, .int r9, .int 0]) (rest := [.ref (A 20)]) ⟨hx, hb, hml, hown, hts⟩ (y_X7_partAt l dC dI H.size F74 x1 r9 0 rg7 rg83 (by decide)) (cwS 3 hts (ax_gS T_1078 T_1080 T_265 T_1079) rfl rfl rfl (by decide +kernel) ⟨Nat.le_of_ble_eq_true rfl, Nat.le_of_ble_eq_true rfl⟩) ⟨fun a U g mk q => ⟨q.1, s_pc (U := U) rfl rfl q.2⟩, fun U hU hW => ⟨rfl, s_pw hU hW hP hK hD hN⟩⟩ rfl rfl hl.1 rfl (lv_room (Nat.le_of_ble_eq_true rfl)) dX7_partsWays_73 ⟨Nat.zero_le _, Nat.zero_le _⟩) hS (fun q _ h => h) (fun q h => h) (fun r85 F86 t H1 locs ht hvm hw hB hz1 hk1 hS => ?_)
      obtain ⟨hP, hK1⟩ := hB
      rw [ht] at hP
      generalize H1 = H at hP hS ⊢
      clear hz1 hk1 hvm hK1
      obtain ⟨h87, h89, hG9, h88⟩ := hw
      rw [hG9] at hP
      replace h88 : (r85.toInt = 288 + 48 * x1.toInt + 3 * r9.toInt + 0) := by have q9 := h88; exact q9
      refine lv_iload hx hb dX7_partsWays_76 (lv_at hl 0 rfl) ?_
      refine th_iast hx hb hK hP hD hS (hLK _ (y_k20 hA) (by decide)) 0 o79 rfl (th_in ⟨by omega, by omega⟩) dX7_partsWays_78 (fun H locs hP hS => ?_)
      obtain ⟨f90, u91⟩ : ∃ g : Nat → Int32, g = upd f4 (r85 : Int32).toNatClampNeg r73 := ⟨_, rfl⟩
      rw [← u91] at hP
      have b92 : y_bd 20 f90 := trivial
      have hP : va_P (dC, dI) vwCl (va_pl L (va_up F74 (A 20) (.inl (cs 0, 918, .inl f90)))) H := hP
      obtain ⟨F93, hF94⟩ : ∃ G : Nat → va_E, G = va_up F74 (A 20) (.inl (cs 0, 918, .inl f90)) := ⟨_, rfl⟩
      rw [← hF94] at hP
      have hI : y_I K cs A F93 := by rw [hF94]; exact y_clA (i := 20) hA hI (by decide) b92
      have hfr : ∀ b, K b ∉ [70] → F93 b = F b := by rw [hF94]; exact s_fr hfr (y_k20 hA) (by decide)
      have o95 : F93 (A 13) = .inl (cs 0, 400, .inl f1) := by rw [hF94]; exact th_ne (th_kd (y_k13 hA) (y_k20 hA) (by decide)) o78
      have oY96 : F93 a0 = .inr (7, y_fl A z0 q0) := by rw [hF94]; exact th_ne (th_kd ha0 (y_k20 hA) (by decide)) oY80
      have o97 : F93 (A 20) = .inl (cs 0, 918, .inl f90) := by rw [hF94]; exact th_up
      have u98 : ∀ j : Int, 0 ≤ j → y_c f90 j = if j = r85.toInt then r73 else y_c f4 j := by rw [u91]; exact y_cu rfl (by omega)
      have htm := congrArg Int32.toInt h76
      have hu9 : ∀ j : Int, 0 ≤ j → y_c f90 j = if j = 285 + 48 * x1.toInt + 3 * (y_c f4 (109 + 6 * x1.toInt)).toInt then r73 else y_c f4 j := fun j hj => by rw [u98 j hj, show r85.toInt = 285 + 48 * x1.toInt + 3 * (y_c f4 (109 + 6 * x1.toInt)).toInt by omega]
      obtain ⟨hta, htb⟩ := y_Ws_top ⟨by omega, by omega⟩ hu9 rfl ⟨by omega, by omega⟩ hW0 (by omega) hWs
      refine lv_aload_n hx hb dX7_partsWays_79 rfl (lv_at hl 3 rfl) ?_
      refine lv_iload_n hx hb dX7_partsWays_80 rfl (lv_at hl 4 rfl) ?_
      refine lv_iload_n hx hb dX7_partsWays_81 rfl (lv_at hl 5 rfl) ?_
      refine lv_iconst (v := 1) hx hb dX7_partsWays_82 (by decide) ?_
      refine lv_iadd hx hb dX7_partsWays_83 ?_
      refine lv_topi (fun v99 ev99 => ?_)
      have qv99 : v99.toInt = x2.toInt + 1 := by rw [ev99]; exact th_add rfl (by decide) ⟨by omega, by omega⟩
      refine lv_iload hx hb dX7_partsWays_84 (lv_at hl 0 rfl) ?_
      refine lv_iload_n hx hb dX7_partsWays_86 rfl (lv_at hl 6 rfl) ?_
      refine lv_iload hx hb dX7_partsWays_87 (lv_at hl 1 rfl) ?_
      refine lv_iconst (v := (-1)) hx hb dX7_partsWays_89 (by decide) ?_
      refine lv_ixor hx hb dX7_partsWays_90 ?_
      refine lv_topi (fun v100 ev100 => ?_)
      refine lv_iand hx hb dX7_partsWays_91 ?_
      refine lv_topi (fun v101 ev101 => ?_)
      obtain ⟨hp1, hp2, hp3, hp4, hp5, hp6⟩ := y_LP1 (a := v99) ⟨by omega, by omega⟩ hu9 hW0 hWs (by omega) hws3.2 h25.1 hg0 hg1 ⟨by omega, by omega⟩
      have hla9 : v101 = x3 &&& (r22 ^^^ (-1)) := by rw [ev101, ev100]
      refine va_callv (va_runV (As := [.int x1, .int v99, .int r73, .int v101]) (rest := []) ⟨hx, hb, hml, hown, hts⟩ (y_X7_laysPart l dC dI H.size hLK A hA F93 a0 x1 v99 r73 v101 ha0 rg7 hI (by rw [y_atE o97]; exact hta) (by rw [y_atE o95, y_atE o97]; exact htb) (by rw [y_atE o95, y_atE o97]; rw [hla9]; exact hp1)) (cwV 4 hts (ax_gV T_1286 T_1288 T_1289 T_265 T_1287) rfl rfl rfl (by decide +kernel) ⟨Nat.le_of_ble_eq_true rfl, Nat.le_of_ble_eq_true rfl⟩) ⟨fun a U g mk q => ⟨q.1, s_pc (U := U) rfl rfl q.2⟩, s_recv hK hP (hLK _ ha0 (by decide)) (ci := 7) rfl oY96, fun U hU hW => ⟨rfl, s_pw hU hW hP hK hD hN⟩⟩ rfl rfl hl.1 rfl (lv_room (Nat.le_of_ble_eq_true rfl)) dX7_partsWays_92 ⟨Nat.zero_le _, Nat.zero_le _⟩) hS (fun q _ h => h) (fun q h => h) (fun F103 t H1 locs ht hvm hw hB hz1 hk1 hS => ?_)
      obtain ⟨hP, hK1⟩ := hB
      rw [ht] at hP
      generalize H1 = H at hP hS ⊢
      clear hz1 hk1 hvm hK1
      obtain ⟨h104, h106, hI, hfr1, hzf, h105⟩ := hw
      have o107 : F103 (A 13) = .inl (cs 0, 400, .inl f1) := (hfr1 _ (by rw [(y_k13 hA)]; decide)).trans o95
      have oY108 : F103 a0 = .inr (7, y_fl A z0 q0) := (hfr1 _ (by rw [ha0]; decide)).trans oY96
      have hfr : ∀ b, K b ∉ [70] → F103 b = F b := fun b hb9 => (hfr1 b (fun q => hb9 (s_sub (by decide) q))).trans (hfr b hb9)
      obtain ⟨f109, o110, b111⟩ := y_op20 hI
      replace h105 : (y_W0 f109 x1.toInt ∧ y_Ws (y_c f1 387).toInt f109 x1.toInt ∧ y_fw x1.toInt f90 f109 ∧ y_LQ f90 x1.toInt v101 f109) := by have q9 := h105; rw [y_atE o110, y_atE o95, y_atE o97] at q9; exact q9
      obtain ⟨ka, kb, kc, kd⟩ := h105
      refine lv_aload_n hx hb dX7_partsWays_95 rfl (lv_at hl 3 rfl) ?_
      refine lv_iload_n hx hb dX7_partsWays_96 rfl (lv_at hl 4 rfl) ?_
      refine lv_aload_n hx hb dX7_partsWays_97 rfl (lv_at hl 3 rfl) ?_
      refine lv_iload_n hx hb dX7_partsWays_98 rfl (lv_at hl 5 rfl) ?_
      refine lv_iconst (v := 4) hx hb dX7_partsWays_99 (by decide) ?_
      refine va_calli (va_runV (As := [.int x2, .int 4]) (rest := [.int x1, .ref a0]) ⟨hx, hb, hml, hown, hts⟩ (y_X7_of l dC dI H.size hLK A hA F103 a0 x2 4 ha0 rg71 (by decide) hI) (cwV 2 hts (ax_gV T_1131 T_1133 T_1134 T_265 T_1132) rfl rfl rfl (by decide +kernel) ⟨Nat.le_of_ble_eq_true rfl, Nat.le_of_ble_eq_true rfl⟩) ⟨fun a U g mk q => ⟨q.1, s_pc (U := U) rfl rfl q.2⟩, s_recv hK hP (hLK _ ha0 (by decide)) (ci := 7) rfl oY108, fun U hU hW => ⟨rfl, s_pw hU hW hP hK hD hN⟩⟩ rfl rfl hl.1 rfl (lv_room (Nat.le_of_ble_eq_true rfl)) dX7_partsWays_100 ⟨Nat.zero_le _, Nat.zero_le _⟩) hS (fun q _ h => h) (fun q h => h) (fun r113 F114 t H1 locs ht hvm hw hB hz1 hk1 hS => ?_)
      obtain ⟨hP, hK1⟩ := hB
      rw [ht] at hP
      generalize H1 = H at hP hS ⊢
      clear hz1 hk1 hvm hK1
      obtain ⟨h115, h117, hI, hfr1, hzf, h116⟩ := hw
      have o118 : F114 (A 13) = .inl (cs 0, 400, .inl f1) := (hfr1 _ (by rw [(y_k13 hA)]; decide)).trans o107
      have o119 : F114 (A 20) = .inl (cs 0, 918, .inl f109) := (hfr1 _ (by rw [(y_k20 hA)]; decide)).trans o110
      have oY120 : F114 a0 = .inr (7, y_fl A z0 q0) := (hfr1 _ (by rw [ha0]; decide)).trans oY108
      have hfr : ∀ b, K b ∉ [70] → F114 b = F b := fun b hb9 => (hfr1 b (fun q => hb9 (s_sub (by decide) q))).trans (hfr b hb9)
      replace h116 : (r113 = y_c f1 (8 * x2.toInt + 4)) := by have q9 := h116; rw [y_atE o107] at q9; exact q9
      have h116 : r113 = y_c f1 (8 * x2.toInt + 4) := h116.trans (congrArg (y_c f1) (by omega))
      have h121 := congrArg Int32.toInt h116
      have h122 : 0 ≤ r113.toInt ∧ r113.toInt ≤ 40 := by have q9 := congrArg Int32.toInt h116; exact ⟨by omega, by omega⟩
      refine lv_iload hx hb dX7_partsWays_103 (lv_at hl 0 rfl) ?_
      refine lv_iload hx hb dX7_partsWays_105 (lv_at hl 1 rfl) ?_
      have hta9 := congrArg Int32.toInt h116
      have hlp2 := y_LP2 (L := (y_c f1 387).toInt) (a := r113) (b := r73) (go := r22) ⟨by omega, by omega⟩ (by omega) hp4 hp5 (by rw [hu9 _ (by omega), if_pos rfl]) (by rw [hla9] at kd; exact kd) hp2 hp3 hp6 ⟨by omega, by omega⟩
      refine va_callv (va_runV (As := [.int x1, .int r113, .int r73, .int r22]) (rest := []) ⟨hx, hb, hml, hown, hts⟩ (y_X7_laysPart l dC dI H.size hLK A hA F114 a0 x1 r113 r73 r22 ha0 rg7 hI (by rw [y_atE o119]; exact ka) (by rw [y_atE o118, y_atE o119]; exact kb) (by rw [y_atE o118, y_atE o119]; exact hlp2)) (cwV 4 hts (ax_gV T_1286 T_1288 T_1289 T_265 T_1287) rfl rfl rfl (by decide +kernel) ⟨Nat.le_of_ble_eq_true rfl, Nat.le_of_ble_eq_true rfl⟩) ⟨fun a U g mk q => ⟨q.1, s_pc (U := U) rfl rfl q.2⟩, s_recv hK hP (hLK _ ha0 (by decide)) (ci := 7) rfl oY120, fun U hU hW => ⟨rfl, s_pw hU hW hP hK hD hN⟩⟩ rfl rfl hl.1 rfl (lv_room (Nat.le_of_ble_eq_true rfl)) dX7_partsWays_107 ⟨Nat.zero_le _, Nat.zero_le _⟩) hS (fun q _ h => h) (fun q h => h) (fun F124 t H1 locs ht hvm hw hB hz1 hk1 hS => ?_)
      obtain ⟨hP, hK1⟩ := hB
      rw [ht] at hP
      generalize H1 = H at hP hS ⊢
      clear hz1 hk1 hvm hK1
      obtain ⟨h125, h127, hI, hfr1, hzf, h126⟩ := hw
      have o128 : F124 (A 13) = .inl (cs 0, 400, .inl f1) := (hfr1 _ (by rw [(y_k13 hA)]; decide)).trans o118
      have oY129 : F124 a0 = .inr (7, y_fl A z0 q0) := (hfr1 _ (by rw [ha0]; decide)).trans oY120
      have hfr : ∀ b, K b ∉ [70] → F124 b = F b := fun b hb9 => (hfr1 b (fun q => hb9 (s_sub (by decide) q))).trans (hfr b hb9)
      obtain ⟨f130, o131, b132⟩ := y_op20 hI
      replace h126 : (y_W0 f130 x1.toInt ∧ y_Ws (y_c f1 387).toInt f130 x1.toInt ∧ y_fw x1.toInt f109 f130 ∧ y_LQ f109 x1.toInt r22 f130) := by have q9 := h126; rw [y_atE o131, y_atE o118, y_atE o119] at q9; exact q9
      exact W.vret hx hb hr (fun t ht hW => ⟨⟨F124, rfl, ⟨trivial, trivial, hI, hfr, fun k hk => (y_fiZ oY129 (s_sub (by decide) hk)).trans ((hz0 k hk).trans (y_fiZ oY0 (s_sub (by decide) hk)).symm), (by rw [y_atE o131, y_atE o2, y_atE o5]; exact ⟨h126.1, h126.2.1, y_fw_t (y_fw_u hu9 (by omega)) (y_fw_t kc h126.2.2.1), y_LQn hlp2.2.1 h126.2.2.2⟩)⟩, by rw [ht]; exact hP, va_K.moved hW.alike hK⟩, hS.F ht⟩) hS.2.2 dX7_partsWays_110
    · have c70 := (ax_eq (n := 0) (by decide)).mp c70
      refine lv_aload_n hx hb dX7_partsWays_26 rfl (lv_at hl 2 rfl) ?_
      refine th_get (D := (dC, dI)) (ci := 7) (v := .ref (A 20)) (C := RX7) (T := TX7) (N := 34) hx hb hts inX7 hown hK hP (hLK _ ha0 (by decide)) oY29 rfl 20 (by decide) (hts _ T_251) (fun _ h9 => h9) rfl dX7_partsWays_27 ?_
      refine lv_iload_n hx hb dX7_partsWays_30 rfl (lv_at hl 3 rfl) ?_
      refine lv_iload hx hb dX7_partsWays_31 (lv_at hl 1 rfl) ?_
      refine lv_iconst (v := 0) hx hb dX7_partsWays_33 (by decide) ?_
      have rg133 : 0 ≤ r9.toInt ∧ r9.toInt ≤ 15 := ⟨by omega, by omega⟩
      refine va_calli (va_runS (As := [.int x1, .int r9, .int 0]) (rest := [.ref (A 20)]) ⟨hx, hb, hml, hown, hts⟩ (y_X7_partAt l dC dI H.size F23 x1 r9 0 rg7 rg133 (by decide)) (cwS 3 hts (ax_gS T_1078 T_1080 T_265 T_1079) rfl rfl rfl (by decide +kernel) ⟨Nat.le_of_ble_eq_true rfl, Nat.le_of_ble_eq_true rfl⟩) ⟨fun a U g mk q => ⟨q.1, s_pc (U := U) rfl rfl q.2⟩, fun U hU hW => ⟨rfl, s_pw hU hW hP hK hD hN⟩⟩ rfl rfl hl.1 rfl (lv_room (Nat.le_of_ble_eq_true rfl)) dX7_partsWays_34 ⟨Nat.zero_le _, Nat.zero_le _⟩) hS (fun q _ h => h) (fun q h => h) (fun r135 F136 t H1 locs ht hvm hw hB hz1 hk1 hS => ?_)
      obtain ⟨hP, hK1⟩ := hB
      rw [ht] at hP
      generalize H1 = H at hP hS ⊢
      clear hz1 hk1 hvm hK1
      obtain ⟨h137, h139, hG9, h138⟩ := hw
      rw [hG9] at hP
      replace h138 : (r135.toInt = 288 + 48 * x1.toInt + 3 * r9.toInt + 0) := by have q9 := h138; exact q9
      refine lv_iload hx hb dX7_partsWays_37 (lv_at hl 0 rfl) ?_
      refine lv_if_ne (tgt := 48) hx hb dX7_partsWays_39 (by decide) (fun c140 => ?_) (fun c140 => ?_)
      · have c140 := mt (ax_eq (n := 0) (by decide)).mpr c140
        exact absurd c140 (by omega)
      · have c140 := (ax_eq (n := 0) (by decide)).mp c140
        refine lv_iload_n hx hb dX7_partsWays_42 rfl (lv_at hl 4 rfl) ?_
        refine lv_iconst (v := 1) hx hb dX7_partsWays_43 (by decide) ?_
        refine lv_iadd hx hb dX7_partsWays_44 ?_
        refine lv_topi (fun v141 ev141 => ?_)
        have qv141 : v141.toInt = x2.toInt + 1 := by rw [ev141]; exact th_add rfl (by decide) ⟨by omega, by omega⟩
        refine lv_goto (tgt := 54) hx hb dX7_partsWays_45 (by decide) ?_
        refine th_iast hx hb hK hP hD hS (hLK _ (y_k20 hA) (by decide)) 0 o28 rfl (th_in ⟨by omega, by omega⟩) dX7_partsWays_54 (fun H locs hP hS => ?_)
        obtain ⟨f142, u143⟩ : ∃ g : Nat → Int32, g = upd f4 (r135 : Int32).toNatClampNeg v141 := ⟨_, rfl⟩
        rw [← u143] at hP
        have b144 : y_bd 20 f142 := trivial
        have hP : va_P (dC, dI) vwCl (va_pl L (va_up F23 (A 20) (.inl (cs 0, 918, .inl f142)))) H := hP
        obtain ⟨F145, hF146⟩ : ∃ G : Nat → va_E, G = va_up F23 (A 20) (.inl (cs 0, 918, .inl f142)) := ⟨_, rfl⟩
        rw [← hF146] at hP
        have hI : y_I K cs A F145 := by rw [hF146]; exact y_clA (i := 20) hA hI (by decide) b144
        have hfr : ∀ b, K b ∉ [70] → F145 b = F b := by rw [hF146]; exact s_fr hfr (y_k20 hA) (by decide)
        have o147 : F145 (A 13) = .inl (cs 0, 400, .inl f1) := by rw [hF146]; exact th_ne (th_kd (y_k13 hA) (y_k20 hA) (by decide)) o27
        have oY148 : F145 a0 = .inr (7, y_fl A z0 q0) := by rw [hF146]; exact th_ne (th_kd ha0 (y_k20 hA) (by decide)) oY29
        have o149 : F145 (A 20) = .inl (cs 0, 918, .inl f142) := by rw [hF146]; exact th_up
        have u150 : ∀ j : Int, 0 ≤ j → y_c f142 j = if j = r135.toInt then v141 else y_c f4 j := by rw [u143]; exact y_cu rfl (by omega)
        exact W.vret hx hb hr (fun t ht hW => ⟨⟨F145, rfl, ⟨trivial, trivial, hI, hfr, fun k hk => (y_fiZ oY148 (s_sub (by decide) hk)).trans ((hz0 k hk).trans (y_fiZ oY0 (s_sub (by decide) hk)).symm), (by rw [y_atE o149, y_atE o2, y_atE o5]; have q9 := y_Ws_top (L := (y_c f1 387).toInt) (v := v141) ⟨by omega, by omega⟩ u150 (by omega) ⟨by omega, by omega⟩ hW0 (by omega) hWs; exact ⟨q9.1, q9.2, y_fw_u u150 (by omega), by rw [u150 _ (by omega), if_neg (by omega)]; exact hn0⟩)⟩, by rw [ht]; exact hP, va_K.moved hW.alike hK⟩, hS.F ht⟩) hS.2.2 dX7_partsWays_55

set_option maxHeartbeats 4000000 in
set_option maxRecDepth 100000 in
theorem y_X7_changesParts (l : Launch) (dC : Nat → ClassId) (dI : Nat → Nat → Nat) (sz : Nat) {L : List Nat} {K : Nat → Nat} {cs : Nat → ClassId} (hLK : ∀ a {k : Nat}, K a = k → k ≠ 0 → a ∈ L) (A : Nat → Nat) (hA : y_A K A) (F : Nat → va_E) (a0 : Nat) (x1 : Int32) (ha0 : K a0 = 9) (hx1 : 0 ≤ x1.toInt ∧ x1.toInt ≤ 3) (hI : y_I K cs A F) (hW0 : y_W0 (y_at F (A 20)) x1.toInt) (hWs : y_Ws (y_c (y_at F (A 13)) 387).toInt (y_at F (A 20)) x1.toInt) : Met l yX7_changesParts (Cond.code yX7_changesParts cX7_changesParts 5 none :: T0) ({ frames := 3, cells := 0, slots := 0, locals := 64 }) (va_Pc [.ref a0, .int x1] (s_W dC dI sz L F [(cs 0, .int), (cs 1, .byte), (cs 2, .long), (cs 3, .object RX5), (cs 4, .object RX4), (cs 5, .array .int), (cs 6, .char), (cs 7, .boolean)])) (va_Qv (fun (G : Nat → va_E) => True ∧ True ∧ y_I K cs A G ∧ (∀ b, K b ∉ [70] → G b = F b) ∧ (∀ k, k ∈ ([1, 2, 3, 4, 5, 6, 7, 8, 11, 15, 16, 19, 25, 26, 27, 31, 32] : List Nat) → y_fi G a0 k = y_fi F a0 k) ∧ (y_W0 (y_at G (A 20)) x1.toInt ∧ y_Ws (y_c (y_at F (A 13)) 387).toInt (y_at G (A 20)) x1.toInt ∧ y_fw x1.toInt (y_at F (A 20)) (y_at G (A 20)))) (fun (G : Nat → va_E) (t : State) => va_P (dC, dI) vwCl (va_pl L G) t.heap ∧ va_K (dC, dI) vwCl [(cs 0, .int), (cs 1, .byte), (cs 2, .long), (cs 3, .object RX5), (cs 4, .object RX4), (cs 5, .array .int), (cs 6, .char), (cs 7, .boolean)] t) (fun q => q ∈ L)) 0 0 (fun q => q ∈ L) := by
  refine Met.ofW (cc := cX7_changesParts) (maxL := 5) (ret := none) (by decide) rfl ?_
  intro p e s m args below meth c s₁ B hml hv
  obtain ⟨rfl, hsz, hP, hK, hD, hN⟩ := hv
  have hx := B.exec
  have hb := B.bytes
  have hr := B.returns
  have hts : ∀ w ∈ T0, w.before _ s = true := fun w h => atoms_spec (ws := Cond.code yX7_changesParts cX7_changesParts 5 none :: T0) B.pre w (List.mem_cons_of_mem _ h)
  have hown : s.vm.findClass RX7 = some m.cls := findClass_of_methodNamed B.named
  have hlocks := B.notSynchronized
  have hS : va_S (fun q => q ∈ L) s.heap s.heap [] := va_S.rf
  have hfr : ∀ b, K b ∉ [70] → F b = F b := fun _ _ => rfl
  have hl := lv_entry ([.ref a0, .int x1]) (n := 5) (Nat.le_of_ble_eq_true rfl)
  rw [lg_entry_eq]
  generalize (lg_sl ([.ref a0, .int x1]) ++ List.replicate (5 - (lg_sl ([.ref a0, .int x1])).length) Slot.unset).toArray = ls at hl ⊢
  have hl : lv_has ls 5 [(0, .ref a0), (1, .int x1)] := hl
  refine s_gen hP hS (fun H locs hP hS => ?_)
  obtain ⟨z0, q0, oY0, bz0, bq0⟩ := y_opY hI ha0
  have hz0 : ∀ k, k ∈ ([1, 2, 3, 4, 5, 6, 7, 8, 11, 15, 16, 19, 25, 26, 27, 31, 32] : List Nat) → z0 k = z0 k := fun _ _ => rfl
  obtain ⟨f1, o2, b3⟩ := y_op13 hI
  obtain ⟨f4, o5, b6⟩ := y_op20 hI
  replace hW0 : y_W0 f4 x1.toInt := by have q9 := hW0; rw [y_atE o5] at q9; exact q9
  replace hWs : y_Ws (y_c f1 387).toInt f4 x1.toInt := by have q9 := hWs; rw [y_atE o2, y_atE o5] at q9; exact q9
  have hnw := hW0.2.2.2
  refine lv_aload_n hx hb dX7_changesParts_0 rfl (lv_at hl 0 rfl) ?_
  refine lv_iload_n hx hb dX7_changesParts_1 rfl (lv_at hl 1 rfl) ?_
  have rg7 : 0 ≤ x1.toInt ∧ x1.toInt ≤ 3 := ⟨by omega, by omega⟩
  refine va_calli (va_runV (As := [.int x1]) (rest := []) ⟨hx, hb, hml, hown, hts⟩ (y_X7_top l dC dI H.size hLK A hA F a0 x1 ha0 rg7 hI) (cwV 1 hts (ax_gV T_1074 T_1076 T_1077 T_265 T_1075) rfl rfl rfl (by decide +kernel) ⟨Nat.le_of_ble_eq_true rfl, Nat.le_of_ble_eq_true rfl⟩) ⟨fun a U g mk q => ⟨q.1, s_pc (U := U) rfl rfl q.2⟩, s_recv hK hP (hLK _ ha0 (by decide)) (ci := 7) rfl oY0, fun U hU hW => ⟨rfl, s_pw hU hW hP hK hD hN⟩⟩ rfl rfl hl.1 rfl (lv_room (Nat.le_of_ble_eq_true rfl)) dX7_changesParts_2 ⟨Nat.zero_le _, Nat.zero_le _⟩) hS (fun q _ h => h) (fun q h => h) (fun r9 F10 t H1 locs ht hvm hw hB hz1 hk1 hS => ?_)
  obtain ⟨hP, hK1⟩ := hB
  rw [ht] at hP
  generalize H1 = H at hP hS ⊢
  clear hz1 hk1 hvm hK1
  obtain ⟨h11, h13, hI, hfr1, hzf, h12⟩ := hw
  have o14 : F10 (A 13) = .inl (cs 0, 400, .inl f1) := (hfr1 _ (by rw [(y_k13 hA)]; decide)).trans o2
  have o15 : F10 (A 20) = .inl (cs 0, 918, .inl f4) := (hfr1 _ (by rw [(y_k20 hA)]; decide)).trans o5
  have oY16 : F10 a0 = .inr (7, y_fl A z0 q0) := (hfr1 _ (by rw [ha0]; decide)).trans oY0
  have hfr : ∀ b, K b ∉ [70] → F10 b = F b := fun b hb9 => (hfr1 b (fun q => hb9 (s_sub (by decide) q))).trans (hfr b hb9)
  replace h12 : (r9 = y_c f4 (109 + 6 * x1.toInt) - 1) := by have q9 := h12; rw [y_atE o5] at q9; exact q9
  have h17 := congrArg Int32.toInt h12
  have h18 : -1 ≤ r9.toInt ∧ r9.toInt ≤ 14 := by have q9 : r9.toInt = (y_c f4 (109 + 6 * x1.toInt)).toInt - 1 := (by rw [h12]; exact th_sub rfl (by decide) ⟨by omega, by omega⟩); exact ⟨by omega, by omega⟩
  have h19 : r9.toInt = (y_c f4 (109 + 6 * x1.toInt)).toInt - 1 := by rw [h12]; exact th_sub rfl (by decide) ⟨by omega, by omega⟩
  refine lv_istore_n (lv' := [(2, .int r9), (0, .ref a0), (1, .int x1)]) hx hb dX7_changesParts_5 rfl hl (by decide) rfl (fun ls hl => ?_)
  refine lv_iload_n hx hb dX7_changesParts_6 rfl (lv_at hl 0 rfl) ?_
  refine lv_iconst (v := 1) hx hb dX7_changesParts_7 (by decide) ?_
  refine lv_icmp_lt (tgt := 67) hx hb dX7_changesParts_8 (by decide) (fun c20 => ?_) (fun c20 => ?_)
  · have c20 := (ax_lt (n := 1) (by decide)).mp c20
    exact W.vret hx hb hr (fun t ht hW => ⟨⟨F10, rfl, ⟨trivial, trivial, hI, hfr, fun k hk => (y_fiZ oY16 (s_sub (by decide) hk)).trans ((hz0 k hk).trans (y_fiZ oY0 (s_sub (by decide) hk)).symm), (by rw [y_atE o15, y_atE o2, y_atE o5]; exact ⟨hW0, hWs, y_fw_r _ _⟩)⟩, by rw [ht]; exact hP, va_K.moved hW.alike hK⟩, hS.F ht⟩) hS.2.2 dX7_changesParts_67
  · have c20 := mt (ax_lt (n := 1) (by decide)).mpr c20
    refine lv_aload_n hx hb dX7_changesParts_11 rfl (lv_at hl 1 rfl) ?_
    refine th_get (D := (dC, dI)) (ci := 7) (v := .ref (A 20)) (C := RX7) (T := TX7) (N := 34) hx hb hts inX7 hown hK hP (hLK _ ha0 (by decide)) oY16 rfl 20 (by decide) (hts _ T_251) (fun _ h9 => h9) rfl dX7_changesParts_12 ?_
    refine lv_iload_n hx hb dX7_changesParts_15 rfl (lv_at hl 2 rfl) ?_
    refine lv_iload_n hx hb dX7_changesParts_16 rfl (lv_at hl 0 rfl) ?_
    refine lv_iconst (v := 1) hx hb dX7_changesParts_17 (by decide) ?_
    have rg21 : 0 ≤ r9.toInt ∧ r9.toInt ≤ 15 := ⟨by omega, by omega⟩
    refine va_calli (va_runS (As := [.int x1, .int r9, .int 1]) (rest := [.ref (A 20)]) ⟨hx, hb, hml, hown, hts⟩ (y_X7_partAt l dC dI H.size F10 x1 r9 1 rg7 rg21 (by decide)) (cwS 3 hts (ax_gS T_1078 T_1080 T_265 T_1079) rfl rfl rfl (by decide +kernel) ⟨Nat.le_of_ble_eq_true rfl, Nat.le_of_ble_eq_true rfl⟩) ⟨fun a U g mk q => ⟨q.1, s_pc (U := U) rfl rfl q.2⟩, fun U hU hW => ⟨rfl, s_pw hU hW hP hK hD hN⟩⟩ rfl rfl hl.1 rfl (lv_room (Nat.le_of_ble_eq_true rfl)) dX7_changesParts_18 ⟨Nat.zero_le _, Nat.zero_le _⟩) hS (fun q _ h => h) (fun q h => h) (fun r23 F24 t H1 locs ht hvm hw hB hz1 hk1 hS => ?_)
    obtain ⟨hP, hK1⟩ := hB
    rw [ht] at hP
    generalize H1 = H at hP hS ⊢
    clear hz1 hk1 hvm hK1
    obtain ⟨h25, h27, hG9, h26⟩ := hw
    rw [hG9] at hP
    replace h26 : (r23.toInt = 288 + 48 * x1.toInt + 3 * r9.toInt + 1) := by have q9 := h26; exact q9
    refine th_iald hx hb hK hP (hLK _ (y_k20 hA) (by decide)) 0 o15 rfl (th_in ⟨by omega, by omega⟩) dX7_changesParts_21 ?_
    refine lv_topi (fun v28 ev28 => ?_)
    have Ev28 : v28 = y_c f4 (286 + 48 * x1.toInt + 3 * (y_c f4 (109 + 6 * x1.toInt)).toInt) := ev28.trans (y_ci (by omega))
    have tEv28 := congrArg Int32.toInt Ev28
    refine lv_aload_n hx hb dX7_changesParts_22 rfl (lv_at hl 1 rfl) ?_
    refine th_get (D := (dC, dI)) (ci := 7) (v := .ref (A 20)) (C := RX7) (T := TX7) (N := 34) hx hb hts inX7 hown hK hP (hLK _ ha0 (by decide)) oY16 rfl 20 (by decide) (hts _ T_251) (fun _ h9 => h9) rfl dX7_changesParts_23 ?_
    refine lv_iload_n hx hb dX7_changesParts_26 rfl (lv_at hl 2 rfl) ?_
    refine lv_iload_n hx hb dX7_changesParts_27 rfl (lv_at hl 0 rfl) ?_
    refine lv_iconst (v := 1) hx hb dX7_changesParts_28 (by decide) ?_
    refine lv_isub hx hb dX7_changesParts_29 ?_
    refine lv_topi (fun v29 ev29 => ?_)
    have qv29 : v29.toInt = r9.toInt - 1 := by rw [ev29]; exact th_sub rfl (by decide) ⟨by omega, by omega⟩
    refine lv_iconst (v := 1) hx hb dX7_changesParts_30 (by decide) ?_
    have rg30 : 0 ≤ v29.toInt ∧ v29.toInt ≤ 15 := ⟨by omega, by omega⟩
    refine va_calli (va_runS (As := [.int x1, .int v29, .int 1]) (rest := [.ref (A 20), .int v28]) ⟨hx, hb, hml, hown, hts⟩ (y_X7_partAt l dC dI H.size F10 x1 v29 1 rg7 rg30 (by decide)) (cwS 3 hts (ax_gS T_1078 T_1080 T_265 T_1079) rfl rfl rfl (by decide +kernel) ⟨Nat.le_of_ble_eq_true rfl, Nat.le_of_ble_eq_true rfl⟩) ⟨fun a U g mk q => ⟨q.1, s_pc (U := U) rfl rfl q.2⟩, fun U hU hW => ⟨rfl, s_pw hU hW hP hK hD hN⟩⟩ rfl rfl hl.1 rfl (lv_room (Nat.le_of_ble_eq_true rfl)) dX7_changesParts_31 ⟨Nat.zero_le _, Nat.zero_le _⟩) hS (fun q _ h => h) (fun q h => h) (fun r32 F33 t H1 locs ht hvm hw hB hz1 hk1 hS => ?_)
    obtain ⟨hP, hK1⟩ := hB
    rw [ht] at hP
    generalize H1 = H at hP hS ⊢
    clear hz1 hk1 hvm hK1
    obtain ⟨h34, h36, hG9, h35⟩ := hw
    rw [hG9] at hP
    replace h35 : (r32.toInt = 288 + 48 * x1.toInt + 3 * v29.toInt + 1) := by have q9 := h35; exact q9
    refine th_iald hx hb hK hP (hLK _ (y_k20 hA) (by decide)) 0 o15 rfl (th_in ⟨by omega, by omega⟩) dX7_changesParts_34 ?_
    refine lv_topi (fun v37 ev37 => ?_)
    have Ev37 : v37 = y_c f4 (283 + 48 * x1.toInt + 3 * (y_c f4 (109 + 6 * x1.toInt)).toInt) := ev37.trans (y_ci (by omega))
    have tEv37 := congrArg Int32.toInt Ev37
    refine lv_icmp_ne (tgt := 67) hx hb dX7_changesParts_35 (by decide) (fun c38 => ?_) (fun c38 => ?_)
    · have c38 := mt Int32.toInt_inj.symm.mpr c38
      exact W.vret hx hb hr (fun t ht hW => ⟨⟨F10, rfl, ⟨trivial, trivial, hI, hfr, fun k hk => (y_fiZ oY16 (s_sub (by decide) hk)).trans ((hz0 k hk).trans (y_fiZ oY0 (s_sub (by decide) hk)).symm), (by rw [y_atE o15, y_atE o2, y_atE o5]; exact ⟨hW0, hWs, y_fw_r _ _⟩)⟩, by rw [ht]; exact hP, va_K.moved hW.alike hK⟩, hS.F ht⟩) hS.2.2 dX7_changesParts_67
    · have c38 := Int32.toInt_inj.symm.mp c38
      refine lv_aload_n hx hb dX7_changesParts_38 rfl (lv_at hl 1 rfl) ?_
      refine th_get (D := (dC, dI)) (ci := 7) (v := .ref (A 20)) (C := RX7) (T := TX7) (N := 34) hx hb hts inX7 hown hK hP (hLK _ ha0 (by decide)) oY16 rfl 20 (by decide) (hts _ T_251) (fun _ h9 => h9) rfl dX7_changesParts_39 ?_
      refine lv_iload_n hx hb dX7_changesParts_42 rfl (lv_at hl 2 rfl) ?_
      refine lv_iload_n hx hb dX7_changesParts_43 rfl (lv_at hl 0 rfl) ?_
      refine lv_iconst (v := 1) hx hb dX7_changesParts_44 (by decide) ?_
      refine lv_isub hx hb dX7_changesParts_45 ?_
      refine lv_topi (fun v39 ev39 => ?_)
      have qv39 : v39.toInt = r9.toInt - 1 := by rw [ev39]; exact th_sub rfl (by decide) ⟨by omega, by omega⟩
      refine lv_iconst (v := 0) hx hb dX7_changesParts_46 (by decide) ?_
      have rg40 : 0 ≤ v39.toInt ∧ v39.toInt ≤ 15 := ⟨by omega, by omega⟩
      refine va_calli (va_runS (As := [.int x1, .int v39, .int 0]) (rest := [.ref (A 20)]) ⟨hx, hb, hml, hown, hts⟩ (y_X7_partAt l dC dI H.size F10 x1 v39 0 rg7 rg40 (by decide)) (cwS 3 hts (ax_gS T_1078 T_1080 T_265 T_1079) rfl rfl rfl (by decide +kernel) ⟨Nat.le_of_ble_eq_true rfl, Nat.le_of_ble_eq_true rfl⟩) ⟨fun a U g mk q => ⟨q.1, s_pc (U := U) rfl rfl q.2⟩, fun U hU hW => ⟨rfl, s_pw hU hW hP hK hD hN⟩⟩ rfl rfl hl.1 rfl (lv_room (Nat.le_of_ble_eq_true rfl)) dX7_changesParts_47 ⟨Nat.zero_le _, Nat.zero_le _⟩) hS (fun q _ h => h) (fun q h => h) (fun r42 F43 t H1 locs ht hvm hw hB hz1 hk1 hS => ?_)
      obtain ⟨hP, hK1⟩ := hB
      rw [ht] at hP
      generalize H1 = H at hP hS ⊢
      clear hz1 hk1 hvm hK1
      obtain ⟨h44, h46, hG9, h45⟩ := hw
      rw [hG9] at hP
      replace h45 : (r42.toInt = 288 + 48 * x1.toInt + 3 * v39.toInt + 0) := by have q9 := h45; exact q9
      refine th_iald hx hb hK hP (hLK _ (y_k20 hA) (by decide)) 0 o15 rfl (th_in ⟨by omega, by omega⟩) dX7_changesParts_50 ?_
      refine lv_topi (fun v47 ev47 => ?_)
      have Ev47 : v47 = y_c f4 (282 + 48 * x1.toInt + 3 * (y_c f4 (109 + 6 * x1.toInt)).toInt) := ev47.trans (y_ci (by omega))
      have tEv47 := congrArg Int32.toInt Ev47
      refine lv_aload_n hx hb dX7_changesParts_51 rfl (lv_at hl 1 rfl) ?_
      refine th_get (D := (dC, dI)) (ci := 7) (v := .ref (A 20)) (C := RX7) (T := TX7) (N := 34) hx hb hts inX7 hown hK hP (hLK _ ha0 (by decide)) oY16 rfl 20 (by decide) (hts _ T_251) (fun _ h9 => h9) rfl dX7_changesParts_52 ?_
      refine lv_iload_n hx hb dX7_changesParts_55 rfl (lv_at hl 2 rfl) ?_
      refine lv_iload_n hx hb dX7_changesParts_56 rfl (lv_at hl 0 rfl) ?_
      refine lv_iconst (v := 1) hx hb dX7_changesParts_57 (by decide) ?_
      refine lv_isub hx hb dX7_changesParts_58 ?_
      refine lv_topi (fun v48 ev48 => ?_)
      have qv48 : v48.toInt = r9.toInt - 1 := by rw [ev48]; exact th_sub rfl (by decide) ⟨by omega, by omega⟩
      refine lv_iconst (v := 1) hx hb dX7_changesParts_59 (by decide) ?_
      have rg49 : 0 ≤ v48.toInt ∧ v48.toInt ≤ 15 := ⟨by omega, by omega⟩
      refine va_calli (va_runS (As := [.int x1, .int v48, .int 1]) (rest := [.ref (A 20), .int v47]) ⟨hx, hb, hml, hown, hts⟩ (y_X7_partAt l dC dI H.size F10 x1 v48 1 rg7 rg49 (by decide)) (cwS 3 hts (ax_gS T_1078 T_1080 T_265 T_1079) rfl rfl rfl (by decide +kernel) ⟨Nat.le_of_ble_eq_true rfl, Nat.le_of_ble_eq_true rfl⟩) ⟨fun a U g mk q => ⟨q.1, s_pc (U := U) rfl rfl q.2⟩, fun U hU hW => ⟨rfl, s_pw hU hW hP hK hD hN⟩⟩ rfl rfl hl.1 rfl (lv_room (Nat.le_of_ble_eq_true rfl)) dX7_changesParts_60 ⟨Nat.zero_le _, Nat.zero_le _⟩) hS (fun q _ h => h) (fun q h => h) (fun r51 F52 t H1 locs ht hvm hw hB hz1 hk1 hS => ?_)
      obtain ⟨hP, hK1⟩ := hB
      rw [ht] at hP
      generalize H1 = H at hP hS ⊢
      clear hz1 hk1 hvm hK1
      obtain ⟨h53, h55, hG9, h54⟩ := hw
      rw [hG9] at hP
      replace h54 : (r51.toInt = 288 + 48 * x1.toInt + 3 * v48.toInt + 1) := by have q9 := h54; exact q9
      refine th_iald hx hb hK hP (hLK _ (y_k20 hA) (by decide)) 0 o15 rfl (th_in ⟨by omega, by omega⟩) dX7_changesParts_63 ?_
      refine lv_topi (fun v56 ev56 => ?_)
      have Ev56 : v56 = y_c f4 (283 + 48 * x1.toInt + 3 * (y_c f4 (109 + 6 * x1.toInt)).toInt) := ev56.trans (y_ci (by omega))
      have tEv56 := congrArg Int32.toInt Ev56
      refine lv_icmp_ne (tgt := 68) hx hb dX7_changesParts_64 (by decide) (fun c57 => ?_) (fun c57 => ?_)
      · have c57 := mt Int32.toInt_inj.symm.mpr c57
        refine lv_iconst (v := 0) hx hb dX7_changesParts_68 (by decide) ?_
        refine lv_istore_n (lv' := [(3, .int 0), (2, .int r9), (0, .ref a0), (1, .int x1)]) hx hb dX7_changesParts_69 rfl hl (by decide) rfl (fun ls hl => ?_)
        have h59 : (0 : Int32).toInt = 0 := by decide
        refine th_loop (fun n g H locs => ∃ (G : Nat → va_E) (ls : Array Slot) (w58 : Int32), g = F0 m 70 ls [] ∧ lv_has ls 5 [(0, .ref a0), (1, .int x1), (2, .int r9), (3, .int w58)] ∧ va_P (dC, dI) vwCl (va_pl L G) H ∧ va_S (fun q => q ∈ L) s.heap H locs ∧ y_I K cs A G ∧ (∀ b, K b ∉ [70] → G b = F b) ∧ (∀ k, k ∈ ([1, 2, 3, 4, 5, 6, 7, 8, 11, 15, 16, 19, 25, 26, 27, 31, 32] : List Nat) → y_fi G a0 k = z0 k) ∧ (0 ≤ w58.toInt ∧ w58.toInt ≤ 3) ∧ (0 ≤ x1.toInt ∧ x1.toInt ≤ 3) ∧ (1 ≤ r9.toInt ∧ r9.toInt ≤ 14) ∧ (y_sw f4 (285 + 48 * x1.toInt + 3 * (y_c f4 (109 + 6 * x1.toInt)).toInt) w58.toInt (y_at G (A 20))) ∧ (r9.toInt = (y_c f4 (109 + 6 * x1.toInt)).toInt - 1 ∧ 2 ≤ (y_c f4 (109 + 6 * x1.toInt)).toInt) ∧ ((y_c f4 (286 + 48 * x1.toInt + 3 * (y_c f4 (109 + 6 * x1.toInt)).toInt)).toInt = (y_c f4 (283 + 48 * x1.toInt + 3 * (y_c f4 (109 + 6 * x1.toInt)).toInt)).toInt ∧ ¬ (y_c f4 (282 + 48 * x1.toInt + 3 * (y_c f4 (109 + 6 * x1.toInt)).toInt)).toInt = (y_c f4 (283 + 48 * x1.toInt + 3 * (y_c f4 (109 + 6 * x1.toInt)).toInt)).toInt) ∧ n = (4 - w58.toInt).toNat) _ ⟨F10, _, 0, rfl, lv_sub hl [2, 3, 1, 0] rfl, hP, hS, hI, hfr, (fun k hk => (y_fiZ oY16 (s_sub (by decide) hk)).trans (hz0 k hk)), (by decide), ⟨by omega, by omega⟩, ⟨by omega, by omega⟩, (by rw [y_atE o15]; exact (by rw [show (0 : Int32).toInt = 0 by decide]; exact y_sw0)), (by omega), (by omega), rfl⟩ (fun n ih70 g H locs hq => ?_)
        obtain ⟨F66, ls, w58, rfl, hl, hP, hS, hI, hfr, hz0, h60, h61, h62, h63, h64, h65, hn⟩ := hq
        have o67 : F66 (A 13) = .inl (cs 0, 400, .inl f1) := (hfr _ (by rw [(y_k13 hA)]; decide)).trans o2
        have oY68 : F66 a0 = .inr (7, y_fl A z0 q0) := (hfr _ (by rw [ha0]; decide)).trans oY0
        have hz0 : ∀ k, k ∈ ([1, 2, 3, 4, 5, 6, 7, 8, 11, 15, 16, 19, 25, 26, 27, 31, 32] : List Nat) → z0 k = z0 k := fun _ _ => rfl
        obtain ⟨f69, o70, b71⟩ := y_op20 hI
        replace h63 : (y_sw f4 (285 + 48 * x1.toInt + 3 * (y_c f4 (109 + 6 * x1.toInt)).toInt) w58.toInt f69) := by have q9 := h63; rw [y_atE o70] at q9; exact q9
        have hn_71 := hn
        refine lv_iload_n hx hb dX7_changesParts_70 rfl (lv_at hl 3 rfl) ?_
        refine lv_iconst (v := 3) hx hb dX7_changesParts_71 (by decide) ?_
        refine lv_icmp_ge (tgt := 133) hx hb dX7_changesParts_72 (by decide) (fun c72 => ?_) (fun c72 => ?_)
        · have c72 := (ax_ge (n := 3) (by decide)).mp c72
          exact W.vret hx hb hr (fun t ht hW => ⟨⟨F66, rfl, ⟨trivial, trivial, hI, hfr, fun k hk => (y_fiZ oY68 (s_sub (by decide) hk)).trans ((hz0 k hk).trans (y_fiZ oY0 (s_sub (by decide) hk)).symm), (by rw [y_atE o70, y_atE o2, y_atE o5]; exact y_swE ⟨by omega, by omega⟩ rfl hW0 (by omega) (by have q9 := h63; rw [show w58.toInt = 3 by omega] at q9; exact q9) (by omega) (by omega) hWs)⟩, by rw [ht]; exact hP, va_K.moved hW.alike hK⟩, hS.F ht⟩) hS.2.2 dX7_changesParts_133
        · have c72 := mt (ax_ge (n := 3) (by decide)).mpr c72
          refine lv_aload_n hx hb dX7_changesParts_75 rfl (lv_at hl 0 rfl) ?_
          refine th_get (D := (dC, dI)) (ci := 7) (v := .ref (A 20)) (C := RX7) (T := TX7) (N := 34) hx hb hts inX7 hown hK hP (hLK _ ha0 (by decide)) oY68 rfl 20 (by decide) (hts _ T_251) (fun _ h9 => h9) rfl dX7_changesParts_76 ?_
          refine lv_iload_n hx hb dX7_changesParts_79 rfl (lv_at hl 1 rfl) ?_
          refine lv_iload_n hx hb dX7_changesParts_80 rfl (lv_at hl 2 rfl) ?_
          refine lv_iload_n hx hb dX7_changesParts_81 rfl (lv_at hl 3 rfl) ?_
          have rg73 : 0 ≤ w58.toInt ∧ w58.toInt ≤ 2 := ⟨by omega, by omega⟩
          refine va_calli (va_runS (As := [.int x1, .int r9, .int w58]) (rest := [.ref (A 20)]) ⟨hx, hb, hml, hown, hts⟩ (y_X7_partAt l dC dI H.size F66 x1 r9 w58 rg7 rg21 rg73) (cwS 3 hts (ax_gS T_1078 T_1080 T_265 T_1079) rfl rfl rfl (by decide +kernel) ⟨Nat.le_of_ble_eq_true rfl, Nat.le_of_ble_eq_true rfl⟩) ⟨fun a U g mk q => ⟨q.1, s_pc (U := U) rfl rfl q.2⟩, fun U hU hW => ⟨rfl, s_pw hU hW hP hK hD hN⟩⟩ rfl rfl hl.1 rfl (lv_room (Nat.le_of_ble_eq_true rfl)) dX7_changesParts_82 ⟨Nat.zero_le _, Nat.zero_le _⟩) hS (fun q _ h => h) (fun q h => h) (fun r75 F76 t H1 locs ht hvm hw hB hz1 hk1 hS => ?_)
          obtain ⟨hP, hK1⟩ := hB
          rw [ht] at hP
          generalize H1 = H at hP hS ⊢
          clear hz1 hk1 hvm hK1
          obtain ⟨h77, h79, hG9, h78⟩ := hw
          rw [hG9] at hP
          replace h78 : (r75.toInt = 288 + 48 * x1.toInt + 3 * r9.toInt + w58.toInt) := by have q9 := h78; exact q9
          refine th_iald hx hb hK hP (hLK _ (y_k20 hA) (by decide)) 0 o70 rfl (th_in ⟨by omega, by omega⟩) dX7_changesParts_85 ?_
          refine lv_topi (fun v80 ev80 => ?_)
          have Ev80 : v80 = y_c f69 (285 + 48 * x1.toInt + 3 * (y_c f4 (109 + 6 * x1.toInt)).toInt + w58.toInt) := ev80.trans (y_ci (by omega))
          have tEv80 := congrArg Int32.toInt Ev80
          refine lv_istore (lv' := [(4, .int v80), (0, .ref a0), (1, .int x1), (2, .int r9), (3, .int w58)]) hx hb dX7_changesParts_86 hl (by decide) rfl (fun ls hl => ?_)
          refine lv_aload_n hx hb dX7_changesParts_88 rfl (lv_at hl 1 rfl) ?_
          refine th_get (D := (dC, dI)) (ci := 7) (v := .ref (A 20)) (C := RX7) (T := TX7) (N := 34) hx hb hts inX7 hown hK hP (hLK _ ha0 (by decide)) oY68 rfl 20 (by decide) (hts _ T_251) (fun _ h9 => h9) rfl dX7_changesParts_89 ?_
          refine lv_iload_n hx hb dX7_changesParts_92 rfl (lv_at hl 2 rfl) ?_
          refine lv_iload_n hx hb dX7_changesParts_93 rfl (lv_at hl 3 rfl) ?_
          refine lv_iload_n hx hb dX7_changesParts_94 rfl (lv_at hl 4 rfl) ?_
          refine va_calli (va_runS (As := [.int x1, .int r9, .int w58]) (rest := [.ref (A 20)]) ⟨hx, hb, hml, hown, hts⟩ (y_X7_partAt l dC dI H.size F66 x1 r9 w58 rg7 rg21 rg73) (cwS 3 hts (ax_gS T_1078 T_1080 T_265 T_1079) rfl rfl rfl (by decide +kernel) ⟨Nat.le_of_ble_eq_true rfl, Nat.le_of_ble_eq_true rfl⟩) ⟨fun a U g mk q => ⟨q.1, s_pc (U := U) rfl rfl q.2⟩, fun U hU hW => ⟨rfl, s_pw hU hW hP hK hD hN⟩⟩ rfl rfl hl.1 rfl (lv_room (Nat.le_of_ble_eq_true rfl)) dX7_changesParts_95 ⟨Nat.zero_le _, Nat.zero_le _⟩) hS (fun q _ h => h) (fun q h => h) (fun r82 F83 t H1 locs ht hvm hw hB hz1 hk1 hS => ?_)
          obtain ⟨hP, hK1⟩ := hB
          rw [ht] at hP
          generalize H1 = H at hP hS ⊢
          clear hz1 hk1 hvm hK1
          obtain ⟨h84, h86, hG9, h85⟩ := hw
          rw [hG9] at hP
          replace h85 : (r82.toInt = 288 + 48 * x1.toInt + 3 * r9.toInt + w58.toInt) := by have q9 := h85; exact q9
          refine lv_aload_n hx hb dX7_changesParts_98 rfl (lv_at hl 1 rfl) ?_
          refine th_get (D := (dC, dI)) (ci := 7) (v := .ref (A 20)) (C := RX7) (T := TX7) (N := 34) hx hb hts inX7 hown hK hP (hLK _ ha0 (by decide)) oY68 rfl 20 (by decide) (hts _ T_251) (fun _ h9 => h9) rfl dX7_changesParts_99 ?_
          refine lv_iload_n hx hb dX7_changesParts_102 rfl (lv_at hl 2 rfl) ?_
          refine lv_iload_n hx hb dX7_changesParts_103 rfl (lv_at hl 3 rfl) ?_
          refine lv_iconst (v := 1) hx hb dX7_changesParts_104 (by decide) ?_
          refine lv_isub hx hb dX7_changesParts_105 ?_
          refine lv_topi (fun v87 ev87 => ?_)
          have qv87 : v87.toInt = r9.toInt - 1 := by rw [ev87]; exact th_sub rfl (by decide) ⟨by omega, by omega⟩
          refine lv_iload_n hx hb dX7_changesParts_106 rfl (lv_at hl 4 rfl) ?_
          have rg88 : 0 ≤ v87.toInt ∧ v87.toInt ≤ 15 := ⟨by omega, by omega⟩
          refine va_calli (va_runS (As := [.int x1, .int v87, .int w58]) (rest := [.ref (A 20), .int r82, .ref (A 20)]) ⟨hx, hb, hml, hown, hts⟩ (y_X7_partAt l dC dI H.size F66 x1 v87 w58 rg7 rg88 rg73) (cwS 3 hts (ax_gS T_1078 T_1080 T_265 T_1079) rfl rfl rfl (by decide +kernel) ⟨Nat.le_of_ble_eq_true rfl, Nat.le_of_ble_eq_true rfl⟩) ⟨fun a U g mk q => ⟨q.1, s_pc (U := U) rfl rfl q.2⟩, fun U hU hW => ⟨rfl, s_pw hU hW hP hK hD hN⟩⟩ rfl rfl hl.1 rfl (lv_room (Nat.le_of_ble_eq_true rfl)) dX7_changesParts_107 ⟨Nat.zero_le _, Nat.zero_le _⟩) hS (fun q _ h => h) (fun q h => h) (fun r90 F91 t H1 locs ht hvm hw hB hz1 hk1 hS => ?_)
          obtain ⟨hP, hK1⟩ := hB
          rw [ht] at hP
          generalize H1 = H at hP hS ⊢
          clear hz1 hk1 hvm hK1
          obtain ⟨h92, h94, hG9, h93⟩ := hw
          rw [hG9] at hP
          replace h93 : (r90.toInt = 288 + 48 * x1.toInt + 3 * v87.toInt + w58.toInt) := by have q9 := h93; exact q9
          refine th_iald hx hb hK hP (hLK _ (y_k20 hA) (by decide)) 0 o70 rfl (th_in ⟨by omega, by omega⟩) dX7_changesParts_110 ?_
          refine lv_topi (fun v95 ev95 => ?_)
          have Ev95 : v95 = y_c f69 (282 + 48 * x1.toInt + 3 * (y_c f4 (109 + 6 * x1.toInt)).toInt + w58.toInt) := ev95.trans (y_ci (by omega))
          have tEv95 := congrArg Int32.toInt Ev95
          refine th_iast hx hb hK hP hD hS (hLK _ (y_k20 hA) (by decide)) 0 o70 rfl (th_in ⟨by omega, by omega⟩) dX7_changesParts_111 (fun H locs hP hS => ?_)
          obtain ⟨f96, u97⟩ : ∃ g : Nat → Int32, g = upd f69 (r82 : Int32).toNatClampNeg v95 := ⟨_, rfl⟩
          rw [← u97] at hP
          have b98 : y_bd 20 f96 := trivial
          have hP : va_P (dC, dI) vwCl (va_pl L (va_up F66 (A 20) (.inl (cs 0, 918, .inl f96)))) H := hP
          obtain ⟨F99, hF100⟩ : ∃ G : Nat → va_E, G = va_up F66 (A 20) (.inl (cs 0, 918, .inl f96)) := ⟨_, rfl⟩
          rw [← hF100] at hP
          have hI : y_I K cs A F99 := by rw [hF100]; exact y_clA (i := 20) hA hI (by decide) b98
          have hfr : ∀ b, K b ∉ [70] → F99 b = F b := by rw [hF100]; exact s_fr hfr (y_k20 hA) (by decide)
          have o101 : F99 (A 13) = .inl (cs 0, 400, .inl f1) := by rw [hF100]; exact th_ne (th_kd (y_k13 hA) (y_k20 hA) (by decide)) o67
          have oY102 : F99 a0 = .inr (7, y_fl A z0 q0) := by rw [hF100]; exact th_ne (th_kd ha0 (y_k20 hA) (by decide)) oY68
          have o103 : F99 (A 20) = .inl (cs 0, 918, .inl f96) := by rw [hF100]; exact th_up
          have u104 : ∀ j : Int, 0 ≤ j → y_c f96 j = if j = r82.toInt then v95 else y_c f69 j := by rw [u97]; exact y_cu rfl (by omega)
          refine lv_aload_n hx hb dX7_changesParts_112 rfl (lv_at hl 1 rfl) ?_
          refine th_get (D := (dC, dI)) (ci := 7) (v := .ref (A 20)) (C := RX7) (T := TX7) (N := 34) hx hb hts inX7 hown hK hP (hLK _ ha0 (by decide)) oY102 rfl 20 (by decide) (hts _ T_251) (fun _ h9 => h9) rfl dX7_changesParts_113 ?_
          refine lv_iload_n hx hb dX7_changesParts_116 rfl (lv_at hl 2 rfl) ?_
          refine lv_iload_n hx hb dX7_changesParts_117 rfl (lv_at hl 3 rfl) ?_
          refine lv_iconst (v := 1) hx hb dX7_changesParts_118 (by decide) ?_
          refine lv_isub hx hb dX7_changesParts_119 ?_
          refine lv_topi (fun v105 ev105 => ?_)
          have qv105 : v105.toInt = r9.toInt - 1 := by rw [ev105]; exact th_sub rfl (by decide) ⟨by omega, by omega⟩
          refine lv_iload_n hx hb dX7_changesParts_120 rfl (lv_at hl 4 rfl) ?_
          have rg106 : 0 ≤ v105.toInt ∧ v105.toInt ≤ 15 := ⟨by omega, by omega⟩
          refine va_calli (va_runS (As := [.int x1, .int v105, .int w58]) (rest := [.ref (A 20)]) ⟨hx, hb, hml, hown, hts⟩ (y_X7_partAt l dC dI H.size F99 x1 v105 w58 rg7 rg106 rg73) (cwS 3 hts (ax_gS T_1078 T_1080 T_265 T_1079) rfl rfl rfl (by decide +kernel) ⟨Nat.le_of_ble_eq_true rfl, Nat.le_of_ble_eq_true rfl⟩) ⟨fun a U g mk q => ⟨q.1, s_pc (U := U) rfl rfl q.2⟩, fun U hU hW => ⟨rfl, s_pw hU hW hP hK hD hN⟩⟩ rfl rfl hl.1 rfl (lv_room (Nat.le_of_ble_eq_true rfl)) dX7_changesParts_121 ⟨Nat.zero_le _, Nat.zero_le _⟩) hS (fun q _ h => h) (fun q h => h) (fun r108 F109 t H1 locs ht hvm hw hB hz1 hk1 hS => ?_)
          obtain ⟨hP, hK1⟩ := hB
          rw [ht] at hP
          generalize H1 = H at hP hS ⊢
          clear hz1 hk1 hvm hK1
          obtain ⟨h110, h112, hG9, h111⟩ := hw
          rw [hG9] at hP
          replace h111 : (r108.toInt = 288 + 48 * x1.toInt + 3 * v105.toInt + w58.toInt) := by have q9 := h111; exact q9
          refine lv_iload hx hb dX7_changesParts_124 (lv_at hl 0 rfl) ?_
          refine th_iast hx hb hK hP hD hS (hLK _ (y_k20 hA) (by decide)) 0 o103 rfl (th_in ⟨by omega, by omega⟩) dX7_changesParts_126 (fun H locs hP hS => ?_)
          obtain ⟨f113, u114⟩ : ∃ g : Nat → Int32, g = upd f96 (r108 : Int32).toNatClampNeg v80 := ⟨_, rfl⟩
          rw [← u114] at hP
          have b115 : y_bd 20 f113 := trivial
          have hP : va_P (dC, dI) vwCl (va_pl L (va_up F99 (A 20) (.inl (cs 0, 918, .inl f113)))) H := hP
          obtain ⟨F116, hF117⟩ : ∃ G : Nat → va_E, G = va_up F99 (A 20) (.inl (cs 0, 918, .inl f113)) := ⟨_, rfl⟩
          rw [← hF117] at hP
          have hI : y_I K cs A F116 := by rw [hF117]; exact y_clA (i := 20) hA hI (by decide) b115
          have hfr : ∀ b, K b ∉ [70] → F116 b = F b := by rw [hF117]; exact s_fr hfr (y_k20 hA) (by decide)
          have o118 : F116 (A 13) = .inl (cs 0, 400, .inl f1) := by rw [hF117]; exact th_ne (th_kd (y_k13 hA) (y_k20 hA) (by decide)) o101
          have oY119 : F116 a0 = .inr (7, y_fl A z0 q0) := by rw [hF117]; exact th_ne (th_kd ha0 (y_k20 hA) (by decide)) oY102
          have o120 : F116 (A 20) = .inl (cs 0, 918, .inl f113) := by rw [hF117]; exact th_up
          have u121 : ∀ j : Int, 0 ≤ j → y_c f113 j = if j = r108.toInt then v80 else y_c f96 j := by rw [u114]; exact y_cu rfl (by omega)
          obtain ⟨v122, ev122⟩ : ∃ y : Int32, w58 + 1 = y := ⟨_, rfl⟩
          have qv122 : v122.toInt = w58.toInt + 1 := by rw [← ev122]; exact th_add rfl (by decide) ⟨by omega, by omega⟩
          refine lv_iinc (v := v122) (lv' := [(3, .int v122), (4, .int v80), (0, .ref a0), (1, .int x1), (2, .int r9)]) hx hb dX7_changesParts_127 hl (k := 4) rfl ev122 (by decide) rfl (fun ls hl => ?_)
          refine lv_goto (tgt := 70) hx hb dX7_changesParts_130 (by decide) ?_
          exact ih70 _ _ _ _ (by omega) ⟨F116, _, v122, rfl, lv_sub hl [2, 3, 4, 0] rfl, hP, hS, hI, hfr, (fun k hk => (y_fiZ oY119 (s_sub (by decide) hk)).trans (hz0 k hk)), ⟨by omega, by omega⟩, ⟨by omega, by omega⟩, ⟨by omega, by omega⟩, (by rw [y_atE o120]; exact (by rw [show v122.toInt = w58.toInt + 1 by omega]; exact y_swS (by omega) ⟨by omega, by omega⟩ h63 u104 u121 (by omega) (by omega) (Ev95.trans (congrArg _ (by omega))) (Ev80.trans (congrArg _ (by omega))))), (by omega), (by omega), rfl⟩
      · have c57 := Int32.toInt_inj.symm.mp c57
        exact W.vret hx hb hr (fun t ht hW => ⟨⟨F10, rfl, ⟨trivial, trivial, hI, hfr, fun k hk => (y_fiZ oY16 (s_sub (by decide) hk)).trans ((hz0 k hk).trans (y_fiZ oY0 (s_sub (by decide) hk)).symm), (by rw [y_atE o15, y_atE o2, y_atE o5]; exact ⟨hW0, hWs, y_fw_r _ _⟩)⟩, by rw [ht]; exact hP, va_K.moved hW.alike hK⟩, hS.F ht⟩) hS.2.2 dX7_changesParts_67
