set_option maxHeartbeats 4000000 in
set_option maxRecDepth 100000 in
theorem y_X7_doesAgree (l : Launch) (dC : Nat → ClassId) (dI : Nat → Nat → Nat) (sz : Nat) {L : List Nat} {K : Nat → Nat} {cs : Nat → ClassId} (hLK : ∀ a {k : Nat}, K a = k → k ≠ 0 → a ∈ L) (A : Nat → Nat) (hA : y_A K A) (F : Nat → va_E) (a0 : Nat) (x1 : Int32) (x2 : Int32) (ha0 : K a0 = 9) (hx1 : 0 ≤ x1.toInt ∧ x1.toInt ≤ 3) (hx2 : 0 ≤ x2.toInt ∧ x2.toInt ≤ 7) (hI : y_I K cs A F) (hPG : y_PG (y_at F (A 13))) (hNG : y_NG (y_at F (A 13)) (y_at F (A 20))) : Met l yX7_doesAgree (Cond.code yX7_doesAgree cX7_doesAgree 4 (some .boolean) :: T0) ({ frames := 10, cells := 0, slots := 0, locals := 232 }) (va_Pc [.ref a0, .int x1, .int x2] (s_W dC dI sz L F [(cs 0, .int), (cs 1, .byte), (cs 2, .long), (cs 3, .object RX5), (cs 4, .object RX4), (cs 5, .array .int), (cs 6, .char), (cs 7, .boolean)])) (va_Qi (fun (r : Int32) (G : Nat → va_E) => (0 ≤ r.toInt ∧ r.toInt ≤ 1) ∧ True ∧ y_I K cs A G ∧ (∀ b, K b ∉ [70, 71, 72, 73, 78] → G b = F b) ∧ (∀ k, k ∈ ([1, 2, 3, 4, 5, 6, 7, 8, 11, 15, 16, 19, 25, 26, 27, 31, 32] : List Nat) → y_fi G a0 k = y_fi F a0 k) ∧ (y_CP (y_at F (A 20)) (y_at G (A 20)))) (fun (G : Nat → va_E) (t : State) => va_P (dC, dI) vwCl (va_pl L G) t.heap ∧ va_K (dC, dI) vwCl [(cs 0, .int), (cs 1, .byte), (cs 2, .long), (cs 3, .object RX5), (cs 4, .object RX4), (cs 5, .array .int), (cs 6, .char), (cs 7, .boolean)] t) (fun q => q ∈ L)) 0 0 (fun q => q ∈ L) := by
  refine Met.ofW (cc := cX7_doesAgree) (maxL := 4) (ret := (some .boolean)) (by decide) rfl ?_
  intro p e s m args below meth c s₁ B hml hv
  obtain ⟨rfl, hsz, hP, hK, hD, hN⟩ := hv
  have hx := B.exec
  have hb := B.bytes
  have hr := B.returns
  have hts : ∀ w ∈ T0, w.before _ s = true := fun w h => atoms_spec (ws := Cond.code yX7_doesAgree cX7_doesAgree 4 (some .boolean) :: T0) B.pre w (List.mem_cons_of_mem _ h)
  have hown : s.vm.findClass RX7 = some m.cls := findClass_of_methodNamed B.named
  have hlocks := B.notSynchronized
  have hS : va_S (fun q => q ∈ L) s.heap s.heap [] := va_S.rf
  have hfr : ∀ b, K b ∉ [70, 71, 72, 73, 78] → F b = F b := fun _ _ => rfl
  have hl := lv_entry ([.ref a0, .int x1, .int x2]) (n := 4) (Nat.le_of_ble_eq_true rfl)
  rw [lg_entry_eq]
  generalize (lg_sl ([.ref a0, .int x1, .int x2]) ++ List.replicate (4 - (lg_sl ([.ref a0, .int x1, .int x2])).length) Slot.unset).toArray = ls at hl ⊢
  have hl : lv_has ls 4 [(0, .ref a0), (1, .int x1), (2, .int x2)] := hl
  refine s_gen hP hS (fun H locs hP hS => ?_)
  obtain ⟨z0, q0, oY0, bz0, bq0⟩ := y_opY hI ha0
  have hz0 : ∀ k, k ∈ ([1, 2, 3, 4, 5, 6, 7, 8, 11, 15, 16, 19, 25, 26, 27, 31, 32] : List Nat) → z0 k = z0 k := fun _ _ => rfl
  obtain ⟨f1, o2, b3⟩ := y_op13 hI
  obtain ⟨f4, o5, b6⟩ := y_op20 hI
  replace hPG : y_PG f1 := by have q9 := hPG; rw [y_atE o2] at q9; exact q9
  replace hNG : y_NG f1 f4 := by have q9 := hNG; rw [y_atE o2, y_atE o5] at q9; exact q9
  have hL := y_P0L hPG.1
  have hW := y_P0W hPG.1
  have hnn := And.intro hNG.1 (And.intro hNG.2.1 (And.intro hNG.2.2.1 hNG.2.2.2.1))
  refine lv_aload_n hx hb dX7_doesAgree_0 rfl (lv_at hl 0 rfl) ?_
  refine lv_iload_n hx hb dX7_doesAgree_1 rfl (lv_at hl 1 rfl) ?_
  refine lv_iconst (v := 3) hx hb dX7_doesAgree_2 (by decide) ?_
  have rg7 : 0 ≤ x1.toInt ∧ x1.toInt ≤ 3 := ⟨by omega, by omega⟩
  refine va_calli (va_runV (As := [.int x1, .int 3]) (rest := []) ⟨hx, hb, hml, hown, hts⟩ (y_X7_its l dC dI H.size hLK A hA F a0 x1 3 ha0 rg7 (by decide) hI) (cwV 2 hts (ax_gV T_1057 T_1059 T_1060 T_265 T_1058) rfl rfl rfl (by decide +kernel) ⟨Nat.le_of_ble_eq_true rfl, Nat.le_of_ble_eq_true rfl⟩) ⟨fun a U g mk q => ⟨q.1, s_pc (U := U) rfl rfl q.2⟩, s_recv hK hP (hLK _ ha0 (by decide)) (ci := 7) rfl oY0, fun U hU hW => ⟨rfl, s_pw hU hW hP hK hD hN⟩⟩ rfl rfl hl.1 rfl (lv_room (Nat.le_of_ble_eq_true rfl)) dX7_doesAgree_3 ⟨Nat.zero_le _, Nat.zero_le _⟩) hS (fun q _ h => h) (fun q h => h) (fun r9 F10 t H1 locs ht hvm hw hB hz1 hk1 hS => ?_)
  obtain ⟨hP, hK1⟩ := hB
  rw [ht] at hP
  generalize H1 = H at hP hS ⊢
  clear hz1 hk1 hvm hK1
  obtain ⟨h11, h13, hI, hfr1, hzf, h12⟩ := hw
  have o14 : F10 (A 13) = .inl (cs 0, 400, .inl f1) := (hfr1 _ (by rw [(y_k13 hA)]; decide)).trans o2
  have o15 : F10 (A 20) = .inl (cs 0, 918, .inl f4) := (hfr1 _ (by rw [(y_k20 hA)]; decide)).trans o5
  have oY16 : F10 a0 = .inr (7, y_fl A z0 q0) := (hfr1 _ (by rw [ha0]; decide)).trans oY0
  have hfr : ∀ b, K b ∉ [70, 71, 72, 73, 78] → F10 b = F b := fun b hb9 => (hfr1 b (fun q => hb9 (s_sub (by decide) q))).trans (hfr b hb9)
  replace h12 : (r9 = y_c f4 (104 + 6 * x1.toInt + 3)) := by have q9 := h12; rw [y_atE o5] at q9; exact q9
  have h12 : r9 = y_c f4 (107 + 6 * x1.toInt) := h12.trans (congrArg (y_c f4) (by omega))
  have h17 := congrArg Int32.toInt h12
  refine lv_iload_n hx hb dX7_doesAgree_6 rfl (lv_at hl 2 rfl) ?_
  have rg18 : 0 ≤ x2.toInt ∧ x2.toInt ≤ 31 := ⟨by omega, by omega⟩
  refine va_calli (va_runS (As := [.int r9, .int x2]) (rest := []) ⟨hx, hb, hml, hown, hts⟩ (y_X7_isOf l dC dI H.size F10 r9 x2 rg18) (cwS 2 hts (ax_gS T_1027 T_1029 T_265 T_1028) rfl rfl rfl (by decide +kernel) ⟨Nat.le_of_ble_eq_true rfl, Nat.le_of_ble_eq_true rfl⟩) ⟨fun a U g mk q => ⟨q.1, s_pc (U := U) rfl rfl q.2⟩, fun U hU hW => ⟨rfl, s_pw hU hW hP hK hD hN⟩⟩ rfl rfl hl.1 rfl (lv_room (Nat.le_of_ble_eq_true rfl)) dX7_doesAgree_7 ⟨Nat.zero_le _, Nat.zero_le _⟩) hS (fun q _ h => h) (fun q h => h) (fun r20 F21 t H1 locs ht hvm hw hB hz1 hk1 hS => ?_)
  obtain ⟨hP, hK1⟩ := hB
  rw [ht] at hP
  generalize H1 = H at hP hS ⊢
  clear hz1 hk1 hvm hK1
  obtain ⟨h22, h24, hG9, h23⟩ := hw
  rw [hG9] at hP
  replace h23 : ((r20.toInt = 1 ∧ bt r9 x2.toInt.toNat = true) ∨ (r20.toInt = 0 ∧ bt r9 x2.toInt.toNat = false)) := by have q9 := h23; exact q9
  refine lv_if_ne (tgt := 22) hx hb dX7_doesAgree_10 (by decide) (fun c25 => ?_) (fun c25 => ?_)
  · have c25 := mt (ax_eq (n := 0) (by decide)).mpr c25
    refine lv_iconst (v := 0) hx hb dX7_doesAgree_22 (by decide) ?_
    have h26 : (0 : Int32).toInt = 0 := by decide
    exact W.zret (v := 0) (ty := .boolean) hx hb hr (by decide) (fun t ht hW => ⟨⟨0, F10, rfl, ⟨(by decide), trivial, hI, hfr, fun k hk => (y_fiZ oY16 (s_sub (by decide) hk)).trans ((hz0 k hk).trans (y_fiZ oY0 (s_sub (by decide) hk)).symm), (by rw [y_atE o5, y_atE o15]; exact (y_CP_r _))⟩, by rw [ht]; exact hP, va_K.moved hW.alike hK⟩, hS.F ht⟩) hS.2.2 dX7_doesAgree_23
  · have c25 := (ax_eq (n := 0) (by decide)).mp c25
    refine lv_aload_n hx hb dX7_doesAgree_13 rfl (lv_at hl 0 rfl) ?_
    refine lv_iload_n hx hb dX7_doesAgree_14 rfl (lv_at hl 1 rfl) ?_
    refine lv_iload_n hx hb dX7_doesAgree_15 rfl (lv_at hl 2 rfl) ?_
    have rg27 : 0 ≤ x2.toInt ∧ x2.toInt ≤ 7 := ⟨by omega, by omega⟩
    refine va_calli (va_runV (As := [.int x1, .int x2]) (rest := []) ⟨hx, hb, hml, hown, hts⟩ (y_X7_isAlone l dC dI H.size hLK A hA F10 a0 x1 x2 ha0 rg7 rg27 hI (by rw [y_atE o14]; exact hPG) (by rw [y_atE o14, y_atE o15]; exact hNG)) (cwV 2 hts (ax_gV T_1005 T_1007 T_1008 T_265 T_1006) rfl rfl rfl (by decide +kernel) ⟨Nat.le_of_ble_eq_true rfl, Nat.le_of_ble_eq_true rfl⟩) ⟨fun a U g mk q => ⟨q.1, s_pc (U := U) rfl rfl q.2⟩, s_recv hK hP (hLK _ ha0 (by decide)) (ci := 7) rfl oY16, fun U hU hW => ⟨rfl, s_pw hU hW hP hK hD hN⟩⟩ rfl rfl hl.1 rfl (lv_room (Nat.le_of_ble_eq_true rfl)) dX7_doesAgree_16 ⟨Nat.zero_le _, Nat.zero_le _⟩) hS (fun q _ h => h) (fun q h => h) (fun r29 F30 t H1 locs ht hvm hw hB hz1 hk1 hS => ?_)
    obtain ⟨hP, hK1⟩ := hB
    rw [ht] at hP
    generalize H1 = H at hP hS ⊢
    clear hz1 hk1 hvm hK1
    obtain ⟨h31, h33, hI, hfr1, hzf, h32⟩ := hw
    have o34 : F30 (A 13) = .inl (cs 0, 400, .inl f1) := (hfr1 _ (by rw [(y_k13 hA)]; decide)).trans o14
    have oY35 : F30 a0 = .inr (7, y_fl A z0 q0) := (hfr1 _ (by rw [ha0]; decide)).trans oY16
    have hfr : ∀ b, K b ∉ [70, 71, 72, 73, 78] → F30 b = F b := fun b hb9 => (hfr1 b (fun q => hb9 (s_sub (by decide) q))).trans (hfr b hb9)
    obtain ⟨f36, o37, b38⟩ := y_op20 hI
    replace h32 : (y_CP f4 f36) := by have q9 := h32; rw [y_atE o15, y_atE o37] at q9; exact q9
    refine lv_if_ne (tgt := 24) hx hb dX7_doesAgree_19 (by decide) (fun c39 => ?_) (fun c39 => ?_)
    · have c39 := mt (ax_eq (n := 0) (by decide)).mpr c39
      refine lv_iconst (v := 0) hx hb dX7_doesAgree_24 (by decide) ?_
      refine lv_istore_n (lv' := [(3, .int 0), (0, .ref a0), (1, .int x1), (2, .int x2)]) hx hb dX7_doesAgree_25 rfl hl (by decide) rfl (fun ls hl => ?_)
      have h41 : (0 : Int32).toInt = 0 := by decide
      refine th_loop (fun n g H locs => ∃ (G : Nat → va_E) (ls : Array Slot) (w40 : Int32), g = F0 m 26 ls [] ∧ lv_has ls 4 [(0, .ref a0), (1, .int x1), (2, .int x2), (3, .int w40)] ∧ va_P (dC, dI) vwCl (va_pl L G) H ∧ va_S (fun q => q ∈ L) s.heap H locs ∧ y_I K cs A G ∧ (∀ b, K b ∉ [70, 71, 72, 73, 78] → G b = F b) ∧ (∀ k, k ∈ ([1, 2, 3, 4, 5, 6, 7, 8, 11, 15, 16, 19, 25, 26, 27, 31, 32] : List Nat) → y_fi G a0 k = z0 k) ∧ (0 ≤ w40.toInt ∧ w40.toInt ≤ 4) ∧ (0 ≤ x1.toInt ∧ x1.toInt ≤ 3) ∧ (0 ≤ x2.toInt ∧ x2.toInt ≤ 7) ∧ (y_CP f4 (y_at G (A 20))) ∧ n = (5 - w40.toInt).toNat) _ ⟨F30, _, 0, rfl, lv_sub hl [1, 2, 3, 0] rfl, hP, hS, hI, hfr, (fun k hk => (y_fiZ oY35 (s_sub (by decide) hk)).trans (hz0 k hk)), (by decide), ⟨by omega, by omega⟩, ⟨by omega, by omega⟩, (by rw [y_atE o37]; exact h32), rfl⟩ (fun n ih26 g H locs hq => ?_)
      obtain ⟨F46, ls, w40, rfl, hl, hP, hS, hI, hfr, hz0, h42, h43, h44, h45, hn⟩ := hq
      have o47 : F46 (A 13) = .inl (cs 0, 400, .inl f1) := (hfr _ (by rw [(y_k13 hA)]; decide)).trans o2
      have oY48 : F46 a0 = .inr (7, y_fl A z0 q0) := (hfr _ (by rw [ha0]; decide)).trans oY0
      have hz0 : ∀ k, k ∈ ([1, 2, 3, 4, 5, 6, 7, 8, 11, 15, 16, 19, 25, 26, 27, 31, 32] : List Nat) → z0 k = z0 k := fun _ _ => rfl
      obtain ⟨f49, o50, b51⟩ := y_op20 hI
      replace h45 : (y_CP f4 f49) := by have q9 := h45; rw [y_atE o50] at q9; exact q9
      have hn_51 := hn
      refine lv_iload_n hx hb dX7_doesAgree_26 rfl (lv_at hl 3 rfl) ?_
      refine lv_iconst (v := 4) hx hb dX7_doesAgree_27 (by decide) ?_
      refine lv_icmp_ge (tgt := 59) hx hb dX7_doesAgree_28 (by decide) (fun c52 => ?_) (fun c52 => ?_)
      · have c52 := (ax_ge (n := 4) (by decide)).mp c52
        refine lv_iconst (v := 1) hx hb dX7_doesAgree_59 (by decide) ?_
        have h53 : (1 : Int32).toInt = 1 := by decide
        exact W.zret (v := 1) (ty := .boolean) hx hb hr (by decide) (fun t ht hW => ⟨⟨1, F46, rfl, ⟨(by decide), trivial, hI, hfr, fun k hk => (y_fiZ oY48 (s_sub (by decide) hk)).trans ((hz0 k hk).trans (y_fiZ oY0 (s_sub (by decide) hk)).symm), (by rw [y_atE o5, y_atE o50]; exact h45)⟩, by rw [ht]; exact hP, va_K.moved hW.alike hK⟩, hS.F ht⟩) hS.2.2 dX7_doesAgree_60
      · have c52 := mt (ax_ge (n := 4) (by decide)).mpr c52
        refine lv_aload_n hx hb dX7_doesAgree_31 rfl (lv_at hl 0 rfl) ?_
        refine th_get (D := (dC, dI)) (ci := 7) (v := .ref (A 20)) (C := RX7) (T := TX7) (N := 34) hx hb hts inX7 hown hK hP (hLK _ ha0 (by decide)) oY48 rfl 20 (by decide) (hts _ T_251) (fun _ h9 => h9) rfl dX7_doesAgree_32 ?_
        refine lv_iload_n hx hb dX7_doesAgree_35 rfl (lv_at hl 1 rfl) ?_
        refine lv_iload_n hx hb dX7_doesAgree_36 rfl (lv_at hl 2 rfl) ?_
        refine lv_iload_n hx hb dX7_doesAgree_37 rfl (lv_at hl 3 rfl) ?_
        have rg54 : 0 ≤ w40.toInt ∧ w40.toInt ≤ 3 := ⟨by omega, by omega⟩
        refine va_calli (va_runS (As := [.int x1, .int x2, .int w40]) (rest := [.ref (A 20)]) ⟨hx, hb, hml, hown, hts⟩ (y_X7_registerAt l dC dI H.size F46 x1 x2 w40 rg7 rg27 rg54) (cwS 3 hts (ax_gS T_1095 T_1097 T_265 T_1096) rfl rfl rfl (by decide +kernel) ⟨Nat.le_of_ble_eq_true rfl, Nat.le_of_ble_eq_true rfl⟩) ⟨fun a U g mk q => ⟨q.1, s_pc (U := U) rfl rfl q.2⟩, fun U hU hW => ⟨rfl, s_pw hU hW hP hK hD hN⟩⟩ rfl rfl hl.1 rfl (lv_room (Nat.le_of_ble_eq_true rfl)) dX7_doesAgree_38 ⟨Nat.zero_le _, Nat.zero_le _⟩) hS (fun q _ h => h) (fun q h => h) (fun r56 F57 t H1 locs ht hvm hw hB hz1 hk1 hS => ?_)
        obtain ⟨hP, hK1⟩ := hB
        rw [ht] at hP
        generalize H1 = H at hP hS ⊢
        clear hz1 hk1 hvm hK1
        obtain ⟨h58, h60, hG9, h59⟩ := hw
        rw [hG9] at hP
        replace h59 : (r56.toInt = 128 + 32 * x1.toInt + 4 * x2.toInt + w40.toInt) := by have q9 := h59; exact q9
        refine th_iald hx hb hK hP (hLK _ (y_k20 hA) (by decide)) 0 o50 rfl (th_in ⟨by omega, by omega⟩) dX7_doesAgree_41 ?_
        refine lv_topi (fun v61 ev61 => ?_)
        refine lv_aload_n hx hb dX7_doesAgree_42 rfl (lv_at hl 0 rfl) ?_
        refine th_get (D := (dC, dI)) (ci := 7) (v := .ref (A 28)) (C := RX7) (T := TX7) (N := 34) hx hb hts inX7 hown hK hP (hLK _ ha0 (by decide)) oY48 rfl 28 (by decide) (hts _ T_257) (fun _ h9 => h9) rfl dX7_doesAgree_43 ?_
        refine lv_iload_n hx hb dX7_doesAgree_46 rfl (lv_at hl 3 rfl) ?_
        obtain ⟨f62, o63, b64⟩ := y_op28 hI
        refine th_iald hx hb hK hP (hLK _ (y_k28 hA) (by decide)) 0 o63 rfl (th_in ⟨by omega, by omega⟩) dX7_doesAgree_47 ?_
        refine lv_topi (fun v65 ev65 => ?_)
        refine lv_icmp_eq (tgt := 53) hx hb dX7_doesAgree_48 (by decide) (fun c66 => ?_) (fun c66 => ?_)
        · have c66 := Int32.toInt_inj.symm.mp c66
          obtain ⟨v67, ev67⟩ : ∃ y : Int32, w40 + 1 = y := ⟨_, rfl⟩
          have qv67 : v67.toInt = w40.toInt + 1 := by rw [← ev67]; exact th_add rfl (by decide) ⟨by omega, by omega⟩
          refine lv_iinc (v := v67) (lv' := [(3, .int v67), (0, .ref a0), (1, .int x1), (2, .int x2)]) hx hb dX7_doesAgree_53 hl (k := 3) rfl ev67 (by decide) rfl (fun ls hl => ?_)
          refine lv_goto (tgt := 26) hx hb dX7_doesAgree_56 (by decide) ?_
          exact ih26 _ _ _ _ (by omega) ⟨F46, _, v67, rfl, lv_sub hl [1, 2, 3, 0] rfl, hP, hS, hI, hfr, (fun k hk => (y_fiZ oY48 (s_sub (by decide) hk)).trans (hz0 k hk)), ⟨by omega, by omega⟩, ⟨by omega, by omega⟩, ⟨by omega, by omega⟩, (by rw [y_atE o50]; exact h45), rfl⟩
        · have c66 := mt Int32.toInt_inj.symm.mpr c66
          refine lv_iconst (v := 0) hx hb dX7_doesAgree_51 (by decide) ?_
          have h68 : (0 : Int32).toInt = 0 := by decide
          exact W.zret (v := 0) (ty := .boolean) hx hb hr (by decide) (fun t ht hW => ⟨⟨0, F46, rfl, ⟨(by decide), trivial, hI, hfr, fun k hk => (y_fiZ oY48 (s_sub (by decide) hk)).trans ((hz0 k hk).trans (y_fiZ oY0 (s_sub (by decide) hk)).symm), (by rw [y_atE o5, y_atE o50]; exact h45)⟩, by rw [ht]; exact hP, va_K.moved hW.alike hK⟩, hS.F ht⟩) hS.2.2 dX7_doesAgree_52
    · have c39 := (ax_eq (n := 0) (by decide)).mp c39
      refine lv_iconst (v := 0) hx hb dX7_doesAgree_22 (by decide) ?_
      have h69 : (0 : Int32).toInt = 0 := by decide
      exact W.zret (v := 0) (ty := .boolean) hx hb hr (by decide) (fun t ht hW => ⟨⟨0, F30, rfl, ⟨(by decide), trivial, hI, hfr, fun k hk => (y_fiZ oY35 (s_sub (by decide) hk)).trans ((hz0 k hk).trans (y_fiZ oY0 (s_sub (by decide) hk)).symm), (by rw [y_atE o5, y_atE o37]; exact h32)⟩, by rw [ht]; exact hP, va_K.moved hW.alike hK⟩, hS.F ht⟩) hS.2.2 dX7_doesAgree_23

set_option maxHeartbeats 4000000 in
set_option maxRecDepth 100000 in
theorem y_X7_agrees (l : Launch) (dC : Nat → ClassId) (dI : Nat → Nat → Nat) (sz : Nat) {L : List Nat} {K : Nat → Nat} {cs : Nat → ClassId} (hLK : ∀ a {k : Nat}, K a = k → k ≠ 0 → a ∈ L) (A : Nat → Nat) (hA : y_A K A) (F : Nat → va_E) (a0 : Nat) (ha0 : K a0 = 9) (hI : y_I K cs A F) (hT : y_T (y_fi F a0 15) (y_at F (A 13)) (y_at F (A 20)) (y_at F (A 30)) (y_fi F a0 31) (y_fi F a0 32)) : Met l yX7_agrees (Cond.code yX7_agrees cX7_agrees 3 (some .int) :: T0) ({ frames := 11, cells := 0, slots := 0, locals := 255 }) (va_Pc [.ref a0] (s_W dC dI sz L F [(cs 0, .int), (cs 1, .byte), (cs 2, .long), (cs 3, .object RX5), (cs 4, .object RX4), (cs 5, .array .int), (cs 6, .char), (cs 7, .boolean)])) (va_Qi (fun (r : Int32) (G : Nat → va_E) => True ∧ True ∧ y_I K cs A G ∧ (∀ b, K b ∉ [70, 71, 72, 73, 78] → G b = F b) ∧ (∀ k, k ∈ ([1, 2, 3, 4, 5, 6, 7, 8, 11, 15, 16, 19, 25, 26, 27, 31, 32] : List Nat) → y_fi G a0 k = y_fi F a0 k) ∧ (y_T (y_fi G a0 15) (y_at G (A 13)) (y_at G (A 20)) (y_at G (A 30)) (y_fi G a0 31) (y_fi G a0 32))) (fun (G : Nat → va_E) (t : State) => va_P (dC, dI) vwCl (va_pl L G) t.heap ∧ va_K (dC, dI) vwCl [(cs 0, .int), (cs 1, .byte), (cs 2, .long), (cs 3, .object RX5), (cs 4, .object RX4), (cs 5, .array .int), (cs 6, .char), (cs 7, .boolean)] t) (fun q => q ∈ L)) 0 0 (fun q => q ∈ L) := by
  refine Met.ofW (cc := cX7_agrees) (maxL := 3) (ret := (some .int)) (by decide) rfl ?_
  intro p e s m args below meth c s₁ B hml hv
  obtain ⟨rfl, hsz, hP, hK, hD, hN⟩ := hv
  have hx := B.exec
  have hb := B.bytes
  have hr := B.returns
  have hts : ∀ w ∈ T0, w.before _ s = true := fun w h => atoms_spec (ws := Cond.code yX7_agrees cX7_agrees 3 (some .int) :: T0) B.pre w (List.mem_cons_of_mem _ h)
  have hown : s.vm.findClass RX7 = some m.cls := findClass_of_methodNamed B.named
  have hlocks := B.notSynchronized
  have hS : va_S (fun q => q ∈ L) s.heap s.heap [] := va_S.rf
  have hfr : ∀ b, K b ∉ [70, 71, 72, 73, 78] → F b = F b := fun _ _ => rfl
  have hl := lv_entry ([.ref a0]) (n := 3) (Nat.le_of_ble_eq_true rfl)
  rw [lg_entry_eq]
  generalize (lg_sl ([.ref a0]) ++ List.replicate (3 - (lg_sl ([.ref a0])).length) Slot.unset).toArray = ls at hl ⊢
  have hl : lv_has ls 3 [(0, .ref a0)] := hl
  refine s_gen hP hS (fun H locs hP hS => ?_)
  obtain ⟨z0, q0, oY0, bz0, bq0⟩ := y_opY hI ha0
  have hz0 : ∀ k, k ∈ ([1, 2, 3, 4, 5, 6, 7, 8, 11, 15, 16, 19, 25, 26, 27, 31, 32] : List Nat) → z0 k = z0 k := fun _ _ => rfl
  obtain ⟨f1, o2, b3⟩ := y_op13 hI
  obtain ⟨f4, o5, b6⟩ := y_op20 hI
  obtain ⟨f7, o8, b9⟩ := y_op30 hI
  obtain ⟨v10, ev10⟩ : ∃ y : Int32, y = z0 15 := ⟨_, rfl⟩
  have qv10 : 0 ≤ v10.toInt ∧ v10.toInt ≤ 1 := by rw [ev10]; exact y_bY15 bz0
  have eF_15 := ev10
  obtain ⟨v11, ev11⟩ : ∃ y : Int32, y = z0 31 := ⟨_, rfl⟩
  have qv11 : 0 ≤ v11.toInt ∧ v11.toInt ≤ 20 := by rw [ev11]; exact y_bY31 bz0
  have eF_31 := ev11
  obtain ⟨v12, ev12⟩ : ∃ y : Int32, y = z0 32 := ⟨_, rfl⟩
  have qv12 : 0 ≤ v12.toInt ∧ v12.toInt ≤ 19 := by rw [ev12]; exact y_bY32 bz0
  have eF_32 := ev12
  replace hT : y_T v10 f1 f4 f7 v11 v12 := by have q9 := hT; rw [y_fiZ oY0 (k := 15) (by decide), ← ev10, y_atE o2, y_atE o5, y_atE o8, y_fiZ oY0 (k := 31) (by decide), ← ev11, y_fiZ oY0 (k := 32) (by decide), ← ev12] at q9; exact q9
  have e0_v10 := ev10
  have e0_v11 := ev11
  have e0_v12 := ev12
  refine lv_aload_n hx hb dX7_agrees_0 rfl (lv_at hl 0 rfl) ?_
  refine th_get (D := (dC, dI)) (ci := 7) (v := .int (z0 15)) (C := RX7) (T := TX7) (N := 34) hx hb hts inX7 hown hK hP (hLK _ ha0 (by decide)) oY0 rfl 15 (by decide) (hts _ T_271) (fun _ h9 => h9) rfl dX7_agrees_1 ?_
  refine ax_eqi (y := v10) ev10.symm ?_
  refine lv_if_ne (tgt := 9) hx hb dX7_agrees_4 (by decide) (fun c13 => ?_) (fun c13 => ?_)
  · have c13 := mt (ax_eq (n := 0) (by decide)).mpr c13
    obtain ⟨htd, hPG, hNG, hUG⟩ := y_TT hT (by omega)
    have hL := y_P0L hPG.1
    have hW := y_P0W hPG.1
    have hnn := And.intro hNG.1 (And.intro hNG.2.1 (And.intro hNG.2.2.1 hNG.2.2.2.1))
    refine lv_iconst (v := 0) hx hb dX7_agrees_9 (by decide) ?_
    refine lv_istore_n (lv' := [(1, .int 0), (0, .ref a0)]) hx hb dX7_agrees_10 rfl hl (by decide) rfl (fun ls hl => ?_)
    refine lv_iconst (v := 0) hx hb dX7_agrees_11 (by decide) ?_
    refine lv_istore_n (lv' := [(2, .int 0), (1, .int 0), (0, .ref a0)]) hx hb dX7_agrees_12 rfl hl (by decide) rfl (fun ls hl => ?_)
    have h16 : (0 : Int32).toInt = 0 := by decide
    have h17 : (0 : Int32).toInt = 0 := by decide
    refine th_loop (fun n g H locs => ∃ (G : Nat → va_E) (ls : Array Slot) (w14 : Int32) (w15 : Int32), g = F0 m 13 ls [] ∧ lv_has ls 3 [(0, .ref a0), (1, .int w14), (2, .int w15)] ∧ va_P (dC, dI) vwCl (va_pl L G) H ∧ va_S (fun q => q ∈ L) s.heap H locs ∧ y_I K cs A G ∧ (∀ b, K b ∉ [70, 71, 72, 73, 78] → G b = F b) ∧ (∀ k, k ∈ ([1, 2, 3, 4, 5, 6, 7, 8, 11, 15, 16, 19, 25, 26, 27, 31, 32] : List Nat) → y_fi G a0 k = z0 k) ∧ True ∧ (0 ≤ w15.toInt ∧ w15.toInt ≤ 32) ∧ (y_CP f4 (y_at G (A 20))) ∧ n = (33 - w15.toInt).toNat) _ ⟨F, _, 0, 0, rfl, lv_sub hl [2, 1, 0] rfl, hP, hS, hI, hfr, (fun k hk => (y_fiZ oY0 (s_sub (by decide) hk)).trans (hz0 k hk)), trivial, (by decide), (by rw [y_atE o5]; exact (y_CP_r _)), rfl⟩ (fun n ih13 g H locs hq => ?_)
    obtain ⟨F21, ls, w14, w15, rfl, hl, hP, hS, hI, hfr, hz0, h18, h19, h20, hn⟩ := hq
    have o22 : F21 (A 13) = .inl (cs 0, 400, .inl f1) := (hfr _ (by rw [(y_k13 hA)]; decide)).trans o2
    have o23 : F21 (A 30) = .inl (cs 0, 18360, .inl f7) := (hfr _ (by rw [(y_k30 hA)]; decide)).trans o8
    have oY24 : F21 a0 = .inr (7, y_fl A z0 q0) := (hfr _ (by rw [ha0]; decide)).trans oY0
    have hz0 : ∀ k, k ∈ ([1, 2, 3, 4, 5, 6, 7, 8, 11, 15, 16, 19, 25, 26, 27, 31, 32] : List Nat) → z0 k = z0 k := fun _ _ => rfl
    obtain ⟨f25, o26, b27⟩ := y_op20 hI
    replace h20 : (y_CP f4 f25) := by have q9 := h20; rw [y_atE o26] at q9; exact q9
    have hNGk := y_NGcp h20 (by omega) hNG
    have hn_27 := hn
    refine lv_iload_n hx hb dX7_agrees_13 rfl (lv_at hl 2 rfl) ?_
    refine lv_bipush (v := 8) hx hb dX7_agrees_14 (by decide) ?_
    refine lv_aload_n hx hb dX7_agrees_16 rfl (lv_at hl 0 rfl) ?_
    refine va_calli (va_runV (As := []) (rest := [.int 8, .int w15]) ⟨hx, hb, hml, hown, hts⟩ (y_X7_warps l dC dI H.size hLK A hA F21 a0 ha0 hI) (cwV 0 hts (ax_gV T_993 T_995 T_996 T_265 T_994) rfl rfl rfl (by decide +kernel) ⟨Nat.le_of_ble_eq_true rfl, Nat.le_of_ble_eq_true rfl⟩) ⟨fun a U g mk q => ⟨q.1, s_pc (U := U) rfl rfl q.2⟩, s_recv hK hP (hLK _ ha0 (by decide)) (ci := 7) rfl oY24, fun U hU hW => ⟨rfl, s_pw hU hW hP hK hD hN⟩⟩ rfl rfl hl.1 rfl (lv_room (Nat.le_of_ble_eq_true rfl)) dX7_agrees_17 ⟨Nat.zero_le _, Nat.zero_le _⟩) hS (fun q _ h => h) (fun q h => h) (fun r29 F30 t H1 locs ht hvm hw hB hz1 hk1 hS => ?_)
    obtain ⟨hP, hK1⟩ := hB
    rw [ht] at hP
    generalize H1 = H at hP hS ⊢
    clear hz1 hk1 hvm hK1
    obtain ⟨h31, h33, hI, hfr1, hzf, h32⟩ := hw
    have o34 : F30 (A 13) = .inl (cs 0, 400, .inl f1) := (hfr1 _ (by rw [(y_k13 hA)]; decide)).trans o22
    have o35 : F30 (A 30) = .inl (cs 0, 18360, .inl f7) := (hfr1 _ (by rw [(y_k30 hA)]; decide)).trans o23
    have o36 : F30 (A 20) = .inl (cs 0, 918, .inl f25) := (hfr1 _ (by rw [(y_k20 hA)]; decide)).trans o26
    have oY37 : F30 a0 = .inr (7, y_fl A z0 q0) := (hfr1 _ (by rw [ha0]; decide)).trans oY24
    have hfr : ∀ b, K b ∉ [70, 71, 72, 73, 78] → F30 b = F b := fun b hb9 => (hfr1 b (fun q => hb9 (s_sub (by decide) q))).trans (hfr b hb9)
    replace h32 : (r29 = y_c f1 384) := by have q9 := h32; rw [y_atE o22] at q9; exact q9
    have h38 := congrArg Int32.toInt h32
    have h39 : 1 ≤ r29.toInt ∧ r29.toInt ≤ 4 := ⟨by omega, by omega⟩
    refine lv_imul hx hb dX7_agrees_20 ?_
    refine lv_topi (fun v40 ev40 => ?_)
    have qv40 : v40.toInt = 8 * r29.toInt := by rw [ev40]; exact th_mul (by decide) rfl ⟨by omega, by omega⟩
    refine lv_icmp_ge (tgt := 48) hx hb dX7_agrees_21 (by decide) (fun c41 => ?_) (fun c41 => ?_)
    · have c41 := Int32.le_iff_toInt_le.mp c41
      refine lv_iload_n hx hb dX7_agrees_48 rfl (lv_at hl 1 rfl) ?_
      exact W.iret (v := w14) hx hb hr (fun t ht hW => ⟨⟨w14, F30, rfl, ⟨trivial, trivial, hI, hfr, fun k hk => (y_fiZ oY37 (s_sub (by decide) hk)).trans ((hz0 k hk).trans (y_fiZ oY0 (s_sub (by decide) hk)).symm), (by rw [y_fiZ oY37 (k := 15) (by decide), ← ev10, y_atE o34, y_atE o36, y_atE o35, y_fiZ oY37 (k := 31) (by decide), ← ev11, y_fiZ oY37 (k := 32) (by decide), ← ev12]; exact (y_Tc h20 hT))⟩, by rw [ht]; exact hP, va_K.moved hW.alike hK⟩, hS.F ht⟩) hS.2.2 dX7_agrees_49
    · have c41 := mt Int32.le_iff_toInt_le.mpr c41
      refine lv_iload_n hx hb dX7_agrees_24 rfl (lv_at hl 1 rfl) ?_
      refine lv_aload_n hx hb dX7_agrees_25 rfl (lv_at hl 0 rfl) ?_
      refine lv_iload_n hx hb dX7_agrees_26 rfl (lv_at hl 2 rfl) ?_
      refine lv_bipush (v := 8) hx hb dX7_agrees_27 (by decide) ?_
      refine lv_idiv hx hb dX7_agrees_29 (by decide) ?_
      refine lv_topi (fun v42 ev42 => ?_)
      have qv42 : v42.toInt = w15.toInt / 8 := by rw [ev42]; exact th_div rfl (by decide) (by omega) (by decide)
      refine lv_iload_n hx hb dX7_agrees_30 rfl (lv_at hl 2 rfl) ?_
      refine lv_bipush (v := 8) hx hb dX7_agrees_31 (by decide) ?_
      refine lv_irem hx hb dX7_agrees_33 (by decide) ?_
      refine lv_topi (fun v43 ev43 => ?_)
      have qv43 : v43.toInt = w15.toInt % 8 := by rw [ev43]; exact th_rem rfl (by decide) (by omega) (by decide)
      have rg44 : 0 ≤ v42.toInt ∧ v42.toInt ≤ 3 := ⟨by omega, by omega⟩
      have rg45 : 0 ≤ v43.toInt ∧ v43.toInt ≤ 7 := ⟨by omega, by omega⟩
      refine va_calli (va_runV (As := [.int v42, .int v43]) (rest := [.int w14]) ⟨hx, hb, hml, hown, hts⟩ (y_X7_doesAgree l dC dI H.size hLK A hA F30 a0 v42 v43 ha0 rg44 rg45 hI (by rw [y_atE o34]; exact hPG) (by rw [y_atE o34, y_atE o36]; exact hNGk)) (cwV 2 hts (ax_gV T_997 T_999 T_1000 T_265 T_998) rfl rfl rfl (by decide +kernel) ⟨Nat.le_of_ble_eq_true rfl, Nat.le_of_ble_eq_true rfl⟩) ⟨fun a U g mk q => ⟨q.1, s_pc (U := U) rfl rfl q.2⟩, s_recv hK hP (hLK _ ha0 (by decide)) (ci := 7) rfl oY37, fun U hU hW => ⟨rfl, s_pw hU hW hP hK hD hN⟩⟩ rfl rfl hl.1 rfl (lv_room (Nat.le_of_ble_eq_true rfl)) dX7_agrees_34 ⟨Nat.zero_le _, Nat.zero_le _⟩) hS (fun q _ h => h) (fun q h => h) (fun r47 F48 t H1 locs ht hvm hw hB hz1 hk1 hS => ?_)
      obtain ⟨hP, hK1⟩ := hB
      rw [ht] at hP
      generalize H1 = H at hP hS ⊢
      clear hz1 hk1 hvm hK1
      obtain ⟨h49, h51, hI, hfr1, hzf, h50⟩ := hw
      have o52 : F48 (A 13) = .inl (cs 0, 400, .inl f1) := (hfr1 _ (by rw [(y_k13 hA)]; decide)).trans o34
      have o53 : F48 (A 30) = .inl (cs 0, 18360, .inl f7) := (hfr1 _ (by rw [(y_k30 hA)]; decide)).trans o35
      have oY54 : F48 a0 = .inr (7, y_fl A z0 q0) := (hfr1 _ (by rw [ha0]; decide)).trans oY37
      have hfr : ∀ b, K b ∉ [70, 71, 72, 73, 78] → F48 b = F b := fun b hb9 => (hfr1 b (fun q => hb9 (s_sub (by decide) q))).trans (hfr b hb9)
      obtain ⟨f55, o56, b57⟩ := y_op20 hI
      replace h50 : (y_CP f25 f55) := by have q9 := h50; rw [y_atE o36, y_atE o56] at q9; exact q9
      have rg58 : 0 ≤ r47.toInt ∧ r47.toInt ≤ 1 := ⟨by omega, by omega⟩
      refine va_calli (va_runS (As := [.int r47]) (rest := [.int w14]) ⟨hx, hb, hml, hown, hts⟩ (y_X7_flag l dC dI H.size F48 r47 rg58) (cwS 1 hts (ax_gS T_1001 T_1003 T_265 T_1002) rfl rfl rfl (by decide +kernel) ⟨Nat.le_of_ble_eq_true rfl, Nat.le_of_ble_eq_true rfl⟩) ⟨fun a U g mk q => ⟨q.1, s_pc (U := U) rfl rfl q.2⟩, fun U hU hW => ⟨rfl, s_pw hU hW hP hK hD hN⟩⟩ rfl rfl hl.1 rfl (lv_room (Nat.le_of_ble_eq_true rfl)) dX7_agrees_37 ⟨Nat.zero_le _, Nat.zero_le _⟩) hS (fun q _ h => h) (fun q h => h) (fun r60 F61 t H1 locs ht hvm hw hB hz1 hk1 hS => ?_)
      obtain ⟨hP, hK1⟩ := hB
      rw [ht] at hP
      generalize H1 = H at hP hS ⊢
      clear hz1 hk1 hvm hK1
      obtain ⟨h62, h64, hG9, h63⟩ := hw
      rw [hG9] at hP
      refine lv_iadd hx hb dX7_agrees_40 ?_
      refine lv_topi (fun v65 ev65 => ?_)
      refine lv_istore_n (lv' := [(1, .int v65), (0, .ref a0), (2, .int w15)]) hx hb dX7_agrees_41 rfl hl (by decide) rfl (fun ls hl => ?_)
      obtain ⟨v66, ev66⟩ : ∃ y : Int32, w15 + 1 = y := ⟨_, rfl⟩
      have qv66 : v66.toInt = w15.toInt + 1 := by rw [← ev66]; exact th_add rfl (by decide) ⟨by omega, by omega⟩
      refine lv_iinc (v := v66) (lv' := [(2, .int v66), (1, .int v65), (0, .ref a0)]) hx hb dX7_agrees_42 hl (k := 2) rfl ev66 (by decide) rfl (fun ls hl => ?_)
      refine lv_goto (tgt := 13) hx hb dX7_agrees_45 (by decide) ?_
      exact ih13 _ _ _ _ (by omega) ⟨F48, _, v65, v66, rfl, lv_sub hl [2, 1, 0] rfl, hP, hS, hI, hfr, (fun k hk => (y_fiZ oY54 (s_sub (by decide) hk)).trans (hz0 k hk)), trivial, ⟨by omega, by omega⟩, (by rw [y_atE o56]; exact (y_CP_t h20 h50)), rfl⟩
  · have c13 := (ax_eq (n := 0) (by decide)).mp c13
    refine lv_iconst (v := (-1)) hx hb dX7_agrees_7 (by decide) ?_
    have h67 : ((-1) : Int32).toInt = (-1) := by decide
    exact W.iret (v := (-1)) hx hb hr (fun t ht hW => ⟨⟨(-1), F, rfl, ⟨trivial, trivial, hI, hfr, fun k hk => (y_fiZ oY0 (s_sub (by decide) hk)).trans ((hz0 k hk).trans (y_fiZ oY0 (s_sub (by decide) hk)).symm), (by rw [y_fiZ oY0 (k := 15) (by decide), ← ev10, y_atE o2, y_atE o5, y_atE o8, y_fiZ oY0 (k := 31) (by decide), ← ev11, y_fiZ oY0 (k := 32) (by decide), ← ev12]; exact (y_Tc (y_CP_r _) hT))⟩, by rw [ht]; exact hP, va_K.moved hW.alike hK⟩, hS.F ht⟩) hS.2.2 dX7_agrees_8

set_option maxHeartbeats 4000000 in
set_option maxRecDepth 100000 in
theorem y_X7_laysEnds (l : Launch) (dC : Nat → ClassId) (dI : Nat → Nat → Nat) (sz : Nat) {L : List Nat} {K : Nat → Nat} {cs : Nat → ClassId} (hLK : ∀ a {k : Nat}, K a = k → k ≠ 0 → a ∈ L) (A : Nat → Nat) (hA : y_A K A) (F : Nat → va_E) (a0 : Nat) (x1 : Int32) (ha0 : K a0 = 9) (hx1 : 0 ≤ x1.toInt ∧ x1.toInt ≤ 63) (hI : y_I K cs A F) (hPG : y_PG (y_at F (A 13))) (hNG : y_NG (y_at F (A 13)) (y_at F (A 20))) : Met l yX7_laysEnds (Cond.code yX7_laysEnds cX7_laysEnds 3 none :: T0) ({ frames := 9, cells := 0, slots := 0, locals := 209 }) (va_Pc [.ref a0, .int x1] (s_W dC dI sz L F [(cs 0, .int), (cs 1, .byte), (cs 2, .long), (cs 3, .object RX5), (cs 4, .object RX4), (cs 5, .array .int), (cs 6, .char), (cs 7, .boolean)])) (va_Qv (fun (G : Nat → va_E) => True ∧ True ∧ y_I K cs A G ∧ (∀ b, K b ∉ [70, 71, 72, 73, 79] → G b = F b) ∧ (∀ k, k ∈ ([1, 2, 3, 4, 5, 6, 7, 8, 11, 15, 16, 19, 25, 26, 27, 31, 32] : List Nat) → y_fi G a0 k = y_fi F a0 k) ∧ (y_CP (y_at F (A 20)) (y_at G (A 20)))) (fun (G : Nat → va_E) (t : State) => va_P (dC, dI) vwCl (va_pl L G) t.heap ∧ va_K (dC, dI) vwCl [(cs 0, .int), (cs 1, .byte), (cs 2, .long), (cs 3, .object RX5), (cs 4, .object RX4), (cs 5, .array .int), (cs 6, .char), (cs 7, .boolean)] t) (fun q => q ∈ L)) 0 0 (fun q => q ∈ L) := by
  refine Met.ofW (cc := cX7_laysEnds) (maxL := 3) (ret := none) (by decide) rfl ?_
  intro p e s m args below meth c s₁ B hml hv
  obtain ⟨rfl, hsz, hP, hK, hD, hN⟩ := hv
  have hx := B.exec
  have hb := B.bytes
  have hr := B.returns
  have hts : ∀ w ∈ T0, w.before _ s = true := fun w h => atoms_spec (ws := Cond.code yX7_laysEnds cX7_laysEnds 3 none :: T0) B.pre w (List.mem_cons_of_mem _ h)
  have hown : s.vm.findClass RX7 = some m.cls := findClass_of_methodNamed B.named
  have hlocks := B.notSynchronized
  have hS : va_S (fun q => q ∈ L) s.heap s.heap [] := va_S.rf
  have hfr : ∀ b, K b ∉ [70, 71, 72, 73, 79] → F b = F b := fun _ _ => rfl
  have hl := lv_entry ([.ref a0, .int x1]) (n := 3) (Nat.le_of_ble_eq_true rfl)
  rw [lg_entry_eq]
  generalize (lg_sl ([.ref a0, .int x1]) ++ List.replicate (3 - (lg_sl ([.ref a0, .int x1])).length) Slot.unset).toArray = ls at hl ⊢
  have hl : lv_has ls 3 [(0, .ref a0), (1, .int x1)] := hl
  refine s_gen hP hS (fun H locs hP hS => ?_)
  obtain ⟨z0, q0, oY0, bz0, bq0⟩ := y_opY hI ha0
  have hz0 : ∀ k, k ∈ ([1, 2, 3, 4, 5, 6, 7, 8, 11, 15, 16, 19, 25, 26, 27, 31, 32] : List Nat) → z0 k = z0 k := fun _ _ => rfl
  obtain ⟨f1, o2, b3⟩ := y_op13 hI
  obtain ⟨f4, o5, b6⟩ := y_op20 hI
  replace hPG : y_PG f1 := by have q9 := hPG; rw [y_atE o2] at q9; exact q9
  replace hNG : y_NG f1 f4 := by have q9 := hNG; rw [y_atE o2, y_atE o5] at q9; exact q9
  have hL := y_P0L hPG.1
  have hW := y_P0W hPG.1
  have hnn := And.intro hNG.1 (And.intro hNG.2.1 (And.intro hNG.2.2.1 hNG.2.2.2.1))
  refine lv_aload_n hx hb dX7_laysEnds_0 rfl (lv_at hl 0 rfl) ?_
  refine va_callv (va_runV (As := []) (rest := []) ⟨hx, hb, hml, hown, hts⟩ (y_X7_putsAside l dC dI H.size hLK A hA F a0 ha0 hI) (cwV 0 hts (ax_gV T_1041 T_1043 T_1044 T_265 T_1042) rfl rfl rfl (by decide +kernel) ⟨Nat.le_of_ble_eq_true rfl, Nat.le_of_ble_eq_true rfl⟩) ⟨fun a U g mk q => ⟨q.1, s_pc (U := U) rfl rfl q.2⟩, s_recv hK hP (hLK _ ha0 (by decide)) (ci := 7) rfl oY0, fun U hU hW => ⟨rfl, s_pw hU hW hP hK hD hN⟩⟩ rfl rfl hl.1 rfl (lv_room (Nat.le_of_ble_eq_true rfl)) dX7_laysEnds_1 ⟨Nat.zero_le _, Nat.zero_le _⟩) hS (fun q _ h => h) (fun q h => h) (fun F8 t H1 locs ht hvm hw hB hz1 hk1 hS => ?_)
  obtain ⟨hP, hK1⟩ := hB
  rw [ht] at hP
  generalize H1 = H at hP hS ⊢
  clear hz1 hk1 hvm hK1
  obtain ⟨h9, h11, hI, hfr1, hzf, h10⟩ := hw
  have o12 : F8 (A 13) = .inl (cs 0, 400, .inl f1) := (hfr1 _ (by rw [(y_k13 hA)]; decide)).trans o2
  have o13 : F8 (A 20) = .inl (cs 0, 918, .inl f4) := (hfr1 _ (by rw [(y_k20 hA)]; decide)).trans o5
  have oY14 : F8 a0 = .inr (7, y_fl A z0 q0) := (hfr1 _ (by rw [ha0]; decide)).trans oY0
  have hfr : ∀ b, K b ∉ [70, 71, 72, 73, 79] → F8 b = F b := fun b hb9 => (hfr1 b (fun q => hb9 (s_sub (by decide) q))).trans (hfr b hb9)
  obtain ⟨f15, o16, b17⟩ := y_op23 hI
  replace h10 : (y_CP f4 f15) := by have q9 := h10; rw [y_atE o5, y_atE o16] at q9; exact q9
  refine lv_iconst (v := 0) hx hb dX7_laysEnds_4 (by decide) ?_
  refine lv_istore_n (lv' := [(2, .int 0), (0, .ref a0), (1, .int x1)]) hx hb dX7_laysEnds_5 rfl hl (by decide) rfl (fun ls hl => ?_)
  have h19 : (0 : Int32).toInt = 0 := by decide
  refine th_loop (fun n g H locs => ∃ (G : Nat → va_E) (ls : Array Slot) (w18 : Int32), g = F0 m 6 ls [] ∧ lv_has ls 3 [(0, .ref a0), (1, .int x1), (2, .int w18)] ∧ va_P (dC, dI) vwCl (va_pl L G) H ∧ va_S (fun q => q ∈ L) s.heap H locs ∧ y_I K cs A G ∧ (∀ b, K b ∉ [70, 71, 72, 73, 79] → G b = F b) ∧ (∀ k, k ∈ ([1, 2, 3, 4, 5, 6, 7, 8, 11, 15, 16, 19, 25, 26, 27, 31, 32] : List Nat) → y_fi G a0 k = z0 k) ∧ (0 ≤ w18.toInt ∧ w18.toInt ≤ 16) ∧ (0 ≤ x1.toInt ∧ x1.toInt ≤ 63) ∧ (y_NG f1 (y_at G (A 20))) ∧ (y_CP f4 (y_at G (A 23))) ∧ n = (17 - w18.toInt).toNat) _ ⟨F8, _, 0, rfl, lv_sub hl [1, 2, 0] rfl, hP, hS, hI, hfr, (fun k hk => (y_fiZ oY14 (s_sub (by decide) hk)).trans (hz0 k hk)), (by decide), ⟨by omega, by omega⟩, (by rw [y_atE o13]; exact hNG), (by rw [y_atE o16]; exact h10), rfl⟩ (fun n ih6 g H locs hq => ?_)
  obtain ⟨F24, ls, w18, rfl, hl, hP, hS, hI, hfr, hz0, h20, h21, h22, h23, hn⟩ := hq
  have o25 : F24 (A 13) = .inl (cs 0, 400, .inl f1) := (hfr _ (by rw [(y_k13 hA)]; decide)).trans o2
  have oY26 : F24 a0 = .inr (7, y_fl A z0 q0) := (hfr _ (by rw [ha0]; decide)).trans oY0
  have hz0 : ∀ k, k ∈ ([1, 2, 3, 4, 5, 6, 7, 8, 11, 15, 16, 19, 25, 26, 27, 31, 32] : List Nat) → z0 k = z0 k := fun _ _ => rfl
  obtain ⟨f27, o28, b29⟩ := y_op20 hI
  replace h22 : (y_NG f1 f27) := by have q9 := h22; rw [y_atE o28] at q9; exact q9
  obtain ⟨f30, o31, b32⟩ := y_op23 hI
  replace h23 : (y_CP f4 f30) := by have q9 := h23; rw [y_atE o31] at q9; exact q9
  have hn_32 := hn
  refine lv_iload_n hx hb dX7_laysEnds_6 rfl (lv_at hl 2 rfl) ?_
  refine lv_bipush (v := 16) hx hb dX7_laysEnds_7 (by decide) ?_
  refine lv_icmp_ge (tgt := 43) hx hb dX7_laysEnds_9 (by decide) (fun c33 => ?_) (fun c33 => ?_)
  · have c33 := (ax_ge (n := 16) (by decide)).mp c33
    refine lv_aload_n hx hb dX7_laysEnds_43 rfl (lv_at hl 0 rfl) ?_
    refine va_callv (va_runV (As := []) (rest := []) ⟨hx, hb, hml, hown, hts⟩ (y_X7_takesBack l dC dI H.size hLK A hA F24 a0 ha0 hI) (cwV 0 hts (ax_gV T_1049 T_1051 T_1052 T_265 T_1050) rfl rfl rfl (by decide +kernel) ⟨Nat.le_of_ble_eq_true rfl, Nat.le_of_ble_eq_true rfl⟩) ⟨fun a U g mk q => ⟨q.1, s_pc (U := U) rfl rfl q.2⟩, s_recv hK hP (hLK _ ha0 (by decide)) (ci := 7) rfl oY26, fun U hU hW => ⟨rfl, s_pw hU hW hP hK hD hN⟩⟩ rfl rfl hl.1 rfl (lv_room (Nat.le_of_ble_eq_true rfl)) dX7_laysEnds_44 ⟨Nat.zero_le _, Nat.zero_le _⟩) hS (fun q _ h => h) (fun q h => h) (fun F35 t H1 locs ht hvm hw hB hz1 hk1 hS => ?_)
    obtain ⟨hP, hK1⟩ := hB
    rw [ht] at hP
    generalize H1 = H at hP hS ⊢
    clear hz1 hk1 hvm hK1
    obtain ⟨h36, h38, hI, hfr1, hzf, h37⟩ := hw
    have o39 : F35 (A 13) = .inl (cs 0, 400, .inl f1) := (hfr1 _ (by rw [(y_k13 hA)]; decide)).trans o25
    have o40 : F35 (A 23) = .inl (cs 0, 918, .inl f30) := (hfr1 _ (by rw [(y_k23 hA)]; decide)).trans o31
    have oY41 : F35 a0 = .inr (7, y_fl A z0 q0) := (hfr1 _ (by rw [ha0]; decide)).trans oY26
    have hfr : ∀ b, K b ∉ [70, 71, 72, 73, 79] → F35 b = F b := fun b hb9 => (hfr1 b (fun q => hb9 (s_sub (by decide) q))).trans (hfr b hb9)
    obtain ⟨f42, o43, b44⟩ := y_op20 hI
    replace h37 : (y_CP f30 f42) := by have q9 := h37; rw [y_atE o31, y_atE o43] at q9; exact q9
    exact W.vret hx hb hr (fun t ht hW => ⟨⟨F35, rfl, ⟨trivial, trivial, hI, hfr, fun k hk => (y_fiZ oY41 (s_sub (by decide) hk)).trans ((hz0 k hk).trans (y_fiZ oY0 (s_sub (by decide) hk)).symm), (by rw [y_atE o5, y_atE o43]; exact (y_CP_t h23 h37))⟩, by rw [ht]; exact hP, va_K.moved hW.alike hK⟩, hS.F ht⟩) hS.2.2 dX7_laysEnds_47
  · have c33 := mt (ax_ge (n := 16) (by decide)).mpr c33
    refine lv_aload_n hx hb dX7_laysEnds_12 rfl (lv_at hl 0 rfl) ?_
    refine lv_iconst (v := (-1)) hx hb dX7_laysEnds_13 (by decide) ?_
    refine va_callv (va_runV (As := [.int (-1)]) (rest := []) ⟨hx, hb, hml, hown, hts⟩ (y_X7_begins l dC dI H.size hLK A hA F24 a0 (-1) ha0 (by decide) hI (by rw [y_atE o25]; exact hPG) (by rw [y_atE o28]; exact ⟨h22.1, h22.2.1⟩)) (cwV 1 hts (ax_gV T_1017 T_1019 T_1020 T_265 T_1018) rfl rfl rfl (by decide +kernel) ⟨Nat.le_of_ble_eq_true rfl, Nat.le_of_ble_eq_true rfl⟩) ⟨fun a U g mk q => ⟨q.1, s_pc (U := U) rfl rfl q.2⟩, s_recv hK hP (hLK _ ha0 (by decide)) (ci := 7) rfl oY26, fun U hU hW => ⟨rfl, s_pw hU hW hP hK hD hN⟩⟩ rfl rfl hl.1 rfl (lv_room (Nat.le_of_ble_eq_true rfl)) dX7_laysEnds_14 ⟨Nat.zero_le _, Nat.zero_le _⟩) hS (fun q _ h => h) (fun q h => h) (fun F46 t H1 locs ht hvm hw hB hz1 hk1 hS => ?_)
    obtain ⟨hP, hK1⟩ := hB
    rw [ht] at hP
    generalize H1 = H at hP hS ⊢
    clear hz1 hk1 hvm hK1
    obtain ⟨h47, h49, hI, hfr1, hzf, h48⟩ := hw
    have o50 : F46 (A 13) = .inl (cs 0, 400, .inl f1) := (hfr1 _ (by rw [(y_k13 hA)]; decide)).trans o25
    have o51 : F46 (A 23) = .inl (cs 0, 918, .inl f30) := (hfr1 _ (by rw [(y_k23 hA)]; decide)).trans o31
    have oY52 : F46 a0 = .inr (7, y_fl A z0 q0) := (hfr1 _ (by rw [ha0]; decide)).trans oY26
    have hfr : ∀ b, K b ∉ [70, 71, 72, 73, 79] → F46 b = F b := fun b hb9 => (hfr1 b (fun q => hb9 (s_sub (by decide) q))).trans (hfr b hb9)
    obtain ⟨f53, o54, b55⟩ := y_op20 hI
    replace h48 : (y_NG f1 f53) := by have q9 := h48; rw [y_atE o25, y_atE o54] at q9; exact q9
    refine lv_aload_n hx hb dX7_laysEnds_17 rfl (lv_at hl 0 rfl) ?_
    refine th_get (D := (dC, dI)) (ci := 7) (v := .ref (A 20)) (C := RX7) (T := TX7) (N := 34) hx hb hts inX7 hown hK hP (hLK _ ha0 (by decide)) oY52 rfl 20 (by decide) (hts _ T_251) (fun _ h9 => h9) rfl dX7_laysEnds_18 ?_
    refine lv_bipush (v := 8) hx hb dX7_laysEnds_21 (by decide) ?_
    refine lv_iload_n hx hb dX7_laysEnds_23 rfl (lv_at hl 1 rfl) ?_
    refine lv_iadd hx hb dX7_laysEnds_24 ?_
    refine lv_topi (fun v56 ev56 => ?_)
    have qv56 : v56.toInt = 8 + x1.toInt := by rw [ev56]; exact th_add (by decide) rfl ⟨by omega, by omega⟩
    refine lv_iload_n hx hb dX7_laysEnds_25 rfl (lv_at hl 2 rfl) ?_
    refine th_iast hx hb hK hP hD hS (hLK _ (y_k20 hA) (by decide)) 0 o54 rfl (th_in ⟨by omega, by omega⟩) dX7_laysEnds_26 (fun H locs hP hS => ?_)
    obtain ⟨f57, u58⟩ : ∃ g : Nat → Int32, g = upd f53 (v56 : Int32).toNatClampNeg w18 := ⟨_, rfl⟩
    rw [← u58] at hP
    have b59 : y_bd 20 f57 := trivial
    have hP : va_P (dC, dI) vwCl (va_pl L (va_up F46 (A 20) (.inl (cs 0, 918, .inl f57)))) H := hP
    obtain ⟨F60, hF61⟩ : ∃ G : Nat → va_E, G = va_up F46 (A 20) (.inl (cs 0, 918, .inl f57)) := ⟨_, rfl⟩
    rw [← hF61] at hP
    have hI : y_I K cs A F60 := by rw [hF61]; exact y_clA (i := 20) hA hI (by decide) b59
    have hfr : ∀ b, K b ∉ [70, 71, 72, 73, 79] → F60 b = F b := by rw [hF61]; exact s_fr hfr (y_k20 hA) (by decide)
    have o62 : F60 (A 13) = .inl (cs 0, 400, .inl f1) := by rw [hF61]; exact th_ne (th_kd (y_k13 hA) (y_k20 hA) (by decide)) o50
    have o63 : F60 (A 23) = .inl (cs 0, 918, .inl f30) := by rw [hF61]; exact th_ne (th_kd (y_k23 hA) (y_k20 hA) (by decide)) o51
    have oY64 : F60 a0 = .inr (7, y_fl A z0 q0) := by rw [hF61]; exact th_ne (th_kd ha0 (y_k20 hA) (by decide)) oY52
    have o65 : F60 (A 20) = .inl (cs 0, 918, .inl f57) := by rw [hF61]; exact th_up
    have u66 : ∀ j : Int, 0 ≤ j → y_c f57 j = if j = v56.toInt then w18 else y_c f53 j := by rw [u58]; exact y_cu rfl (by omega)
    have k67 : y_NG f1 f57 := y_NGe (y_E_u u66 (by omega)) h48 (by rw [u66 6 (by omega), if_neg (by omega)]; exact h48.2.2.1) (by rw [u66 7 (by omega), if_neg (by omega)]; exact h48.2.2.2.1) (by omega)
    refine lv_aload_n hx hb dX7_laysEnds_27 rfl (lv_at hl 0 rfl) ?_
    refine th_get (D := (dC, dI)) (ci := 7) (v := .ref (A 29)) (C := RX7) (T := TX7) (N := 34) hx hb hts inX7 hown hK hP (hLK _ ha0 (by decide)) oY64 rfl 29 (by decide) (hts _ T_258) (fun _ h9 => h9) rfl dX7_laysEnds_28 ?_
    refine lv_iload_n hx hb dX7_laysEnds_31 rfl (lv_at hl 2 rfl) ?_
    refine lv_aload_n hx hb dX7_laysEnds_32 rfl (lv_at hl 0 rfl) ?_
    refine va_calli (va_runV (As := []) (rest := [.int w18, .ref (A 29)]) ⟨hx, hb, hml, hown, hts⟩ (y_X7_endsBehind l dC dI H.size hLK A hA F60 a0 ha0 hI (by rw [y_atE o62]; exact hPG) (by rw [y_atE o62, y_atE o65]; exact k67)) (cwV 0 hts (ax_gV T_1200 T_1202 T_1203 T_265 T_1201) rfl rfl rfl (by decide +kernel) ⟨Nat.le_of_ble_eq_true rfl, Nat.le_of_ble_eq_true rfl⟩) ⟨fun a U g mk q => ⟨q.1, s_pc (U := U) rfl rfl q.2⟩, s_recv hK hP (hLK _ ha0 (by decide)) (ci := 7) rfl oY64, fun U hU hW => ⟨rfl, s_pw hU hW hP hK hD hN⟩⟩ rfl rfl hl.1 rfl (lv_room (Nat.le_of_ble_eq_true rfl)) dX7_laysEnds_33 ⟨Nat.zero_le _, Nat.zero_le _⟩) hS (fun q _ h => h) (fun q h => h) (fun r69 F70 t H1 locs ht hvm hw hB hz1 hk1 hS => ?_)
    obtain ⟨hP, hK1⟩ := hB
    rw [ht] at hP
    generalize H1 = H at hP hS ⊢
    clear hz1 hk1 hvm hK1
    obtain ⟨h71, h73, hI, hfr1, hzf, h72⟩ := hw
    have o74 : F70 (A 13) = .inl (cs 0, 400, .inl f1) := (hfr1 _ (by rw [(y_k13 hA)]; decide)).trans o62
    have o75 : F70 (A 23) = .inl (cs 0, 918, .inl f30) := (hfr1 _ (by rw [(y_k23 hA)]; decide)).trans o63
    have oY76 : F70 a0 = .inr (7, y_fl A z0 q0) := (hfr1 _ (by rw [ha0]; decide)).trans oY64
    have hfr : ∀ b, K b ∉ [70, 71, 72, 73, 79] → F70 b = F b := fun b hb9 => (hfr1 b (fun q => hb9 (s_sub (by decide) q))).trans (hfr b hb9)
    obtain ⟨f77, o78, b79⟩ := y_op20 hI
    replace h72 : (y_NG f1 f77) := by have q9 := h72; rw [y_atE o62, y_atE o78] at q9; exact q9
    obtain ⟨f80, o81, b82⟩ := y_op29 hI
    refine th_iast hx hb hK hP hD hS (hLK _ (y_k29 hA) (by decide)) 0 o81 rfl (th_in ⟨by omega, by omega⟩) dX7_laysEnds_36 (fun H locs hP hS => ?_)
    obtain ⟨f83, u84⟩ : ∃ g : Nat → Int32, g = upd f80 (w18 : Int32).toNatClampNeg r69 := ⟨_, rfl⟩
    rw [← u84] at hP
    have b85 : y_bd 29 f83 := trivial
    have hP : va_P (dC, dI) vwCl (va_pl L (va_up F70 (A 29) (.inl (cs 0, 16, .inl f83)))) H := hP
    obtain ⟨F86, hF87⟩ : ∃ G : Nat → va_E, G = va_up F70 (A 29) (.inl (cs 0, 16, .inl f83)) := ⟨_, rfl⟩
    rw [← hF87] at hP
    have hI : y_I K cs A F86 := by rw [hF87]; exact y_clA (i := 29) hA hI (by decide) b85
    have hfr : ∀ b, K b ∉ [70, 71, 72, 73, 79] → F86 b = F b := by rw [hF87]; exact s_fr hfr (y_k29 hA) (by decide)
    have o88 : F86 (A 13) = .inl (cs 0, 400, .inl f1) := by rw [hF87]; exact th_ne (th_kd (y_k13 hA) (y_k29 hA) (by decide)) o74
    have o89 : F86 (A 23) = .inl (cs 0, 918, .inl f30) := by rw [hF87]; exact th_ne (th_kd (y_k23 hA) (y_k29 hA) (by decide)) o75
    have o90 : F86 (A 20) = .inl (cs 0, 918, .inl f77) := by rw [hF87]; exact th_ne (th_kd (y_k20 hA) (y_k29 hA) (by decide)) o78
    have oY91 : F86 a0 = .inr (7, y_fl A z0 q0) := by rw [hF87]; exact th_ne (th_kd ha0 (y_k29 hA) (by decide)) oY76
    have o92 : F86 (A 29) = .inl (cs 0, 16, .inl f83) := by rw [hF87]; exact th_up
    have u93 : ∀ j : Int, 0 ≤ j → y_c f83 j = if j = w18.toInt then r69 else y_c f80 j := by rw [u84]; exact y_cu rfl (by omega)
    obtain ⟨v94, ev94⟩ : ∃ y : Int32, w18 + 1 = y := ⟨_, rfl⟩
    have qv94 : v94.toInt = w18.toInt + 1 := by rw [← ev94]; exact th_add rfl (by decide) ⟨by omega, by omega⟩
    refine lv_iinc (v := v94) (lv' := [(2, .int v94), (0, .ref a0), (1, .int x1)]) hx hb dX7_laysEnds_37 hl (k := 2) rfl ev94 (by decide) rfl (fun ls hl => ?_)
    refine lv_goto (tgt := 6) hx hb dX7_laysEnds_40 (by decide) ?_
    exact ih6 _ _ _ _ (by omega) ⟨F86, _, v94, rfl, lv_sub hl [1, 2, 0] rfl, hP, hS, hI, hfr, (fun k hk => (y_fiZ oY91 (s_sub (by decide) hk)).trans (hz0 k hk)), ⟨by omega, by omega⟩, ⟨by omega, by omega⟩, (by rw [y_atE o90]; exact h72), (by rw [y_atE o89]; exact h23), rfl⟩

set_option maxHeartbeats 4000000 in
set_option maxRecDepth 100000 in
theorem y_X7_likely (l : Launch) (dC : Nat → ClassId) (dI : Nat → Nat → Nat) (sz : Nat) {L : List Nat} {K : Nat → Nat} {cs : Nat → ClassId} (hLK : ∀ a {k : Nat}, K a = k → k ≠ 0 → a ∈ L) (A : Nat → Nat) (hA : y_A K A) (F : Nat → va_E) (a0 : Nat) (x1 : Int32) (x2 : Int32) (x3 : Int32) (ha0 : K a0 = 9) (hI : y_I K cs A F) (hT : y_T (y_fi F a0 15) (y_at F (A 13)) (y_at F (A 20)) (y_at F (A 30)) (y_fi F a0 31) (y_fi F a0 32)) : Met l yX7_likely (Cond.code yX7_likely cX7_likely 6 (some .int) :: T0) ({ frames := 10, cells := 0, slots := 0, locals := 231 }) (va_Pc [.ref a0, .int x1, .int x2, .int x3] (s_W dC dI sz L F [(cs 0, .int), (cs 1, .byte), (cs 2, .long), (cs 3, .object RX5), (cs 4, .object RX4), (cs 5, .array .int), (cs 6, .char), (cs 7, .boolean)])) (va_Qi (fun (r : Int32) (G : Nat → va_E) => True ∧ True ∧ y_I K cs A G ∧ (∀ b, K b ∉ [70, 71, 72, 73, 79] → G b = F b) ∧ (∀ k, k ∈ ([1, 2, 3, 4, 5, 6, 7, 8, 11, 15, 16, 19, 25, 26, 27, 31, 32] : List Nat) → y_fi G a0 k = y_fi F a0 k) ∧ (y_T (y_fi G a0 15) (y_at G (A 13)) (y_at G (A 20)) (y_at G (A 30)) (y_fi G a0 31) (y_fi G a0 32))) (fun (G : Nat → va_E) (t : State) => va_P (dC, dI) vwCl (va_pl L G) t.heap ∧ va_K (dC, dI) vwCl [(cs 0, .int), (cs 1, .byte), (cs 2, .long), (cs 3, .object RX5), (cs 4, .object RX4), (cs 5, .array .int), (cs 6, .char), (cs 7, .boolean)] t) (fun q => q ∈ L)) 0 0 (fun q => q ∈ L) := by
  refine Met.ofW (cc := cX7_likely) (maxL := 6) (ret := (some .int)) (by decide) rfl ?_
  intro p e s m args below meth c s₁ B hml hv
  obtain ⟨rfl, hsz, hP, hK, hD, hN⟩ := hv
  have hx := B.exec
  have hb := B.bytes
  have hr := B.returns
  have hts : ∀ w ∈ T0, w.before _ s = true := fun w h => atoms_spec (ws := Cond.code yX7_likely cX7_likely 6 (some .int) :: T0) B.pre w (List.mem_cons_of_mem _ h)
  have hown : s.vm.findClass RX7 = some m.cls := findClass_of_methodNamed B.named
  have hlocks := B.notSynchronized
  have hS : va_S (fun q => q ∈ L) s.heap s.heap [] := va_S.rf
  have hfr : ∀ b, K b ∉ [70, 71, 72, 73, 79] → F b = F b := fun _ _ => rfl
  have hl := lv_entry ([.ref a0, .int x1, .int x2, .int x3]) (n := 6) (Nat.le_of_ble_eq_true rfl)
  rw [lg_entry_eq]
  generalize (lg_sl ([.ref a0, .int x1, .int x2, .int x3]) ++ List.replicate (6 - (lg_sl ([.ref a0, .int x1, .int x2, .int x3])).length) Slot.unset).toArray = ls at hl ⊢
  have hl : lv_has ls 6 [(0, .ref a0), (1, .int x1), (2, .int x2), (3, .int x3)] := hl
  refine s_gen hP hS (fun H locs hP hS => ?_)
  obtain ⟨z0, q0, oY0, bz0, bq0⟩ := y_opY hI ha0
  have hz0 : ∀ k, k ∈ ([1, 2, 3, 4, 5, 6, 7, 8, 11, 15, 16, 19, 25, 26, 27, 31, 32] : List Nat) → z0 k = z0 k := fun _ _ => rfl
  obtain ⟨f1, o2, b3⟩ := y_op13 hI
  obtain ⟨f4, o5, b6⟩ := y_op20 hI
  obtain ⟨f7, o8, b9⟩ := y_op30 hI
  obtain ⟨v10, ev10⟩ : ∃ y : Int32, y = z0 15 := ⟨_, rfl⟩
  have qv10 : 0 ≤ v10.toInt ∧ v10.toInt ≤ 1 := by rw [ev10]; exact y_bY15 bz0
  have eF_15 := ev10
  obtain ⟨v11, ev11⟩ : ∃ y : Int32, y = z0 31 := ⟨_, rfl⟩
  have qv11 : 0 ≤ v11.toInt ∧ v11.toInt ≤ 20 := by rw [ev11]; exact y_bY31 bz0
  have eF_31 := ev11
  obtain ⟨v12, ev12⟩ : ∃ y : Int32, y = z0 32 := ⟨_, rfl⟩
  have qv12 : 0 ≤ v12.toInt ∧ v12.toInt ≤ 19 := by rw [ev12]; exact y_bY32 bz0
  have eF_32 := ev12
  replace hT : y_T v10 f1 f4 f7 v11 v12 := by have q9 := hT; rw [y_fiZ oY0 (k := 15) (by decide), ← ev10, y_atE o2, y_atE o5, y_atE o8, y_fiZ oY0 (k := 31) (by decide), ← ev11, y_fiZ oY0 (k := 32) (by decide), ← ev12] at q9; exact q9
  have e0_v10 := ev10
  have e0_v11 := ev11
  have e0_v12 := ev12
  refine lv_aload_n hx hb dX7_likely_0 rfl (lv_at hl 0 rfl) ?_
  refine th_get (D := (dC, dI)) (ci := 7) (v := .int (z0 15)) (C := RX7) (T := TX7) (N := 34) hx hb hts inX7 hown hK hP (hLK _ ha0 (by decide)) oY0 rfl 15 (by decide) (hts _ T_271) (fun _ h9 => h9) rfl dX7_likely_1 ?_
  refine ax_eqi (y := v10) ev10.symm ?_
  refine lv_if_eq (tgt := 36) hx hb dX7_likely_4 (by decide) (fun c13 => ?_) (fun c13 => ?_)
  · have c13 := (ax_eq (n := 0) (by decide)).mp c13
    refine lv_iconst (v := (-1)) hx hb dX7_likely_36 (by decide) ?_
    have h14 : ((-1) : Int32).toInt = (-1) := by decide
    exact W.iret (v := (-1)) hx hb hr (fun t ht hW => ⟨⟨(-1), F, rfl, ⟨trivial, trivial, hI, hfr, fun k hk => (y_fiZ oY0 (s_sub (by decide) hk)).trans ((hz0 k hk).trans (y_fiZ oY0 (s_sub (by decide) hk)).symm), (by rw [y_fiZ oY0 (k := 15) (by decide), ← ev10, y_atE o2, y_atE o5, y_atE o8, y_fiZ oY0 (k := 31) (by decide), ← ev11, y_fiZ oY0 (k := 32) (by decide), ← ev12]; exact hT)⟩, by rw [ht]; exact hP, va_K.moved hW.alike hK⟩, hS.F ht⟩) hS.2.2 dX7_likely_37
  · have c13 := mt (ax_eq (n := 0) (by decide)).mpr c13
    obtain ⟨htd, hPG, hNG, hUG⟩ := y_TT hT (by omega)
    have hL := y_P0L hPG.1
    have hW := y_P0W hPG.1
    have hnn := And.intro hNG.1 (And.intro hNG.2.1 (And.intro hNG.2.2.1 hNG.2.2.2.1))
    refine lv_iload_n hx hb dX7_likely_7 rfl (lv_at hl 1 rfl) ?_
    refine lv_i2l hx hb dX7_likely_8 rfl ?_
    refine lv_topl (fun v15 ev15 => ?_)
    have qv15 : v15.toInt = x1.toInt := y_i2l ev15
    refine lv_lconst (v := 0) hx hb dX7_likely_9 (by decide) ?_
    refine lv_ldc2 hx hb hown (hts _ T_1243) dX7_likely_10 ?_
    refine va_calli (va_runS (As := [.long v15, .long 0, .long 63]) (rest := []) ⟨hx, hb, hml, hown, hts⟩ (y_X7_isIn l dC dI H.size F v15 0 63) (cwS 3 hts (ax_gS T_267 T_268 T_265 T_21) rfl rfl rfl (by decide +kernel) ⟨Nat.le_of_ble_eq_true rfl, Nat.le_of_ble_eq_true rfl⟩) ⟨fun a U g mk q => ⟨q.1, s_pc (U := U) rfl rfl q.2⟩, fun U hU hW => ⟨rfl, s_pw hU hW hP hK hD hN⟩⟩ rfl rfl hl.1 rfl (lv_room (Nat.le_of_ble_eq_true rfl)) dX7_likely_13 ⟨Nat.zero_le _, Nat.zero_le _⟩) hS (fun q _ h => h) (fun q h => h) (fun r17 F18 t H1 locs ht hvm hw hB hz1 hk1 hS => ?_)
    obtain ⟨hP, hK1⟩ := hB
    rw [ht] at hP
    generalize H1 = H at hP hS ⊢
    clear hz1 hk1 hvm hK1
    obtain ⟨h19, h21, hG9, h20⟩ := hw
    rw [hG9] at hP
    replace h20 : ((r17.toInt = 0 ∧ (v15.toInt < 0 ∨ 63 < v15.toInt)) ∨ (r17.toInt = 1 ∧ 0 ≤ v15.toInt ∧ v15.toInt ≤ 63)) := by have q9 := h20; exact q9
    refine lv_if_eq (tgt := 36) hx hb dX7_likely_16 (by decide) (fun c22 => ?_) (fun c22 => ?_)
    · have c22 := (ax_eq (n := 0) (by decide)).mp c22
      refine lv_iconst (v := (-1)) hx hb dX7_likely_36 (by decide) ?_
      have h23 : ((-1) : Int32).toInt = (-1) := by decide
      exact W.iret (v := (-1)) hx hb hr (fun t ht hW => ⟨⟨(-1), F, rfl, ⟨trivial, trivial, hI, hfr, fun k hk => (y_fiZ oY0 (s_sub (by decide) hk)).trans ((hz0 k hk).trans (y_fiZ oY0 (s_sub (by decide) hk)).symm), (by rw [y_fiZ oY0 (k := 15) (by decide), ← ev10, y_atE o2, y_atE o5, y_atE o8, y_fiZ oY0 (k := 31) (by decide), ← ev11, y_fiZ oY0 (k := 32) (by decide), ← ev12]; exact hT)⟩, by rw [ht]; exact hP, va_K.moved hW.alike hK⟩, hS.F ht⟩) hS.2.2 dX7_likely_37
    · have c22 := mt (ax_eq (n := 0) (by decide)).mpr c22
      refine lv_iload_n hx hb dX7_likely_19 rfl (lv_at hl 2 rfl) ?_
      refine lv_i2l hx hb dX7_likely_20 rfl ?_
      refine lv_topl (fun v24 ev24 => ?_)
      have qv24 : v24.toInt = x2.toInt := y_i2l ev24
      refine lv_lconst (v := 0) hx hb dX7_likely_21 (by decide) ?_
      refine lv_ldc2 hx hb hown (hts _ T_1094) dX7_likely_22 ?_
      refine va_calli (va_runS (As := [.long v24, .long 0, .long 400]) (rest := []) ⟨hx, hb, hml, hown, hts⟩ (y_X7_isIn l dC dI H.size F v24 0 400) (cwS 3 hts (ax_gS T_267 T_268 T_265 T_21) rfl rfl rfl (by decide +kernel) ⟨Nat.le_of_ble_eq_true rfl, Nat.le_of_ble_eq_true rfl⟩) ⟨fun a U g mk q => ⟨q.1, s_pc (U := U) rfl rfl q.2⟩, fun U hU hW => ⟨rfl, s_pw hU hW hP hK hD hN⟩⟩ rfl rfl hl.1 rfl (lv_room (Nat.le_of_ble_eq_true rfl)) dX7_likely_25 ⟨Nat.zero_le _, Nat.zero_le _⟩) hS (fun q _ h => h) (fun q h => h) (fun r26 F27 t H1 locs ht hvm hw hB hz1 hk1 hS => ?_)
      obtain ⟨hP, hK1⟩ := hB
      rw [ht] at hP
      generalize H1 = H at hP hS ⊢
      clear hz1 hk1 hvm hK1
      obtain ⟨h28, h30, hG9, h29⟩ := hw
      rw [hG9] at hP
      replace h29 : ((r26.toInt = 0 ∧ (v24.toInt < 0 ∨ 400 < v24.toInt)) ∨ (r26.toInt = 1 ∧ 0 ≤ v24.toInt ∧ v24.toInt ≤ 400)) := by have q9 := h29; exact q9
      refine lv_if_eq (tgt := 36) hx hb dX7_likely_28 (by decide) (fun c31 => ?_) (fun c31 => ?_)
      · have c31 := (ax_eq (n := 0) (by decide)).mp c31
        refine lv_iconst (v := (-1)) hx hb dX7_likely_36 (by decide) ?_
        have h32 : ((-1) : Int32).toInt = (-1) := by decide
        exact W.iret (v := (-1)) hx hb hr (fun t ht hW => ⟨⟨(-1), F, rfl, ⟨trivial, trivial, hI, hfr, fun k hk => (y_fiZ oY0 (s_sub (by decide) hk)).trans ((hz0 k hk).trans (y_fiZ oY0 (s_sub (by decide) hk)).symm), (by rw [y_fiZ oY0 (k := 15) (by decide), ← ev10, y_atE o2, y_atE o5, y_atE o8, y_fiZ oY0 (k := 31) (by decide), ← ev11, y_fiZ oY0 (k := 32) (by decide), ← ev12]; exact hT)⟩, by rw [ht]; exact hP, va_K.moved hW.alike hK⟩, hS.F ht⟩) hS.2.2 dX7_likely_37
      · have c31 := mt (ax_eq (n := 0) (by decide)).mpr c31
        refine lv_iload_n hx hb dX7_likely_31 rfl (lv_at hl 3 rfl) ?_
        refine lv_iconst (v := (-1)) hx hb dX7_likely_32 (by decide) ?_
        refine lv_icmp_ge (tgt := 38) hx hb dX7_likely_33 (by decide) (fun c33 => ?_) (fun c33 => ?_)
        · have c33 := (ax_ge (n := (-1)) (by decide)).mp c33
          refine lv_aload_n hx hb dX7_likely_38 rfl (lv_at hl 0 rfl) ?_
          refine lv_iload_n hx hb dX7_likely_39 rfl (lv_at hl 1 rfl) ?_
          have rg34 : 0 ≤ x1.toInt ∧ x1.toInt ≤ 63 := ⟨by omega, by omega⟩
          refine va_callv (va_runV (As := [.int x1]) (rest := []) ⟨hx, hb, hml, hown, hts⟩ (y_X7_laysEnds l dC dI H.size hLK A hA F a0 x1 ha0 rg34 hI (by rw [y_atE o2]; exact hPG) (by rw [y_atE o2, y_atE o5]; exact hNG)) (cwV 1 hts (ax_gV T_1244 T_1246 T_1247 T_265 T_1245) rfl rfl rfl (by decide +kernel) ⟨Nat.le_of_ble_eq_true rfl, Nat.le_of_ble_eq_true rfl⟩) ⟨fun a U g mk q => ⟨q.1, s_pc (U := U) rfl rfl q.2⟩, s_recv hK hP (hLK _ ha0 (by decide)) (ci := 7) rfl oY0, fun U hU hW => ⟨rfl, s_pw hU hW hP hK hD hN⟩⟩ rfl rfl hl.1 rfl (lv_room (Nat.le_of_ble_eq_true rfl)) dX7_likely_40 ⟨Nat.zero_le _, Nat.zero_le _⟩) hS (fun q _ h => h) (fun q h => h) (fun F36 t H1 locs ht hvm hw hB hz1 hk1 hS => ?_)
          obtain ⟨hP, hK1⟩ := hB
          rw [ht] at hP
          generalize H1 = H at hP hS ⊢
          clear hz1 hk1 hvm hK1
          obtain ⟨h37, h39, hI, hfr1, hzf, h38⟩ := hw
          have o40 : F36 (A 13) = .inl (cs 0, 400, .inl f1) := (hfr1 _ (by rw [(y_k13 hA)]; decide)).trans o2
          have o41 : F36 (A 30) = .inl (cs 0, 18360, .inl f7) := (hfr1 _ (by rw [(y_k30 hA)]; decide)).trans o8
          have oY42 : F36 a0 = .inr (7, y_fl A z0 q0) := (hfr1 _ (by rw [ha0]; decide)).trans oY0
          have hfr : ∀ b, K b ∉ [70, 71, 72, 73, 79] → F36 b = F b := fun b hb9 => (hfr1 b (fun q => hb9 (s_sub (by decide) q))).trans (hfr b hb9)
          obtain ⟨f43, o44, b45⟩ := y_op20 hI
          replace h38 : (y_CP f4 f43) := by have q9 := h38; rw [y_atE o5, y_atE o44] at q9; exact q9
          refine lv_iconst (v := 0) hx hb dX7_likely_43 (by decide) ?_
          refine lv_istore (lv' := [(4, .int 0), (0, .ref a0), (1, .int x1), (2, .int x2), (3, .int x3)]) hx hb dX7_likely_44 hl (by decide) rfl (fun ls hl => ?_)
          refine lv_iconst (v := 0) hx hb dX7_likely_46 (by decide) ?_
          refine lv_istore (lv' := [(5, .int 0), (4, .int 0), (0, .ref a0), (1, .int x1), (2, .int x2), (3, .int x3)]) hx hb dX7_likely_47 hl (by decide) rfl (fun ls hl => ?_)
          have h48 : (0 : Int32).toInt = 0 := by decide
          have h49 : (0 : Int32).toInt = 0 := by decide
          refine th_loop (fun n g H locs => ∃ (G : Nat → va_E) (ls : Array Slot) (w46 : Int32) (w47 : Int32), g = F0 m 49 ls [] ∧ lv_has ls 6 [(0, .ref a0), (2, .int x2), (3, .int x3), (4, .int w46), (5, .int w47)] ∧ va_P (dC, dI) vwCl (va_pl L G) H ∧ va_S (fun q => q ∈ L) s.heap H locs ∧ y_I K cs A G ∧ (∀ b, K b ∉ [70, 71, 72, 73, 79] → G b = F b) ∧ (∀ k, k ∈ ([1, 2, 3, 4, 5, 6, 7, 8, 11, 15, 16, 19, 25, 26, 27, 31, 32] : List Nat) → y_fi G a0 k = z0 k) ∧ True ∧ (0 ≤ w47.toInt ∧ w47.toInt ≤ 16) ∧ (-1 ≤ x3.toInt ∧ x3.toInt ≤ 2147483647) ∧ (y_CP f4 (y_at G (A 20))) ∧ n = (17 - w47.toInt).toNat) _ ⟨F36, _, 0, 0, rfl, lv_sub hl [2, 4, 5, 1, 0] rfl, hP, hS, hI, hfr, (fun k hk => (y_fiZ oY42 (s_sub (by decide) hk)).trans (hz0 k hk)), trivial, (by decide), ⟨by omega, by have q9 := th_hi x3; omega⟩, (by rw [y_atE o44]; exact h38), rfl⟩ (fun n ih49 g H locs hq => ?_)
          obtain ⟨F54, ls, w46, w47, rfl, hl, hP, hS, hI, hfr, hz0, h50, h51, h52, h53, hn⟩ := hq
          have o55 : F54 (A 13) = .inl (cs 0, 400, .inl f1) := (hfr _ (by rw [(y_k13 hA)]; decide)).trans o2
          have o56 : F54 (A 30) = .inl (cs 0, 18360, .inl f7) := (hfr _ (by rw [(y_k30 hA)]; decide)).trans o8
          have oY57 : F54 a0 = .inr (7, y_fl A z0 q0) := (hfr _ (by rw [ha0]; decide)).trans oY0
          have hz0 : ∀ k, k ∈ ([1, 2, 3, 4, 5, 6, 7, 8, 11, 15, 16, 19, 25, 26, 27, 31, 32] : List Nat) → z0 k = z0 k := fun _ _ => rfl
          obtain ⟨f58, o59, b60⟩ := y_op20 hI
          replace h53 : (y_CP f4 f58) := by have q9 := h53; rw [y_atE o59] at q9; exact q9
          have hn_60 := hn
          refine th_join (fun g H locs => ∃ (G : Nat → va_E) (ls : Array Slot) (w61 : Int32), g = F0 m 82 ls [] ∧ lv_has ls 6 [(0, .ref a0), (2, .int x2), (3, .int x3), (4, .int w61), (5, .int w47)] ∧ va_P (dC, dI) vwCl (va_pl L G) H ∧ va_S (fun q => q ∈ L) s.heap H locs ∧ y_I K cs A G ∧ (∀ b, K b ∉ [70, 71, 72, 73, 79] → G b = F b) ∧ (∀ k, k ∈ ([1, 2, 3, 4, 5, 6, 7, 8, 11, 15, 16, 19, 25, 26, 27, 31, 32] : List Nat) → y_fi G a0 k = z0 k) ∧ True ∧ (-1 ≤ x3.toInt ∧ x3.toInt ≤ 2147483647) ∧ (0 ≤ w47.toInt ∧ w47.toInt ≤ 15) ∧ (y_CP f4 (y_at G (A 20)))) (fun K82 => ?_) ?_
          · refine lv_iload hx hb dX7_likely_49 (lv_at hl 4 rfl) ?_
            refine lv_bipush (v := 16) hx hb dX7_likely_51 (by decide) ?_
            refine lv_icmp_ge (tgt := 88) hx hb dX7_likely_53 (by decide) (fun c62 => ?_) (fun c62 => ?_)
            · have c62 := (ax_ge (n := 16) (by decide)).mp c62
              refine lv_iload_n hx hb dX7_likely_88 rfl (lv_at hl 2 rfl) ?_
              refine lv_iconst (v := (-1)) hx hb dX7_likely_89 (by decide) ?_
              refine lv_icmp_ne (tgt := 98) hx hb dX7_likely_90 (by decide) (fun c63 => ?_) (fun c63 => ?_)
              · have c63 := mt (ax_eq (n := (-1)) (by decide)).mpr c63
                refine lv_iconst (v := (-1)) hx hb dX7_likely_98 (by decide) ?_
                have h64 : ((-1) : Int32).toInt = (-1) := by decide
                exact W.iret (v := (-1)) hx hb hr (fun t ht hW => ⟨⟨(-1), F54, rfl, ⟨trivial, trivial, hI, hfr, fun k hk => (y_fiZ oY57 (s_sub (by decide) hk)).trans ((hz0 k hk).trans (y_fiZ oY0 (s_sub (by decide) hk)).symm), (by rw [y_fiZ oY57 (k := 15) (by decide), ← ev10, y_atE o55, y_atE o59, y_atE o56, y_fiZ oY57 (k := 31) (by decide), ← ev11, y_fiZ oY57 (k := 32) (by decide), ← ev12]; exact (y_Tc h53 hT))⟩, by rw [ht]; exact hP, va_K.moved hW.alike hK⟩, hS.F ht⟩) hS.2.2 dX7_likely_99
              · have c63 := (ax_eq (n := (-1)) (by decide)).mp c63
                refine lv_iload hx hb dX7_likely_93 (lv_at hl 3 rfl) ?_
                refine lv_goto (tgt := 99) hx hb dX7_likely_95 (by decide) ?_
                exact W.iret (v := w46) hx hb hr (fun t ht hW => ⟨⟨w46, F54, rfl, ⟨trivial, trivial, hI, hfr, fun k hk => (y_fiZ oY57 (s_sub (by decide) hk)).trans ((hz0 k hk).trans (y_fiZ oY0 (s_sub (by decide) hk)).symm), (by rw [y_fiZ oY57 (k := 15) (by decide), ← ev10, y_atE o55, y_atE o59, y_atE o56, y_fiZ oY57 (k := 31) (by decide), ← ev11, y_fiZ oY57 (k := 32) (by decide), ← ev12]; exact (y_Tc h53 hT))⟩, by rw [ht]; exact hP, va_K.moved hW.alike hK⟩, hS.F ht⟩) hS.2.2 dX7_likely_99
            · have c62 := mt (ax_ge (n := 16) (by decide)).mpr c62
              refine lv_aload_n hx hb dX7_likely_56 rfl (lv_at hl 0 rfl) ?_
              refine th_get (D := (dC, dI)) (ci := 7) (v := .ref (A 29)) (C := RX7) (T := TX7) (N := 34) hx hb hts inX7 hown hK hP (hLK _ ha0 (by decide)) oY57 rfl 29 (by decide) (hts _ T_258) (fun _ h9 => h9) rfl dX7_likely_57 ?_
              refine lv_iload hx hb dX7_likely_60 (lv_at hl 4 rfl) ?_
              obtain ⟨f65, o66, b67⟩ := y_op29 hI
              refine th_iald hx hb hK hP (hLK _ (y_k29 hA) (by decide)) 0 o66 rfl (th_in ⟨by omega, by omega⟩) dX7_likely_62 ?_
              refine lv_topi (fun v68 ev68 => ?_)
              refine lv_iload_n hx hb dX7_likely_63 rfl (lv_at hl 1 rfl) ?_
              refine lv_icmp_eq (tgt := 70) hx hb dX7_likely_64 (by decide) (fun c69 => ?_) (fun c69 => ?_)
              · have c69 := Int32.toInt_inj.symm.mp c69
                refine lv_iload hx hb dX7_likely_70 (lv_at hl 3 rfl) ?_
                refine lv_iload_n hx hb dX7_likely_72 rfl (lv_at hl 2 rfl) ?_
                refine lv_icmp_ne (tgt := 79) hx hb dX7_likely_73 (by decide) (fun c70 => ?_) (fun c70 => ?_)
                · have c70 := mt Int32.toInt_inj.symm.mpr c70
                  obtain ⟨v71, ev71⟩ : ∃ y : Int32, w46 + 1 = y := ⟨_, rfl⟩
                  refine lv_iinc (v := v71) (lv' := [(4, .int v71), (0, .ref a0), (2, .int x2), (3, .int x3), (5, .int w47)]) hx hb dX7_likely_79 hl (k := 3) rfl ev71 (by decide) rfl (fun ls hl => ?_)
                  exact K82 _ _ _ ⟨F54, _, v71, rfl, lv_sub hl [1, 2, 3, 0, 4] rfl, hP, hS, hI, hfr, (fun k hk => (y_fiZ oY57 (s_sub (by decide) hk)).trans (hz0 k hk)), trivial, ⟨by omega, by have q9 := th_hi x3; omega⟩, ⟨by omega, by omega⟩, (by rw [y_atE o59]; exact h53)⟩
                · have c70 := Int32.toInt_inj.symm.mp c70
                  refine lv_iload hx hb dX7_likely_76 (lv_at hl 4 rfl) ?_
                  exact W.iret (v := w47) hx hb hr (fun t ht hW => ⟨⟨w47, F54, rfl, ⟨trivial, trivial, hI, hfr, fun k hk => (y_fiZ oY57 (s_sub (by decide) hk)).trans ((hz0 k hk).trans (y_fiZ oY0 (s_sub (by decide) hk)).symm), (by rw [y_fiZ oY57 (k := 15) (by decide), ← ev10, y_atE o55, y_atE o59, y_atE o56, y_fiZ oY57 (k := 31) (by decide), ← ev11, y_fiZ oY57 (k := 32) (by decide), ← ev12]; exact (y_Tc h53 hT))⟩, by rw [ht]; exact hP, va_K.moved hW.alike hK⟩, hS.F ht⟩) hS.2.2 dX7_likely_78
              · have c69 := mt Int32.toInt_inj.symm.mpr c69
                refine lv_goto (tgt := 82) hx hb dX7_likely_67 (by decide) ?_
                exact K82 _ _ _ ⟨F54, _, w46, rfl, lv_sub hl [0, 1, 2, 3, 4] rfl, hP, hS, hI, hfr, (fun k hk => (y_fiZ oY57 (s_sub (by decide) hk)).trans (hz0 k hk)), trivial, ⟨by omega, by have q9 := th_hi x3; omega⟩, ⟨by omega, by omega⟩, (by rw [y_atE o59]; exact h53)⟩
          · intro g H locs hq
            obtain ⟨F76, ls, w61, rfl, hl, hP, hS, hI, hfr, hz0, h72, h73, h74, h75⟩ := hq
            have o77 : F76 (A 13) = .inl (cs 0, 400, .inl f1) := (hfr _ (by rw [(y_k13 hA)]; decide)).trans o2
            have o78 : F76 (A 30) = .inl (cs 0, 18360, .inl f7) := (hfr _ (by rw [(y_k30 hA)]; decide)).trans o8
            have oY79 : F76 a0 = .inr (7, y_fl A z0 q0) := (hfr _ (by rw [ha0]; decide)).trans oY0
            have hz0 : ∀ k, k ∈ ([1, 2, 3, 4, 5, 6, 7, 8, 11, 15, 16, 19, 25, 26, 27, 31, 32] : List Nat) → z0 k = z0 k := fun _ _ => rfl
            obtain ⟨f80, o81, b82⟩ := y_op20 hI
            replace h75 : (y_CP f4 f80) := by have q9 := h75; rw [y_atE o81] at q9; exact q9
            obtain ⟨v83, ev83⟩ : ∃ y : Int32, w47 + 1 = y := ⟨_, rfl⟩
            have qv83 : v83.toInt = w47.toInt + 1 := by rw [← ev83]; exact th_add rfl (by decide) ⟨by omega, by omega⟩
            refine lv_iinc (v := v83) (lv' := [(5, .int v83), (0, .ref a0), (2, .int x2), (3, .int x3), (4, .int w61)]) hx hb dX7_likely_82 hl (k := 4) rfl ev83 (by decide) rfl (fun ls hl => ?_)
            refine lv_goto (tgt := 49) hx hb dX7_likely_85 (by decide) ?_
            exact ih49 _ _ _ _ (by omega) ⟨F76, _, w61, v83, rfl, lv_sub hl [1, 2, 3, 4, 0] rfl, hP, hS, hI, hfr, (fun k hk => (y_fiZ oY79 (s_sub (by decide) hk)).trans (hz0 k hk)), trivial, ⟨by omega, by omega⟩, ⟨by omega, by have q9 := th_hi x3; omega⟩, (by rw [y_atE o81]; exact h75), rfl⟩
        · have c33 := mt (ax_ge (n := (-1)) (by decide)).mpr c33
          refine lv_iconst (v := (-1)) hx hb dX7_likely_36 (by decide) ?_
          have h84 : ((-1) : Int32).toInt = (-1) := by decide
          exact W.iret (v := (-1)) hx hb hr (fun t ht hW => ⟨⟨(-1), F, rfl, ⟨trivial, trivial, hI, hfr, fun k hk => (y_fiZ oY0 (s_sub (by decide) hk)).trans ((hz0 k hk).trans (y_fiZ oY0 (s_sub (by decide) hk)).symm), (by rw [y_fiZ oY0 (k := 15) (by decide), ← ev10, y_atE o2, y_atE o5, y_atE o8, y_fiZ oY0 (k := 31) (by decide), ← ev11, y_fiZ oY0 (k := 32) (by decide), ← ev12]; exact hT)⟩, by rw [ht]; exact hP, va_K.moved hW.alike hK⟩, hS.F ht⟩) hS.2.2 dX7_likely_37
