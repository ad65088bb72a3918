set_option maxHeartbeats 4000000 in
set_option maxRecDepth 100000 in
theorem y_X7_laysState (l : Launch) (dC : Nat → ClassId) (dI : Nat → Nat → Nat) (sz : Nat) {L : List Nat} {K : Nat → Nat} {cs : Nat → ClassId} (hLK : ∀ a {k : Nat}, K a = k → k ≠ 0 → a ∈ L) (A : Nat → Nat) (hA : y_A K A) (F : Nat → va_E) (a0 : Nat) (x1 : Int32) (ha0 : K a0 = 9) (hx1 : 0 ≤ x1.toInt ∧ x1.toInt ≤ 400) (hI : y_I K cs A F) : Met l yX7_laysState (Cond.code yX7_laysState cX7_laysState 7 none :: T0) ({ frames := 2, cells := 0, slots := 0, locals := 43 }) (va_Pc [.ref a0, .int x1] (s_W dC dI sz L F [(cs 0, .int), (cs 1, .byte), (cs 2, .long), (cs 3, .object RX5), (cs 4, .object RX4), (cs 5, .array .int), (cs 6, .char), (cs 7, .boolean)])) (va_Qv (fun (G : Nat → va_E) => True ∧ True ∧ y_I K cs A G ∧ (∀ b, K b ∉ [74] → G b = F b) ∧ (∀ k, k ∈ ([1, 2, 3, 4, 5, 6, 7, 8, 11, 15, 16, 19, 25, 26, 27, 31, 32] : List Nat) → y_fi G a0 k = y_fi F a0 k) ∧ True) (fun (G : Nat → va_E) (t : State) => va_P (dC, dI) vwCl (va_pl L G) t.heap ∧ va_K (dC, dI) vwCl [(cs 0, .int), (cs 1, .byte), (cs 2, .long), (cs 3, .object RX5), (cs 4, .object RX4), (cs 5, .array .int), (cs 6, .char), (cs 7, .boolean)] t) (fun q => q ∈ L)) 0 0 (fun q => q ∈ L) := by
  refine Met.ofW (cc := cX7_laysState) (maxL := 7) (ret := none) (by decide) rfl ?_
  intro p e s m args below meth c s₁ B hml hv
  obtain ⟨rfl, hsz, hP, hK, hD, hN⟩ := hv
  have hx := B.exec
  have hb := B.bytes
  have hr := B.returns
  have hts : ∀ w ∈ T0, w.before _ s = true := fun w h => atoms_spec (ws := Cond.code yX7_laysState cX7_laysState 7 none :: T0) B.pre w (List.mem_cons_of_mem _ h)
  have hown : s.vm.findClass RX7 = some m.cls := findClass_of_methodNamed B.named
  have hlocks := B.notSynchronized
  have hS : va_S (fun q => q ∈ L) s.heap s.heap [] := va_S.rf
  have hfr : ∀ b, K b ∉ [74] → F b = F b := fun _ _ => rfl
  have hl := lv_entry ([.ref a0, .int x1]) (n := 7) (Nat.le_of_ble_eq_true rfl)
  rw [lg_entry_eq]
  generalize (lg_sl ([.ref a0, .int x1]) ++ List.replicate (7 - (lg_sl ([.ref a0, .int x1])).length) Slot.unset).toArray = ls at hl ⊢
  have hl : lv_has ls 7 [(0, .ref a0), (1, .int x1)] := hl
  refine s_gen hP hS (fun H locs hP hS => ?_)
  obtain ⟨z0, q0, oY0, bz0, bq0⟩ := y_opY hI ha0
  have hz0 : ∀ k, k ∈ ([1, 2, 3, 4, 5, 6, 7, 8, 11, 15, 16, 19, 25, 26, 27, 31, 32] : List Nat) → z0 k = z0 k := fun _ _ => rfl
  refine lv_sipush (v := 477) hx hb dX7_laysState_0 (by decide) ?_
  refine lv_iload_n hx hb dX7_laysState_3 rfl (lv_at hl 1 rfl) ?_
  refine lv_imul hx hb dX7_laysState_4 ?_
  refine lv_topi (fun v1 ev1 => ?_)
  have qv1 : v1.toInt = 477 * x1.toInt := by rw [ev1]; exact th_mul (by decide) rfl ⟨by omega, by omega⟩
  refine lv_istore_n (lv' := [(2, .int v1), (0, .ref a0), (1, .int x1)]) hx hb dX7_laysState_5 rfl hl (by decide) rfl (fun ls hl => ?_)
  refine lv_bipush (v := 8) hx hb dX7_laysState_6 (by decide) ?_
  refine lv_istore_n (lv' := [(3, .int 8), (2, .int v1), (0, .ref a0), (1, .int x1)]) hx hb dX7_laysState_8 rfl hl (by decide) rfl (fun ls hl => ?_)
  have h3 : (8 : Int32).toInt = 8 := by decide
  refine th_loop (fun n g H locs => ∃ (G : Nat → va_E) (ls : Array Slot) (w2 : Int32), g = F0 m 9 ls [] ∧ lv_has ls 7 [(0, .ref a0), (2, .int v1), (3, .int w2)] ∧ va_P (dC, dI) vwCl (va_pl L G) H ∧ va_S (fun q => q ∈ L) s.heap H locs ∧ y_I K cs A G ∧ (∀ b, K b ∉ [74] → G b = F b) ∧ (∀ k, k ∈ ([1, 2, 3, 4, 5, 6, 7, 8, 11, 15, 16, 19, 25, 26, 27, 31, 32] : List Nat) → y_fi G a0 k = z0 k) ∧ (8 ≤ w2.toInt ∧ w2.toInt ≤ 480) ∧ (0 ≤ v1.toInt ∧ v1.toInt ≤ 190800) ∧ n = (481 - w2.toInt).toNat) _ ⟨F, _, 8, rfl, lv_sub hl [2, 1, 0] rfl, hP, hS, hI, hfr, (fun k hk => (y_fiZ oY0 (s_sub (by decide) hk)).trans (hz0 k hk)), (by decide), ⟨by omega, by omega⟩, rfl⟩ (fun n ih9 g H locs hq => ?_)
  obtain ⟨F6, ls, w2, rfl, hl, hP, hS, hI, hfr, hz0, h4, h5, hn⟩ := hq
  have oY7 : F6 a0 = .inr (7, y_fl A z0 q0) := (hfr _ (by rw [ha0]; decide)).trans oY0
  have hz0 : ∀ k, k ∈ ([1, 2, 3, 4, 5, 6, 7, 8, 11, 15, 16, 19, 25, 26, 27, 31, 32] : List Nat) → z0 k = z0 k := fun _ _ => rfl
  have hn_7 := hn
  refine lv_iload_n hx hb dX7_laysState_9 rfl (lv_at hl 2 rfl) ?_
  refine lv_sipush (v := 480) hx hb dX7_laysState_10 (by decide) ?_
  refine lv_icmp_ge (tgt := 39) hx hb dX7_laysState_13 (by decide) (fun c8 => ?_) (fun c8 => ?_)
  · have c8 := (ax_ge (n := 480) (by decide)).mp c8
    refine lv_iconst (v := 0) hx hb dX7_laysState_39 (by decide) ?_
    refine lv_istore_n (lv' := [(3, .int 0), (0, .ref a0), (2, .int v1)]) hx hb dX7_laysState_40 rfl hl (by decide) rfl (fun ls hl => ?_)
    have h10 : (0 : Int32).toInt = 0 := by decide
    refine th_loop (fun n g H locs => ∃ (G : Nat → va_E) (ls : Array Slot) (w9 : Int32), g = F0 m 41 ls [] ∧ lv_has ls 7 [(0, .ref a0), (2, .int v1), (3, .int w9)] ∧ va_P (dC, dI) vwCl (va_pl L G) H ∧ va_S (fun q => q ∈ L) s.heap H locs ∧ y_I K cs A G ∧ (∀ b, K b ∉ [74] → G b = F b) ∧ (∀ k, k ∈ ([1, 2, 3, 4, 5, 6, 7, 8, 11, 15, 16, 19, 25, 26, 27, 31, 32] : List Nat) → y_fi G a0 k = z0 k) ∧ (0 ≤ w9.toInt ∧ w9.toInt ≤ 4) ∧ (0 ≤ v1.toInt ∧ v1.toInt ≤ 190800) ∧ n = (5 - w9.toInt).toNat) _ ⟨F6, _, 0, rfl, lv_sub hl [1, 2, 0] rfl, hP, hS, hI, hfr, (fun k hk => (y_fiZ oY7 (s_sub (by decide) hk)).trans (hz0 k hk)), (by decide), ⟨by omega, by omega⟩, rfl⟩ (fun n ih41 g H locs hq => ?_)
    obtain ⟨F13, ls, w9, rfl, hl, hP, hS, hI, hfr, hz0, h11, h12, hn⟩ := hq
    have oY14 : F13 a0 = .inr (7, y_fl A z0 q0) := (hfr _ (by rw [ha0]; decide)).trans oY0
    have hz0 : ∀ k, k ∈ ([1, 2, 3, 4, 5, 6, 7, 8, 11, 15, 16, 19, 25, 26, 27, 31, 32] : List Nat) → z0 k = z0 k := fun _ _ => rfl
    have hn_14 := hn
    refine th_join (fun g H locs => ∃ (G : Nat → va_E) (ls : Array Slot) (w15 : Int32) (w16 : Int32), g = F0 m 86 ls [.int w15, .int w16, .ref (A 24)] ∧ lv_has ls 7 [(0, .ref a0), (2, .int v1), (3, .int w9)] ∧ va_P (dC, dI) vwCl (va_pl L G) H ∧ va_S (fun q => q ∈ L) s.heap H locs ∧ y_I K cs A G ∧ (∀ b, K b ∉ [74] → G b = F b) ∧ (∀ k, k ∈ ([1, 2, 3, 4, 5, 6, 7, 8, 11, 15, 16, 19, 25, 26, 27, 31, 32] : List Nat) → y_fi G a0 k = z0 k) ∧ (0 ≤ w15.toInt ∧ w15.toInt ≤ 2147483647) ∧ (96 ≤ w16.toInt ∧ w16.toInt ≤ 190919) ∧ (0 ≤ v1.toInt ∧ v1.toInt ≤ 190800) ∧ (0 ≤ w9.toInt ∧ w9.toInt ≤ 3)) (fun K86 => ?_) ?_
    · refine lv_iload_n hx hb dX7_laysState_41 rfl (lv_at hl 2 rfl) ?_
      refine lv_iconst (v := 4) hx hb dX7_laysState_42 (by decide) ?_
      refine lv_icmp_ge (tgt := 226) hx hb dX7_laysState_43 (by decide) (fun c17 => ?_) (fun c17 => ?_)
      · have c17 := (ax_ge (n := 4) (by decide)).mp c17
        refine lv_aload_n hx hb dX7_laysState_226 rfl (lv_at hl 0 rfl) ?_
        refine th_get (D := (dC, dI)) (ci := 7) (v := .ref (A 24)) (C := RX7) (T := TX7) (N := 34) hx hb hts inX7 hown hK hP (hLK _ ha0 (by decide)) oY14 rfl 24 (by decide) (hts _ T_256) (fun _ h9 => h9) rfl dX7_laysState_227 ?_
        refine lv_iload_n hx hb dX7_laysState_230 rfl (lv_at hl 1 rfl) ?_
        refine lv_sipush (v := 472) hx hb dX7_laysState_231 (by decide) ?_
        refine lv_iadd hx hb dX7_laysState_234 ?_
        refine lv_topi (fun v18 ev18 => ?_)
        have qv18 : v18.toInt = v1.toInt + 472 := by rw [ev18]; exact th_add rfl (by decide) ⟨by omega, by omega⟩
        refine lv_aload_n hx hb dX7_laysState_235 rfl (lv_at hl 0 rfl) ?_
        refine th_get (D := (dC, dI)) (ci := 7) (v := .ref (A 20)) (C := RX7) (T := TX7) (N := 34) hx hb hts inX7 hown hK hP (hLK _ ha0 (by decide)) oY14 rfl 20 (by decide) (hts _ T_251) (fun _ h9 => h9) rfl dX7_laysState_236 ?_
        refine lv_bipush (v := 6) hx hb dX7_laysState_239 (by decide) ?_
        obtain ⟨f19, o20, b21⟩ := y_op20 hI
        refine th_iald hx hb hK hP (hLK _ (y_k20 hA) (by decide)) 0 o20 rfl (ax_in (by decide)) dX7_laysState_241 ?_
        refine lv_topi (fun v22 ev22 => ?_)
        obtain ⟨f23, o24, b25⟩ := y_op24 hI
        refine th_iast hx hb hK hP hD hS (hLK _ (y_k24 hA) (by decide)) 0 o24 rfl (th_in ⟨by omega, by omega⟩) dX7_laysState_242 (fun H locs hP hS => ?_)
        obtain ⟨f26, u27⟩ : ∃ g : Nat → Int32, g = upd f23 (v18 : Int32).toNatClampNeg v22 := ⟨_, rfl⟩
        rw [← u27] at hP
        have b28 : y_bd 24 f26 := trivial
        have hP : va_P (dC, dI) vwCl (va_pl L (va_up F13 (A 24) (.inl (cs 0, 191277, .inl f26)))) H := hP
        obtain ⟨F29, hF30⟩ : ∃ G : Nat → va_E, G = va_up F13 (A 24) (.inl (cs 0, 191277, .inl f26)) := ⟨_, rfl⟩
        rw [← hF30] at hP
        have hI : y_I K cs A F29 := by rw [hF30]; exact y_clA (i := 24) hA hI (by decide) b28
        have hfr : ∀ b, K b ∉ [74] → F29 b = F b := by rw [hF30]; exact s_fr hfr (y_k24 hA) (by decide)
        have o31 : F29 (A 20) = .inl (cs 0, 918, .inl f19) := by rw [hF30]; exact th_ne (th_kd (y_k20 hA) (y_k24 hA) (by decide)) o20
        have oY32 : F29 a0 = .inr (7, y_fl A z0 q0) := by rw [hF30]; exact th_ne (th_kd ha0 (y_k24 hA) (by decide)) oY14
        have o33 : F29 (A 24) = .inl (cs 0, 191277, .inl f26) := by rw [hF30]; exact th_up
        have u34 : ∀ j : Int, 0 ≤ j → y_c f26 j = if j = v18.toInt then v22 else y_c f23 j := by rw [u27]; exact y_cu rfl (by omega)
        exact W.vret hx hb hr (fun t ht hW => ⟨⟨F29, rfl, ⟨trivial, trivial, hI, hfr, fun k hk => (y_fiZ oY32 (s_sub (by decide) hk)).trans ((hz0 k hk).trans (y_fiZ oY0 (s_sub (by decide) hk)).symm), trivial⟩, by rw [ht]; exact hP, va_K.moved hW.alike hK⟩, hS.F ht⟩) hS.2.2 dX7_laysState_243
      · have c17 := mt (ax_ge (n := 4) (by decide)).mpr c17
        refine lv_aload_n hx hb dX7_laysState_46 rfl (lv_at hl 0 rfl) ?_
        refine lv_iload_n hx hb dX7_laysState_47 rfl (lv_at hl 2 rfl) ?_
        refine lv_iconst (v := 0) hx hb dX7_laysState_48 (by decide) ?_
        have rg35 : 0 ≤ w9.toInt ∧ w9.toInt ≤ 3 := ⟨by omega, by omega⟩
        obtain ⟨f36, o37, b38⟩ := y_op20 hI
        refine va_calli (va_runV (As := [.int w9, .int 0]) (rest := []) ⟨hx, hb, hml, hown, hts⟩ (y_X7_its l dC dI H.size hLK A hA F13 a0 w9 0 ha0 rg35 (by decide) hI) (cwV 2 hts (ax_gV T_1057 T_1059 T_1060 T_265 T_1058) rfl rfl rfl (by decide +kernel) ⟨Nat.le_of_ble_eq_true rfl, Nat.le_of_ble_eq_true rfl⟩) ⟨fun a U g mk q => ⟨q.1, s_pc (U := U) rfl rfl q.2⟩, s_recv hK hP (hLK _ ha0 (by decide)) (ci := 7) rfl oY14, fun U hU hW => ⟨rfl, s_pw hU hW hP hK hD hN⟩⟩ rfl rfl hl.1 rfl (lv_room (Nat.le_of_ble_eq_true rfl)) dX7_laysState_49 ⟨Nat.zero_le _, Nat.zero_le _⟩) hS (fun q _ h => h) (fun q h => h) (fun r40 F41 t H1 locs ht hvm hw hB hz1 hk1 hS => ?_)
        obtain ⟨hP, hK1⟩ := hB
        rw [ht] at hP
        generalize H1 = H at hP hS ⊢
        clear hz1 hk1 hvm hK1
        obtain ⟨h42, h44, hI, hfr1, hzf, h43⟩ := hw
        have o45 : F41 (A 20) = .inl (cs 0, 918, .inl f36) := (hfr1 _ (by rw [(y_k20 hA)]; decide)).trans o37
        have oY46 : F41 a0 = .inr (7, y_fl A z0 q0) := (hfr1 _ (by rw [ha0]; decide)).trans oY14
        have hfr : ∀ b, K b ∉ [74] → F41 b = F b := fun b hb9 => (hfr1 b (fun q => hb9 (s_sub (by decide) q))).trans (hfr b hb9)
        replace h43 : (r40 = y_c f36 (104 + 6 * w9.toInt + 0)) := by have q9 := h43; rw [y_atE o37] at q9; exact q9
        have h43 : r40 = y_c f36 (104 + 6 * w9.toInt) := h43.trans (congrArg (y_c f36) (by omega))
        have h47 := congrArg Int32.toInt h43
        refine lv_aload_n hx hb dX7_laysState_52 rfl (lv_at hl 0 rfl) ?_
        refine th_get (D := (dC, dI)) (ci := 7) (v := .ref (A 20)) (C := RX7) (T := TX7) (N := 34) hx hb hts inX7 hown hK hP (hLK _ ha0 (by decide)) oY46 rfl 20 (by decide) (hts _ T_251) (fun _ h9 => h9) rfl dX7_laysState_53 ?_
        refine lv_iconst (v := 0) hx hb dX7_laysState_56 (by decide) ?_
        refine th_iald hx hb hK hP (hLK _ (y_k20 hA) (by decide)) 0 o45 rfl (ax_in (by decide)) dX7_laysState_57 ?_
        refine lv_topi (fun v48 ev48 => ?_)
        refine lv_isub hx hb dX7_laysState_58 ?_
        refine lv_topi (fun v49 ev49 => ?_)
        refine lv_istore (lv' := [(4, .int v49), (0, .ref a0), (2, .int v1), (3, .int w9)]) hx hb dX7_laysState_59 hl (by decide) rfl (fun ls hl => ?_)
        refine lv_aload_n hx hb dX7_laysState_61 rfl (lv_at hl 1 rfl) ?_
        refine th_get (D := (dC, dI)) (ci := 7) (v := .ref (A 24)) (C := RX7) (T := TX7) (N := 34) hx hb hts inX7 hown hK hP (hLK _ ha0 (by decide)) oY46 rfl 24 (by decide) (hts _ T_256) (fun _ h9 => h9) rfl dX7_laysState_62 ?_
        refine lv_iload_n hx hb dX7_laysState_65 rfl (lv_at hl 2 rfl) ?_
        refine lv_iload_n hx hb dX7_laysState_66 rfl (lv_at hl 3 rfl) ?_
        refine lv_iconst (v := 0) hx hb dX7_laysState_67 (by decide) ?_
        refine va_calli (va_runS (As := [.int w9, .int 0]) (rest := [.int v1, .ref (A 24)]) ⟨hx, hb, hml, hown, hts⟩ (y_X7_warpAt l dC dI H.size F41 w9 0 rg35 (by decide)) (cwS 2 hts (ax_gS T_1021 T_1023 T_265 T_1022) rfl rfl rfl (by decide +kernel) ⟨Nat.le_of_ble_eq_true rfl, Nat.le_of_ble_eq_true rfl⟩) ⟨fun a U g mk q => ⟨q.1, s_pc (U := U) rfl rfl q.2⟩, fun U hU hW => ⟨rfl, s_pw hU hW hP hK hD hN⟩⟩ rfl rfl hl.1 rfl (lv_room (Nat.le_of_ble_eq_true rfl)) dX7_laysState_68 ⟨Nat.zero_le _, Nat.zero_le _⟩) hS (fun q _ h => h) (fun q h => h) (fun r51 F52 t H1 locs ht hvm hw hB hz1 hk1 hS => ?_)
        obtain ⟨hP, hK1⟩ := hB
        rw [ht] at hP
        generalize H1 = H at hP hS ⊢
        clear hz1 hk1 hvm hK1
        obtain ⟨h53, h55, hG9, h54⟩ := hw
        rw [hG9] at hP
        replace h54 : (r51.toInt = 104 + 6 * w9.toInt + 0) := by have q9 := h54; exact q9
        refine lv_iadd hx hb dX7_laysState_71 ?_
        refine lv_topi (fun v56 ev56 => ?_)
        have qv56 : v56.toInt = v1.toInt + r51.toInt := by rw [ev56]; exact th_add rfl rfl ⟨by omega, by omega⟩
        refine lv_bipush (v := 8) hx hb dX7_laysState_72 (by decide) ?_
        refine lv_isub hx hb dX7_laysState_74 ?_
        refine lv_topi (fun v57 ev57 => ?_)
        have qv57 : v57.toInt = v56.toInt - 8 := by rw [ev57]; exact th_sub rfl (by decide) ⟨by omega, by omega⟩
        refine lv_iload hx hb dX7_laysState_75 (lv_at hl 0 rfl) ?_
        refine lv_if_le (tgt := 85) hx hb dX7_laysState_77 (by decide) (fun c58 => ?_) (fun c58 => ?_)
        · have c58 := (ax_le (n := 0) (by decide)).mp c58
          refine lv_iconst (v := 0) hx hb dX7_laysState_85 (by decide) ?_
          have h59 : (0 : Int32).toInt = 0 := by decide
          exact K86 _ _ _ ⟨F41, _, 0, v57, rfl, lv_sub hl [1, 2, 3] rfl, hP, hS, hI, hfr, (fun k hk => (y_fiZ oY46 (s_sub (by decide) hk)).trans (hz0 k hk)), (by decide), ⟨by omega, by omega⟩, ⟨by omega, by omega⟩, ⟨by omega, by omega⟩⟩
        · have c58 := mt (ax_le (n := 0) (by decide)).mpr c58
          refine lv_iload hx hb dX7_laysState_80 (lv_at hl 0 rfl) ?_
          refine lv_goto (tgt := 86) hx hb dX7_laysState_82 (by decide) ?_
          exact K86 _ _ _ ⟨F41, _, v49, v57, rfl, lv_sub hl [1, 2, 3] rfl, hP, hS, hI, hfr, (fun k hk => (y_fiZ oY46 (s_sub (by decide) hk)).trans (hz0 k hk)), ⟨by omega, by have q9 := th_hi v49; omega⟩, ⟨by omega, by omega⟩, ⟨by omega, by omega⟩, ⟨by omega, by omega⟩⟩
    · intro g H locs hq
      obtain ⟨F64, ls, w15, w16, rfl, hl, hP, hS, hI, hfr, hz0, h60, h61, h62, h63⟩ := hq
      have oY65 : F64 a0 = .inr (7, y_fl A z0 q0) := (hfr _ (by rw [ha0]; decide)).trans oY0
      have hz0 : ∀ k, k ∈ ([1, 2, 3, 4, 5, 6, 7, 8, 11, 15, 16, 19, 25, 26, 27, 31, 32] : List Nat) → z0 k = z0 k := fun _ _ => rfl
      obtain ⟨f66, o67, b68⟩ := y_op24 hI
      refine th_iast hx hb hK hP hD hS (hLK _ (y_k24 hA) (by decide)) 0 o67 rfl (th_in ⟨by omega, by omega⟩) dX7_laysState_86 (fun H locs hP hS => ?_)
      obtain ⟨f69, u70⟩ : ∃ g : Nat → Int32, g = upd f66 (w16 : Int32).toNatClampNeg w15 := ⟨_, rfl⟩
      rw [← u70] at hP
      have b71 : y_bd 24 f69 := trivial
      have hP : va_P (dC, dI) vwCl (va_pl L (va_up F64 (A 24) (.inl (cs 0, 191277, .inl f69)))) H := hP
      obtain ⟨F72, hF73⟩ : ∃ G : Nat → va_E, G = va_up F64 (A 24) (.inl (cs 0, 191277, .inl f69)) := ⟨_, rfl⟩
      rw [← hF73] at hP
      have hI : y_I K cs A F72 := by rw [hF73]; exact y_clA (i := 24) hA hI (by decide) b71
      have hfr : ∀ b, K b ∉ [74] → F72 b = F b := by rw [hF73]; exact s_fr hfr (y_k24 hA) (by decide)
      have oY74 : F72 a0 = .inr (7, y_fl A z0 q0) := by rw [hF73]; exact th_ne (th_kd ha0 (y_k24 hA) (by decide)) oY65
      have o75 : F72 (A 24) = .inl (cs 0, 191277, .inl f69) := by rw [hF73]; exact th_up
      have u76 : ∀ j : Int, 0 ≤ j → y_c f69 j = if j = w16.toInt then w15 else y_c f66 j := by rw [u70]; exact y_cu rfl (by omega)
      refine lv_aload_n hx hb dX7_laysState_87 rfl (lv_at hl 0 rfl) ?_
      refine th_get (D := (dC, dI)) (ci := 7) (v := .ref (A 24)) (C := RX7) (T := TX7) (N := 34) hx hb hts inX7 hown hK hP (hLK _ ha0 (by decide)) oY74 rfl 24 (by decide) (hts _ T_256) (fun _ h9 => h9) rfl dX7_laysState_88 ?_
      refine lv_iload_n hx hb dX7_laysState_91 rfl (lv_at hl 1 rfl) ?_
      refine lv_iload_n hx hb dX7_laysState_92 rfl (lv_at hl 2 rfl) ?_
      refine lv_iconst (v := 2) hx hb dX7_laysState_93 (by decide) ?_
      have rg77 : 0 ≤ w9.toInt ∧ w9.toInt ≤ 3 := ⟨by omega, by omega⟩
      refine va_calli (va_runS (As := [.int w9, .int 2]) (rest := [.int v1, .ref (A 24)]) ⟨hx, hb, hml, hown, hts⟩ (y_X7_warpAt l dC dI H.size F72 w9 2 rg77 (by decide)) (cwS 2 hts (ax_gS T_1021 T_1023 T_265 T_1022) rfl rfl rfl (by decide +kernel) ⟨Nat.le_of_ble_eq_true rfl, Nat.le_of_ble_eq_true rfl⟩) ⟨fun a U g mk q => ⟨q.1, s_pc (U := U) rfl rfl q.2⟩, fun U hU hW => ⟨rfl, s_pw hU hW hP hK hD hN⟩⟩ rfl rfl hl.1 rfl (lv_room (Nat.le_of_ble_eq_true rfl)) dX7_laysState_94 ⟨Nat.zero_le _, Nat.zero_le _⟩) hS (fun q _ h => h) (fun q h => h) (fun r79 F80 t H1 locs ht hvm hw hB hz1 hk1 hS => ?_)
      obtain ⟨hP, hK1⟩ := hB
      rw [ht] at hP
      generalize H1 = H at hP hS ⊢
      clear hz1 hk1 hvm hK1
      obtain ⟨h81, h83, hG9, h82⟩ := hw
      rw [hG9] at hP
      replace h82 : (r79.toInt = 104 + 6 * w9.toInt + 2) := by have q9 := h82; exact q9
      refine lv_iadd hx hb dX7_laysState_97 ?_
      refine lv_topi (fun v84 ev84 => ?_)
      have qv84 : v84.toInt = v1.toInt + r79.toInt := by rw [ev84]; exact th_add rfl rfl ⟨by omega, by omega⟩
      refine lv_bipush (v := 8) hx hb dX7_laysState_98 (by decide) ?_
      refine lv_isub hx hb dX7_laysState_100 ?_
      refine lv_topi (fun v85 ev85 => ?_)
      have qv85 : v85.toInt = v84.toInt - 8 := by rw [ev85]; exact th_sub rfl (by decide) ⟨by omega, by omega⟩
      refine lv_iconst (v := 0) hx hb dX7_laysState_101 (by decide) ?_
      refine th_iast hx hb hK hP hD hS (hLK _ (y_k24 hA) (by decide)) 0 o75 rfl (th_in ⟨by omega, by omega⟩) dX7_laysState_102 (fun H locs hP hS => ?_)
      obtain ⟨f86, u87⟩ : ∃ g : Nat → Int32, g = upd f69 (v85 : Int32).toNatClampNeg 0 := ⟨_, rfl⟩
      rw [← u87] at hP
      have b88 : y_bd 24 f86 := trivial
      have hP : va_P (dC, dI) vwCl (va_pl L (va_up F72 (A 24) (.inl (cs 0, 191277, .inl f86)))) H := hP
      obtain ⟨F89, hF90⟩ : ∃ G : Nat → va_E, G = va_up F72 (A 24) (.inl (cs 0, 191277, .inl f86)) := ⟨_, rfl⟩
      rw [← hF90] at hP
      have hI : y_I K cs A F89 := by rw [hF90]; exact y_clA (i := 24) hA hI (by decide) b88
      have hfr : ∀ b, K b ∉ [74] → F89 b = F b := by rw [hF90]; exact s_fr hfr (y_k24 hA) (by decide)
      have oY91 : F89 a0 = .inr (7, y_fl A z0 q0) := by rw [hF90]; exact th_ne (th_kd ha0 (y_k24 hA) (by decide)) oY74
      have o92 : F89 (A 24) = .inl (cs 0, 191277, .inl f86) := by rw [hF90]; exact th_up
      have u93 : ∀ j : Int, 0 ≤ j → y_c f86 j = if j = v85.toInt then 0 else y_c f69 j := by rw [u87]; exact y_cu rfl (by omega)
      refine lv_iconst (v := 0) hx hb dX7_laysState_103 (by decide) ?_
      refine lv_istore (lv' := [(5, .int 0), (0, .ref a0), (2, .int v1), (3, .int w9)]) hx hb dX7_laysState_104 hl (by decide) rfl (fun ls hl => ?_)
      have h95 : (0 : Int32).toInt = 0 := by decide
      refine th_loop (fun n g H locs => ∃ (G : Nat → va_E) (ls : Array Slot) (w94 : Int32), g = F0 m 106 ls [] ∧ lv_has ls 7 [(0, .ref a0), (2, .int v1), (3, .int w9), (5, .int w94)] ∧ va_P (dC, dI) vwCl (va_pl L G) H ∧ va_S (fun q => q ∈ L) s.heap H locs ∧ y_I K cs A G ∧ (∀ b, K b ∉ [74] → G b = F b) ∧ (∀ k, k ∈ ([1, 2, 3, 4, 5, 6, 7, 8, 11, 15, 16, 19, 25, 26, 27, 31, 32] : List Nat) → y_fi G a0 k = z0 k) ∧ (0 ≤ w94.toInt ∧ w94.toInt ≤ 16) ∧ (0 ≤ v1.toInt ∧ v1.toInt ≤ 190800) ∧ (0 ≤ w9.toInt ∧ w9.toInt ≤ 3) ∧ n = (17 - w94.toInt).toNat) _ ⟨F89, _, 0, rfl, lv_sub hl [1, 2, 3, 0] rfl, hP, hS, hI, hfr, (fun k hk => (y_fiZ oY91 (s_sub (by decide) hk)).trans (hz0 k hk)), (by decide), ⟨by omega, by omega⟩, ⟨by omega, by omega⟩, rfl⟩ (fun n ih106 g H locs hq => ?_)
      obtain ⟨F99, ls, w94, rfl, hl, hP, hS, hI, hfr, hz0, h96, h97, h98, hn⟩ := hq
      have oY100 : F99 a0 = .inr (7, y_fl A z0 q0) := (hfr _ (by rw [ha0]; decide)).trans oY0
      have hz0 : ∀ k, k ∈ ([1, 2, 3, 4, 5, 6, 7, 8, 11, 15, 16, 19, 25, 26, 27, 31, 32] : List Nat) → z0 k = z0 k := fun _ _ => rfl
      have hn_100 := hn
      refine th_join (fun g H locs => ∃ (G : Nat → va_E) (ls : Array Slot), g = F0 m 158 ls [] ∧ lv_has ls 7 [(0, .ref a0), (2, .int v1), (3, .int w9), (5, .int w94)] ∧ va_P (dC, dI) vwCl (va_pl L G) H ∧ va_S (fun q => q ∈ L) s.heap H locs ∧ y_I K cs A G ∧ (∀ b, K b ∉ [74] → G b = F b) ∧ (∀ k, k ∈ ([1, 2, 3, 4, 5, 6, 7, 8, 11, 15, 16, 19, 25, 26, 27, 31, 32] : List Nat) → y_fi G a0 k = z0 k) ∧ (0 ≤ v1.toInt ∧ v1.toInt ≤ 190800) ∧ (0 ≤ w9.toInt ∧ w9.toInt ≤ 3) ∧ (0 ≤ w94.toInt ∧ w94.toInt ≤ 15)) (fun K158 => ?_) ?_
      · refine lv_iload hx hb dX7_laysState_106 (lv_at hl 3 rfl) ?_
        refine lv_bipush (v := 16) hx hb dX7_laysState_108 (by decide) ?_
        refine lv_icmp_ge (tgt := 164) hx hb dX7_laysState_110 (by decide) (fun c101 => ?_) (fun c101 => ?_)
        · have c101 := (ax_ge (n := 16) (by decide)).mp c101
          refine lv_iconst (v := 0) hx hb dX7_laysState_164 (by decide) ?_
          refine lv_istore (lv' := [(5, .int 0), (0, .ref a0), (2, .int v1), (3, .int w9)]) hx hb dX7_laysState_165 hl (by decide) rfl (fun ls hl => ?_)
          have h103 : (0 : Int32).toInt = 0 := by decide
          refine th_loop (fun n g H locs => ∃ (G : Nat → va_E) (ls : Array Slot) (w102 : Int32), g = F0 m 167 ls [] ∧ lv_has ls 7 [(0, .ref a0), (2, .int v1), (3, .int w9), (5, .int w102)] ∧ va_P (dC, dI) vwCl (va_pl L G) H ∧ va_S (fun q => q ∈ L) s.heap H locs ∧ y_I K cs A G ∧ (∀ b, K b ∉ [74] → G b = F b) ∧ (∀ k, k ∈ ([1, 2, 3, 4, 5, 6, 7, 8, 11, 15, 16, 19, 25, 26, 27, 31, 32] : List Nat) → y_fi G a0 k = z0 k) ∧ (0 ≤ w102.toInt ∧ w102.toInt ≤ 8) ∧ (0 ≤ v1.toInt ∧ v1.toInt ≤ 190800) ∧ (0 ≤ w9.toInt ∧ w9.toInt ≤ 3) ∧ n = (9 - w102.toInt).toNat) _ ⟨F99, _, 0, rfl, lv_sub hl [1, 2, 3, 0] rfl, hP, hS, hI, hfr, (fun k hk => (y_fiZ oY100 (s_sub (by decide) hk)).trans (hz0 k hk)), (by decide), ⟨by omega, by omega⟩, ⟨by omega, by omega⟩, rfl⟩ (fun n ih167 g H locs hq => ?_)
          obtain ⟨F107, ls, w102, rfl, hl, hP, hS, hI, hfr, hz0, h104, h105, h106, hn⟩ := hq
          have oY108 : F107 a0 = .inr (7, y_fl A z0 q0) := (hfr _ (by rw [ha0]; decide)).trans oY0
          have hz0 : ∀ k, k ∈ ([1, 2, 3, 4, 5, 6, 7, 8, 11, 15, 16, 19, 25, 26, 27, 31, 32] : List Nat) → z0 k = z0 k := fun _ _ => rfl
          have hn_108 := hn
          refine th_join (fun g H locs => ∃ (G : Nat → va_E) (ls : Array Slot), g = F0 m 214 ls [] ∧ lv_has ls 7 [(0, .ref a0), (2, .int v1), (3, .int w9), (5, .int w102)] ∧ va_P (dC, dI) vwCl (va_pl L G) H ∧ va_S (fun q => q ∈ L) s.heap H locs ∧ y_I K cs A G ∧ (∀ b, K b ∉ [74] → G b = F b) ∧ (∀ k, k ∈ ([1, 2, 3, 4, 5, 6, 7, 8, 11, 15, 16, 19, 25, 26, 27, 31, 32] : List Nat) → y_fi G a0 k = z0 k) ∧ (0 ≤ v1.toInt ∧ v1.toInt ≤ 190800) ∧ (0 ≤ w9.toInt ∧ w9.toInt ≤ 3) ∧ (0 ≤ w102.toInt ∧ w102.toInt ≤ 7)) (fun K214 => ?_) ?_
          refine th_join (fun g H locs => ∃ (G : Nat → va_E) (ls : Array Slot), g = F0 m 197 ls [] ∧ lv_has ls 7 [(0, .ref a0), (2, .int v1), (3, .int w9), (5, .int w102)] ∧ va_P (dC, dI) vwCl (va_pl L G) H ∧ va_S (fun q => q ∈ L) s.heap H locs ∧ y_I K cs A G ∧ (∀ b, K b ∉ [74] → G b = F b) ∧ (∀ k, k ∈ ([1, 2, 3, 4, 5, 6, 7, 8, 11, 15, 16, 19, 25, 26, 27, 31, 32] : List Nat) → y_fi G a0 k = z0 k) ∧ (0 ≤ v1.toInt ∧ v1.toInt ≤ 190800) ∧ (0 ≤ w9.toInt ∧ w9.toInt ≤ 3) ∧ (0 ≤ w102.toInt ∧ w102.toInt ≤ 7)) (fun K197 => ?_) ?_
          · refine lv_iload hx hb dX7_laysState_167 (lv_at hl 3 rfl) ?_
            refine lv_bipush (v := 8) hx hb dX7_laysState_169 (by decide) ?_
            refine lv_icmp_ge (tgt := 220) hx hb dX7_laysState_171 (by decide) (fun c109 => ?_) (fun c109 => ?_)
            · have c109 := (ax_ge (n := 8) (by decide)).mp c109
              obtain ⟨v110, ev110⟩ : ∃ y : Int32, w9 + 1 = y := ⟨_, rfl⟩
              have qv110 : v110.toInt = w9.toInt + 1 := by rw [← ev110]; exact th_add rfl (by decide) ⟨by omega, by omega⟩
              refine lv_iinc (v := v110) (lv' := [(3, .int v110), (0, .ref a0), (2, .int v1), (5, .int w102)]) hx hb dX7_laysState_220 hl (k := 2) rfl ev110 (by decide) rfl (fun ls hl => ?_)
              refine lv_goto (tgt := 41) hx hb dX7_laysState_223 (by decide) ?_
              exact ih41 _ _ _ _ (by omega) ⟨F107, _, v110, rfl, lv_sub hl [1, 2, 0] rfl, hP, hS, hI, hfr, (fun k hk => (y_fiZ oY108 (s_sub (by decide) hk)).trans (hz0 k hk)), ⟨by omega, by omega⟩, ⟨by omega, by omega⟩, rfl⟩
            · have c109 := mt (ax_ge (n := 8) (by decide)).mpr c109
              refine lv_aload_n hx hb dX7_laysState_174 rfl (lv_at hl 0 rfl) ?_
              refine th_get (D := (dC, dI)) (ci := 7) (v := .ref (A 20)) (C := RX7) (T := TX7) (N := 34) hx hb hts inX7 hown hK hP (hLK _ ha0 (by decide)) oY108 rfl 20 (by decide) (hts _ T_251) (fun _ h9 => h9) rfl dX7_laysState_175 ?_
              refine lv_iconst (v := 3) hx hb dX7_laysState_178 (by decide) ?_
              obtain ⟨f111, o112, b113⟩ := y_op20 hI
              refine th_iald hx hb hK hP (hLK _ (y_k20 hA) (by decide)) 0 o112 rfl (ax_in (by decide)) dX7_laysState_179 ?_
              refine lv_topi (fun v114 ev114 => ?_)
              refine lv_if_eq (tgt := 197) hx hb dX7_laysState_180 (by decide) (fun c115 => ?_) (fun c115 => ?_)
              · have c115 := (ax_eq (n := 0) (by decide)).mp c115
                exact K197 _ _ _ ⟨F107, _, rfl, lv_sub hl [0, 1, 2, 3] rfl, hP, hS, hI, hfr, (fun k hk => (y_fiZ oY108 (s_sub (by decide) hk)).trans (hz0 k hk)), ⟨by omega, by omega⟩, ⟨by omega, by omega⟩, ⟨by omega, by omega⟩⟩
              · have c115 := mt (ax_eq (n := 0) (by decide)).mpr c115
                refine lv_aload_n hx hb dX7_laysState_183 rfl (lv_at hl 0 rfl) ?_
                refine lv_iload_n hx hb dX7_laysState_184 rfl (lv_at hl 2 rfl) ?_
                refine lv_iconst (v := 3) hx hb dX7_laysState_185 (by decide) ?_
                refine va_calli (va_runV (As := [.int w9, .int 3]) (rest := []) ⟨hx, hb, hml, hown, hts⟩ (y_X7_its l dC dI H.size hLK A hA F107 a0 w9 3 ha0 rg77 (by decide) hI) (cwV 2 hts (ax_gV T_1057 T_1059 T_1060 T_265 T_1058) rfl rfl rfl (by decide +kernel) ⟨Nat.le_of_ble_eq_true rfl, Nat.le_of_ble_eq_true rfl⟩) ⟨fun a U g mk q => ⟨q.1, s_pc (U := U) rfl rfl q.2⟩, s_recv hK hP (hLK _ ha0 (by decide)) (ci := 7) rfl oY108, fun U hU hW => ⟨rfl, s_pw hU hW hP hK hD hN⟩⟩ rfl rfl hl.1 rfl (lv_room (Nat.le_of_ble_eq_true rfl)) dX7_laysState_186 ⟨Nat.zero_le _, Nat.zero_le _⟩) hS (fun q _ h => h) (fun q h => h) (fun r117 F118 t H1 locs ht hvm hw hB hz1 hk1 hS => ?_)
                obtain ⟨hP, hK1⟩ := hB
                rw [ht] at hP
                generalize H1 = H at hP hS ⊢
                clear hz1 hk1 hvm hK1
                obtain ⟨h119, h121, hI, hfr1, hzf, h120⟩ := hw
                have o122 : F118 (A 20) = .inl (cs 0, 918, .inl f111) := (hfr1 _ (by rw [(y_k20 hA)]; decide)).trans o112
                have oY123 : F118 a0 = .inr (7, y_fl A z0 q0) := (hfr1 _ (by rw [ha0]; decide)).trans oY108
                have hfr : ∀ b, K b ∉ [74] → F118 b = F b := fun b hb9 => (hfr1 b (fun q => hb9 (s_sub (by decide) q))).trans (hfr b hb9)
                replace h120 : (r117 = y_c f111 (104 + 6 * w9.toInt + 3)) := by have q9 := h120; rw [y_atE o112] at q9; exact q9
                have h120 : r117 = y_c f111 (107 + 6 * w9.toInt) := h120.trans (congrArg (y_c f111) (by omega))
                have h124 := congrArg Int32.toInt h120
                refine lv_iload hx hb dX7_laysState_189 (lv_at hl 3 rfl) ?_
                have rg125 : 0 ≤ w102.toInt ∧ w102.toInt ≤ 31 := ⟨by omega, by omega⟩
                refine va_calli (va_runS (As := [.int r117, .int w102]) (rest := []) ⟨hx, hb, hml, hown, hts⟩ (y_X7_isOf l dC dI H.size F118 r117 w102 rg125) (cwS 2 hts (ax_gS T_1027 T_1029 T_265 T_1028) rfl rfl rfl (by decide +kernel) ⟨Nat.le_of_ble_eq_true rfl, Nat.le_of_ble_eq_true rfl⟩) ⟨fun a U g mk q => ⟨q.1, s_pc (U := U) rfl rfl q.2⟩, fun U hU hW => ⟨rfl, s_pw hU hW hP hK hD hN⟩⟩ rfl rfl hl.1 rfl (lv_room (Nat.le_of_ble_eq_true rfl)) dX7_laysState_191 ⟨Nat.zero_le _, Nat.zero_le _⟩) hS (fun q _ h => h) (fun q h => h) (fun r127 F128 t H1 locs ht hvm hw hB hz1 hk1 hS => ?_)
                obtain ⟨hP, hK1⟩ := hB
                rw [ht] at hP
                generalize H1 = H at hP hS ⊢
                clear hz1 hk1 hvm hK1
                obtain ⟨h129, h131, hG9, h130⟩ := hw
                rw [hG9] at hP
                replace h130 : ((r127.toInt = 1 ∧ bt r117 w102.toInt.toNat = true) ∨ (r127.toInt = 0 ∧ bt r117 w102.toInt.toNat = false)) := by have q9 := h130; exact q9
                refine lv_if_ne (tgt := 214) hx hb dX7_laysState_194 (by decide) (fun c132 => ?_) (fun c132 => ?_)
                · have c132 := mt (ax_eq (n := 0) (by decide)).mpr c132
                  exact K214 _ _ _ ⟨F118, _, rfl, lv_sub hl [0, 1, 2, 3] rfl, hP, hS, hI, hfr, (fun k hk => (y_fiZ oY123 (s_sub (by decide) hk)).trans (hz0 k hk)), ⟨by omega, by omega⟩, ⟨by omega, by omega⟩, ⟨by omega, by omega⟩⟩
                · have c132 := (ax_eq (n := 0) (by decide)).mp c132
                  exact K197 _ _ _ ⟨F118, _, rfl, lv_sub hl [0, 1, 2, 3] rfl, hP, hS, hI, hfr, (fun k hk => (y_fiZ oY123 (s_sub (by decide) hk)).trans (hz0 k hk)), ⟨by omega, by omega⟩, ⟨by omega, by omega⟩, ⟨by omega, by omega⟩⟩
          · intro g H locs hq
            obtain ⟨F136, ls, rfl, hl, hP, hS, hI, hfr, hz0, h133, h134, h135⟩ := hq
            have oY137 : F136 a0 = .inr (7, y_fl A z0 q0) := (hfr _ (by rw [ha0]; decide)).trans oY0
            have hz0 : ∀ k, k ∈ ([1, 2, 3, 4, 5, 6, 7, 8, 11, 15, 16, 19, 25, 26, 27, 31, 32] : List Nat) → z0 k = z0 k := fun _ _ => rfl
            refine lv_aload_n hx hb dX7_laysState_197 rfl (lv_at hl 0 rfl) ?_
            refine th_get (D := (dC, dI)) (ci := 7) (v := .ref (A 24)) (C := RX7) (T := TX7) (N := 34) hx hb hts inX7 hown hK hP (hLK _ ha0 (by decide)) oY137 rfl 24 (by decide) (hts _ T_256) (fun _ h9 => h9) rfl dX7_laysState_198 ?_
            refine lv_iload_n hx hb dX7_laysState_201 rfl (lv_at hl 1 rfl) ?_
            refine lv_iload_n hx hb dX7_laysState_202 rfl (lv_at hl 2 rfl) ?_
            refine lv_iload hx hb dX7_laysState_203 (lv_at hl 3 rfl) ?_
            have rg138 : 0 ≤ w102.toInt ∧ w102.toInt ≤ 7 := ⟨by omega, by omega⟩
            refine va_calli (va_runS (As := [.int w9, .int w102]) (rest := [.int v1, .ref (A 24)]) ⟨hx, hb, hml, hown, hts⟩ (y_X7_nextAt l dC dI H.size F136 w9 w102 rg77 rg138) (cwS 2 hts (ax_gS T_1024 T_1026 T_265 T_1025) rfl rfl rfl (by decide +kernel) ⟨Nat.le_of_ble_eq_true rfl, Nat.le_of_ble_eq_true rfl⟩) ⟨fun a U g mk q => ⟨q.1, s_pc (U := U) rfl rfl q.2⟩, fun U hU hW => ⟨rfl, s_pw hU hW hP hK hD hN⟩⟩ rfl rfl hl.1 rfl (lv_room (Nat.le_of_ble_eq_true rfl)) dX7_laysState_205 ⟨Nat.zero_le _, Nat.zero_le _⟩) hS (fun q _ h => h) (fun q h => h) (fun r140 F141 t H1 locs ht hvm hw hB hz1 hk1 hS => ?_)
            obtain ⟨hP, hK1⟩ := hB
            rw [ht] at hP
            generalize H1 = H at hP hS ⊢
            clear hz1 hk1 hvm hK1
            obtain ⟨h142, h144, hG9, h143⟩ := hw
            rw [hG9] at hP
            replace h143 : (r140.toInt = 256 + 8 * w9.toInt + w102.toInt) := by have q9 := h143; exact q9
            refine lv_iadd hx hb dX7_laysState_208 ?_
            refine lv_topi (fun v145 ev145 => ?_)
            have qv145 : v145.toInt = v1.toInt + r140.toInt := by rw [ev145]; exact th_add rfl rfl ⟨by omega, by omega⟩
            refine lv_bipush (v := 8) hx hb dX7_laysState_209 (by decide) ?_
            refine lv_isub hx hb dX7_laysState_211 ?_
            refine lv_topi (fun v146 ev146 => ?_)
            have qv146 : v146.toInt = v145.toInt - 8 := by rw [ev146]; exact th_sub rfl (by decide) ⟨by omega, by omega⟩
            refine lv_iconst (v := 0) hx hb dX7_laysState_212 (by decide) ?_
            obtain ⟨f147, o148, b149⟩ := y_op24 hI
            refine th_iast hx hb hK hP hD hS (hLK _ (y_k24 hA) (by decide)) 0 o148 rfl (th_in ⟨by omega, by omega⟩) dX7_laysState_213 (fun H locs hP hS => ?_)
            obtain ⟨f150, u151⟩ : ∃ g : Nat → Int32, g = upd f147 (v146 : Int32).toNatClampNeg 0 := ⟨_, rfl⟩
            rw [← u151] at hP
            have b152 : y_bd 24 f150 := trivial
            have hP : va_P (dC, dI) vwCl (va_pl L (va_up F136 (A 24) (.inl (cs 0, 191277, .inl f150)))) H := hP
            obtain ⟨F153, hF154⟩ : ∃ G : Nat → va_E, G = va_up F136 (A 24) (.inl (cs 0, 191277, .inl f150)) := ⟨_, rfl⟩
            rw [← hF154] at hP
            have hI : y_I K cs A F153 := by rw [hF154]; exact y_clA (i := 24) hA hI (by decide) b152
            have hfr : ∀ b, K b ∉ [74] → F153 b = F b := by rw [hF154]; exact s_fr hfr (y_k24 hA) (by decide)
            have oY155 : F153 a0 = .inr (7, y_fl A z0 q0) := by rw [hF154]; exact th_ne (th_kd ha0 (y_k24 hA) (by decide)) oY137
            have o156 : F153 (A 24) = .inl (cs 0, 191277, .inl f150) := by rw [hF154]; exact th_up
            have u157 : ∀ j : Int, 0 ≤ j → y_c f150 j = if j = v146.toInt then 0 else y_c f147 j := by rw [u151]; exact y_cu rfl (by omega)
            exact K214 _ _ _ ⟨F153, _, rfl, lv_sub hl [0, 1, 2, 3] rfl, hP, hS, hI, hfr, (fun k hk => (y_fiZ oY155 (s_sub (by decide) hk)).trans (hz0 k hk)), ⟨by omega, by omega⟩, ⟨by omega, by omega⟩, ⟨by omega, by omega⟩⟩
          · intro g H locs hq
            obtain ⟨F161, ls, rfl, hl, hP, hS, hI, hfr, hz0, h158, h159, h160⟩ := hq
            have oY162 : F161 a0 = .inr (7, y_fl A z0 q0) := (hfr _ (by rw [ha0]; decide)).trans oY0
            have hz0 : ∀ k, k ∈ ([1, 2, 3, 4, 5, 6, 7, 8, 11, 15, 16, 19, 25, 26, 27, 31, 32] : List Nat) → z0 k = z0 k := fun _ _ => rfl
            obtain ⟨v163, ev163⟩ : ∃ y : Int32, w102 + 1 = y := ⟨_, rfl⟩
            have qv163 : v163.toInt = w102.toInt + 1 := by rw [← ev163]; exact th_add rfl (by decide) ⟨by omega, by omega⟩
            refine lv_iinc (v := v163) (lv' := [(5, .int v163), (0, .ref a0), (2, .int v1), (3, .int w9)]) hx hb dX7_laysState_214 hl (k := 3) rfl ev163 (by decide) rfl (fun ls hl => ?_)
            refine lv_goto (tgt := 167) hx hb dX7_laysState_217 (by decide) ?_
            exact ih167 _ _ _ _ (by omega) ⟨F161, _, v163, rfl, lv_sub hl [1, 2, 3, 0] rfl, hP, hS, hI, hfr, (fun k hk => (y_fiZ oY162 (s_sub (by decide) hk)).trans (hz0 k hk)), ⟨by omega, by omega⟩, ⟨by omega, by omega⟩, ⟨by omega, by omega⟩, rfl⟩
        · have c101 := mt (ax_ge (n := 16) (by decide)).mpr c101
          refine lv_iload hx hb dX7_laysState_113 (lv_at hl 3 rfl) ?_
          refine lv_aload_n hx hb dX7_laysState_115 rfl (lv_at hl 0 rfl) ?_
          refine lv_iload_n hx hb dX7_laysState_116 rfl (lv_at hl 2 rfl) ?_
          refine lv_iconst (v := 5) hx hb dX7_laysState_117 (by decide) ?_
          obtain ⟨f164, o165, b166⟩ := y_op20 hI
          refine va_calli (va_runV (As := [.int w9, .int 5]) (rest := [.int w94]) ⟨hx, hb, hml, hown, hts⟩ (y_X7_its l dC dI H.size hLK A hA F99 a0 w9 5 ha0 rg77 (by decide) hI) (cwV 2 hts (ax_gV T_1057 T_1059 T_1060 T_265 T_1058) rfl rfl rfl (by decide +kernel) ⟨Nat.le_of_ble_eq_true rfl, Nat.le_of_ble_eq_true rfl⟩) ⟨fun a U g mk q => ⟨q.1, s_pc (U := U) rfl rfl q.2⟩, s_recv hK hP (hLK _ ha0 (by decide)) (ci := 7) rfl oY100, fun U hU hW => ⟨rfl, s_pw hU hW hP hK hD hN⟩⟩ rfl rfl hl.1 rfl (lv_room (Nat.le_of_ble_eq_true rfl)) dX7_laysState_118 ⟨Nat.zero_le _, Nat.zero_le _⟩) hS (fun q _ h => h) (fun q h => h) (fun r168 F169 t H1 locs ht hvm hw hB hz1 hk1 hS => ?_)
          obtain ⟨hP, hK1⟩ := hB
          rw [ht] at hP
          generalize H1 = H at hP hS ⊢
          clear hz1 hk1 hvm hK1
          obtain ⟨h170, h172, hI, hfr1, hzf, h171⟩ := hw
          have o173 : F169 (A 20) = .inl (cs 0, 918, .inl f164) := (hfr1 _ (by rw [(y_k20 hA)]; decide)).trans o165
          have oY174 : F169 a0 = .inr (7, y_fl A z0 q0) := (hfr1 _ (by rw [ha0]; decide)).trans oY100
          have hfr : ∀ b, K b ∉ [74] → F169 b = F b := fun b hb9 => (hfr1 b (fun q => hb9 (s_sub (by decide) q))).trans (hfr b hb9)
          replace h171 : (r168 = y_c f164 (104 + 6 * w9.toInt + 5)) := by have q9 := h171; rw [y_atE o165] at q9; exact q9
          have h171 : r168 = y_c f164 (109 + 6 * w9.toInt) := h171.trans (congrArg (y_c f164) (by omega))
          have h175 := congrArg Int32.toInt h171
          refine lv_icmp_lt (tgt := 158) hx hb dX7_laysState_121 (by decide) (fun c176 => ?_) (fun c176 => ?_)
          · have c176 := Int32.lt_iff_toInt_lt.mp c176
            exact K158 _ _ _ ⟨F169, _, rfl, lv_sub hl [0, 1, 2, 3] rfl, hP, hS, hI, hfr, (fun k hk => (y_fiZ oY174 (s_sub (by decide) hk)).trans (hz0 k hk)), ⟨by omega, by omega⟩, ⟨by omega, by omega⟩, ⟨by omega, by omega⟩⟩
          · have c176 := mt Int32.lt_iff_toInt_lt.mpr c176
            refine lv_iconst (v := 0) hx hb dX7_laysState_124 (by decide) ?_
            refine lv_istore (lv' := [(6, .int 0), (0, .ref a0), (2, .int v1), (3, .int w9), (5, .int w94)]) hx hb dX7_laysState_125 hl (by decide) rfl (fun ls hl => ?_)
            have h178 : (0 : Int32).toInt = 0 := by decide
            refine th_loop (fun n g H locs => ∃ (G : Nat → va_E) (ls : Array Slot) (w177 : Int32), g = F0 m 127 ls [] ∧ lv_has ls 7 [(0, .ref a0), (2, .int v1), (3, .int w9), (5, .int w94), (6, .int w177)] ∧ va_P (dC, dI) vwCl (va_pl L G) H ∧ va_S (fun q => q ∈ L) s.heap H locs ∧ y_I K cs A G ∧ (∀ b, K b ∉ [74] → G b = F b) ∧ (∀ k, k ∈ ([1, 2, 3, 4, 5, 6, 7, 8, 11, 15, 16, 19, 25, 26, 27, 31, 32] : List Nat) → y_fi G a0 k = z0 k) ∧ (0 ≤ w177.toInt ∧ w177.toInt ≤ 3) ∧ (0 ≤ v1.toInt ∧ v1.toInt ≤ 190800) ∧ (0 ≤ w9.toInt ∧ w9.toInt ≤ 3) ∧ (0 ≤ w94.toInt ∧ w94.toInt ≤ 15) ∧ n = (4 - w177.toInt).toNat) _ ⟨F169, _, 0, rfl, lv_sub hl [1, 2, 3, 4, 0] rfl, hP, hS, hI, hfr, (fun k hk => (y_fiZ oY174 (s_sub (by decide) hk)).trans (hz0 k hk)), (by decide), ⟨by omega, by omega⟩, ⟨by omega, by omega⟩, ⟨by omega, by omega⟩, rfl⟩ (fun n ih127 g H locs hq => ?_)
            obtain ⟨F183, ls, w177, rfl, hl, hP, hS, hI, hfr, hz0, h179, h180, h181, h182, hn⟩ := hq
            have oY184 : F183 a0 = .inr (7, y_fl A z0 q0) := (hfr _ (by rw [ha0]; decide)).trans oY0
            have hz0 : ∀ k, k ∈ ([1, 2, 3, 4, 5, 6, 7, 8, 11, 15, 16, 19, 25, 26, 27, 31, 32] : List Nat) → z0 k = z0 k := fun _ _ => rfl
            have hn_184 := hn
            refine lv_iload hx hb dX7_laysState_127 (lv_at hl 4 rfl) ?_
            refine lv_iconst (v := 3) hx hb dX7_laysState_129 (by decide) ?_
            refine lv_icmp_ge (tgt := 158) hx hb dX7_laysState_130 (by decide) (fun c185 => ?_) (fun c185 => ?_)
            · have c185 := (ax_ge (n := 3) (by decide)).mp c185
              exact K158 _ _ _ ⟨F183, _, rfl, lv_sub hl [0, 1, 2, 3] rfl, hP, hS, hI, hfr, (fun k hk => (y_fiZ oY184 (s_sub (by decide) hk)).trans (hz0 k hk)), ⟨by omega, by omega⟩, ⟨by omega, by omega⟩, ⟨by omega, by omega⟩⟩
            · have c185 := mt (ax_ge (n := 3) (by decide)).mpr c185
              refine lv_aload_n hx hb dX7_laysState_133 rfl (lv_at hl 0 rfl) ?_
              refine th_get (D := (dC, dI)) (ci := 7) (v := .ref (A 24)) (C := RX7) (T := TX7) (N := 34) hx hb hts inX7 hown hK hP (hLK _ ha0 (by decide)) oY184 rfl 24 (by decide) (hts _ T_256) (fun _ h9 => h9) rfl dX7_laysState_134 ?_
              refine lv_iload_n hx hb dX7_laysState_137 rfl (lv_at hl 1 rfl) ?_
              refine lv_iload_n hx hb dX7_laysState_138 rfl (lv_at hl 2 rfl) ?_
              refine lv_iload hx hb dX7_laysState_139 (lv_at hl 3 rfl) ?_
              refine lv_iload hx hb dX7_laysState_141 (lv_at hl 4 rfl) ?_
              have rg186 : 0 ≤ w94.toInt ∧ w94.toInt ≤ 15 := ⟨by omega, by omega⟩
              have rg187 : 0 ≤ w177.toInt ∧ w177.toInt ≤ 2 := ⟨by omega, by omega⟩
              refine va_calli (va_runS (As := [.int w9, .int w94, .int w177]) (rest := [.int v1, .ref (A 24)]) ⟨hx, hb, hml, hown, hts⟩ (y_X7_partAt l dC dI H.size F183 w9 w94 w177 rg77 rg186 rg187) (cwS 3 hts (ax_gS T_1078 T_1080 T_265 T_1079) rfl rfl rfl (by decide +kernel) ⟨Nat.le_of_ble_eq_true rfl, Nat.le_of_ble_eq_true rfl⟩) ⟨fun a U g mk q => ⟨q.1, s_pc (U := U) rfl rfl q.2⟩, fun U hU hW => ⟨rfl, s_pw hU hW hP hK hD hN⟩⟩ rfl rfl hl.1 rfl (lv_room (Nat.le_of_ble_eq_true rfl)) dX7_laysState_143 ⟨Nat.zero_le _, Nat.zero_le _⟩) hS (fun q _ h => h) (fun q h => h) (fun r189 F190 t H1 locs ht hvm hw hB hz1 hk1 hS => ?_)
              obtain ⟨hP, hK1⟩ := hB
              rw [ht] at hP
              generalize H1 = H at hP hS ⊢
              clear hz1 hk1 hvm hK1
              obtain ⟨h191, h193, hG9, h192⟩ := hw
              rw [hG9] at hP
              replace h192 : (r189.toInt = 288 + 48 * w9.toInt + 3 * w94.toInt + w177.toInt) := by have q9 := h192; exact q9
              refine lv_iadd hx hb dX7_laysState_146 ?_
              refine lv_topi (fun v194 ev194 => ?_)
              have qv194 : v194.toInt = v1.toInt + r189.toInt := by rw [ev194]; exact th_add rfl rfl ⟨by omega, by omega⟩
              refine lv_bipush (v := 8) hx hb dX7_laysState_147 (by decide) ?_
              refine lv_isub hx hb dX7_laysState_149 ?_
              refine lv_topi (fun v195 ev195 => ?_)
              have qv195 : v195.toInt = v194.toInt - 8 := by rw [ev195]; exact th_sub rfl (by decide) ⟨by omega, by omega⟩
              refine lv_iconst (v := 0) hx hb dX7_laysState_150 (by decide) ?_
              obtain ⟨f196, o197, b198⟩ := y_op24 hI
              refine th_iast hx hb hK hP hD hS (hLK _ (y_k24 hA) (by decide)) 0 o197 rfl (th_in ⟨by omega, by omega⟩) dX7_laysState_151 (fun H locs hP hS => ?_)
              obtain ⟨f199, u200⟩ : ∃ g : Nat → Int32, g = upd f196 (v195 : Int32).toNatClampNeg 0 := ⟨_, rfl⟩
              rw [← u200] at hP
              have b201 : y_bd 24 f199 := trivial
              have hP : va_P (dC, dI) vwCl (va_pl L (va_up F183 (A 24) (.inl (cs 0, 191277, .inl f199)))) H := hP
              obtain ⟨F202, hF203⟩ : ∃ G : Nat → va_E, G = va_up F183 (A 24) (.inl (cs 0, 191277, .inl f199)) := ⟨_, rfl⟩
              rw [← hF203] at hP
              have hI : y_I K cs A F202 := by rw [hF203]; exact y_clA (i := 24) hA hI (by decide) b201
              have hfr : ∀ b, K b ∉ [74] → F202 b = F b := by rw [hF203]; exact s_fr hfr (y_k24 hA) (by decide)
              have oY204 : F202 a0 = .inr (7, y_fl A z0 q0) := by rw [hF203]; exact th_ne (th_kd ha0 (y_k24 hA) (by decide)) oY184
              have o205 : F202 (A 24) = .inl (cs 0, 191277, .inl f199) := by rw [hF203]; exact th_up
              have u206 : ∀ j : Int, 0 ≤ j → y_c f199 j = if j = v195.toInt then 0 else y_c f196 j := by rw [u200]; exact y_cu rfl (by omega)
              obtain ⟨v207, ev207⟩ : ∃ y : Int32, w177 + 1 = y := ⟨_, rfl⟩
              have qv207 : v207.toInt = w177.toInt + 1 := by rw [← ev207]; exact th_add rfl (by decide) ⟨by omega, by omega⟩
              refine lv_iinc (v := v207) (lv' := [(6, .int v207), (0, .ref a0), (2, .int v1), (3, .int w9), (5, .int w94)]) hx hb dX7_laysState_152 hl (k := 4) rfl ev207 (by decide) rfl (fun ls hl => ?_)
              refine lv_goto (tgt := 127) hx hb dX7_laysState_155 (by decide) ?_
              exact ih127 _ _ _ _ (by omega) ⟨F202, _, v207, rfl, lv_sub hl [1, 2, 3, 4, 0] rfl, hP, hS, hI, hfr, (fun k hk => (y_fiZ oY204 (s_sub (by decide) hk)).trans (hz0 k hk)), ⟨by omega, by omega⟩, ⟨by omega, by omega⟩, ⟨by omega, by omega⟩, ⟨by omega, by omega⟩, rfl⟩
      · intro g H locs hq
        obtain ⟨F211, ls, rfl, hl, hP, hS, hI, hfr, hz0, h208, h209, h210⟩ := hq
        have oY212 : F211 a0 = .inr (7, y_fl A z0 q0) := (hfr _ (by rw [ha0]; decide)).trans oY0
        have hz0 : ∀ k, k ∈ ([1, 2, 3, 4, 5, 6, 7, 8, 11, 15, 16, 19, 25, 26, 27, 31, 32] : List Nat) → z0 k = z0 k := fun _ _ => rfl
        obtain ⟨v213, ev213⟩ : ∃ y : Int32, w94 + 1 = y := ⟨_, rfl⟩
        have qv213 : v213.toInt = w94.toInt + 1 := by rw [← ev213]; exact th_add rfl (by decide) ⟨by omega, by omega⟩
        refine lv_iinc (v := v213) (lv' := [(5, .int v213), (0, .ref a0), (2, .int v1), (3, .int w9)]) hx hb dX7_laysState_158 hl (k := 3) rfl ev213 (by decide) rfl (fun ls hl => ?_)
        refine lv_goto (tgt := 106) hx hb dX7_laysState_161 (by decide) ?_
        exact ih106 _ _ _ _ (by omega) ⟨F211, _, v213, rfl, lv_sub hl [1, 2, 3, 0] rfl, hP, hS, hI, hfr, (fun k hk => (y_fiZ oY212 (s_sub (by decide) hk)).trans (hz0 k hk)), ⟨by omega, by omega⟩, ⟨by omega, by omega⟩, ⟨by omega, by omega⟩, rfl⟩
  · have c8 := mt (ax_ge (n := 480) (by decide)).mpr c8
    refine lv_aload_n hx hb dX7_laysState_16 rfl (lv_at hl 0 rfl) ?_
    refine th_get (D := (dC, dI)) (ci := 7) (v := .ref (A 24)) (C := RX7) (T := TX7) (N := 34) hx hb hts inX7 hown hK hP (hLK _ ha0 (by decide)) oY7 rfl 24 (by decide) (hts _ T_256) (fun _ h9 => h9) rfl dX7_laysState_17 ?_
    refine lv_iload_n hx hb dX7_laysState_20 rfl (lv_at hl 1 rfl) ?_
    refine lv_iload_n hx hb dX7_laysState_21 rfl (lv_at hl 2 rfl) ?_
    refine lv_iadd hx hb dX7_laysState_22 ?_
    refine lv_topi (fun v214 ev214 => ?_)
    have qv214 : v214.toInt = v1.toInt + w2.toInt := by rw [ev214]; exact th_add rfl rfl ⟨by omega, by omega⟩
    refine lv_bipush (v := 8) hx hb dX7_laysState_23 (by decide) ?_
    refine lv_isub hx hb dX7_laysState_25 ?_
    refine lv_topi (fun v215 ev215 => ?_)
    have qv215 : v215.toInt = v214.toInt - 8 := by rw [ev215]; exact th_sub rfl (by decide) ⟨by omega, by omega⟩
    refine lv_aload_n hx hb dX7_laysState_26 rfl (lv_at hl 0 rfl) ?_
    refine th_get (D := (dC, dI)) (ci := 7) (v := .ref (A 20)) (C := RX7) (T := TX7) (N := 34) hx hb hts inX7 hown hK hP (hLK _ ha0 (by decide)) oY7 rfl 20 (by decide) (hts _ T_251) (fun _ h9 => h9) rfl dX7_laysState_27 ?_
    refine lv_iload_n hx hb dX7_laysState_30 rfl (lv_at hl 2 rfl) ?_
    obtain ⟨f216, o217, b218⟩ := y_op20 hI
    refine th_iald hx hb hK hP (hLK _ (y_k20 hA) (by decide)) 0 o217 rfl (th_in ⟨by omega, by omega⟩) dX7_laysState_31 ?_
    refine lv_topi (fun v219 ev219 => ?_)
    obtain ⟨f220, o221, b222⟩ := y_op24 hI
    refine th_iast hx hb hK hP hD hS (hLK _ (y_k24 hA) (by decide)) 0 o221 rfl (th_in ⟨by omega, by omega⟩) dX7_laysState_32 (fun H locs hP hS => ?_)
    obtain ⟨f223, u224⟩ : ∃ g : Nat → Int32, g = upd f220 (v215 : Int32).toNatClampNeg v219 := ⟨_, rfl⟩
    rw [← u224] at hP
    have b225 : y_bd 24 f223 := trivial
    have hP : va_P (dC, dI) vwCl (va_pl L (va_up F6 (A 24) (.inl (cs 0, 191277, .inl f223)))) H := hP
    obtain ⟨F226, hF227⟩ : ∃ G : Nat → va_E, G = va_up F6 (A 24) (.inl (cs 0, 191277, .inl f223)) := ⟨_, rfl⟩
    rw [← hF227] at hP
    have hI : y_I K cs A F226 := by rw [hF227]; exact y_clA (i := 24) hA hI (by decide) b225
    have hfr : ∀ b, K b ∉ [74] → F226 b = F b := by rw [hF227]; exact s_fr hfr (y_k24 hA) (by decide)
    have o228 : F226 (A 20) = .inl (cs 0, 918, .inl f216) := by rw [hF227]; exact th_ne (th_kd (y_k20 hA) (y_k24 hA) (by decide)) o217
    have oY229 : F226 a0 = .inr (7, y_fl A z0 q0) := by rw [hF227]; exact th_ne (th_kd ha0 (y_k24 hA) (by decide)) oY7
    have o230 : F226 (A 24) = .inl (cs 0, 191277, .inl f223) := by rw [hF227]; exact th_up
    have u231 : ∀ j : Int, 0 ≤ j → y_c f223 j = if j = v215.toInt then v219 else y_c f220 j := by rw [u224]; exact y_cu rfl (by omega)
    obtain ⟨v232, ev232⟩ : ∃ y : Int32, w2 + 1 = y := ⟨_, rfl⟩
    have qv232 : v232.toInt = w2.toInt + 1 := by rw [← ev232]; exact th_add rfl (by decide) ⟨by omega, by omega⟩
    refine lv_iinc (v := v232) (lv' := [(3, .int v232), (0, .ref a0), (2, .int v1)]) hx hb dX7_laysState_33 hl (k := 2) rfl ev232 (by decide) rfl (fun ls hl => ?_)
    refine lv_goto (tgt := 9) hx hb dX7_laysState_36 (by decide) ?_
    exact ih9 _ _ _ _ (by omega) ⟨F226, _, v232, rfl, lv_sub hl [1, 2, 0] rfl, hP, hS, hI, hfr, (fun k hk => (y_fiZ oY229 (s_sub (by decide) hk)).trans (hz0 k hk)), ⟨by omega, by omega⟩, ⟨by omega, by omega⟩, rfl⟩

set_option maxHeartbeats 4000000 in
set_option maxRecDepth 100000 in
theorem y_X7_areAlike (l : Launch) (dC : Nat → ClassId) (dI : Nat → Nat → Nat) (sz : Nat) {L : List Nat} {K : Nat → Nat} {cs : Nat → ClassId} (hLK : ∀ a {k : Nat}, K a = k → k ≠ 0 → a ∈ L) (A : Nat → Nat) (hA : y_A K A) (F : Nat → va_E) (a0 : Nat) (x1 : Int32) (x2 : Int32) (ha0 : K a0 = 9) (hx1 : 0 ≤ x1.toInt ∧ x1.toInt ≤ 400) (hx2 : 0 ≤ x2.toInt ∧ x2.toInt ≤ 400) (hI : y_I K cs A F) : Met l yX7_areAlike (Cond.code yX7_areAlike cX7_areAlike 4 (some .boolean) :: T0) ({ frames := 0, cells := 0, slots := 0, locals := 0 }) (va_Pc [.ref a0, .int x1, .int x2] (s_W dC dI sz L F [(cs 0, .int), (cs 1, .byte), (cs 2, .long), (cs 3, .object RX5), (cs 4, .object RX4), (cs 5, .array .int), (cs 6, .char), (cs 7, .boolean)])) (va_Qi (fun (r : Int32) (G : Nat → va_E) => (0 ≤ r.toInt ∧ r.toInt ≤ 1) ∧ True ∧ y_I K cs A G ∧ (∀ b, K b ∉ ([] : List Nat) → G b = F b) ∧ (∀ k, k ∈ ([1, 2, 3, 4, 5, 6, 7, 8, 11, 15, 16, 19, 25, 26, 27, 31, 32] : List Nat) → y_fi G a0 k = y_fi F a0 k) ∧ True) (fun (G : Nat → va_E) (t : State) => va_P (dC, dI) vwCl (va_pl L G) t.heap ∧ va_K (dC, dI) vwCl [(cs 0, .int), (cs 1, .byte), (cs 2, .long), (cs 3, .object RX5), (cs 4, .object RX4), (cs 5, .array .int), (cs 6, .char), (cs 7, .boolean)] t) (fun q => q ∈ L)) 0 0 (fun q => q ∈ L) := by
  refine Met.ofW (cc := cX7_areAlike) (maxL := 4) (ret := (some .boolean)) (by decide) rfl ?_
  intro p e s m args below meth c s₁ B hml hv
  obtain ⟨rfl, hsz, hP, hK, hD, hN⟩ := hv
  have hx := B.exec
  have hb := B.bytes
  have hr := B.returns
  have hts : ∀ w ∈ T0, w.before _ s = true := fun w h => atoms_spec (ws := Cond.code yX7_areAlike cX7_areAlike 4 (some .boolean) :: T0) B.pre w (List.mem_cons_of_mem _ h)
  have hown : s.vm.findClass RX7 = some m.cls := findClass_of_methodNamed B.named
  have hlocks := B.notSynchronized
  have hS : va_S (fun q => q ∈ L) s.heap s.heap [] := va_S.rf
  have hfr : ∀ b, K b ∉ ([] : List Nat) → F b = F b := fun _ _ => rfl
  have hl := lv_entry ([.ref a0, .int x1, .int x2]) (n := 4) (Nat.le_of_ble_eq_true rfl)
  rw [lg_entry_eq]
  generalize (lg_sl ([.ref a0, .int x1, .int x2]) ++ List.replicate (4 - (lg_sl ([.ref a0, .int x1, .int x2])).length) Slot.unset).toArray = ls at hl ⊢
  have hl : lv_has ls 4 [(0, .ref a0), (1, .int x1), (2, .int x2)] := hl
  refine s_gen hP hS (fun H locs hP hS => ?_)
  obtain ⟨z0, q0, oY0, bz0, bq0⟩ := y_opY hI ha0
  have hz0 : ∀ k, k ∈ ([1, 2, 3, 4, 5, 6, 7, 8, 11, 15, 16, 19, 25, 26, 27, 31, 32] : List Nat) → z0 k = z0 k := fun _ _ => rfl
  refine lv_iconst (v := 0) hx hb dX7_areAlike_0 (by decide) ?_
  refine lv_istore_n (lv' := [(3, .int 0), (0, .ref a0), (1, .int x1), (2, .int x2)]) hx hb dX7_areAlike_1 rfl hl (by decide) rfl (fun ls hl => ?_)
  have h2 : (0 : Int32).toInt = 0 := by decide
  refine th_loop (fun n g H locs => ∃ (G : Nat → va_E) (ls : Array Slot) (w1 : Int32), g = F0 m 2 ls [] ∧ lv_has ls 4 [(0, .ref a0), (1, .int x1), (2, .int x2), (3, .int w1)] ∧ va_P (dC, dI) vwCl (va_pl L G) H ∧ va_S (fun q => q ∈ L) s.heap H locs ∧ y_I K cs A G ∧ (∀ b, K b ∉ ([] : List Nat) → G b = F b) ∧ (∀ k, k ∈ ([1, 2, 3, 4, 5, 6, 7, 8, 11, 15, 16, 19, 25, 26, 27, 31, 32] : List Nat) → y_fi G a0 k = z0 k) ∧ (0 ≤ w1.toInt ∧ w1.toInt ≤ 473) ∧ (0 ≤ x1.toInt ∧ x1.toInt ≤ 400) ∧ (0 ≤ x2.toInt ∧ x2.toInt ≤ 400) ∧ n = (474 - w1.toInt).toNat) _ ⟨F, _, 0, rfl, lv_sub hl [1, 2, 3, 0] rfl, hP, hS, hI, hfr, (fun k hk => (y_fiZ oY0 (s_sub (by decide) hk)).trans (hz0 k hk)), (by decide), ⟨by omega, by omega⟩, ⟨by omega, by omega⟩, rfl⟩ (fun n ih2 g H locs hq => ?_)
  obtain ⟨F6, ls, w1, rfl, hl, hP, hS, hI, hfr, hz0, h3, h4, h5, hn⟩ := hq
  have oY7 : F6 a0 = .inr (7, y_fl A z0 q0) := (hfr _ (by rw [ha0]; decide)).trans oY0
  have hz0 : ∀ k, k ∈ ([1, 2, 3, 4, 5, 6, 7, 8, 11, 15, 16, 19, 25, 26, 27, 31, 32] : List Nat) → z0 k = z0 k := fun _ _ => rfl
  have hn_7 := hn
  refine lv_iload_n hx hb dX7_areAlike_2 rfl (lv_at hl 3 rfl) ?_
  refine lv_sipush (v := 473) hx hb dX7_areAlike_3 (by decide) ?_
  refine lv_icmp_ge (tgt := 44) hx hb dX7_areAlike_6 (by decide) (fun c8 => ?_) (fun c8 => ?_)
  · have c8 := (ax_ge (n := 473) (by decide)).mp c8
    refine lv_iconst (v := 1) hx hb dX7_areAlike_44 (by decide) ?_
    have h9 : (1 : Int32).toInt = 1 := by decide
    exact W.zret (v := 1) (ty := .boolean) hx hb hr (by decide) (fun t ht hW => ⟨⟨1, F6, rfl, ⟨(by decide), trivial, hI, hfr, fun k hk => (y_fiZ oY7 (s_sub (by decide) hk)).trans ((hz0 k hk).trans (y_fiZ oY0 (s_sub (by decide) hk)).symm), trivial⟩, by rw [ht]; exact hP, va_K.moved hW.alike hK⟩, hS.F ht⟩) hS.2.2 dX7_areAlike_45
  · have c8 := mt (ax_ge (n := 473) (by decide)).mpr c8
    refine lv_aload_n hx hb dX7_areAlike_9 rfl (lv_at hl 0 rfl) ?_
    refine th_get (D := (dC, dI)) (ci := 7) (v := .ref (A 24)) (C := RX7) (T := TX7) (N := 34) hx hb hts inX7 hown hK hP (hLK _ ha0 (by decide)) oY7 rfl 24 (by decide) (hts _ T_256) (fun _ h9 => h9) rfl dX7_areAlike_10 ?_
    refine lv_sipush (v := 477) hx hb dX7_areAlike_13 (by decide) ?_
    refine lv_iload_n hx hb dX7_areAlike_16 rfl (lv_at hl 1 rfl) ?_
    refine lv_imul hx hb dX7_areAlike_17 ?_
    refine lv_topi (fun v10 ev10 => ?_)
    have qv10 : v10.toInt = 477 * x1.toInt := by rw [ev10]; exact th_mul (by decide) rfl ⟨by omega, by omega⟩
    refine lv_iload_n hx hb dX7_areAlike_18 rfl (lv_at hl 3 rfl) ?_
    refine lv_iadd hx hb dX7_areAlike_19 ?_
    refine lv_topi (fun v11 ev11 => ?_)
    have qv11 : v11.toInt = v10.toInt + w1.toInt := by rw [ev11]; exact th_add rfl rfl ⟨by omega, by omega⟩
    obtain ⟨f12, o13, b14⟩ := y_op24 hI
    refine th_iald hx hb hK hP (hLK _ (y_k24 hA) (by decide)) 0 o13 rfl (th_in ⟨by omega, by omega⟩) dX7_areAlike_20 ?_
    refine lv_topi (fun v15 ev15 => ?_)
    refine lv_aload_n hx hb dX7_areAlike_21 rfl (lv_at hl 0 rfl) ?_
    refine th_get (D := (dC, dI)) (ci := 7) (v := .ref (A 24)) (C := RX7) (T := TX7) (N := 34) hx hb hts inX7 hown hK hP (hLK _ ha0 (by decide)) oY7 rfl 24 (by decide) (hts _ T_256) (fun _ h9 => h9) rfl dX7_areAlike_22 ?_
    refine lv_sipush (v := 477) hx hb dX7_areAlike_25 (by decide) ?_
    refine lv_iload_n hx hb dX7_areAlike_28 rfl (lv_at hl 2 rfl) ?_
    refine lv_imul hx hb dX7_areAlike_29 ?_
    refine lv_topi (fun v16 ev16 => ?_)
    have qv16 : v16.toInt = 477 * x2.toInt := by rw [ev16]; exact th_mul (by decide) rfl ⟨by omega, by omega⟩
    refine lv_iload_n hx hb dX7_areAlike_30 rfl (lv_at hl 3 rfl) ?_
    refine lv_iadd hx hb dX7_areAlike_31 ?_
    refine lv_topi (fun v17 ev17 => ?_)
    have qv17 : v17.toInt = v16.toInt + w1.toInt := by rw [ev17]; exact th_add rfl rfl ⟨by omega, by omega⟩
    refine th_iald hx hb hK hP (hLK _ (y_k24 hA) (by decide)) 0 o13 rfl (th_in ⟨by omega, by omega⟩) dX7_areAlike_32 ?_
    refine lv_topi (fun v18 ev18 => ?_)
    refine lv_icmp_eq (tgt := 38) hx hb dX7_areAlike_33 (by decide) (fun c19 => ?_) (fun c19 => ?_)
    · have c19 := Int32.toInt_inj.symm.mp c19
      obtain ⟨v20, ev20⟩ : ∃ y : Int32, w1 + 1 = y := ⟨_, rfl⟩
      have qv20 : v20.toInt = w1.toInt + 1 := by rw [← ev20]; exact th_add rfl (by decide) ⟨by omega, by omega⟩
      refine lv_iinc (v := v20) (lv' := [(3, .int v20), (0, .ref a0), (1, .int x1), (2, .int x2)]) hx hb dX7_areAlike_38 hl (k := 3) rfl ev20 (by decide) rfl (fun ls hl => ?_)
      refine lv_goto (tgt := 2) hx hb dX7_areAlike_41 (by decide) ?_
      exact ih2 _ _ _ _ (by omega) ⟨F6, _, v20, rfl, lv_sub hl [1, 2, 3, 0] rfl, hP, hS, hI, hfr, (fun k hk => (y_fiZ oY7 (s_sub (by decide) hk)).trans (hz0 k hk)), ⟨by omega, by omega⟩, ⟨by omega, by omega⟩, ⟨by omega, by omega⟩, rfl⟩
    · have c19 := mt Int32.toInt_inj.symm.mpr c19
      refine lv_iconst (v := 0) hx hb dX7_areAlike_36 (by decide) ?_
      have h21 : (0 : Int32).toInt = 0 := by decide
      exact W.zret (v := 0) (ty := .boolean) hx hb hr (by decide) (fun t ht hW => ⟨⟨0, F6, rfl, ⟨(by decide), trivial, hI, hfr, fun k hk => (y_fiZ oY7 (s_sub (by decide) hk)).trans ((hz0 k hk).trans (y_fiZ oY0 (s_sub (by decide) hk)).symm), trivial⟩, by rw [ht]; exact hP, va_K.moved hW.alike hK⟩, hS.F ht⟩) hS.2.2 dX7_areAlike_37

set_option maxHeartbeats 4000000 in
set_option maxRecDepth 100000 in
theorem y_X7_likeOf (l : Launch) (dC : Nat → ClassId) (dI : Nat → Nat → Nat) (sz : Nat) {L : List Nat} {K : Nat → Nat} {cs : Nat → ClassId} (hLK : ∀ a {k : Nat}, K a = k → k ≠ 0 → a ∈ L) (A : Nat → Nat) (hA : y_A K A) (F : Nat → va_E) (a0 : Nat) (x1 : Int32) (ha0 : K a0 = 9) (hx1 : 0 ≤ x1.toInt ∧ x1.toInt ≤ 400) (hI : y_I K cs A F) : Met l yX7_likeOf (Cond.code yX7_likeOf cX7_likeOf 3 (some .int) :: T0) ({ frames := 1, cells := 0, slots := 0, locals := 23 }) (va_Pc [.ref a0, .int x1] (s_W dC dI sz L F [(cs 0, .int), (cs 1, .byte), (cs 2, .long), (cs 3, .object RX5), (cs 4, .object RX4), (cs 5, .array .int), (cs 6, .char), (cs 7, .boolean)])) (va_Qi (fun (r : Int32) (G : Nat → va_E) => (-1 ≤ r.toInt ∧ r.toInt ≤ 399) ∧ True ∧ y_I K cs A G ∧ (∀ b, K b ∉ ([] : List Nat) → G b = F b) ∧ (∀ k, k ∈ ([1, 2, 3, 4, 5, 6, 7, 8, 11, 15, 16, 19, 25, 26, 27, 31, 32] : List Nat) → y_fi G a0 k = y_fi F a0 k) ∧ True) (fun (G : Nat → va_E) (t : State) => va_P (dC, dI) vwCl (va_pl L G) t.heap ∧ va_K (dC, dI) vwCl [(cs 0, .int), (cs 1, .byte), (cs 2, .long), (cs 3, .object RX5), (cs 4, .object RX4), (cs 5, .array .int), (cs 6, .char), (cs 7, .boolean)] t) (fun q => q ∈ L)) 0 0 (fun q => q ∈ L) := by
  refine Met.ofW (cc := cX7_likeOf) (maxL := 3) (ret := (some .int)) (by decide) rfl ?_
  intro p e s m args below meth c s₁ B hml hv
  obtain ⟨rfl, hsz, hP, hK, hD, hN⟩ := hv
  have hx := B.exec
  have hb := B.bytes
  have hr := B.returns
  have hts : ∀ w ∈ T0, w.before _ s = true := fun w h => atoms_spec (ws := Cond.code yX7_likeOf cX7_likeOf 3 (some .int) :: T0) B.pre w (List.mem_cons_of_mem _ h)
  have hown : s.vm.findClass RX7 = some m.cls := findClass_of_methodNamed B.named
  have hlocks := B.notSynchronized
  have hS : va_S (fun q => q ∈ L) s.heap s.heap [] := va_S.rf
  have hfr : ∀ b, K b ∉ ([] : List Nat) → F b = F b := fun _ _ => rfl
  have hl := lv_entry ([.ref a0, .int x1]) (n := 3) (Nat.le_of_ble_eq_true rfl)
  rw [lg_entry_eq]
  generalize (lg_sl ([.ref a0, .int x1]) ++ List.replicate (3 - (lg_sl ([.ref a0, .int x1])).length) Slot.unset).toArray = ls at hl ⊢
  have hl : lv_has ls 3 [(0, .ref a0), (1, .int x1)] := hl
  refine s_gen hP hS (fun H locs hP hS => ?_)
  obtain ⟨z0, q0, oY0, bz0, bq0⟩ := y_opY hI ha0
  have hz0 : ∀ k, k ∈ ([1, 2, 3, 4, 5, 6, 7, 8, 11, 15, 16, 19, 25, 26, 27, 31, 32] : List Nat) → z0 k = z0 k := fun _ _ => rfl
  refine lv_iload_n hx hb dX7_likeOf_0 rfl (lv_at hl 1 rfl) ?_
  refine lv_iconst (v := 1) hx hb dX7_likeOf_1 (by decide) ?_
  refine lv_isub hx hb dX7_likeOf_2 ?_
  refine lv_topi (fun v1 ev1 => ?_)
  have qv1 : v1.toInt = x1.toInt - 1 := by rw [ev1]; exact th_sub rfl (by decide) ⟨by omega, by omega⟩
  refine lv_istore_n (lv' := [(2, .int v1), (0, .ref a0), (1, .int x1)]) hx hb dX7_likeOf_3 rfl hl (by decide) rfl (fun ls hl => ?_)
  refine th_loop (fun n g H locs => ∃ (G : Nat → va_E) (ls : Array Slot) (w2 : Int32), g = F0 m 4 ls [] ∧ lv_has ls 3 [(0, .ref a0), (1, .int x1), (2, .int w2)] ∧ va_P (dC, dI) vwCl (va_pl L G) H ∧ va_S (fun q => q ∈ L) s.heap H locs ∧ y_I K cs A G ∧ (∀ b, K b ∉ ([] : List Nat) → G b = F b) ∧ (∀ k, k ∈ ([1, 2, 3, 4, 5, 6, 7, 8, 11, 15, 16, 19, 25, 26, 27, 31, 32] : List Nat) → y_fi G a0 k = z0 k) ∧ (-1 ≤ w2.toInt ∧ w2.toInt ≤ 399) ∧ (0 ≤ x1.toInt ∧ x1.toInt ≤ 400) ∧ n = (w2.toInt - (-2)).toNat) _ ⟨F, _, v1, rfl, lv_sub hl [1, 2, 0] rfl, hP, hS, hI, hfr, (fun k hk => (y_fiZ oY0 (s_sub (by decide) hk)).trans (hz0 k hk)), ⟨by omega, by omega⟩, ⟨by omega, by omega⟩, rfl⟩ (fun n ih4 g H locs hq => ?_)
  obtain ⟨F5, ls, w2, rfl, hl, hP, hS, hI, hfr, hz0, h3, h4, hn⟩ := hq
  have oY6 : F5 a0 = .inr (7, y_fl A z0 q0) := (hfr _ (by rw [ha0]; decide)).trans oY0
  have hz0 : ∀ k, k ∈ ([1, 2, 3, 4, 5, 6, 7, 8, 11, 15, 16, 19, 25, 26, 27, 31, 32] : List Nat) → z0 k = z0 k := fun _ _ => rfl
  have hn_6 := hn
  refine lv_iload_n hx hb dX7_likeOf_4 rfl (lv_at hl 2 rfl) ?_
  refine lv_if_lt (tgt := 25) hx hb dX7_likeOf_5 (by decide) (fun c7 => ?_) (fun c7 => ?_)
  · have c7 := (ax_lt (n := 0) (by decide)).mp c7
    refine lv_iconst (v := (-1)) hx hb dX7_likeOf_25 (by decide) ?_
    have h8 : ((-1) : Int32).toInt = (-1) := by decide
    exact W.iret (v := (-1)) hx hb hr (fun t ht hW => ⟨⟨(-1), F5, rfl, ⟨(by decide), trivial, hI, hfr, fun k hk => (y_fiZ oY6 (s_sub (by decide) hk)).trans ((hz0 k hk).trans (y_fiZ oY0 (s_sub (by decide) hk)).symm), trivial⟩, by rw [ht]; exact hP, va_K.moved hW.alike hK⟩, hS.F ht⟩) hS.2.2 dX7_likeOf_26
  · have c7 := mt (ax_lt (n := 0) (by decide)).mpr c7
    refine lv_aload_n hx hb dX7_likeOf_8 rfl (lv_at hl 0 rfl) ?_
    refine lv_iload_n hx hb dX7_likeOf_9 rfl (lv_at hl 2 rfl) ?_
    refine lv_iload_n hx hb dX7_likeOf_10 rfl (lv_at hl 1 rfl) ?_
    have rg9 : 0 ≤ w2.toInt ∧ w2.toInt ≤ 400 := ⟨by omega, by omega⟩
    have rg10 : 0 ≤ x1.toInt ∧ x1.toInt ≤ 400 := ⟨by omega, by omega⟩
    refine va_calli (va_runV (As := [.int w2, .int x1]) (rest := []) ⟨hx, hb, hml, hown, hts⟩ (y_X7_areAlike l dC dI H.size hLK A hA F5 a0 w2 x1 ha0 rg9 rg10 hI) (cwV 2 hts (ax_gV T_1239 T_1241 T_1242 T_265 T_1240) rfl rfl rfl (by decide +kernel) ⟨Nat.le_of_ble_eq_true rfl, Nat.le_of_ble_eq_true rfl⟩) ⟨fun a U g mk q => ⟨q.1, s_pc (U := U) rfl rfl q.2⟩, s_recv hK hP (hLK _ ha0 (by decide)) (ci := 7) rfl oY6, fun U hU hW => ⟨rfl, s_pw hU hW hP hK hD hN⟩⟩ rfl rfl hl.1 rfl (lv_room (Nat.le_of_ble_eq_true rfl)) dX7_likeOf_11 ⟨Nat.zero_le _, Nat.zero_le _⟩) hS (fun q _ h => h) (fun q h => h) (fun r12 F13 t H1 locs ht hvm hw hB hz1 hk1 hS => ?_)
    obtain ⟨hP, hK1⟩ := hB
    rw [ht] at hP
    generalize H1 = H at hP hS ⊢
    clear hz1 hk1 hvm hK1
    obtain ⟨h14, h16, hI, hfr1, hzf, h15⟩ := hw
    have oY17 : F13 a0 = .inr (7, y_fl A z0 q0) := (hfr1 _ (by rw [ha0]; decide)).trans oY6
    have hfr : ∀ b, K b ∉ ([] : List Nat) → F13 b = F b := fun b hb9 => (hfr1 b (fun q => hb9 (s_sub (by decide) q))).trans (hfr b hb9)
    refine lv_if_eq (tgt := 19) hx hb dX7_likeOf_14 (by decide) (fun c18 => ?_) (fun c18 => ?_)
    · have c18 := (ax_eq (n := 0) (by decide)).mp c18
      obtain ⟨v19, ev19⟩ : ∃ y : Int32, w2 + (-1) = y := ⟨_, rfl⟩
      have qv19 : v19.toInt = w2.toInt + (-1) := by rw [← ev19]; exact th_add rfl (by decide) ⟨by omega, by omega⟩
      refine lv_iinc (v := v19) (lv' := [(2, .int v19), (0, .ref a0), (1, .int x1)]) hx hb dX7_likeOf_19 hl (k := 2) rfl ev19 (by decide) rfl (fun ls hl => ?_)
      refine lv_goto (tgt := 4) hx hb dX7_likeOf_22 (by decide) ?_
      exact ih4 _ _ _ _ (by omega) ⟨F13, _, v19, rfl, lv_sub hl [1, 2, 0] rfl, hP, hS, hI, hfr, (fun k hk => (y_fiZ oY17 (s_sub (by decide) hk)).trans (hz0 k hk)), ⟨by omega, by omega⟩, ⟨by omega, by omega⟩, rfl⟩
    · have c18 := mt (ax_eq (n := 0) (by decide)).mpr c18
      refine lv_iload_n hx hb dX7_likeOf_17 rfl (lv_at hl 2 rfl) ?_
      exact W.iret (v := w2) hx hb hr (fun t ht hW => ⟨⟨w2, F13, rfl, ⟨⟨by omega, by omega⟩, trivial, hI, hfr, fun k hk => (y_fiZ oY17 (s_sub (by decide) hk)).trans ((hz0 k hk).trans (y_fiZ oY0 (s_sub (by decide) hk)).symm), trivial⟩, by rw [ht]; exact hP, va_K.moved hW.alike hK⟩, hS.F ht⟩) hS.2.2 dX7_likeOf_18
