set_option maxHeartbeats 4000000 in
set_option maxRecDepth 100000 in
theorem yt_X7_laysState (l : Launch) (dC : Nat → ClassId) (dI : Nat → Nat → Nat) (sz : Nat) {L : List Nat} {K : Nat → Nat} {cs : Nat → ClassId} (hLK : ∀ a {k : Nat}, K a = k → k ≠ 0 → a ∈ L) (A : Nat → Nat) (hA : y_A K A) (F : Nat → va_E) (a0 : Nat) (x1 : Int32) (ha0 : K a0 = 9) (hx1 : 0 ≤ x1.toInt ∧ x1.toInt ≤ 400) (hI : y_I K cs A F) : Met l yX7_laysState (Cond.code yX7_laysState cX7_laysState 7 none :: T0) ({ frames := 2, cells := 0, slots := 0, locals := 43 }) (va_Pc [.ref a0, .int x1] (s_W dC dI sz L F [(cs 0, .int), (cs 1, .byte), (cs 2, .long), (cs 3, .object RX5), (cs 4, .object RX4), (cs 5, .array .int), (cs 6, .char), (cs 7, .boolean)])) (va_Qv (fun (G : Nat → va_E) => True ∧ True ∧ y_I K cs A G ∧ (∀ b, K b ∉ [74] → G b = F b) ∧ (∀ k, k ∈ ([1, 2, 3, 4, 5, 6, 7, 8, 11, 15, 16, 19, 25, 26, 27, 31, 32] : List Nat) → y_fi G a0 k = y_fi F a0 k) ∧ True) (fun (G : Nat → va_E) (t : State) => va_P (dC, dI) vwCl (va_pl L G) t.heap ∧ va_K (dC, dI) vwCl [(cs 0, .int), (cs 1, .byte), (cs 2, .long), (cs 3, .object RX5), (cs 4, .object RX4), (cs 5, .array .int), (cs 6, .char), (cs 7, .boolean)] t) (fun q => q ∈ L)) 0 0 (fun q => q ∈ L) := by
  refine Met.ofW (cc := cX7_laysState) (maxL := 7) (ret := none) (by decide) rfl ?_
  intro p e s m args below meth c s₁ B hml hv
  obtain ⟨rfl, hsz, hP, hK, hD, hN⟩ := hv
  have hx := B.exec
  have hb := B.bytes
  have hr := B.returns
  have hts : ∀ w ∈ T0, w.before _ s = true := fun w h => atoms_spec (ws := Cond.code yX7_laysState cX7_laysState 7 none :: T0) B.pre w (List.mem_cons_of_mem _ h)
  have hown : s.vm.findClass RX7 = some m.cls := findClass_of_methodNamed B.named
  have hlocks := B.notSynchronized
  have hS : va_S (fun q => q ∈ L) s.heap s.heap [] := va_S.rf
  have hfr : ∀ b, K b ∉ [74] → F b = F b := fun _ _ => rfl
  have hl := lv_entry ([.ref a0, .int x1]) (n := 7) (Nat.le_of_ble_eq_true rfl)
  rw [lg_entry_eq]
  generalize (lg_sl ([.ref a0, .int x1]) ++ List.replicate (7 - (lg_sl ([.ref a0, .int x1])).length) Slot.unset).toArray = ls at hl ⊢
  have hl : lv_has ls 7 [(0, .ref a0), (1, .int x1)] := hl
  refine s_gen hP hS (fun H locs hP hS => ?_)
  obtain ⟨z0, q0, oY0, bz0, bq0⟩ := y_opY hI ha0
  have hz0 : ∀ k, k ∈ ([1, 2, 3, 4, 5, 6, 7, 8, 11, 15, 16, 19, 25, 26, 27, 31, 32] : List Nat) → z0 k = z0 k := fun _ _ => rfl
  refine lv_sipush (v := 477) hx hb dX7_laysState_0 (by decide) ?_
  refine lv_iload_n hx hb dX7_laysState_3 rfl (lv_at hl 1 rfl) ?_
  refine lv_imul hx hb dX7_laysState_4 ?_
  refine lv_topi (fun v1 ev1 => ?_)
  have qv1 : v1.toInt = 477 * x1.toInt := by rw [ev1]; exact th_mul (by decide) rfl ⟨by omega, by omega⟩
  refine lv_istore_n (lv' := [(2, .int v1), (0, .ref a0), (1, .int x1)]) hx hb dX7_laysState_5 rfl hl (by decide) rfl (fun ls hl => ?_)
  refine lv_bipush (v := 8) hx hb dX7_laysState_6 (by decide) ?_
  refine lv_istore_n (lv' := [(3, .int 8), (2, .int v1), (0, .ref a0), (1, .int x1)]) hx hb dX7_laysState_8 rfl hl (by decide) rfl (fun ls hl => ?_)
  have h3 : (8 : Int32).toInt = 8 := by decide
  refine th_loop (fun n g H locs => ∃ (G : Nat → va_E) (ls : Array Slot) (w2 : Int32), g = F0 m 9 ls [] ∧ lv_has ls 7 [(0, .ref a0), (2, .int v1), (3, .int w2)] ∧ va_P (dC, dI) vwCl (va_pl L G) H ∧ va_S (fun q => q ∈ L) s.heap H locs ∧ y_I K cs A G ∧ (∀ b, K b ∉ [74] → G b = F b) ∧ (∀ k, k ∈ ([1, 2, 3, 4, 5, 6, 7, 8, 11, 15, 16, 19, 25, 26, 27, 31, 32] : List Nat) → y_fi G a0 k = z0 k) ∧ (8 ≤ w2.toInt ∧ w2.toInt ≤ 480) ∧ (0 ≤ v1.toInt ∧ v1.toInt ≤ 190800) ∧ n = (481 - w2.toInt).toNat) _ ⟨F, _, 8, rfl, lv_sub hl [2, 1, 0] rfl, hP, hS, hI, hfr, (fun k hk => (y_fiZ oY0 (s_sub (by decide) hk)).trans (hz0 k hk)), (by decide), ⟨by omega, by omega⟩, rfl⟩ (fun n ih9 g H locs hq => ?_)
  obtain ⟨F6, ls, w2, rfl, hl, hP, hS, hI, hfr, hz0, h4, h5, hn⟩ := hq
  have oY7 : F6 a0 = .inr (7, y_fl A z0 q0) := (hfr _ (by rw [ha0]; decide)).trans oY0
  have hz0 : ∀ k, k ∈ ([1, 2, 3, 4, 5, 6, 7, 8, 11, 15, 16, 19, 25, 26, 27, 31, 32] : List Nat) → z0 k = z0 k := fun _ _ => rfl
  have hn_7 := hn
  refine lv_iload_n hx hb dX7_laysState_9 rfl (lv_at hl 2 rfl) ?_
  refine lv_sipush (v := 480) hx hb dX7_laysState_10 (by decide) ?_
  refine lv_icmp_ge (tgt := 39) hx hb dX7_laysState_13 (by decide) (fun c8 => ?_) (fun c8 => ?_)
  · have c8 := (ax_ge (n := 480) (by decide)).mp c8
    refine lv_iconst (v := 0) hx hb dX7_laysState_39 (by decide) ?_
    refine lv_istore_n (lv' := [(3, .int 0), (0, .ref a0), (2, .int v1)]) hx hb dX7_laysState_40 rfl hl (by decide) rfl (fun ls hl => ?_)
    have h10 : (0 : Int32).toInt = 0 := by decide
    refine th_loop (fun n g H locs => ∃ (G : Nat → va_E) (ls : Array Slot) (w9 : Int32), g = F0 m 41 ls [] ∧ lv_has ls 7 [(0, .ref a0), (2, .int v1), (3, .int w9)] ∧ va_P (dC, dI) vwCl (va_pl L G) H ∧ va_S (fun q => q ∈ L) s.heap H locs ∧ y_I K cs A G ∧ (∀ b, K b ∉ [74] → G b = F b) ∧ (∀ k, k ∈ ([1, 2, 3, 4, 5, 6, 7, 8, 11, 15, 16, 19, 25, 26, 27, 31, 32] : List Nat) → y_fi G a0 k = z0 k) ∧ (0 ≤ w9.toInt ∧ w9.toInt ≤ 4) ∧ (0 ≤ v1.toInt ∧ v1.toInt ≤ 190800) ∧ n = (5 - w9.toInt).toNat) _ ⟨F6, _, 0, rfl, lv_sub hl [1, 2, 0] rfl, hP, hS, hI, hfr, (fun k hk => (y_fiZ oY7 (s_sub (by decide) hk)).trans (hz0 k hk)), (by decide), ⟨by omega, by omega⟩, rfl⟩ (fun n ih41 g H locs hq => ?_)
    obtain ⟨F13, ls, w9, rfl, hl, hP, hS, hI, hfr, hz0, h11, h12, hn⟩ := hq
    have oY14 : F13 a0 = .inr (7, y_fl A z0 q0) := (hfr _ (by rw [ha0]; decide)).trans oY0
    have hz0 : ∀ k, k ∈ ([1, 2, 3, 4, 5, 6, 7, 8, 11, 15, 16, 19, 25, 26, 27, 31, 32] : List Nat) → z0 k = z0 k := fun _ _ => rfl
    have hn_14 := hn
    refine th_join (fun g H locs => ∃ (G : Nat → va_E) (ls : Array Slot) (w15 : Int32) (w16 : Int32), g = F0 m 86 ls [.int w15, .int w16, .ref (A 24)] ∧ lv_has ls 7 [(0, .ref a0), (2, .int v1), (3, .int w9)] ∧ va_P (dC, dI) vwCl (va_pl L G) H ∧ va_S (fun q => q ∈ L) s.heap H locs ∧ y_I K cs A G ∧ (∀ b, K b ∉ [74] → G b = F b) ∧ (∀ k, k ∈ ([1, 2, 3, 4, 5, 6, 7, 8, 11, 15, 16, 19, 25, 26, 27, 31, 32] : List Nat) → y_fi G a0 k = z0 k) ∧ (0 ≤ w15.toInt ∧ w15.toInt ≤ 2147483647) ∧ (96 ≤ w16.toInt ∧ w16.toInt ≤ 190919) ∧ (0 ≤ v1.toInt ∧ v1.toInt ≤ 190800) ∧ (0 ≤ w9.toInt ∧ w9.toInt ≤ 3)) (fun K86 => ?_) ?_
    · refine lv_iload_n hx hb dX7_laysState_41 rfl (lv_at hl 2 rfl) ?_
      refine lv_iconst (v := 4) hx hb dX7_laysState_42 (by decide) ?_
      refine lv_icmp_ge (tgt := 226) hx hb dX7_laysState_43 (by decide) (fun c17 => ?_) (fun c17 => ?_)
      · have c17 := (ax_ge (n := 4) (by decide)).mp c17
        refine lv_aload_n hx hb dX7_laysState_226 rfl (lv_at hl 0 rfl) ?_
        refine th_get (D := (dC, dI)) (ci := 7) (v := .ref (A 24)) (C := RX7) (T := TX7) (N := 34) hx hb hts inX7 hown hK hP (hLK _ ha0 (by decide)) oY14 rfl 24 (by decide) (hts _ T_256) (fun _ h9 => h9) rfl dX7_laysState_227 ?_
        refine lv_iload_n hx hb dX7_laysState_230 rfl (lv_at hl 1 rfl) ?_
        refine lv_sipush (v := 472) hx hb dX7_laysState_231 (by decide) ?_
        refine lv_iadd hx hb dX7_laysState_234 ?_
        refine lv_topi (fun v18 ev18 => ?_)
        have qv18 : v18.toInt = v1.toInt + 472 := by rw [ev18]; exact th_add rfl (by decide) ⟨by omega, by omega⟩
        refine lv_aload_n hx hb dX7_laysState_235 rfl (lv_at hl 0 rfl) ?_
        refine th_get (D := (dC, dI)) (ci := 7) (v := .ref (A 20)) (C := RX7) (T := TX7) (N := 34) hx hb hts inX7 hown hK hP (hLK _ ha0 (by decide)) oY14 rfl 20 (by decide) (hts _ T_251) (fun _ h9 => h9) rfl dX7_laysState_236 ?_
        refine lv_bipush (v := 6) hx hb dX7_laysState_239 (by decide) ?_
        obtain ⟨f19, o20, b21⟩ := y_op20 hI
        refine th_iald hx hb hK hP (hLK _ (y_k20 hA) (by decide)) 0 o20 rfl (ax_in (by decide)) dX7_laysState_241 ?_
        refine lv_topi (fun v22 ev22 => ?_)
        obtain ⟨f23, o24, b25⟩ := y_op24 hI
        refine th_iast hx hb hK hP hD hS (hLK _ (y_k24 hA) (by decide)) 0 o24 rfl (th_in ⟨by omega, by omega⟩) dX7_laysState_242 (fun H locs hP hS => ?_)
        obtain ⟨f26, u27⟩ : ∃ g : Nat → Int32, g = upd f23 (v18 : Int32).toNatClampNeg v22 := ⟨_, rfl⟩
        rw [← u27] at hP
        have b28 : y_bd 24 f26 := trivial
        have hP : va_P (dC, dI) vwCl (va_pl L (va_up F13 (A 24) (.inl (cs 0, 191277, .inl f26)))) H := hP
        obtain ⟨F29, hF30⟩ : ∃ G : Nat → va_E, G = va_up F13 (A 24) (.inl (cs 0, 191277, .inl f26)) := ⟨_, rfl⟩
        rw [← hF30] at hP
        have hI : y_I K cs A F29 := by rw [hF30]; exact y_clA (i := 24) hA hI (by decide) b28
        have hfr : ∀ b, K b ∉ [74] → F29 b = F b := by rw [hF30]; exact s_fr hfr (y_k24 hA) (by decide)
        have o31 : F29 (A 20) = .inl (cs 0, 918, .inl f19) := by rw [hF30]; exact th_ne (th_kd (y_k20 hA) (y_k24 hA) (by decide)) o20
        have oY32 : F29 a0 = .inr (7, y_fl A z0 q0) := by rw [hF30]; exact th_ne (th_kd ha0 (y_k24 hA) (by decide)) oY14
        have o33 : F29 (A 24) = .inl (cs 0, 191277, .inl f26) := by rw [hF30]; exact th_up
        have u34 : ∀ j : Int, 0 ≤ j → y_c f26 j = if j = v18.toInt then v22 else y_c f23 j := by rw [u27]; exact y_cu rfl (by omega)
        exact W.vret hx hb hr (fun t ht hW => ⟨⟨F29, rfl, ⟨trivial, trivial, hI, hfr, fun k hk => (y_fiZ oY32 (s_sub (by decide) hk)).trans ((hz0 k hk).trans (y_fiZ oY0 (s_sub (by decide) hk)).symm), trivial⟩, by rw [ht]; exact hP, va_K.moved hW.alike hK⟩, hS.F ht⟩) hS.2.2 dX7_laysState_243
      · have c17 := mt (ax_ge (n := 4) (by decide)).mpr c17
        refine lv_aload_n hx hb dX7_laysState_46 rfl (lv_at hl 0 rfl) ?_
        refine lv_iload_n hx hb dX7_laysState_47 rfl (lv_at hl 2 rfl) ?_
        refine lv_iconst (v := 0) hx hb dX7_laysState_48 (by decide) ?_
        have rg35 : 0 ≤ w9.toInt ∧ w9.toInt ≤ 3 := ⟨by omega, by omega⟩
        obtain ⟨f36, o37, b38⟩ := y_op20 hI
        refine va_calli (va_runV (As := [.int w9, .int 0]) (rest := []) ⟨hx, hb, hml, hown, hts⟩ (y_X7_its l dC dI H.size hLK A hA F13 a0 w9 0 ha0 rg35 (by decide) hI) (cwV 2 hts (ax_gV T_1057 T_1059 T_1060 T_265 T_1058) rfl rfl rfl (by decide +kernel) ⟨Nat.le_of_ble_eq_true rfl, Nat.le_of_ble_eq_true rfl⟩) ⟨fun a U g mk q => ⟨q.1, s_pc (U := U) rfl rfl q.2⟩, s_recv hK hP (hLK _ ha0 (by decide)) (ci := 7) rfl oY14, fun U hU hW => ⟨rfl, s_pw hU hW hP hK hD hN⟩⟩ rfl rfl hl.1 rfl (lv_room (Nat.le_of_ble_eq_true rfl)) dX7_laysState_49 ⟨Nat.zero_le _, Nat.zero_le _⟩) hS (fun q _ h => h) (fun q h => h) (fun r40 F41 t H1 locs ht hvm hw hB hz1 hk1 hS => ?_)
        obtain ⟨hP, hK1⟩ := hB
        rw [ht] at hP
        generalize H1 = H at hP hS ⊢
        clear hz1 hk1 hvm hK1
        obtain ⟨h42, h44, hI, hfr1, hzf, h43⟩ := hw
        have o45 : F41 (A 20) = .inl (cs 0, 918, .inl f36) := (hfr1 _ (by rw [(y_k20 hA)]; decide)).trans o37
        have oY46 : F41 a0 = .inr (7, y_fl A z0 q0) := (hfr1 _ (by rw [ha0]; decide)).trans oY14
        have hfr : ∀ b, K b ∉ [74] → F41 b = F b := fun b hb9 => (hfr1 b (fun q => hb9 (s_sub (by decide) q))).trans (hfr b hb9)
        have h43 : (r40 = y_c f36 (104 + 6 * w9.toInt + 0)) := by have q9 := h43; rw [y_atE o37] at q9; exact q9
        have h43 : r40 = y_c f36 (104 + 6 * w9.toInt) := h43.trans (congrArg (y_c f36) (by omega))
        have h47 := congrArg Int32.toInt h43
        refine lv_aload_n hx hb dX7_laysState_52 rfl (lv_at hl 0 rfl) ?_
        refine th_get (D := (dC, dI)) (ci := 7) (v := .ref (A 20)) (C := RX7) (T := TX7) (N := 34) hx hb hts inX7 hown hK hP (hLK _ ha0 (by decide)) oY46 rfl 20 (by decide) (hts _ T_251) (fun _ h9 => h9) rfl dX7_laysState_53 ?_
        refine lv_iconst (v := 0) hx hb dX7_laysState_56 (by decide) ?_
        refine th_iald hx hb hK hP (hLK _ (y_k20 hA) (by decide)) 0 o45 rfl (ax_in (by decide)) dX7_laysState_57 ?_
        refine lv_topi (fun v48 ev48 => ?_)
        refine lv_isub hx hb dX7_laysState_58 ?_
        refine lv_topi (fun v49 ev49 => ?_)
        refine lv_istore (lv' := [(4, .int v49), (0, .ref a0), (2, .int v1), (3, .int w9)]) hx hb dX7_laysState_59 hl (by decide) rfl (fun ls hl => ?_)
        refine lv_aload_n hx hb dX7_laysState_61 rfl (lv_at hl 1 rfl) ?_
        refine th_get (D := (dC, dI)) (ci := 7) (v := .ref (A 24)) (C := RX7) (T := TX7) (N := 34) hx hb hts inX7 hown hK hP (hLK _ ha0 (by decide)) oY46 rfl 24 (by decide) (hts _ T_256) (fun _ h9 => h9) rfl dX7_laysState_62 ?_
        refine lv_iload_n hx hb dX7_laysState_65 rfl (lv_at hl 2 rfl) ?_
        refine lv_iload_n hx hb dX7_laysState_66 rfl (lv_at hl 3 rfl) ?_
        refine lv_iconst (v := 0) hx hb dX7_laysState_67 (by decide) ?_
        refine va_calli (va_runS (As := [.int w9, .int 0]) (rest := [.int v1, .ref (A 24)]) ⟨hx, hb, hml, hown, hts⟩ (y_X7_warpAt l dC dI H.size F41 w9 0 rg35 (by decide)) (cwS 2 hts (ax_gS T_1021 T_1023 T_265 T_1022) rfl rfl rfl (by decide +kernel) ⟨Nat.le_of_ble_eq_true rfl, Nat.le_of_ble_eq_true rfl⟩) ⟨fun a U g mk q => ⟨q.1, s_pc (U := U) rfl rfl q.2⟩, fun U hU hW => ⟨rfl, s_pw hU hW hP hK hD hN⟩⟩ rfl rfl hl.1 rfl (lv_room (Nat.le_of_ble_eq_true rfl)) dX7_laysState_68 ⟨Nat.zero_le _, Nat.zero_le _⟩) hS (fun q _ h => h) (fun q h => h) (fun r51 F52 t H1 locs ht hvm hw hB hz1 hk1 hS => ?_)
        obtain ⟨hP, hK1⟩ := hB
        rw [ht] at hP
        generalize H1 = H at hP hS ⊢
        clear hz1 hk1 hvm hK1
        obtain ⟨h53, h55, hG9, h54⟩ := hw
        rw [hG9] at hP
        have h54 : (r51.toInt = 104 + 6 * w9.toInt + 0) := by have q9 := h54; exact q9
        refine lv_iadd hx hb dX7_laysState_71 ?_
        refine lv_topi (fun v56 ev56 => ?_)
        have qv56 : v56.toInt = v1.toInt + r51.toInt := by rw [ev56]; exact th_add rfl rfl ⟨by omega, by omega⟩
        refine lv_bipush (v := 8) hx hb dX7_laysState_72 (by decide) ?_
        refine lv_isub hx hb dX7_laysState_74 ?_
        refine lv_topi (fun v57 ev57 => ?_)
        have qv57 : v57.toInt = v56.toInt - 8 := by rw [ev57]; exact th_sub rfl (by decide) ⟨by omega, by omega⟩
        refine lv_iload hx hb dX7_laysState_75 (lv_at hl 0 rfl) ?_
        refine lv_if_le (tgt := 85) hx hb dX7_laysState_77 (by decide) (fun c58 => ?_) (fun c58 => ?_)
        · have c58 := (ax_le (n := 0) (by decide)).mp c58
          refine lv_iconst (v := 0) hx hb dX7_laysState_85 (by decide) ?_
          have h59 : (0 : Int32).toInt = 0 := by decide
          exact K86 _ _ _ ⟨F41, _, 0, v57, rfl, lv_sub hl [1, 2, 3] rfl, hP, hS, hI, hfr, (fun k hk => (y_fiZ oY46 (s_sub (by decide) hk)).trans (hz0 k hk)), (by decide), ⟨by omega, by omega⟩, ⟨by omega, by omega⟩, ⟨by omega, by omega⟩⟩
        · have c58 := mt (ax_le (n := 0) (by decide)).mpr c58
          refine lv_iload hx hb dX7_laysState_80 (lv_at hl 0 rfl) ?_
          refine lv_goto (tgt := 86) hx hb dX7_laysState_82 (by decide) ?_
          exact K86 _ _ _ ⟨F41, _, v49, v57, rfl, lv_sub hl [1, 2, 3] rfl, hP, hS, hI, hfr, (fun k hk => (y_fiZ oY46 (s_sub (by decide) hk)).trans (hz0 k hk)), ⟨by omega, by have q9 := th_hi v49; omega⟩, ⟨by omega, by omega⟩, ⟨by omega, by omega⟩, ⟨by omega, by omega⟩⟩
    · intro g H locs hq
      obtain ⟨F64, ls, w15, w16, rfl, hl, hP, hS, hI, hfr, hz0, h60, h61, h62, h63⟩ := hq
      have oY65 : F64 a0 = .inr (7, y_fl A z0 q0) := (hfr _ (by rw [ha0]; decide)).trans oY0
      have hz0 : ∀ k, k ∈ ([1, 2, 3, 4, 5, 6, 7, 8, 11, 15, 16, 19, 25, 26, 27, 31, 32] : List Nat) → z0 k = z0 k := fun _ _ => rfl
      obtain ⟨f66, o67, b68⟩ := y_op24 hI
      refine th_iast hx hb hK hP hD hS (hLK _ (y_k24 hA) (by decide)) 0 o67 rfl (th_in ⟨by omega, by omega⟩) dX7_laysState_86 (fun H locs hP hS => ?_)
      obtain ⟨f69, u70⟩ : ∃ g : Nat → Int32, g = upd f66 (w16 : Int32).toNatClampNeg w15 := ⟨_, rfl⟩
      rw [← u70] at hP
      have b71 : y_bd 24 f69 := trivial
      have hP : va_P (dC, dI) vwCl (va_pl L (va_up F64 (A 24) (.inl (cs 0, 191277, .inl f69)))) H := hP
      obtain ⟨F72, hF73⟩ : ∃ G : Nat → va_E, G = va_up F64 (A 24) (.inl (cs 0, 191277, .inl f69)) := ⟨_, rfl⟩
      rw [← hF73] at hP
      have hI : y_I K cs A F72 := by rw [hF73]; exact y_clA (i := 24) hA hI (by decide) b71
      have hfr : ∀ b, K b ∉ [74] → F72 b = F b := by rw [hF73]; exact s_fr hfr (y_k24 hA) (by decide)
      have oY74 : F72 a0 = .inr (7, y_fl A z0 q0) := by rw [hF73]; exact th_ne (th_kd ha0 (y_k24 hA) (by decide)) oY65
      have o75 : F72 (A 24) = .inl (cs 0, 191277, .inl f69) := by rw [hF73]; exact th_up
      have u76 : ∀ j : Int, 0 ≤ j → y_c f69 j = if j = w16.toInt then w15 else y_c f66 j := by rw [u70]; exact y_cu rfl (by omega)
      refine lv_aload_n hx hb dX7_laysState_87 rfl (lv_at hl 0 rfl) ?_
      refine th_get (D := (dC, dI)) (ci := 7) (v := .ref (A 24)) (C := RX7) (T := TX7) (N := 34) hx hb hts inX7 hown hK hP (hLK _ ha0 (by decide)) oY74 rfl 24 (by decide) (hts _ T_256) (fun _ h9 => h9) rfl dX7_laysState_88 ?_
      refine lv_iload_n hx hb dX7_laysState_91 rfl (lv_at hl 1 rfl) ?_
      refine lv_iload_n hx hb dX7_laysState_92 rfl (lv_at hl 2 rfl) ?_
      refine lv_iconst (v := 2) hx hb dX7_laysState_93 (by decide) ?_
      have rg77 : 0 ≤ w9.toInt ∧ w9.toInt ≤ 3 := ⟨by omega, by omega⟩
      refine va_calli (va_runS (As := [.int w9, .int 2]) (rest := [.int v1, .ref (A 24)]) ⟨hx, hb, hml, hown, hts⟩ (y_X7_warpAt l dC dI H.size F72 w9 2 rg77 (by decide)) (cwS 2 hts (ax_gS T_1021 T_1023 T_265 T_1022) rfl rfl rfl (by decide +kernel) ⟨Nat.le_of_ble_eq_true rfl, Nat.le_of_ble_eq_true rfl⟩) ⟨fun a U g mk q => ⟨q.1, s_pc (U := U) rfl rfl q.2⟩, fun U hU hW => ⟨rfl, s_pw hU hW hP hK hD hN⟩⟩ rfl rfl hl.1 rfl (lv_room (Nat.le_of_ble_eq_true rfl)) dX7_laysState_94 ⟨Nat.zero_le _, Nat.zero_le _⟩) hS (fun q _ h => h) (fun q h => h) (fun r79 F80 t H1 locs ht hvm hw hB hz1 hk1 hS => ?_)
      obtain ⟨hP, hK1⟩ := hB
      rw [ht] at hP
      generalize H1 = H at hP hS ⊢
      clear hz1 hk1 hvm hK1
      obtain ⟨h81, h83, hG9, h82⟩ := hw
      rw [hG9] at hP
      have h82 : (r79.toInt = 104 + 6 * w9.toInt + 2) := by have q9 := h82; exact q9
      refine lv_iadd hx hb dX7_laysState_97 ?_
      refine lv_topi (fun v84 ev84 => ?_)
      have qv84 : v84.toInt = v1.toInt + r79.toInt := by rw [ev84]; exact th_add rfl rfl ⟨by omega, by omega⟩
      refine lv_bipush (v := 8) hx hb dX7_laysState_98 (by decide) ?_
      refine lv_isub hx hb dX7_laysState_100 ?_
      refine lv_topi (fun v85 ev85 => ?_)
      have qv85 : v85.toInt = v84.toInt - 8 := by rw [ev85]; exact th_sub rfl (by decide) ⟨by omega, by omega⟩
      refine lv_iconst (v := 0) hx hb dX7_laysState_101 (by decide) ?_
      refine th_iast hx hb hK hP hD hS (hLK _ (y_k24 hA) (by decide)) 0 o75 rfl (th_in ⟨by omega, by omega⟩) dX7_laysState_102 (fun H locs hP hS => ?_)
      obtain ⟨f86, u87⟩ : ∃ g : Nat → Int32, g = upd f69 (v85 : Int32).toNatClampNeg 0 := ⟨_, rfl⟩
      rw [← u87] at hP
      have b88 : y_bd 24 f86 := trivial
      have hP : va_P (dC, dI) vwCl (va_pl L (va_up F72 (A 24) (.inl (cs 0, 191277, .inl f86)))) H := hP
      obtain ⟨F89, hF90⟩ : ∃ G : Nat → va_E, G = va_up F72 (A 24) (.inl (cs 0, 191277, .inl f86)) := ⟨_, rfl⟩
      rw [← hF90] at hP
      have hI : y_I K cs A F89 := by rw [hF90]; exact y_clA (i := 24) hA hI (by decide) b88
      have hfr : ∀ b, K b ∉ [74] → F89 b = F b := by rw [hF90]; exact s_fr hfr (y_k24 hA) (by decide)
      have oY91 : F89 a0 = .inr (7, y_fl A z0 q0) := by rw [hF90]; exact th_ne (th_kd ha0 (y_k24 hA) (by decide)) oY74
      have o92 : F89 (A 24) = .inl (cs 0, 191277, .inl f86) := by rw [hF90]; exact th_up
      have u93 : ∀ j : Int, 0 ≤ j → y_c f86 j = if j = v85.toInt then 0 else y_c f69 j := by rw [u87]; exact y_cu rfl (by omega)
      refine lv_iconst (v := 0) hx hb dX7_laysState_103 (by decide) ?_
      refine lv_istore (lv' := [(5, .int 0), (0, .ref a0), (2, .int v1), (3, .int w9)]) hx hb dX7_laysState_104 hl (by decide) rfl (fun ls hl => ?_)
      have h95 : (0 : Int32).toInt = 0 := by decide
      refine th_loop (fun n g H locs => ∃ (G : Nat → va_E) (ls : Array Slot) (w94 : Int32), g = F0 m 106 ls [] ∧ lv_has ls 7 [(0, .ref a0), (2, .int v1), (3, .int w9), (5, .int w94)] ∧ va_P (dC, dI) vwCl (va_pl L G) H ∧ va_S (fun q => q ∈ L) s.heap H locs ∧ y_I K cs A G ∧ (∀ b, K b ∉ [74] → G b = F b) ∧ (∀ k, k ∈ ([1, 2, 3, 4, 5, 6, 7, 8, 11, 15, 16, 19, 25, 26, 27, 31, 32] : List Nat) → y_fi G a0 k = z0 k) ∧ (0 ≤ w94.toInt ∧ w94.toInt ≤ 16) ∧ (0 ≤ v1.toInt ∧ v1.toInt ≤ 190800) ∧ (0 ≤ w9.toInt ∧ w9.toInt ≤ 3) ∧ n = (17 - w94.toInt).toNat) _ ⟨F89, _, 0, rfl, lv_sub hl [1, 2, 3, 0] rfl, hP, hS, hI, hfr, (fun k hk => (y_fiZ oY91 (s_sub (by decide) hk)).trans (hz0 k hk)), (by decide), ⟨by omega, by omega⟩, ⟨by omega, by omega⟩, rfl⟩ (fun n ih106 g H locs hq => ?_)
      obtain ⟨F99, ls, w94, rfl, hl, hP, hS, hI, hfr, hz0, h96, h97, h98, hn⟩ := hq
      have oY100 : F99 a0 = .inr (7, y_fl A z0 q0) := (hfr _ (by rw [ha0]; decide)).trans oY0
      have hz0 : ∀ k, k ∈ ([1, 2, 3, 4, 5, 6, 7, 8, 11, 15, 16, 19, 25, 26, 27, 31, 32] : List Nat) → z0 k = z0 k := fun _ _ => rfl
      have hn_100 := hn
      refine th_join (fun g H locs => ∃ (G : Nat → va_E) (ls : Array Slot), g = F0 m 158 ls [] ∧ lv_has ls 7 [(0, .ref a0), (2, .int v1), (3, .int w9), (5, .int w94)] ∧ va_P (dC, dI) vwCl (va_pl L G) H ∧ va_S (fun q => q ∈ L) s.heap H locs ∧ y_I K cs A G ∧ (∀ b, K b ∉ [74] → G b = F b) ∧ (∀ k, k ∈ ([1, 2, 3, 4, 5, 6, 7, 8, 11, 15, 16, 19, 25, 26, 27, 31, 32] : List Nat) → y_fi G a0 k = z0 k) ∧ (0 ≤ v1.toInt ∧ v1.toInt ≤ 190800) ∧ (0 ≤ w9.toInt ∧ w9.toInt ≤ 3) ∧ (0 ≤ w94.toInt ∧ w94.toInt ≤ 15)) (fun K158 => ?_) ?_
      · refine lv_iload hx hb dX7_laysState_106 (lv_at hl 3 rfl) ?_
        refine lv_bipush (v := 16) hx hb dX7_laysState_108 (by decide) ?_
        refine lv_icmp_ge (tgt := 164) hx hb dX7_laysState_110 (by decide) (fun c101 => ?_) (fun c101 => ?_)
        · have c101 := (ax_ge (n := 16) (by decide)).mp c101
          refine lv_iconst (v := 0) hx hb dX7_laysState_164 (by decide) ?_
          refine lv_istore (lv' := [(5, .int 0), (0, .ref a0), (2, .int v1), (3, .int w9)]) hx hb dX7_laysState_165 hl (by decide) rfl (fun ls hl => ?_)
          have h103 : (0 : Int32).toInt = 0 := by decide
          refine th_loop (fun n g H locs => ∃ (G : Nat → va_E) (ls : Array Slot) (w102 : Int32), g = F0 m 167 ls [] ∧ lv_has ls 7 [(0, .ref a0), (2, .int v1), (3, .int w9), (5, .int w102)] ∧ va_P (dC, dI) vwCl (va_pl L G) H ∧ va_S (fun q => q ∈ L) s.heap H locs ∧ y_I K cs A G ∧ (∀ b, K b ∉ [74] → G b = F b) ∧ (∀ k, k ∈ ([1, 2, 3, 4, 5, 6, 7, 8, 11, 15, 16, 19, 25, 26, 27, 31, 32] : List Nat) → y_fi G a0 k = z0 k) ∧ (0 ≤ w102.toInt ∧ w102.toInt ≤ 8) ∧ (0 ≤ v1.toInt ∧ v1.toInt ≤ 190800) ∧ (0 ≤ w9.toInt ∧ w9.toInt ≤ 3) ∧ n = (9 - w102.toInt).toNat) _ ⟨F99, _, 0, rfl, lv_sub hl [1, 2, 3, 0] rfl, hP, hS, hI, hfr, (fun k hk => (y_fiZ oY100 (s_sub (by decide) hk)).trans (hz0 k hk)), (by decide), ⟨by omega, by omega⟩, ⟨by omega, by omega⟩, rfl⟩ (fun n ih167 g H locs hq => ?_)
          obtain ⟨F107, ls, w102, rfl, hl, hP, hS, hI, hfr, hz0, h104, h105, h106, hn⟩ := hq
          have oY108 : F107 a0 = .inr (7, y_fl A z0 q0) := (hfr _ (by rw [ha0]; decide)).trans oY0
          have hz0 : ∀ k, k ∈ ([1, 2, 3, 4, 5, 6, 7, 8, 11, 15, 16, 19, 25, 26, 27, 31, 32] : List Nat) → z0 k = z0 k := fun _ _ => rfl
          have hn_108 := hn
          refine th_join (fun g H locs => ∃ (G : Nat → va_E) (ls : Array Slot), g = F0 m 214 ls [] ∧ lv_has ls 7 [(0, .ref a0), (2, .int v1), (3, .int w9), (5, .int w102)] ∧ va_P (dC, dI) vwCl (va_pl L G) H ∧ va_S (fun q => q ∈ L) s.heap H locs ∧ y_I K cs A G ∧ (∀ b, K b ∉ [74] → G b = F b) ∧ (∀ k, k ∈ ([1, 2, 3, 4, 5, 6, 7, 8, 11, 15, 16, 19, 25, 26, 27, 31, 32] : List Nat) → y_fi G a0 k = z0 k) ∧ (0 ≤ v1.toInt ∧ v1.toInt ≤ 190800) ∧ (0 ≤ w9.toInt ∧ w9.toInt ≤ 3) ∧ (0 ≤ w102.toInt ∧ w102.toInt ≤ 7)) (fun K214 => ?_) ?_
          refine th_join (fun g H locs => ∃ (G : Nat → va_E) (ls : Array Slot), g = F0 m 197 ls [] ∧ lv_has ls 7 [(0, .ref a0), (2, .int v1), (3, .int w9), (5, .int w102)] ∧ va_P (dC, dI) vwCl (va_pl L G) H ∧ va_S (fun q => q ∈ L) s.heap H locs ∧ y_I K cs A G ∧ (∀ b, K b ∉ [74] → G b = F b) ∧ (∀ k, k ∈ ([1, 2, 3, 4, 5, 6, 7, 8, 11, 15, 16, 19, 25, 26, 27, 31, 32] : List Nat) → y_fi G a0 k = z0 k) ∧ (0 ≤ v1.toInt ∧ v1.toInt ≤ 190800) ∧ (0 ≤ w9.toInt ∧ w9.toInt ≤ 3) ∧ (0 ≤ w102.toInt ∧ w102.toInt ≤ 7)) (fun K197 => ?_) ?_
          · refine lv_iload hx hb dX7_laysState_167 (lv_at hl 3 rfl) ?_
            refine lv_bipush (v := 8) hx hb dX7_laysState_169 (by decide) ?_
            refine lv_icmp_ge (tgt := 220) hx hb dX7_laysState_171 (by decide) (fun c109 => ?_) (fun c109 => ?_)
            · have c109 := (ax_ge (n := 8) (by decide)).mp c109
              obtain ⟨v110, ev110⟩ : ∃ y : Int32, w9 + 1 = y := ⟨_, rfl⟩
              have qv110 : v110.toInt = w9.toInt + 1 := by rw [← ev110]; exact th_add rfl (by decide) ⟨by omega, by omega⟩
              refine lv_iinc (v := v110) (lv' := [(3, .int v110), (0, .ref a0), (2, .int v1), (5, .int w102)]) hx hb dX7_laysState_220 hl (k := 2) rfl ev110 (by decide) rfl (fun ls hl => ?_)
              refine lv_goto (tgt := 41) hx hb dX7_laysState_223 (by decide) ?_
              exact ih41 _ _ _ _ (by omega) ⟨F107, _, v110, rfl, lv_sub hl [1, 2, 0] rfl, hP, hS, hI, hfr, (fun k hk => (y_fiZ oY108 (s_sub (by decide) hk)).trans (hz0 k hk)), ⟨by omega, by omega⟩, ⟨by omega, by omega⟩, rfl⟩
            · have c109 := mt (ax_ge (n := 8) (by decide)).mpr c109
              refine lv_aload_n hx hb dX7_laysState_174 rfl (lv_at hl 0 rfl) ?_
              refine th_get (D := (dC, dI)) (ci := 7) (v := .ref (A 20)) (C := RX7) (T := TX7) (N := 34) hx hb hts inX7 hown hK hP (hLK _ ha0 (by decide)) oY108 rfl 20 (by decide) (hts _ T_251) (fun _ h9 => h9) rfl dX7_laysState_175 ?_
              refine lv_iconst (v := 3) hx hb dX7_laysState_178 (by decide) ?_
              obtain ⟨f111, o112, b113⟩ := y_op20 hI
              refine th_iald hx hb hK hP (hLK _ (y_k20 hA) (by decide)) 0 o112 rfl (ax_in (by decide)) dX7_laysState_179 ?_
              refine lv_topi (fun v114 ev114 => ?_)
              refine lv_if_eq (tgt := 197) hx hb dX7_laysState_180 (by decide) (fun c115 => ?_) (fun c115 => ?_)
              · have c115 := (ax_eq (n := 0) (by decide)).mp c115
                exact K197 _ _ _ ⟨F107, _, rfl, lv_sub hl [0, 1, 2, 3] rfl, hP, hS, hI, hfr, (fun k hk => (y_fiZ oY108 (s_sub (by decide) hk)).trans (hz0 k hk)), ⟨by omega, by omega⟩, ⟨by omega, by omega⟩, ⟨by omega, by omega⟩⟩
              · have c115 := mt (ax_eq (n := 0) (by decide)).mpr c115
                refine lv_aload_n hx hb dX7_laysState_183 rfl (lv_at hl 0 rfl) ?_
                refine lv_iload_n hx hb dX7_laysState_184 rfl (lv_at hl 2 rfl) ?_
                refine lv_iconst (v := 3) hx hb dX7_laysState_185 (by decide) ?_
                refine va_calli (va_runV (As := [.int w9, .int 3]) (rest := []) ⟨hx, hb, hml, hown, hts⟩ (y_X7_its l dC dI H.size hLK A hA F107 a0 w9 3 ha0 rg77 (by decide) hI) (cwV 2 hts (ax_gV T_1057 T_1059 T_1060 T_265 T_1058) rfl rfl rfl (by decide +kernel) ⟨Nat.le_of_ble_eq_true rfl, Nat.le_of_ble_eq_true rfl⟩) ⟨fun a U g mk q => ⟨q.1, s_pc (U := U) rfl rfl q.2⟩, s_recv hK hP (hLK _ ha0 (by decide)) (ci := 7) rfl oY108, fun U hU hW => ⟨rfl, s_pw hU hW hP hK hD hN⟩⟩ rfl rfl hl.1 rfl (lv_room (Nat.le_of_ble_eq_true rfl)) dX7_laysState_186 ⟨Nat.zero_le _, Nat.zero_le _⟩) hS (fun q _ h => h) (fun q h => h) (fun r117 F118 t H1 locs ht hvm hw hB hz1 hk1 hS => ?_)
                obtain ⟨hP, hK1⟩ := hB
                rw [ht] at hP
                generalize H1 = H at hP hS ⊢
                clear hz1 hk1 hvm hK1
                obtain ⟨h119, h121, hI, hfr1, hzf, h120⟩ := hw
                have o122 : F118 (A 20) = .inl (cs 0, 918, .inl f111) := (hfr1 _ (by rw [(y_k20 hA)]; decide)).trans o112
                have oY123 : F118 a0 = .inr (7, y_fl A z0 q0) := (hfr1 _ (by rw [ha0]; decide)).trans oY108
                have hfr : ∀ b, K b ∉ [74] → F118 b = F b := fun b hb9 => (hfr1 b (fun q => hb9 (s_sub (by decide) q))).trans (hfr b hb9)
                have h120 : (r117 = y_c f111 (104 + 6 * w9.toInt + 3)) := by have q9 := h120; rw [y_atE o112] at q9; exact q9
                have h120 : r117 = y_c f111 (107 + 6 * w9.toInt) := h120.trans (congrArg (y_c f111) (by omega))
                have h124 := congrArg Int32.toInt h120
                refine lv_iload hx hb dX7_laysState_189 (lv_at hl 3 rfl) ?_
                have rg125 : 0 ≤ w102.toInt ∧ w102.toInt ≤ 31 := ⟨by omega, by omega⟩
                refine va_calli (va_runS (As := [.int r117, .int w102]) (rest := []) ⟨hx, hb, hml, hown, hts⟩ (y_X7_isOf l dC dI H.size F118 r117 w102 rg125) (cwS 2 hts (ax_gS T_1027 T_1029 T_265 T_1028) rfl rfl rfl (by decide +kernel) ⟨Nat.le_of_ble_eq_true rfl, Nat.le_of_ble_eq_true rfl⟩) ⟨fun a U g mk q => ⟨q.1, s_pc (U := U) rfl rfl q.2⟩, fun U hU hW => ⟨rfl, s_pw hU hW hP hK hD hN⟩⟩ rfl rfl hl.1 rfl (lv_room (Nat.le_of_ble_eq_true rfl)) dX7_laysState_191 ⟨Nat.zero_le _, Nat.zero_le _⟩) hS (fun q _ h => h) (fun q h => h) (fun r127 F128 t H1 locs ht hvm hw hB hz1 hk1 hS => ?_)
                obtain ⟨hP, hK1⟩ := hB
                rw [ht] at hP
                generalize H1 = H at hP hS ⊢
                clear hz1 hk1 hvm hK1
                obtain ⟨h129, h131, hG9, h130⟩ := hw
                rw [hG9] at hP
                have h130 : ((r127.toInt = 1 ∧ bt r117 w102.toInt.toNat = true) ∨ (r127.toInt = 0 ∧ bt r117 w102.toInt.toNat = false)) := by have q9 := h130; exact q9
                refine lv_if_ne (tgt := 214) hx hb dX7_laysState_194 (by decide) (fun c132 => ?_) (fun c132 => ?_)
                · have c132 := mt (ax_eq (n := 0) (by decide)).mpr c132
                  exact K214 _ _ _ ⟨F118, _, rfl, lv_sub hl [0, 1, 2, 3] rfl, hP, hS, hI, hfr, (fun k hk => (y_fiZ oY123 (s_sub (by decide) hk)).trans (hz0 k hk)), ⟨by omega, by omega⟩, ⟨by omega, by omega⟩, ⟨by omega, by omega⟩⟩
                · have c132 := (ax_eq (n := 0) (by decide)).mp c132
                  exact K197 _ _ _ ⟨F118, _, rfl, lv_sub hl [0, 1, 2, 3] rfl, hP, hS, hI, hfr, (fun k hk => (y_fiZ oY123 (s_sub (by decide) hk)).trans (hz0 k hk)), ⟨by omega, by omega⟩, ⟨by omega, by omega⟩, ⟨by omega, by omega⟩⟩
          · intro g H locs hq
            obtain ⟨F136, ls, rfl, hl, hP, hS, hI, hfr, hz0, h133, h134, h135⟩ := hq
            have oY137 : F136 a0 = .inr (7, y_fl A z0 q0) := (hfr _ (by rw [ha0]; decide)).trans oY0
            have hz0 : ∀ k, k ∈ ([1, 2, 3, 4, 5, 6, 7, 8, 11, 15, 16, 19, 25, 26, 27, 31, 32] : List Nat) → z0 k = z0 k := fun _ _ => rfl
            refine lv_aload_n hx hb dX7_laysState_197 rfl (lv_at hl 0 rfl) ?_
            refine th_get (D := (dC, dI)) (ci := 7) (v := .ref (A 24)) (C := RX7) (T := TX7) (N := 34) hx hb hts inX7 hown hK hP (hLK _ ha0 (by decide)) oY137 rfl 24 (by decide) (hts _ T_256) (fun _ h9 => h9) rfl dX7_laysState_198 ?_
            refine lv_iload_n hx hb dX7_laysState_201 rfl (lv_at hl 1 rfl) ?_
            refine lv_iload_n hx hb dX7_laysState_202 rfl (lv_at hl 2 rfl) ?_
            refine lv_iload hx hb dX7_laysState_203 (lv_at hl 3 rfl) ?_
            have rg138 : 0 ≤ w102.toInt ∧ w102.toInt ≤ 7 := ⟨by omega, by omega⟩
            refine va_calli (va_runS (As := [.int w9, .int w102]) (rest := [.int v1, .ref (A 24)]) ⟨hx, hb, hml, hown, hts⟩ (y_X7_nextAt l dC dI H.size F136 w9 w102 rg77 rg138) (cwS 2 hts (ax_gS T_1024 T_1026 T_265 T_1025) rfl rfl rfl (by decide +kernel) ⟨Nat.le_of_ble_eq_true rfl, Nat.le_of_ble_eq_true rfl⟩) ⟨fun a U g mk q => ⟨q.1, s_pc (U := U) rfl rfl q.2⟩, fun U hU hW => ⟨rfl, s_pw hU hW hP hK hD hN⟩⟩ rfl rfl hl.1 rfl (lv_room (Nat.le_of_ble_eq_true rfl)) dX7_laysState_205 ⟨Nat.zero_le _, Nat.zero_le _⟩) hS (fun q _ h => h) (fun q h => h) (fun r140 F141 t H1 locs ht hvm hw hB hz1 hk1 hS => ?_)
            obtain ⟨hP, hK1⟩ := hB
            rw [ht] at hP
            generalize H1 = H at hP hS ⊢
            clear hz1 hk1 hvm hK1
            obtain ⟨h142, h144, hG9, h143⟩ := hw
            rw [hG9] at hP
            have h143 : (r140.toInt = 256 + 8 * w9.toInt + w102.toInt) := by have q9 := h143; exact q9
            refine lv_iadd hx hb dX7_laysState_208 ?_
            refine lv_topi (fun v145 ev145 => ?_)
            have qv145 : v145.toInt = v1.toInt + r140.toInt := by rw [ev145]; exact th_add rfl rfl ⟨by omega, by omega⟩
            refine lv_bipush (v := 8) hx hb dX7_laysState_209 (by decide) ?_
            refine lv_isub hx hb dX7_laysState_211 ?_
            refine lv_topi (fun v146 ev146 => ?_)
            have qv146 : v146.toInt = v145.toInt - 8 := by rw [ev146]; exact th_sub rfl (by decide) ⟨by omega, by omega⟩
            refine lv_iconst (v := 0) hx hb dX7_laysState_212 (by decide) ?_
            obtain ⟨f147, o148, b149⟩ := y_op24 hI
            refine th_iast hx hb hK hP hD hS (hLK _ (y_k24 hA) (by decide)) 0 o148 rfl (th_in ⟨by omega, by omega⟩) dX7_laysState_213 (fun H locs hP hS => ?_)
            obtain ⟨f150, u151⟩ : ∃ g : Nat → Int32, g = upd f147 (v146 : Int32).toNatClampNeg 0 := ⟨_, rfl⟩
            rw [← u151] at hP
            have b152 : y_bd 24 f150 := trivial
            have hP : va_P (dC, dI) vwCl (va_pl L (va_up F136 (A 24) (.inl (cs 0, 191277, .inl f150)))) H := hP
            obtain ⟨F153, hF154⟩ : ∃ G : Nat → va_E, G = va_up F136 (A 24) (.inl (cs 0, 191277, .inl f150)) := ⟨_, rfl⟩
            rw [← hF154] at hP
            have hI : y_I K cs A F153 := by rw [hF154]; exact y_clA (i := 24) hA hI (by decide) b152
            have hfr : ∀ b, K b ∉ [74] → F153 b = F b := by rw [hF154]; exact s_fr hfr (y_k24 hA) (by decide)
            have oY155 : F153 a0 = .inr (7, y_fl A z0 q0) := by rw [hF154]; exact th_ne (th_kd ha0 (y_k24 hA) (by decide)) oY137
            have o156 : F153 (A 24) = .inl (cs 0, 191277, .inl f150) := by rw [hF154]; exact th_up
            have u157 : ∀ j : Int, 0 ≤ j → y_c f150 j = if j = v146.toInt then 0 else y_c f147 j := by rw [u151]; exact y_cu rfl (by omega)
            exact K214 _ _ _ ⟨F153, _, rfl, lv_sub hl [0, 1, 2, 3] rfl, hP, hS, hI, hfr, (fun k hk => (y_fiZ oY155 (s_sub (by decide) hk)).trans (hz0 k hk)), ⟨by omega, by omega⟩, ⟨by omega, by omega⟩, ⟨by omega, by omega⟩⟩
          · intro g H locs hq
            obtain ⟨F161, ls, rfl, hl, hP, hS, hI, hfr, hz0, h158, h159, h160⟩ := hq
            have oY162 : F161 a0 = .inr (7, y_fl A z0 q0) := (hfr _ (by rw [ha0]; decide)).trans oY0
            have hz0 : ∀ k, k ∈ ([1, 2, 3, 4, 5, 6, 7, 8, 11, 15, 16, 19, 25, 26, 27, 31, 32] : List Nat) → z0 k = z0 k := fun _ _ => rfl
            obtain ⟨v163, ev163⟩ : ∃ y : Int32, w102 + 1 = y := ⟨_, rfl⟩
            have qv163 : v163.toInt = w102.toInt + 1 := by rw [← ev163]; exact th_add rfl (by decide) ⟨by omega, by omega⟩
            refine lv_iinc (v := v163) (lv' := [(5, .int v163), (0, .ref a0), (2, .int v1), (3, .int w9)]) hx hb dX7_laysState_214 hl (k := 3) rfl ev163 (by decide) rfl (fun ls hl => ?_)
            refine lv_goto (tgt := 167) hx hb dX7_laysState_217 (by decide) ?_
            exact ih167 _ _ _ _ (by omega) ⟨F161, _, v163, rfl, lv_sub hl [1, 2, 3, 0] rfl, hP, hS, hI, hfr, (fun k hk => (y_fiZ oY162 (s_sub (by decide) hk)).trans (hz0 k hk)), ⟨by omega, by omega⟩, ⟨by omega, by omega⟩, ⟨by omega, by omega⟩, rfl⟩
        · have c101 := mt (ax_ge (n := 16) (by decide)).mpr c101
          refine lv_iload hx hb dX7_laysState_113 (lv_at hl 3 rfl) ?_
          refine lv_aload_n hx hb dX7_laysState_115 rfl (lv_at hl 0 rfl) ?_
          refine lv_iload_n hx hb dX7_laysState_116 rfl (lv_at hl 2 rfl) ?_
          refine lv_iconst (v := 5) hx hb dX7_laysState_117 (by decide) ?_
          obtain ⟨f164, o165, b166⟩ := y_op20 hI
          refine va_calli (va_runV (As := [.int w9, .int 5]) (rest := [.int w94]) ⟨hx, hb, hml, hown, hts⟩ (y_X7_its l dC dI H.size hLK A hA F99 a0 w9 5 ha0 rg77 (by decide) hI) (cwV 2 hts (ax_gV T_1057 T_1059 T_1060 T_265 T_1058) rfl rfl rfl (by decide +kernel) ⟨Nat.le_of_ble_eq_true rfl, Nat.le_of_ble_eq_true rfl⟩) ⟨fun a U g mk q => ⟨q.1, s_pc (U := U) rfl rfl q.2⟩, s_recv hK hP (hLK _ ha0 (by decide)) (ci := 7) rfl oY100, fun U hU hW => ⟨rfl, s_pw hU hW hP hK hD hN⟩⟩ rfl rfl hl.1 rfl (lv_room (Nat.le_of_ble_eq_true rfl)) dX7_laysState_118 ⟨Nat.zero_le _, Nat.zero_le _⟩) hS (fun q _ h => h) (fun q h => h) (fun r168 F169 t H1 locs ht hvm hw hB hz1 hk1 hS => ?_)
          obtain ⟨hP, hK1⟩ := hB
          rw [ht] at hP
          generalize H1 = H at hP hS ⊢
          clear hz1 hk1 hvm hK1
          obtain ⟨h170, h172, hI, hfr1, hzf, h171⟩ := hw
          have o173 : F169 (A 20) = .inl (cs 0, 918, .inl f164) := (hfr1 _ (by rw [(y_k20 hA)]; decide)).trans o165
          have oY174 : F169 a0 = .inr (7, y_fl A z0 q0) := (hfr1 _ (by rw [ha0]; decide)).trans oY100
          have hfr : ∀ b, K b ∉ [74] → F169 b = F b := fun b hb9 => (hfr1 b (fun q => hb9 (s_sub (by decide) q))).trans (hfr b hb9)
          have h171 : (r168 = y_c f164 (104 + 6 * w9.toInt + 5)) := by have q9 := h171; rw [y_atE o165] at q9; exact q9
          have h171 : r168 = y_c f164 (109 + 6 * w9.toInt) := h171.trans (congrArg (y_c f164) (by omega))
          have h175 := congrArg Int32.toInt h171
          refine lv_icmp_lt (tgt := 158) hx hb dX7_laysState_121 (by decide) (fun c176 => ?_) (fun c176 => ?_)
          · have c176 := Int32.lt_iff_toInt_lt.mp c176
            exact K158 _ _ _ ⟨F169, _, rfl, lv_sub hl [0, 1, 2, 3] rfl, hP, hS, hI, hfr, (fun k hk => (y_fiZ oY174 (s_sub (by decide) hk)).trans (hz0 k hk)), ⟨by omega, by omega⟩, ⟨by omega, by omega⟩, ⟨by omega, by omega⟩⟩
          · have c176 := mt Int32.lt_iff_toInt_lt.mpr c176
            refine lv_iconst (v := 0) hx hb dX7_laysState_124 (by decide) ?_
            refine lv_istore (lv' := [(6, .int 0), (0, .ref a0), (2, .int v1), (3, .int w9), (5, .int w94)]) hx hb dX7_laysState_125 hl (by decide) rfl (fun ls hl => ?_)
            have h178 : (0 : Int32).toInt = 0 := by decide
            refine th_loop (fun n g H locs => ∃ (G : Nat → va_E) (ls : Array Slot) (w177 : Int32), g = F0 m 127 ls [] ∧ lv_has ls 7 [(0, .ref a0), (2, .int v1), (3, .int w9), (5, .int w94), (6, .int w177)] ∧ va_P (dC, dI) vwCl (va_pl L G) H ∧ va_S (fun q => q ∈ L) s.heap H locs ∧ y_I K cs A G ∧ (∀ b, K b ∉ [74] → G b = F b) ∧ (∀ k, k ∈ ([1, 2, 3, 4, 5, 6, 7, 8, 11, 15, 16, 19, 25, 26, 27, 31, 32] : List Nat) → y_fi G a0 k = z0 k) ∧ (0 ≤ w177.toInt ∧ w177.toInt ≤ 3) ∧ (0 ≤ v1.toInt ∧ v1.toInt ≤ 190800) ∧ (0 ≤ w9.toInt ∧ w9.toInt ≤ 3) ∧ (0 ≤ w94.toInt ∧ w94.toInt ≤ 15) ∧ n = (4 - w177.toInt).toNat) _ ⟨F169, _, 0, rfl, lv_sub hl [1, 2, 3, 4, 0] rfl, hP, hS, hI, hfr, (fun k hk => (y_fiZ oY174 (s_sub (by decide) hk)).trans (hz0 k hk)), (by decide), ⟨by omega, by omega⟩, ⟨by omega, by omega⟩, ⟨by omega, by omega⟩, rfl⟩ (fun n ih127 g H locs hq => ?_)
            obtain ⟨F183, ls, w177, rfl, hl, hP, hS, hI, hfr, hz0, h179, h180, h181, h182, hn⟩ := hq
            have oY184 : F183 a0 = .inr (7, y_fl A z0 q0) := (hfr _ (by rw [ha0]; decide)).trans oY0
            have hz0 : ∀ k, k ∈ ([1, 2, 3, 4, 5, 6, 7, 8, 11, 15, 16, 19, 25, 26, 27, 31, 32] : List Nat) → z0 k = z0 k := fun _ _ => rfl
            have hn_184 := hn
            refine lv_iload hx hb dX7_laysState_127 (lv_at hl 4 rfl) ?_
            refine lv_iconst (v := 3) hx hb dX7_laysState_129 (by decide) ?_
            refine lv_icmp_ge (tgt := 158) hx hb dX7_laysState_130 (by decide) (fun c185 => ?_) (fun c185 => ?_)
            · have c185 := (ax_ge (n := 3) (by decide)).mp c185
              exact K158 _ _ _ ⟨F183, _, rfl, lv_sub hl [0, 1, 2, 3] rfl, hP, hS, hI, hfr, (fun k hk => (y_fiZ oY184 (s_sub (by decide) hk)).trans (hz0 k hk)), ⟨by omega, by omega⟩, ⟨by omega, by omega⟩, ⟨by omega, by omega⟩⟩
            · have c185 := mt (ax_ge (n := 3) (by decide)).mpr c185
              refine lv_aload_n hx hb dX7_laysState_133 rfl (lv_at hl 0 rfl) ?_
              refine th_get (D := (dC, dI)) (ci := 7) (v := .ref (A 24)) (C := RX7) (T := TX7) (N := 34) hx hb hts inX7 hown hK hP (hLK _ ha0 (by decide)) oY184 rfl 24 (by decide) (hts _ T_256) (fun _ h9 => h9) rfl dX7_laysState_134 ?_
              refine lv_iload_n hx hb dX7_laysState_137 rfl (lv_at hl 1 rfl) ?_
              refine lv_iload_n hx hb dX7_laysState_138 rfl (lv_at hl 2 rfl) ?_
              refine lv_iload hx hb dX7_laysState_139 (lv_at hl 3 rfl) ?_
              refine lv_iload hx hb dX7_laysState_141 (lv_at hl 4 rfl) ?_
              have rg186 : 0 ≤ w94.toInt ∧ w94.toInt ≤ 15 := ⟨by omega, by omega⟩
              have rg187 : 0 ≤ w177.toInt ∧ w177.toInt ≤ 2 := ⟨by omega, by omega⟩
              refine va_calli (va_runS (As := [.int w9, .int w94, .int w177]) (rest := [.int v1, .ref (A 24)]) ⟨hx, hb, hml, hown, hts⟩ (y_X7_partAt l dC dI H.size F183 w9 w94 w177 rg77 rg186 rg187) (cwS 3 hts (ax_gS T_1078 T_1080 T_265 T_1079) rfl rfl rfl (by decide +kernel) ⟨Nat.le_of_ble_eq_true rfl, Nat.le_of_ble_eq_true rfl⟩) ⟨fun a U g mk q => ⟨q.1, s_pc (U := U) rfl rfl q.2⟩, fun U hU hW => ⟨rfl, s_pw hU hW hP hK hD hN⟩⟩ rfl rfl hl.1 rfl (lv_room (Nat.le_of_ble_eq_true rfl)) dX7_laysState_143 ⟨Nat.zero_le _, Nat.zero_le _⟩) hS (fun q _ h => h) (fun q h => h) (fun r189 F190 t H1 locs ht hvm hw hB hz1 hk1 hS => ?_)
              obtain ⟨hP, hK1⟩ := hB
              rw [ht] at hP
              generalize H1 = H at hP hS ⊢
              clear hz1 hk1 hvm hK1
              obtain ⟨h191, h193, hG9, h192⟩ := hw
              rw [hG9] at hP
              have h192 : (r189.toInt = 288 + 48 * w9.toInt + 3 * w94.toInt + w177.toInt) := by have q9 := h192; exact q9
              refine lv_iadd hx hb dX7_laysState_146 ?_
              refine lv_topi (fun v194 ev194 => ?_)
              have qv194 : v194.toInt = v1.toInt + r189.toInt := by rw [ev194]; exact th_add rfl rfl ⟨by omega, by omega⟩
              refine lv_bipush (v := 8) hx hb dX7_laysState_147 (by decide) ?_
              refine lv_isub hx hb dX7_laysState_149 ?_
              refine lv_topi (fun v195 ev195 => ?_)
              have qv195 : v195.toInt = v194.toInt - 8 := by rw [ev195]; exact th_sub rfl (by decide) ⟨by omega, by omega⟩
              refine lv_iconst (v := 0) hx hb dX7_laysState_150 (by decide) ?_
              obtain ⟨f196, o197, b198⟩ := y_op24 hI
              refine th_iast hx hb hK hP hD hS (hLK _ (y_k24 hA) (by decide)) 0 o197 rfl (th_in ⟨by omega, by omega⟩) dX7_laysState_151 (fun H locs hP hS => ?_)
              obtain ⟨f199, u200⟩ : ∃ g : Nat → Int32, g = upd f196 (v195 : Int32).toNatClampNeg 0 := ⟨_, rfl⟩
              rw [← u200] at hP
              have b201 : y_bd 24 f199 := trivial
              have hP : va_P (dC, dI) vwCl (va_pl L (va_up F183 (A 24) (.inl (cs 0, 191277, .inl f199)))) H := hP
              obtain ⟨F202, hF203⟩ : ∃ G : Nat → va_E, G = va_up F183 (A 24) (.inl (cs 0, 191277, .inl f199)) := ⟨_, rfl⟩
              rw [← hF203] at hP
              have hI : y_I K cs A F202 := by rw [hF203]; exact y_clA (i := 24) hA hI (by decide) b201
              have hfr : ∀ b, K b ∉ [74] → F202 b = F b := by rw [hF203]; exact s_fr hfr (y_k24 hA) (by decide)
              have oY204 : F202 a0 = .inr (7, y_fl A z0 q0) := by rw [hF203]; exact th_ne (th_kd ha0 (y_k24 hA) (by decide)) oY184
              have o205 : F202 (A 24) = .inl (cs 0, 191277, .inl f199) := by rw [hF203]; exact th_up
              have u206 : ∀ j : Int, 0 ≤ j → y_c f199 j = if j = v195.toInt then 0 else y_c f196 j := by rw [u200]; exact y_cu rfl (by omega)
              obtain ⟨v207, ev207⟩ : ∃ y : Int32, w177 + 1 = y := ⟨_, rfl⟩
              have qv207 : v207.toInt = w177.toInt + 1 := by rw [← ev207]; exact th_add rfl (by decide) ⟨by omega, by omega⟩
              refine lv_iinc (v := v207) (lv' := [(6, .int v207), (0, .ref a0), (2, .int v1), (3, .int w9), (5, .int w94)]) hx hb dX7_laysState_152 hl (k := 4) rfl ev207 (by decide) rfl (fun ls hl => ?_)
              refine lv_goto (tgt := 127) hx hb dX7_laysState_155 (by decide) ?_
              exact ih127 _ _ _ _ (by omega) ⟨F202, _, v207, rfl, lv_sub hl [1, 2, 3, 4, 0] rfl, hP, hS, hI, hfr, (fun k hk => (y_fiZ oY204 (s_sub (by decide) hk)).trans (hz0 k hk)), ⟨by omega, by omega⟩, ⟨by omega, by omega⟩, ⟨by omega, by omega⟩, ⟨by omega, by omega⟩, rfl⟩
      · intro g H locs hq
        obtain ⟨F211, ls, rfl, hl, hP, hS, hI, hfr, hz0, h208, h209, h210⟩ := hq
        have oY212 : F211 a0 = .inr (7, y_fl A z0 q0) := (hfr _ (by rw [ha0]; decide)).trans oY0
        have hz0 : ∀ k, k ∈ ([1, 2, 3, 4, 5, 6, 7, 8, 11, 15, 16, 19, 25, 26, 27, 31, 32] : List Nat) → z0 k = z0 k := fun _ _ => rfl
        obtain ⟨v213, ev213⟩ : ∃ y : Int32, w94 + 1 = y := ⟨_, rfl⟩
        have qv213 : v213.toInt = w94.toInt + 1 := by rw [← ev213]; exact th_add rfl (by decide) ⟨by omega, by omega⟩
        refine lv_iinc (v := v213) (lv' := [(5, .int v213), (0, .ref a0), (2, .int v1), (3, .int w9)]) hx hb dX7_laysState_158 hl (k := 3) rfl ev213 (by decide) rfl (fun ls hl => ?_)
        refine lv_goto (tgt := 106) hx hb dX7_laysState_161 (by decide) ?_
        exact ih106 _ _ _ _ (by omega) ⟨F211, _, v213, rfl, lv_sub hl [1, 2, 3, 0] rfl, hP, hS, hI, hfr, (fun k hk => (y_fiZ oY212 (s_sub (by decide) hk)).trans (hz0 k hk)), ⟨by omega, by omega⟩, ⟨by omega, by omega⟩, ⟨by omega, by omega⟩, rfl⟩
  · have c8 := mt (ax_ge (n := 480) (by decide)).mpr c8
    refine lv_aload_n hx hb dX7_laysState_16 rfl (lv_at hl 0 rfl) ?_
    refine th_get (D := (dC, dI)) (ci := 7) (v := .ref (A 24)) (C := RX7) (T := TX7) (N := 34) hx hb hts inX7 hown hK hP (hLK _ ha0 (by decide)) oY7 rfl 24 (by decide) (hts _ T_256) (fun _ h9 => h9) rfl dX7_laysState_17 ?_
    refine lv_iload_n hx hb dX7_laysState_20 rfl (lv_at hl 1 rfl) ?_
    refine lv_iload_n hx hb dX7_laysState_21 rfl (lv_at hl 2 rfl) ?_
    refine lv_iadd hx hb dX7_laysState_22 ?_
    refine lv_topi (fun v214 ev214 => ?_)
    have qv214 : v214.toInt = v1.toInt + w2.toInt := by rw [ev214]; exact th_add rfl rfl ⟨by omega, by omega⟩
    refine lv_bipush (v := 8) hx hb dX7_laysState_23 (by decide) ?_
    refine lv_isub hx hb dX7_laysState_25 ?_
    refine lv_topi (fun v215 ev215 => ?_)
    have qv215 : v215.toInt = v214.toInt - 8 := by rw [ev215]; exact th_sub rfl (by decide) ⟨by omega, by omega⟩
    refine lv_aload_n hx hb dX7_laysState_26 rfl (lv_at hl 0 rfl) ?_
    refine th_get (D := (dC, dI)) (ci := 7) (v := .ref (A 20)) (C := RX7) (T := TX7) (N := 34) hx hb hts inX7 hown hK hP (hLK _ ha0 (by decide)) oY7 rfl 20 (by decide) (hts _ T_251) (fun _ h9 => h9) rfl dX7_laysState_27 ?_
    refine lv_iload_n hx hb dX7_laysState_30 rfl (lv_at hl 2 rfl) ?_
    obtain ⟨f216, o217, b218⟩ := y_op20 hI
    refine th_iald hx hb hK hP (hLK _ (y_k20 hA) (by decide)) 0 o217 rfl (th_in ⟨by omega, by omega⟩) dX7_laysState_31 ?_
    refine lv_topi (fun v219 ev219 => ?_)
    obtain ⟨f220, o221, b222⟩ := y_op24 hI
    refine th_iast hx hb hK hP hD hS (hLK _ (y_k24 hA) (by decide)) 0 o221 rfl (th_in ⟨by omega, by omega⟩) dX7_laysState_32 (fun H locs hP hS => ?_)
    obtain ⟨f223, u224⟩ : ∃ g : Nat → Int32, g = upd f220 (v215 : Int32).toNatClampNeg v219 := ⟨_, rfl⟩
    rw [← u224] at hP
    have b225 : y_bd 24 f223 := trivial
    have hP : va_P (dC, dI) vwCl (va_pl L (va_up F6 (A 24) (.inl (cs 0, 191277, .inl f223)))) H := hP
    obtain ⟨F226, hF227⟩ : ∃ G : Nat → va_E, G = va_up F6 (A 24) (.inl (cs 0, 191277, .inl f223)) := ⟨_, rfl⟩
    rw [← hF227] at hP
    have hI : y_I K cs A F226 := by rw [hF227]; exact y_clA (i := 24) hA hI (by decide) b225
    have hfr : ∀ b, K b ∉ [74] → F226 b = F b := by rw [hF227]; exact s_fr hfr (y_k24 hA) (by decide)
    have o228 : F226 (A 20) = .inl (cs 0, 918, .inl f216) := by rw [hF227]; exact th_ne (th_kd (y_k20 hA) (y_k24 hA) (by decide)) o217
    have oY229 : F226 a0 = .inr (7, y_fl A z0 q0) := by rw [hF227]; exact th_ne (th_kd ha0 (y_k24 hA) (by decide)) oY7
    have o230 : F226 (A 24) = .inl (cs 0, 191277, .inl f223) := by rw [hF227]; exact th_up
    have u231 : ∀ j : Int, 0 ≤ j → y_c f223 j = if j = v215.toInt then v219 else y_c f220 j := by rw [u224]; exact y_cu rfl (by omega)
    obtain ⟨v232, ev232⟩ : ∃ y : Int32, w2 + 1 = y := ⟨_, rfl⟩
    have qv232 : v232.toInt = w2.toInt + 1 := by rw [← ev232]; exact th_add rfl (by decide) ⟨by omega, by omega⟩
    refine lv_iinc (v := v232) (lv' := [(3, .int v232), (0, .ref a0), (2, .int v1)]) hx hb dX7_laysState_33 hl (k := 2) rfl ev232 (by decide) rfl (fun ls hl => ?_)
    refine lv_goto (tgt := 9) hx hb dX7_laysState_36 (by decide) ?_
    exact ih9 _ _ _ _ (by omega) ⟨F226, _, v232, rfl, lv_sub hl [1, 2, 0] rfl, hP, hS, hI, hfr, (fun k hk => (y_fiZ oY229 (s_sub (by decide) hk)).trans (hz0 k hk)), ⟨by omega, by omega⟩, ⟨by omega, by omega⟩, rfl⟩

set_option maxHeartbeats 4000000 in
set_option maxRecDepth 100000 in
theorem yt_X7_areAlike (l : Launch) (dC : Nat → ClassId) (dI : Nat → Nat → Nat) (sz : Nat) {L : List Nat} {K : Nat → Nat} {cs : Nat → ClassId} (hLK : ∀ a {k : Nat}, K a = k → k ≠ 0 → a ∈ L) (A : Nat → Nat) (hA : y_A K A) (F : Nat → va_E) (a0 : Nat) (x1 : Int32) (x2 : Int32) (ha0 : K a0 = 9) (hx1 : 0 ≤ x1.toInt ∧ x1.toInt ≤ 400) (hx2 : 0 ≤ x2.toInt ∧ x2.toInt ≤ 400) (hI : y_I K cs A F) : Met l yX7_areAlike (Cond.code yX7_areAlike cX7_areAlike 4 (some .boolean) :: T0) ({ frames := 0, cells := 0, slots := 0, locals := 0 }) (va_Pc [.ref a0, .int x1, .int x2] (s_W dC dI sz L F [(cs 0, .int), (cs 1, .byte), (cs 2, .long), (cs 3, .object RX5), (cs 4, .object RX4), (cs 5, .array .int), (cs 6, .char), (cs 7, .boolean)])) (va_Qi (fun (r : Int32) (G : Nat → va_E) => (0 ≤ r.toInt ∧ r.toInt ≤ 1) ∧ True ∧ y_I K cs A G ∧ (∀ b, K b ∉ ([] : List Nat) → G b = F b) ∧ (∀ k, k ∈ ([1, 2, 3, 4, 5, 6, 7, 8, 11, 15, 16, 19, 25, 26, 27, 31, 32] : List Nat) → y_fi G a0 k = y_fi F a0 k) ∧ True) (fun (G : Nat → va_E) (t : State) => va_P (dC, dI) vwCl (va_pl L G) t.heap ∧ va_K (dC, dI) vwCl [(cs 0, .int), (cs 1, .byte), (cs 2, .long), (cs 3, .object RX5), (cs 4, .object RX4), (cs 5, .array .int), (cs 6, .char), (cs 7, .boolean)] t) (fun q => q ∈ L)) 0 0 (fun q => q ∈ L) := by
  refine Met.ofW (cc := cX7_areAlike) (maxL := 4) (ret := (some .boolean)) (by decide) rfl ?_
  intro p e s m args below meth c s₁ B hml hv
  obtain ⟨rfl, hsz, hP, hK, hD, hN⟩ := hv
  have hx := B.exec
  have hb := B.bytes
  have hr := B.returns
  have hts : ∀ w ∈ T0, w.before _ s = true := fun w h => atoms_spec (ws := Cond.code yX7_areAlike cX7_areAlike 4 (some .boolean) :: T0) B.pre w (List.mem_cons_of_mem _ h)
  have hown : s.vm.findClass RX7 = some m.cls := findClass_of_methodNamed B.named
  have hlocks := B.notSynchronized
  have hS : va_S (fun q => q ∈ L) s.heap s.heap [] := va_S.rf
  have hfr : ∀ b, K b ∉ ([] : List Nat) → F b = F b := fun _ _ => rfl
  have hl := lv_entry ([.ref a0, .int x1, .int x2]) (n := 4) (Nat.le_of_ble_eq_true rfl)
  rw [lg_entry_eq]
  generalize (lg_sl ([.ref a0, .int x1, .int x2]) ++ List.replicate (4 - (lg_sl ([.ref a0, .int x1, .int x2])).length) Slot.unset).toArray = ls at hl ⊢
  have hl : lv_has ls 4 [(0, .ref a0), (1, .int x1), (2, .int x2)] := hl
  refine s_gen hP hS (fun H locs hP hS => ?_)
  obtain ⟨z0, q0, oY0, bz0, bq0⟩ := y_opY hI ha0
  have hz0 : ∀ k, k ∈ ([1, 2, 3, 4, 5, 6, 7, 8, 11, 15, 16, 19, 25, 26, 27, 31, 32] : List Nat) → z0 k = z0 k := fun _ _ => rfl
  refine lv_iconst (v := 0) hx hb dX7_areAlike_0 (by decide) ?_
  refine lv_istore_n (lv' := [(3, .int 0), (0, .ref a0), (1, .int x1), (2, .int x2)]) hx hb dX7_areAlike_1 rfl hl (by decide) rfl (fun ls hl => ?_)
  have h2 : (0 : Int32).toInt = 0 := by decide
  refine th_loop (fun n g H locs => ∃ (G : Nat → va_E) (ls : Array Slot) (w1 : Int32), g = F0 m 2 ls [] ∧ lv_has ls 4 [(0, .ref a0), (1, .int x1), (2, .int x2), (3, .int w1)] ∧ va_P (dC, dI) vwCl (va_pl L G) H ∧ va_S (fun q => q ∈ L) s.heap H locs ∧ y_I K cs A G ∧ (∀ b, K b ∉ ([] : List Nat) → G b = F b) ∧ (∀ k, k ∈ ([1, 2, 3, 4, 5, 6, 7, 8, 11, 15, 16, 19, 25, 26, 27, 31, 32] : List Nat) → y_fi G a0 k = z0 k) ∧ (0 ≤ w1.toInt ∧ w1.toInt ≤ 473) ∧ (0 ≤ x1.toInt ∧ x1.toInt ≤ 400) ∧ (0 ≤ x2.toInt ∧ x2.toInt ≤ 400) ∧ n = (474 - w1.toInt).toNat) _ ⟨F, _, 0, rfl, lv_sub hl [1, 2, 3, 0] rfl, hP, hS, hI, hfr, (fun k hk => (y_fiZ oY0 (s_sub (by decide) hk)).trans (hz0 k hk)), (by decide), ⟨by omega, by omega⟩, ⟨by omega, by omega⟩, rfl⟩ (fun n ih2 g H locs hq => ?_)
  obtain ⟨F6, ls, w1, rfl, hl, hP, hS, hI, hfr, hz0, h3, h4, h5, hn⟩ := hq
  have oY7 : F6 a0 = .inr (7, y_fl A z0 q0) := (hfr _ (by rw [ha0]; decide)).trans oY0
  have hz0 : ∀ k, k ∈ ([1, 2, 3, 4, 5, 6, 7, 8, 11, 15, 16, 19, 25, 26, 27, 31, 32] : List Nat) → z0 k = z0 k := fun _ _ => rfl
  have hn_7 := hn
  refine lv_iload_n hx hb dX7_areAlike_2 rfl (lv_at hl 3 rfl) ?_
  refine lv_sipush (v := 473) hx hb dX7_areAlike_3 (by decide) ?_
  refine lv_icmp_ge (tgt := 44) hx hb dX7_areAlike_6 (by decide) (fun c8 => ?_) (fun c8 => ?_)
  · have c8 := (ax_ge (n := 473) (by decide)).mp c8
    refine lv_iconst (v := 1) hx hb dX7_areAlike_44 (by decide) ?_
    have h9 : (1 : Int32).toInt = 1 := by decide
    exact W.zret (v := 1) (ty := .boolean) hx hb hr (by decide) (fun t ht hW => ⟨⟨1, F6, rfl, ⟨(by decide), trivial, hI, hfr, fun k hk => (y_fiZ oY7 (s_sub (by decide) hk)).trans ((hz0 k hk).trans (y_fiZ oY0 (s_sub (by decide) hk)).symm), trivial⟩, by rw [ht]; exact hP, va_K.moved hW.alike hK⟩, hS.F ht⟩) hS.2.2 dX7_areAlike_45
  · have c8 := mt (ax_ge (n := 473) (by decide)).mpr c8
    refine lv_aload_n hx hb dX7_areAlike_9 rfl (lv_at hl 0 rfl) ?_
    refine th_get (D := (dC, dI)) (ci := 7) (v := .ref (A 24)) (C := RX7) (T := TX7) (N := 34) hx hb hts inX7 hown hK hP (hLK _ ha0 (by decide)) oY7 rfl 24 (by decide) (hts _ T_256) (fun _ h9 => h9) rfl dX7_areAlike_10 ?_
    refine lv_sipush (v := 477) hx hb dX7_areAlike_13 (by decide) ?_
    refine lv_iload_n hx hb dX7_areAlike_16 rfl (lv_at hl 1 rfl) ?_
    refine lv_imul hx hb dX7_areAlike_17 ?_
    refine lv_topi (fun v10 ev10 => ?_)
    have qv10 : v10.toInt = 477 * x1.toInt := by rw [ev10]; exact th_mul (by decide) rfl ⟨by omega, by omega⟩
    refine lv_iload_n hx hb dX7_areAlike_18 rfl (lv_at hl 3 rfl) ?_
    refine lv_iadd hx hb dX7_areAlike_19 ?_
    refine lv_topi (fun v11 ev11 => ?_)
    have qv11 : v11.toInt = v10.toInt + w1.toInt := by rw [ev11]; exact th_add rfl rfl ⟨by omega, by omega⟩
    obtain ⟨f12, o13, b14⟩ := y_op24 hI
    refine th_iald hx hb hK hP (hLK _ (y_k24 hA) (by decide)) 0 o13 rfl (th_in ⟨by omega, by omega⟩) dX7_areAlike_20 ?_
    refine lv_topi (fun v15 ev15 => ?_)
    refine lv_aload_n hx hb dX7_areAlike_21 rfl (lv_at hl 0 rfl) ?_
    refine th_get (D := (dC, dI)) (ci := 7) (v := .ref (A 24)) (C := RX7) (T := TX7) (N := 34) hx hb hts inX7 hown hK hP (hLK _ ha0 (by decide)) oY7 rfl 24 (by decide) (hts _ T_256) (fun _ h9 => h9) rfl dX7_areAlike_22 ?_
    refine lv_sipush (v := 477) hx hb dX7_areAlike_25 (by decide) ?_
    refine lv_iload_n hx hb dX7_areAlike_28 rfl (lv_at hl 2 rfl) ?_
    refine lv_imul hx hb dX7_areAlike_29 ?_
    refine lv_topi (fun v16 ev16 => ?_)
    have qv16 : v16.toInt = 477 * x2.toInt := by rw [ev16]; exact th_mul (by decide) rfl ⟨by omega, by omega⟩
    refine lv_iload_n hx hb dX7_areAlike_30 rfl (lv_at hl 3 rfl) ?_
    refine lv_iadd hx hb dX7_areAlike_31 ?_
    refine lv_topi (fun v17 ev17 => ?_)
    have qv17 : v17.toInt = v16.toInt + w1.toInt := by rw [ev17]; exact th_add rfl rfl ⟨by omega, by omega⟩
    refine th_iald hx hb hK hP (hLK _ (y_k24 hA) (by decide)) 0 o13 rfl (th_in ⟨by omega, by omega⟩) dX7_areAlike_32 ?_
    refine lv_topi (fun v18 ev18 => ?_)
    refine lv_icmp_eq (tgt := 38) hx hb dX7_areAlike_33 (by decide) (fun c19 => ?_) (fun c19 => ?_)
    · have c19 := Int32.toInt_inj.symm.mp c19
      obtain ⟨v20, ev20⟩ : ∃ y : Int32, w1 + 1 = y := ⟨_, rfl⟩
      have qv20 : v20.toInt = w1.toInt + 1 := by rw [← ev20]; exact th_add rfl (by decide) ⟨by omega, by omega⟩
      refine lv_iinc (v := v20) (lv' := [(3, .int v20), (0, .ref a0), (1, .int x1), (2, .int x2)]) hx hb dX7_areAlike_38 hl (k := 3) rfl ev20 (by decide) rfl (fun ls hl => ?_)
      refine lv_goto (tgt := 2) hx hb dX7_areAlike_41 (by decide) ?_
      exact ih2 _ _ _ _ (by omega) ⟨F6, _, v20, rfl, lv_sub hl [1, 2, 3, 0] rfl, hP, hS, hI, hfr, (fun k hk => (y_fiZ oY7 (s_sub (by decide) hk)).trans (hz0 k hk)), ⟨by omega, by omega⟩, ⟨by omega, by omega⟩, ⟨by omega, by omega⟩, rfl⟩
    · have c19 := mt Int32.toInt_inj.symm.mpr c19
      refine lv_iconst (v := 0) hx hb dX7_areAlike_36 (by decide) ?_
      have h21 : (0 : Int32).toInt = 0 := by decide
      exact W.zret (v := 0) (ty := .boolean) hx hb hr (by decide) (fun t ht hW => ⟨⟨0, F6, rfl, ⟨(by decide), trivial, hI, hfr, fun k hk => (y_fiZ oY7 (s_sub (by decide) hk)).trans ((hz0 k hk).trans (y_fiZ oY0 (s_sub (by decide) hk)).symm), trivial⟩, by rw [ht]; exact hP, va_K.moved hW.alike hK⟩, hS.F ht⟩) hS.2.2 dX7_areAlike_37

set_option maxHeartbeats 4000000 in
set_option maxRecDepth 100000 in
theorem yt_X7_likeOf (l : Launch) (dC : Nat → ClassId) (dI : Nat → Nat → Nat) (sz : Nat) {L : List Nat} {K : Nat → Nat} {cs : Nat → ClassId} (hLK : ∀ a {k : Nat}, K a = k → k ≠ 0 → a ∈ L) (A : Nat → Nat) (hA : y_A K A) (F : Nat → va_E) (a0 : Nat) (x1 : Int32) (ha0 : K a0 = 9) (hx1 : 0 ≤ x1.toInt ∧ x1.toInt ≤ 400) (hI : y_I K cs A F) : Met l yX7_likeOf (Cond.code yX7_likeOf cX7_likeOf 3 (some .int) :: T0) ({ frames := 1, cells := 0, slots := 0, locals := 23 }) (va_Pc [.ref a0, .int x1] (s_W dC dI sz L F [(cs 0, .int), (cs 1, .byte), (cs 2, .long), (cs 3, .object RX5), (cs 4, .object RX4), (cs 5, .array .int), (cs 6, .char), (cs 7, .boolean)])) (va_Qi (fun (r : Int32) (G : Nat → va_E) => (-1 ≤ r.toInt ∧ r.toInt ≤ 399) ∧ True ∧ y_I K cs A G ∧ (∀ b, K b ∉ ([] : List Nat) → G b = F b) ∧ (∀ k, k ∈ ([1, 2, 3, 4, 5, 6, 7, 8, 11, 15, 16, 19, 25, 26, 27, 31, 32] : List Nat) → y_fi G a0 k = y_fi F a0 k) ∧ True) (fun (G : Nat → va_E) (t : State) => va_P (dC, dI) vwCl (va_pl L G) t.heap ∧ va_K (dC, dI) vwCl [(cs 0, .int), (cs 1, .byte), (cs 2, .long), (cs 3, .object RX5), (cs 4, .object RX4), (cs 5, .array .int), (cs 6, .char), (cs 7, .boolean)] t) (fun q => q ∈ L)) 0 0 (fun q => q ∈ L) := by
  refine Met.ofW (cc := cX7_likeOf) (maxL := 3) (ret := (some .int)) (by decide) rfl ?_
  intro p e s m args below meth c s₁ B hml hv
  obtain ⟨rfl, hsz, hP, hK, hD, hN⟩ := hv
  have hx := B.exec
  have hb := B.bytes
  have hr := B.returns
  have hts : ∀ w ∈ T0, w.before _ s = true := fun w h => atoms_spec (ws := Cond.code yX7_likeOf cX7_likeOf 3 (some .int) :: T0) B.pre w (List.mem_cons_of_mem _ h)
  have hown : s.vm.findClass RX7 = some m.cls := findClass_of_methodNamed B.named
  have hlocks := B.notSynchronized
  have hS : va_S (fun q => q ∈ L) s.heap s.heap [] := va_S.rf
  have hfr : ∀ b, K b ∉ ([] : List Nat) → F b = F b := fun _ _ => rfl
  have hl := lv_entry ([.ref a0, .int x1]) (n := 3) (Nat.le_of_ble_eq_true rfl)
  rw [lg_entry_eq]
  generalize (lg_sl ([.ref a0, .int x1]) ++ List.replicate (3 - (lg_sl ([.ref a0, .int x1])).length) Slot.unset).toArray = ls at hl ⊢
  have hl : lv_has ls 3 [(0, .ref a0), (1, .int x1)] := hl
  refine s_gen hP hS (fun H locs hP hS => ?_)
  obtain ⟨z0, q0, oY0, bz0, bq0⟩ := y_opY hI ha0
  have hz0 : ∀ k, k ∈ ([1, 2, 3, 4, 5, 6, 7, 8, 11, 15, 16, 19, 25, 26, 27, 31, 32] : List Nat) → z0 k = z0 k := fun _ _ => rfl
  refine lv_iload_n hx hb dX7_likeOf_0 rfl (lv_at hl 1 rfl) ?_
  refine lv_iconst (v := 1) hx hb dX7_likeOf_1 (by decide) ?_
  refine lv_isub hx hb dX7_likeOf_2 ?_
  refine lv_topi (fun v1 ev1 => ?_)
  have qv1 : v1.toInt = x1.toInt - 1 := by rw [ev1]; exact th_sub rfl (by decide) ⟨by omega, by omega⟩
  refine lv_istore_n (lv' := [(2, .int v1), (0, .ref a0), (1, .int x1)]) hx hb dX7_likeOf_3 rfl hl (by decide) rfl (fun ls hl => ?_)
  refine th_loop (fun n g H locs => ∃ (G : Nat → va_E) (ls : Array Slot) (w2 : Int32), g = F0 m 4 ls [] ∧ lv_has ls 3 [(0, .ref a0), (1, .int x1), (2, .int w2)] ∧ va_P (dC, dI) vwCl (va_pl L G) H ∧ va_S (fun q => q ∈ L) s.heap H locs ∧ y_I K cs A G ∧ (∀ b, K b ∉ ([] : List Nat) → G b = F b) ∧ (∀ k, k ∈ ([1, 2, 3, 4, 5, 6, 7, 8, 11, 15, 16, 19, 25, 26, 27, 31, 32] : List Nat) → y_fi G a0 k = z0 k) ∧ (-1 ≤ w2.toInt ∧ w2.toInt ≤ 399) ∧ (0 ≤ x1.toInt ∧ x1.toInt ≤ 400) ∧ n = (w2.toInt - (-2)).toNat) _ ⟨F, _, v1, rfl, lv_sub hl [1, 2, 0] rfl, hP, hS, hI, hfr, (fun k hk => (y_fiZ oY0 (s_sub (by decide) hk)).trans (hz0 k hk)), ⟨by omega, by omega⟩, ⟨by omega, by omega⟩, rfl⟩ (fun n ih4 g H locs hq => ?_)
  obtain ⟨F5, ls, w2, rfl, hl, hP, hS, hI, hfr, hz0, h3, h4, hn⟩ := hq
  have oY6 : F5 a0 = .inr (7, y_fl A z0 q0) := (hfr _ (by rw [ha0]; decide)).trans oY0
  have hz0 : ∀ k, k ∈ ([1, 2, 3, 4, 5, 6, 7, 8, 11, 15, 16, 19, 25, 26, 27, 31, 32] : List Nat) → z0 k = z0 k := fun _ _ => rfl
  have hn_6 := hn
  refine lv_iload_n hx hb dX7_likeOf_4 rfl (lv_at hl 2 rfl) ?_
  refine lv_if_lt (tgt := 25) hx hb dX7_likeOf_5 (by decide) (fun c7 => ?_) (fun c7 => ?_)
  · have c7 := (ax_lt (n := 0) (by decide)).mp c7
    refine lv_iconst (v := (-1)) hx hb dX7_likeOf_25 (by decide) ?_
    have h8 : ((-1) : Int32).toInt = (-1) := by decide
    exact W.iret (v := (-1)) hx hb hr (fun t ht hW => ⟨⟨(-1), F5, rfl, ⟨(by decide), trivial, hI, hfr, fun k hk => (y_fiZ oY6 (s_sub (by decide) hk)).trans ((hz0 k hk).trans (y_fiZ oY0 (s_sub (by decide) hk)).symm), trivial⟩, by rw [ht]; exact hP, va_K.moved hW.alike hK⟩, hS.F ht⟩) hS.2.2 dX7_likeOf_26
  · have c7 := mt (ax_lt (n := 0) (by decide)).mpr c7
    refine lv_aload_n hx hb dX7_likeOf_8 rfl (lv_at hl 0 rfl) ?_
    refine lv_iload_n hx hb dX7_likeOf_9 rfl (lv_at hl 2 rfl) ?_
    refine lv_iload_n hx hb dX7_likeOf_10 rfl (lv_at hl 1 rfl) ?_
    have rg9 : 0 ≤ w2.toInt ∧ w2.toInt ≤ 400 := ⟨by omega, by omega⟩
    have rg10 : 0 ≤ x1.toInt ∧ x1.toInt ≤ 400 := ⟨by omega, by omega⟩
    refine va_calli (va_runV (As := [.int w2, .int x1]) (rest := []) ⟨hx, hb, hml, hown, hts⟩ (y_X7_areAlike l dC dI H.size hLK A hA F5 a0 w2 x1 ha0 rg9 rg10 hI) (cwV 2 hts (ax_gV T_1239 T_1241 T_1242 T_265 T_1240) rfl rfl rfl (by decide +kernel) ⟨Nat.le_of_ble_eq_true rfl, Nat.le_of_ble_eq_true rfl⟩) ⟨fun a U g mk q => ⟨q.1, s_pc (U := U) rfl rfl q.2⟩, s_recv hK hP (hLK _ ha0 (by decide)) (ci := 7) rfl oY6, fun U hU hW => ⟨rfl, s_pw hU hW hP hK hD hN⟩⟩ rfl rfl hl.1 rfl (lv_room (Nat.le_of_ble_eq_true rfl)) dX7_likeOf_11 ⟨Nat.zero_le _, Nat.zero_le _⟩) hS (fun q _ h => h) (fun q h => h) (fun r12 F13 t H1 locs ht hvm hw hB hz1 hk1 hS => ?_)
    obtain ⟨hP, hK1⟩ := hB
    rw [ht] at hP
    generalize H1 = H at hP hS ⊢
    clear hz1 hk1 hvm hK1
    obtain ⟨h14, h16, hI, hfr1, hzf, h15⟩ := hw
    have oY17 : F13 a0 = .inr (7, y_fl A z0 q0) := (hfr1 _ (by rw [ha0]; decide)).trans oY6
    have hfr : ∀ b, K b ∉ ([] : List Nat) → F13 b = F b := fun b hb9 => (hfr1 b (fun q => hb9 (s_sub (by decide) q))).trans (hfr b hb9)
    refine lv_if_eq (tgt := 19) hx hb dX7_likeOf_14 (by decide) (fun c18 => ?_) (fun c18 => ?_)
    · have c18 := (ax_eq (n := 0) (by decide)).mp c18
      obtain ⟨v19, ev19⟩ : ∃ y : Int32, w2 + (-1) = y := ⟨_, rfl⟩
      have qv19 : v19.toInt = w2.toInt + (-1) := by rw [← ev19]; exact th_add rfl (by decide) ⟨by omega, by omega⟩
      refine lv_iinc (v := v19) (lv' := [(2, .int v19), (0, .ref a0), (1, .int x1)]) hx hb dX7_likeOf_19 hl (k := 2) rfl ev19 (by decide) rfl (fun ls hl => ?_)
      refine lv_goto (tgt := 4) hx hb dX7_likeOf_22 (by decide) ?_
      exact ih4 _ _ _ _ (by omega) ⟨F13, _, v19, rfl, lv_sub hl [1, 2, 0] rfl, hP, hS, hI, hfr, (fun k hk => (y_fiZ oY17 (s_sub (by decide) hk)).trans (hz0 k hk)), ⟨by omega, by omega⟩, ⟨by omega, by omega⟩, rfl⟩
    · have c18 := mt (ax_eq (n := 0) (by decide)).mpr c18
      refine lv_iload_n hx hb dX7_likeOf_17 rfl (lv_at hl 2 rfl) ?_
      exact W.iret (v := w2) hx hb hr (fun t ht hW => ⟨⟨w2, F13, rfl, ⟨⟨by omega, by omega⟩, trivial, hI, hfr, fun k hk => (y_fiZ oY17 (s_sub (by decide) hk)).trans ((hz0 k hk).trans (y_fiZ oY0 (s_sub (by decide) hk)).symm), trivial⟩, by rw [ht]; exact hP, va_K.moved hW.alike hK⟩, hS.F ht⟩) hS.2.2 dX7_likeOf_18

set_option maxHeartbeats 4000000 in
set_option maxRecDepth 100000 in
theorem yt_X7_isOver (l : Launch) (dC : Nat → ClassId) (dI : Nat → Nat → Nat) (sz : Nat) {L : List Nat} {K : Nat → Nat} {cs : Nat → ClassId} (hLK : ∀ a {k : Nat}, K a = k → k ≠ 0 → a ∈ L) (A : Nat → Nat) (hA : y_A K A) (F : Nat → va_E) (a0 : Nat) (x1 : Int32) (ha0 : K a0 = 9) (hx1 : 0 ≤ x1.toInt ∧ x1.toInt ≤ 400) (hI : y_I K cs A F) (hPG : y_PG (y_at F (A 13))) (hNG : y_NG (y_at F (A 13)) (y_at F (A 20))) : Met l yX7_isOver (Cond.code yX7_isOver cX7_isOver 3 (some .boolean) :: T0) ({ frames := 5, cells := 0, slots := 0, locals := 110 }) (va_Pc [.ref a0, .int x1] (s_W dC dI sz L F [(cs 0, .int), (cs 1, .byte), (cs 2, .long), (cs 3, .object RX5), (cs 4, .object RX4), (cs 5, .array .int), (cs 6, .char), (cs 7, .boolean)])) (va_Qi (fun (r : Int32) (G : Nat → va_E) => (0 ≤ r.toInt ∧ r.toInt ≤ 1) ∧ True ∧ y_I K cs A G ∧ (∀ b, K b ∉ [9, 74] → G b = F b) ∧ (∀ k, k ∈ ([1, 2, 3, 4, 5, 6, 7, 8, 11, 15, 16, 19, 26, 31, 32] : List Nat) → y_fi G a0 k = y_fi F a0 k) ∧ True) (fun (G : Nat → va_E) (t : State) => va_P (dC, dI) vwCl (va_pl L G) t.heap ∧ va_K (dC, dI) vwCl [(cs 0, .int), (cs 1, .byte), (cs 2, .long), (cs 3, .object RX5), (cs 4, .object RX4), (cs 5, .array .int), (cs 6, .char), (cs 7, .boolean)] t) (fun q => q ∈ L)) 0 0 (fun q => q ∈ L) := by
  refine Met.ofW (cc := cX7_isOver) (maxL := 3) (ret := (some .boolean)) (by decide) rfl ?_
  intro p e s m args below meth c s₁ B hml hv
  obtain ⟨rfl, hsz, hP, hK, hD, hN⟩ := hv
  have hx := B.exec
  have hb := B.bytes
  have hr := B.returns
  have hts : ∀ w ∈ T0, w.before _ s = true := fun w h => atoms_spec (ws := Cond.code yX7_isOver cX7_isOver 3 (some .boolean) :: T0) B.pre w (List.mem_cons_of_mem _ h)
  have hown : s.vm.findClass RX7 = some m.cls := findClass_of_methodNamed B.named
  have hlocks := B.notSynchronized
  have hS : va_S (fun q => q ∈ L) s.heap s.heap [] := va_S.rf
  have hfr : ∀ b, K b ∉ [9, 74] → F b = F b := fun _ _ => rfl
  have hl := lv_entry ([.ref a0, .int x1]) (n := 3) (Nat.le_of_ble_eq_true rfl)
  rw [lg_entry_eq]
  generalize (lg_sl ([.ref a0, .int x1]) ++ List.replicate (3 - (lg_sl ([.ref a0, .int x1])).length) Slot.unset).toArray = ls at hl ⊢
  have hl : lv_has ls 3 [(0, .ref a0), (1, .int x1)] := hl
  refine s_gen hP hS (fun H locs hP hS => ?_)
  obtain ⟨z0, q0, oY0, bz0, bq0⟩ := y_opY hI ha0
  have hz0 : ∀ k, k ∈ ([1, 2, 3, 4, 5, 6, 7, 8, 11, 15, 16, 19, 26, 31, 32] : List Nat) → z0 k = z0 k := fun _ _ => rfl
  obtain ⟨f1, o2, b3⟩ := y_op13 hI
  obtain ⟨f4, o5, b6⟩ := y_op20 hI
  have hPG : y_PG f1 := by have q9 := hPG; rw [y_atE o2] at q9; exact q9
  have hNG : y_NG f1 f4 := by have q9 := hNG; rw [y_atE o2, y_atE o5] at q9; exact q9
  have hL := y_P0L hPG.1
  have hW := y_P0W hPG.1
  have hnn := And.intro hNG.1 (And.intro hNG.2.1 (And.intro hNG.2.2.1 hNG.2.2.2.1))
  refine th_join (fun g H locs => ∃ (G : Nat → va_E) (ls : Array Slot) (w7 : Int32), g = F0 m 24 ls [.int w7, .ref a0] ∧ lv_has ls 3 [(0, .ref a0), (1, .int x1)] ∧ va_P (dC, dI) vwCl (va_pl L G) H ∧ va_S (fun q => q ∈ L) s.heap H locs ∧ y_I K cs A G ∧ (∀ b, K b ∉ [9, 74] → G b = F b) ∧ (∀ k, k ∈ ([1, 2, 3, 4, 5, 6, 7, 8, 11, 15, 16, 19, 26, 31, 32] : List Nat) → y_fi G a0 k = z0 k) ∧ (0 ≤ w7.toInt ∧ w7.toInt ≤ 3) ∧ (0 ≤ x1.toInt ∧ x1.toInt ≤ 400)) (fun K24 => ?_) ?_
  · refine lv_aload_n hx hb dX7_isOver_0 rfl (lv_at hl 0 rfl) ?_
    refine lv_aload_n hx hb dX7_isOver_1 rfl (lv_at hl 0 rfl) ?_
    refine va_calli (va_runV (As := []) (rest := [.ref a0]) ⟨hx, hb, hml, hown, hts⟩ (y_X7_isEnded l dC dI H.size hLK A hA F a0 ha0 hI (by rw [y_atE o2]; exact hPG)) (cwV 0 hts (ax_gV T_1102 T_1104 T_1105 T_265 T_1103) rfl rfl rfl (by decide +kernel) ⟨Nat.le_of_ble_eq_true rfl, Nat.le_of_ble_eq_true rfl⟩) ⟨fun a U g mk q => ⟨q.1, s_pc (U := U) rfl rfl q.2⟩, s_recv hK hP (hLK _ ha0 (by decide)) (ci := 7) rfl oY0, fun U hU hW => ⟨rfl, s_pw hU hW hP hK hD hN⟩⟩ rfl rfl hl.1 rfl (lv_room (Nat.le_of_ble_eq_true rfl)) dX7_isOver_2 ⟨Nat.zero_le _, Nat.zero_le _⟩) hS (fun q _ h => h) (fun q h => h) (fun r9 F10 t H1 locs ht hvm hw hB hz1 hk1 hS => ?_)
    obtain ⟨hP, hK1⟩ := hB
    rw [ht] at hP
    generalize H1 = H at hP hS ⊢
    clear hz1 hk1 hvm hK1
    obtain ⟨h11, h13, hI, hfr1, hzf, h12⟩ := hw
    have o14 : F10 (A 13) = .inl (cs 0, 400, .inl f1) := (hfr1 _ (by rw [(y_k13 hA)]; decide)).trans o2
    have o15 : F10 (A 20) = .inl (cs 0, 918, .inl f4) := (hfr1 _ (by rw [(y_k20 hA)]; decide)).trans o5
    have oY16 : F10 a0 = .inr (7, y_fl A z0 q0) := (hfr1 _ (by rw [ha0]; decide)).trans oY0
    have hfr : ∀ b, K b ∉ [9, 74] → F10 b = F b := fun b hb9 => (hfr1 b (fun q => hb9 (s_sub (by decide) q))).trans (hfr b hb9)
    refine lv_if_eq (tgt := 12) hx hb dX7_isOver_5 (by decide) (fun c17 => ?_) (fun c17 => ?_)
    · have c17 := (ax_eq (n := 0) (by decide)).mp c17
      refine lv_aload_n hx hb dX7_isOver_12 rfl (lv_at hl 0 rfl) ?_
      refine va_calli (va_runV (As := []) (rest := [.ref a0]) ⟨hx, hb, hml, hown, hts⟩ (y_X7_isStuck l dC dI H.size hLK A hA F10 a0 ha0 hI (by rw [y_atE o14]; exact hPG) (by rw [y_atE o14, y_atE o15]; exact hNG)) (cwV 0 hts (ax_gV T_1219 T_1221 T_1222 T_265 T_1220) rfl rfl rfl (by decide +kernel) ⟨Nat.le_of_ble_eq_true rfl, Nat.le_of_ble_eq_true rfl⟩) ⟨fun a U g mk q => ⟨q.1, s_pc (U := U) rfl rfl q.2⟩, s_recv hK hP (hLK _ ha0 (by decide)) (ci := 7) rfl oY16, fun U hU hW => ⟨rfl, s_pw hU hW hP hK hD hN⟩⟩ rfl rfl hl.1 rfl (lv_room (Nat.le_of_ble_eq_true rfl)) dX7_isOver_13 ⟨Nat.zero_le _, Nat.zero_le _⟩) hS (fun q _ h => h) (fun q h => h) (fun r19 F20 t H1 locs ht hvm hw hB hz1 hk1 hS => ?_)
      obtain ⟨hP, hK1⟩ := hB
      rw [ht] at hP
      generalize H1 = H at hP hS ⊢
      clear hz1 hk1 hvm hK1
      obtain ⟨h21, h23, hI, hfr1, hzf, h22⟩ := hw
      have o24 : F20 (A 13) = .inl (cs 0, 400, .inl f1) := (hfr1 _ (by rw [(y_k13 hA)]; decide)).trans o14
      have o25 : F20 (A 20) = .inl (cs 0, 918, .inl f4) := (hfr1 _ (by rw [(y_k20 hA)]; decide)).trans o15
      have oY26 : F20 a0 = .inr (7, y_fl A z0 q0) := (hfr1 _ (by rw [ha0]; decide)).trans oY16
      have hfr : ∀ b, K b ∉ [9, 74] → F20 b = F b := fun b hb9 => (hfr1 b (fun q => hb9 (s_sub (by decide) q))).trans (hfr b hb9)
      refine lv_if_eq (tgt := 23) hx hb dX7_isOver_16 (by decide) (fun c27 => ?_) (fun c27 => ?_)
      · have c27 := (ax_eq (n := 0) (by decide)).mp c27
        refine lv_iconst (v := 3) hx hb dX7_isOver_23 (by decide) ?_
        have h28 : (3 : Int32).toInt = 3 := by decide
        exact K24 _ _ _ ⟨F20, _, 3, rfl, lv_sub hl [0, 1] rfl, hP, hS, hI, hfr, (fun k hk => (y_fiZ oY26 (s_sub (by decide) hk)).trans (hz0 k hk)), (by decide), ⟨by omega, by omega⟩⟩
      · have c27 := mt (ax_eq (n := 0) (by decide)).mpr c27
        refine lv_iconst (v := 1) hx hb dX7_isOver_19 (by decide) ?_
        refine lv_goto (tgt := 24) hx hb dX7_isOver_20 (by decide) ?_
        have h29 : (1 : Int32).toInt = 1 := by decide
        exact K24 _ _ _ ⟨F20, _, 1, rfl, lv_sub hl [0, 1] rfl, hP, hS, hI, hfr, (fun k hk => (y_fiZ oY26 (s_sub (by decide) hk)).trans (hz0 k hk)), (by decide), ⟨by omega, by omega⟩⟩
    · have c17 := mt (ax_eq (n := 0) (by decide)).mpr c17
      refine lv_iconst (v := 0) hx hb dX7_isOver_8 (by decide) ?_
      refine lv_goto (tgt := 24) hx hb dX7_isOver_9 (by decide) ?_
      have h30 : (0 : Int32).toInt = 0 := by decide
      exact K24 _ _ _ ⟨F10, _, 0, rfl, lv_sub hl [0, 1] rfl, hP, hS, hI, hfr, (fun k hk => (y_fiZ oY16 (s_sub (by decide) hk)).trans (hz0 k hk)), (by decide), ⟨by omega, by omega⟩⟩
  · intro g H locs hq
    obtain ⟨F33, ls, w7, rfl, hl, hP, hS, hI, hfr, hz0, h31, h32⟩ := hq
    have o34 : F33 (A 13) = .inl (cs 0, 400, .inl f1) := (hfr _ (by rw [(y_k13 hA)]; decide)).trans o2
    have o35 : F33 (A 20) = .inl (cs 0, 918, .inl f4) := (hfr _ (by rw [(y_k20 hA)]; decide)).trans o5
    obtain ⟨z36, q37, oY38, bz39, bq40⟩ := y_opY hI ha0
    have hz0 : ∀ k, k ∈ ([1, 2, 3, 4, 5, 6, 7, 8, 11, 15, 16, 19, 26, 31, 32] : List Nat) → z36 k = z0 k := fun k hk => (y_fiZ oY38 (s_sub (by decide) hk)).symm.trans (hz0 k hk)
    refine th_put (D := (dC, dI)) (ci := 7) (v := .int w7) (ty := .int) (C := RX7) (T := TX7) (N := 34) hx hb hts inX7 tyX7 tyX7_ok nmX7 hown hK hP hD hS (hLK _ ha0 (by decide)) oY38 rfl 25 (by decide) (hts _ T_1223) (fun _ h9 => h9) rfl (by decide +kernel) rfl rfl (Nat.le_of_ble_eq_true rfl) dX7_isOver_24 (fun H locs hP hS => ?_)
    rw [y_fs25] at hP
    obtain ⟨z41, hz42⟩ : ∃ g : Nat → Int32, g = upd z36 25 w7 := ⟨_, rfl⟩
    rw [← hz42] at hP
    have bz43 : y_bY z41 := by rw [hz42]; exact y_bp25 bz39
    have hP : va_P (dC, dI) vwCl (va_pl L (va_up F33 a0 (.inr (7, y_fl A z41 q37)))) H := hP
    obtain ⟨F44, hF45⟩ : ∃ G : Nat → va_E, G = va_up F33 a0 (.inr (7, y_fl A z41 q37)) := ⟨_, rfl⟩
    rw [← hF45] at hP
    have hI : y_I K cs A F44 := by rw [hF45]; exact y_clY hA hI ha0 bz43 bq40
    have hfr : ∀ b, K b ∉ [9, 74] → F44 b = F b := by rw [hF45]; exact s_fr hfr ha0 (by decide)
    have o46 : F44 (A 13) = .inl (cs 0, 400, .inl f1) := by rw [hF45]; exact th_ne (th_kd (y_k13 hA) ha0 (by decide)) o34
    have o47 : F44 (A 20) = .inl (cs 0, 918, .inl f4) := by rw [hF45]; exact th_ne (th_kd (y_k20 hA) ha0 (by decide)) o35
    have oY48 : F44 a0 = .inr (7, y_fl A z41 q37) := by rw [hF45]; exact th_up
    have hz0 : ∀ k, k ∈ ([1, 2, 3, 4, 5, 6, 7, 8, 11, 15, 16, 19, 26, 31, 32] : List Nat) → z41 k = z0 k := fun k hk => by rw [hz42]; exact (y_un (fun q => absurd hk (by rw [q]; decide))).trans (hz0 k hk)
    obtain ⟨v49, ev49⟩ : ∃ y : Int32, y = z41 25 := ⟨_, rfl⟩
    have qv49 : v49.toInt = w7.toInt := by rw [ev49, hz42, y_ue]
    refine lv_aload_n hx hb dX7_isOver_27 rfl (lv_at hl 0 rfl) ?_
    refine th_get (D := (dC, dI)) (ci := 7) (v := .int (z41 25)) (C := RX7) (T := TX7) (N := 34) hx hb hts inX7 hown hK hP (hLK _ ha0 (by decide)) oY48 rfl 25 (by decide) (hts _ T_1223) (fun _ h9 => h9) rfl dX7_isOver_28 ?_
    refine ax_eqi (y := v49) ev49.symm ?_
    refine lv_iconst (v := 3) hx hb dX7_isOver_31 (by decide) ?_
    refine lv_icmp_ge (tgt := 37) hx hb dX7_isOver_32 (by decide) (fun c50 => ?_) (fun c50 => ?_)
    · have c50 := (ax_ge (n := 3) (by decide)).mp c50
      refine lv_aload_n hx hb dX7_isOver_37 rfl (lv_at hl 0 rfl) ?_
      refine lv_iload_n hx hb dX7_isOver_38 rfl (lv_at hl 1 rfl) ?_
      have rg51 : 0 ≤ x1.toInt ∧ x1.toInt ≤ 400 := ⟨by omega, by omega⟩
      refine va_callv (va_runV (As := [.int x1]) (rest := []) ⟨hx, hb, hml, hown, hts⟩ (y_X7_laysState l dC dI H.size hLK A hA F44 a0 x1 ha0 rg51 hI) (cwV 1 hts (ax_gV T_1224 T_1226 T_1227 T_265 T_1225) rfl rfl rfl (by decide +kernel) ⟨Nat.le_of_ble_eq_true rfl, Nat.le_of_ble_eq_true rfl⟩) ⟨fun a U g mk q => ⟨q.1, s_pc (U := U) rfl rfl q.2⟩, s_recv hK hP (hLK _ ha0 (by decide)) (ci := 7) rfl oY48, fun U hU hW => ⟨rfl, s_pw hU hW hP hK hD hN⟩⟩ rfl rfl hl.1 rfl (lv_room (Nat.le_of_ble_eq_true rfl)) dX7_isOver_39 ⟨Nat.zero_le _, Nat.zero_le _⟩) hS (fun q _ h => h) (fun q h => h) (fun F53 t H1 locs ht hvm hw hB hz1 hk1 hS => ?_)
      obtain ⟨hP, hK1⟩ := hB
      rw [ht] at hP
      generalize H1 = H at hP hS ⊢
      clear hz1 hk1 hvm hK1
      obtain ⟨h54, h56, hI, hfr1, hzf, h55⟩ := hw
      have o57 : F53 (A 13) = .inl (cs 0, 400, .inl f1) := (hfr1 _ (by rw [(y_k13 hA)]; decide)).trans o46
      have o58 : F53 (A 20) = .inl (cs 0, 918, .inl f4) := (hfr1 _ (by rw [(y_k20 hA)]; decide)).trans o47
      have oY59 : F53 a0 = .inr (7, y_fl A z41 q37) := (hfr1 _ (by rw [ha0]; decide)).trans oY48
      have hfr : ∀ b, K b ∉ [9, 74] → F53 b = F b := fun b hb9 => (hfr1 b (fun q => hb9 (s_sub (by decide) q))).trans (hfr b hb9)
      refine lv_aload_n hx hb dX7_isOver_42 rfl (lv_at hl 0 rfl) ?_
      refine lv_iload_n hx hb dX7_isOver_43 rfl (lv_at hl 1 rfl) ?_
      refine va_calli (va_runV (As := [.int x1]) (rest := []) ⟨hx, hb, hml, hown, hts⟩ (y_X7_likeOf l dC dI H.size hLK A hA F53 a0 x1 ha0 rg51 hI) (cwV 1 hts (ax_gV T_1228 T_1230 T_1231 T_265 T_1229) rfl rfl rfl (by decide +kernel) ⟨Nat.le_of_ble_eq_true rfl, Nat.le_of_ble_eq_true rfl⟩) ⟨fun a U g mk q => ⟨q.1, s_pc (U := U) rfl rfl q.2⟩, s_recv hK hP (hLK _ ha0 (by decide)) (ci := 7) rfl oY59, fun U hU hW => ⟨rfl, s_pw hU hW hP hK hD hN⟩⟩ rfl rfl hl.1 rfl (lv_room (Nat.le_of_ble_eq_true rfl)) dX7_isOver_44 ⟨Nat.zero_le _, Nat.zero_le _⟩) hS (fun q _ h => h) (fun q h => h) (fun r61 F62 t H1 locs ht hvm hw hB hz1 hk1 hS => ?_)
      obtain ⟨hP, hK1⟩ := hB
      rw [ht] at hP
      generalize H1 = H at hP hS ⊢
      clear hz1 hk1 hvm hK1
      obtain ⟨h63, h65, hI, hfr1, hzf, h64⟩ := hw
      have o66 : F62 (A 13) = .inl (cs 0, 400, .inl f1) := (hfr1 _ (by rw [(y_k13 hA)]; decide)).trans o57
      have o67 : F62 (A 20) = .inl (cs 0, 918, .inl f4) := (hfr1 _ (by rw [(y_k20 hA)]; decide)).trans o58
      have oY68 : F62 a0 = .inr (7, y_fl A z41 q37) := (hfr1 _ (by rw [ha0]; decide)).trans oY59
      have hfr : ∀ b, K b ∉ [9, 74] → F62 b = F b := fun b hb9 => (hfr1 b (fun q => hb9 (s_sub (by decide) q))).trans (hfr b hb9)
      refine lv_istore_n (lv' := [(2, .int r61), (0, .ref a0), (1, .int x1)]) hx hb dX7_isOver_47 rfl hl (by decide) rfl (fun ls hl => ?_)
      refine lv_iload_n hx hb dX7_isOver_48 rfl (lv_at hl 0 rfl) ?_
      refine lv_iconst (v := (-1)) hx hb dX7_isOver_49 (by decide) ?_
      refine lv_icmp_ne (tgt := 55) hx hb dX7_isOver_50 (by decide) (fun c69 => ?_) (fun c69 => ?_)
      · have c69 := mt (ax_eq (n := (-1)) (by decide)).mpr c69
        refine lv_aload_n hx hb dX7_isOver_55 rfl (lv_at hl 1 rfl) ?_
        refine lv_iconst (v := 2) hx hb dX7_isOver_56 (by decide) ?_
        refine th_put (D := (dC, dI)) (ci := 7) (v := .int 2) (ty := .int) (C := RX7) (T := TX7) (N := 34) hx hb hts inX7 tyX7 tyX7_ok nmX7 hown hK hP hD hS (hLK _ ha0 (by decide)) oY68 rfl 25 (by decide) (hts _ T_1223) (fun _ h9 => h9) rfl (by decide +kernel) rfl rfl (Nat.le_of_ble_eq_true rfl) dX7_isOver_57 (fun H locs hP hS => ?_)
        rw [y_fs25] at hP
        obtain ⟨z70, hz71⟩ : ∃ g : Nat → Int32, g = upd z41 25 2 := ⟨_, rfl⟩
        rw [← hz71] at hP
        have bz72 : y_bY z70 := by rw [hz71]; exact y_bp25 bz43
        have hP : va_P (dC, dI) vwCl (va_pl L (va_up F62 a0 (.inr (7, y_fl A z70 q37)))) H := hP
        obtain ⟨F73, hF74⟩ : ∃ G : Nat → va_E, G = va_up F62 a0 (.inr (7, y_fl A z70 q37)) := ⟨_, rfl⟩
        rw [← hF74] at hP
        have hI : y_I K cs A F73 := by rw [hF74]; exact y_clY hA hI ha0 bz72 bq40
        have hfr : ∀ b, K b ∉ [9, 74] → F73 b = F b := by rw [hF74]; exact s_fr hfr ha0 (by decide)
        have o75 : F73 (A 13) = .inl (cs 0, 400, .inl f1) := by rw [hF74]; exact th_ne (th_kd (y_k13 hA) ha0 (by decide)) o66
        have o76 : F73 (A 20) = .inl (cs 0, 918, .inl f4) := by rw [hF74]; exact th_ne (th_kd (y_k20 hA) ha0 (by decide)) o67
        have oY77 : F73 a0 = .inr (7, y_fl A z70 q37) := by rw [hF74]; exact th_up
        have hz0 : ∀ k, k ∈ ([1, 2, 3, 4, 5, 6, 7, 8, 11, 15, 16, 19, 26, 31, 32] : List Nat) → z70 k = z0 k := fun k hk => by rw [hz71]; exact (y_un (fun q => absurd hk (by rw [q]; decide))).trans (hz0 k hk)
        obtain ⟨v78, ev78⟩ : ∃ y : Int32, y = z70 25 := ⟨_, rfl⟩
        have qv78 : v78.toInt = 2 := by rw [ev78, hz71, y_ue]; decide
        refine lv_aload_n hx hb dX7_isOver_60 rfl (lv_at hl 1 rfl) ?_
        refine lv_iload_n hx hb dX7_isOver_61 rfl (lv_at hl 2 rfl) ?_
        refine lv_iload_n hx hb dX7_isOver_62 rfl (lv_at hl 0 rfl) ?_
        refine lv_isub hx hb dX7_isOver_63 ?_
        refine lv_topi (fun v79 ev79 => ?_)
        have qv79 : v79.toInt = x1.toInt - r61.toInt := by rw [ev79]; exact th_sub rfl rfl ⟨by omega, by omega⟩
        refine th_put (D := (dC, dI)) (ci := 7) (v := .int v79) (ty := .int) (C := RX7) (T := TX7) (N := 34) hx hb hts inX7 tyX7 tyX7_ok nmX7 hown hK hP hD hS (hLK _ ha0 (by decide)) oY77 rfl 27 (by decide) (hts _ T_1183) (fun _ h9 => h9) rfl (by decide +kernel) rfl rfl (Nat.le_of_ble_eq_true rfl) dX7_isOver_64 (fun H locs hP hS => ?_)
        rw [y_fs27] at hP
        obtain ⟨z80, hz81⟩ : ∃ g : Nat → Int32, g = upd z70 27 v79 := ⟨_, rfl⟩
        rw [← hz81] at hP
        have bz82 : y_bY z80 := by rw [hz81]; exact y_bp27 bz72
        have hP : va_P (dC, dI) vwCl (va_pl L (va_up F73 a0 (.inr (7, y_fl A z80 q37)))) H := hP
        obtain ⟨F83, hF84⟩ : ∃ G : Nat → va_E, G = va_up F73 a0 (.inr (7, y_fl A z80 q37)) := ⟨_, rfl⟩
        rw [← hF84] at hP
        have hI : y_I K cs A F83 := by rw [hF84]; exact y_clY hA hI ha0 bz82 bq40
        have hfr : ∀ b, K b ∉ [9, 74] → F83 b = F b := by rw [hF84]; exact s_fr hfr ha0 (by decide)
        have o85 : F83 (A 13) = .inl (cs 0, 400, .inl f1) := by rw [hF84]; exact th_ne (th_kd (y_k13 hA) ha0 (by decide)) o75
        have o86 : F83 (A 20) = .inl (cs 0, 918, .inl f4) := by rw [hF84]; exact th_ne (th_kd (y_k20 hA) ha0 (by decide)) o76
        have oY87 : F83 a0 = .inr (7, y_fl A z80 q37) := by rw [hF84]; exact th_up
        have hz0 : ∀ k, k ∈ ([1, 2, 3, 4, 5, 6, 7, 8, 11, 15, 16, 19, 26, 31, 32] : List Nat) → z80 k = z0 k := fun k hk => by rw [hz81]; exact (y_un (fun q => absurd hk (by rw [q]; decide))).trans (hz0 k hk)
        have ev78 : v78 = z80 25 := by rw [hz81]; exact ev78.trans (y_un (by decide)).symm
        obtain ⟨v88, ev88⟩ : ∃ y : Int32, y = z80 27 := ⟨_, rfl⟩
        have qv88 : v88.toInt = v79.toInt := by rw [ev88, hz81, y_ue]
        refine lv_iconst (v := 1) hx hb dX7_isOver_67 (by decide) ?_
        have h89 : (1 : Int32).toInt = 1 := by decide
        exact W.zret (v := 1) (ty := .boolean) hx hb hr (by decide) (fun t ht hW => ⟨⟨1, F83, rfl, ⟨(by decide), trivial, hI, hfr, fun k hk => (y_fiZ oY87 (s_sub (by decide) hk)).trans ((hz0 k hk).trans (y_fiZ oY0 (s_sub (by decide) hk)).symm), trivial⟩, by rw [ht]; exact hP, va_K.moved hW.alike hK⟩, hS.F ht⟩) hS.2.2 dX7_isOver_68
      · have c69 := (ax_eq (n := (-1)) (by decide)).mp c69
        refine lv_iconst (v := 0) hx hb dX7_isOver_53 (by decide) ?_
        have h90 : (0 : Int32).toInt = 0 := by decide
        exact W.zret (v := 0) (ty := .boolean) hx hb hr (by decide) (fun t ht hW => ⟨⟨0, F62, rfl, ⟨(by decide), trivial, hI, hfr, fun k hk => (y_fiZ oY68 (s_sub (by decide) hk)).trans ((hz0 k hk).trans (y_fiZ oY0 (s_sub (by decide) hk)).symm), trivial⟩, by rw [ht]; exact hP, va_K.moved hW.alike hK⟩, hS.F ht⟩) hS.2.2 dX7_isOver_54
    · have c50 := mt (ax_ge (n := 3) (by decide)).mpr c50
      refine lv_iconst (v := 1) hx hb dX7_isOver_35 (by decide) ?_
      have h91 : (1 : Int32).toInt = 1 := by decide
      exact W.zret (v := 1) (ty := .boolean) hx hb hr (by decide) (fun t ht hW => ⟨⟨1, F44, rfl, ⟨(by decide), trivial, hI, hfr, fun k hk => (y_fiZ oY48 (s_sub (by decide) hk)).trans ((hz0 k hk).trans (y_fiZ oY0 (s_sub (by decide) hk)).symm), trivial⟩, by rw [ht]; exact hP, va_K.moved hW.alike hK⟩, hS.F ht⟩) hS.2.2 dX7_isOver_36

set_option maxHeartbeats 4000000 in
set_option maxRecDepth 100000 in
theorem yt_X7_goesOn (l : Launch) (dC : Nat → ClassId) (dI : Nat → Nat → Nat) (sz : Nat) {L : List Nat} {K : Nat → Nat} {cs : Nat → ClassId} (hLK : ∀ a {k : Nat}, K a = k → k ≠ 0 → a ∈ L) (A : Nat → Nat) (hA : y_A K A) (F : Nat → va_E) (a0 : Nat) (ha0 : K a0 = 9) (hI : y_I K cs A F) (hPG : y_PG (y_at F (A 13))) (hNG : y_NG (y_at F (A 13)) (y_at F (A 20))) : Met l yX7_goesOn (Cond.code yX7_goesOn cX7_goesOn 1 none :: T0) ({ frames := 8, cells := 0, slots := 0, locals := 188 }) (va_Pc [.ref a0] (s_W dC dI sz L F [(cs 0, .int), (cs 1, .byte), (cs 2, .long), (cs 3, .object RX5), (cs 4, .object RX4), (cs 5, .array .int), (cs 6, .char), (cs 7, .boolean)])) (va_Qv (fun (G : Nat → va_E) => True ∧ True ∧ y_I K cs A G ∧ (∀ b, K b ∉ [9, 70, 71, 72, 74] → G b = F b) ∧ (∀ k, k ∈ ([1, 2, 3, 4, 5, 6, 7, 8, 11, 15, 16, 19, 31, 32] : List Nat) → y_fi G a0 k = y_fi F a0 k) ∧ (y_NG (y_at F (A 13)) (y_at G (A 20)))) (fun (G : Nat → va_E) (t : State) => va_P (dC, dI) vwCl (va_pl L G) t.heap ∧ va_K (dC, dI) vwCl [(cs 0, .int), (cs 1, .byte), (cs 2, .long), (cs 3, .object RX5), (cs 4, .object RX4), (cs 5, .array .int), (cs 6, .char), (cs 7, .boolean)] t) (fun q => q ∈ L)) 0 0 (fun q => q ∈ L) := by
  refine Met.ofW (cc := cX7_goesOn) (maxL := 1) (ret := none) (by decide) rfl ?_
  intro p e s m args below meth c s₁ B hml hv
  obtain ⟨rfl, hsz, hP, hK, hD, hN⟩ := hv
  have hx := B.exec
  have hb := B.bytes
  have hr := B.returns
  have hts : ∀ w ∈ T0, w.before _ s = true := fun w h => atoms_spec (ws := Cond.code yX7_goesOn cX7_goesOn 1 none :: T0) B.pre w (List.mem_cons_of_mem _ h)
  have hown : s.vm.findClass RX7 = some m.cls := findClass_of_methodNamed B.named
  have hlocks := B.notSynchronized
  have hS : va_S (fun q => q ∈ L) s.heap s.heap [] := va_S.rf
  have hfr : ∀ b, K b ∉ [9, 70, 71, 72, 74] → F b = F b := fun _ _ => rfl
  have hl := lv_entry ([.ref a0]) (n := 1) (Nat.le_of_ble_eq_true rfl)
  rw [lg_entry_eq]
  generalize (lg_sl ([.ref a0]) ++ List.replicate (1 - (lg_sl ([.ref a0])).length) Slot.unset).toArray = ls at hl ⊢
  have hl : lv_has ls 1 [(0, .ref a0)] := hl
  refine s_gen hP hS (fun H locs hP hS => ?_)
  obtain ⟨z0, q0, oY0, bz0, bq0⟩ := y_opY hI ha0
  have hz0 : ∀ k, k ∈ ([1, 2, 3, 4, 5, 6, 7, 8, 11, 15, 16, 19, 31, 32] : List Nat) → z0 k = z0 k := fun _ _ => rfl
  obtain ⟨f1, o2, b3⟩ := y_op13 hI
  obtain ⟨f4, o5, b6⟩ := y_op20 hI
  have hPG : y_PG f1 := by have q9 := hPG; rw [y_atE o2] at q9; exact q9
  have hNG : y_NG f1 f4 := by have q9 := hNG; rw [y_atE o2, y_atE o5] at q9; exact q9
  have hL := y_P0L hPG.1
  have hW := y_P0W hPG.1
  have hnn := And.intro hNG.1 (And.intro hNG.2.1 (And.intro hNG.2.2.1 hNG.2.2.2.1))
  refine lv_aload_n hx hb dX7_goesOn_0 rfl (lv_at hl 0 rfl) ?_
  refine lv_iconst (v := (-1)) hx hb dX7_goesOn_1 (by decide) ?_
  refine th_put (D := (dC, dI)) (ci := 7) (v := .int (-1)) (ty := .int) (C := RX7) (T := TX7) (N := 34) hx hb hts inX7 tyX7 tyX7_ok nmX7 hown hK hP hD hS (hLK _ ha0 (by decide)) oY0 rfl 27 (by decide) (hts _ T_1183) (fun _ h9 => h9) rfl (by decide +kernel) rfl rfl (Nat.le_of_ble_eq_true rfl) dX7_goesOn_2 (fun H locs hP hS => ?_)
  rw [y_fs27] at hP
  obtain ⟨z7, hz8⟩ : ∃ g : Nat → Int32, g = upd z0 27 (-1) := ⟨_, rfl⟩
  rw [← hz8] at hP
  have bz9 : y_bY z7 := by rw [hz8]; exact y_bp27 bz0
  have hP : va_P (dC, dI) vwCl (va_pl L (va_up F a0 (.inr (7, y_fl A z7 q0)))) H := hP
  obtain ⟨F10, hF11⟩ : ∃ G : Nat → va_E, G = va_up F a0 (.inr (7, y_fl A z7 q0)) := ⟨_, rfl⟩
  rw [← hF11] at hP
  have hI : y_I K cs A F10 := by rw [hF11]; exact y_clY hA hI ha0 bz9 bq0
  have hfr : ∀ b, K b ∉ [9, 70, 71, 72, 74] → F10 b = F b := by rw [hF11]; exact s_fr hfr ha0 (by decide)
  have o12 : F10 (A 13) = .inl (cs 0, 400, .inl f1) := by rw [hF11]; exact th_ne (th_kd (y_k13 hA) ha0 (by decide)) o2
  have o13 : F10 (A 20) = .inl (cs 0, 918, .inl f4) := by rw [hF11]; exact th_ne (th_kd (y_k20 hA) ha0 (by decide)) o5
  have oY14 : F10 a0 = .inr (7, y_fl A z7 q0) := by rw [hF11]; exact th_up
  have hz0 : ∀ k, k ∈ ([1, 2, 3, 4, 5, 6, 7, 8, 11, 15, 16, 19, 31, 32] : List Nat) → z7 k = z0 k := fun k hk => by rw [hz8]; exact (y_un (fun q => absurd hk (by rw [q]; decide))).trans (hz0 k hk)
  obtain ⟨v15, ev15⟩ : ∃ y : Int32, y = z7 27 := ⟨_, rfl⟩
  have qv15 : v15.toInt = (-1) := by rw [ev15, hz8, y_ue]; decide
  refine lv_aload_n hx hb dX7_goesOn_5 rfl (lv_at hl 0 rfl) ?_
  refine lv_iconst (v := 0) hx hb dX7_goesOn_6 (by decide) ?_
  refine th_put (D := (dC, dI)) (ci := 7) (v := .int 0) (ty := .int) (C := RX7) (T := TX7) (N := 34) hx hb hts inX7 tyX7 tyX7_ok nmX7 hown hK hP hD hS (hLK _ ha0 (by decide)) oY14 rfl 26 (by decide) (hts _ T_1184) (fun _ h9 => h9) rfl (by decide +kernel) rfl rfl (Nat.le_of_ble_eq_true rfl) dX7_goesOn_7 (fun H locs hP hS => ?_)
  rw [y_fs26] at hP
  obtain ⟨z16, hz17⟩ : ∃ g : Nat → Int32, g = upd z7 26 0 := ⟨_, rfl⟩
  rw [← hz17] at hP
  have bz18 : y_bY z16 := by rw [hz17]; exact y_bp26 bz9 (by decide)
  have hP : va_P (dC, dI) vwCl (va_pl L (va_up F10 a0 (.inr (7, y_fl A z16 q0)))) H := hP
  obtain ⟨F19, hF20⟩ : ∃ G : Nat → va_E, G = va_up F10 a0 (.inr (7, y_fl A z16 q0)) := ⟨_, rfl⟩
  rw [← hF20] at hP
  have hI : y_I K cs A F19 := by rw [hF20]; exact y_clY hA hI ha0 bz18 bq0
  have hfr : ∀ b, K b ∉ [9, 70, 71, 72, 74] → F19 b = F b := by rw [hF20]; exact s_fr hfr ha0 (by decide)
  have o21 : F19 (A 13) = .inl (cs 0, 400, .inl f1) := by rw [hF20]; exact th_ne (th_kd (y_k13 hA) ha0 (by decide)) o12
  have o22 : F19 (A 20) = .inl (cs 0, 918, .inl f4) := by rw [hF20]; exact th_ne (th_kd (y_k20 hA) ha0 (by decide)) o13
  have oY23 : F19 a0 = .inr (7, y_fl A z16 q0) := by rw [hF20]; exact th_up
  have hz0 : ∀ k, k ∈ ([1, 2, 3, 4, 5, 6, 7, 8, 11, 15, 16, 19, 31, 32] : List Nat) → z16 k = z0 k := fun k hk => by rw [hz17]; exact (y_un (fun q => absurd hk (by rw [q]; decide))).trans (hz0 k hk)
  have ev15 : v15 = z16 27 := by rw [hz17]; exact ev15.trans (y_un (by decide)).symm
  obtain ⟨v24, ev24⟩ : ∃ y : Int32, y = z16 26 := ⟨_, rfl⟩
  have qv24 : v24.toInt = 0 := by rw [ev24, hz17, y_ue]; decide
  refine th_loop (fun n g H locs => ∃ (G : Nat → va_E) (ls : Array Slot), g = F0 m 10 ls [] ∧ lv_has ls 1 [(0, .ref a0)] ∧ va_P (dC, dI) vwCl (va_pl L G) H ∧ va_S (fun q => q ∈ L) s.heap H locs ∧ y_I K cs A G ∧ (∀ b, K b ∉ [9, 70, 71, 72, 74] → G b = F b) ∧ (∀ k, k ∈ ([1, 2, 3, 4, 5, 6, 7, 8, 11, 15, 16, 19, 31, 32] : List Nat) → y_fi G a0 k = z0 k) ∧ (y_NG f1 (y_at G (A 20))) ∧ (0 ≤ (y_fi G a0 26).toInt) ∧ n = (402 - (y_fi G a0 26).toInt).toNat) _ ⟨F19, _, rfl, lv_sub hl [0] rfl, hP, hS, hI, hfr, (fun k hk => (y_fiZ oY23 (s_sub (by decide) hk)).trans (hz0 k hk)), (by rw [y_atE o22]; exact hNG), (by first | (rw [y_fiZ oY23 (k := 26) (by decide), ← ev24]; omega) | rw [y_fiZ oY23 (k := 26) (by decide), ← ev24]), rfl⟩ (fun n ih10 g H locs hq => ?_)
  obtain ⟨F27, ls, rfl, hl, hP, hS, hI, hfr, hz0, h25, h26, hn⟩ := hq
  have o28 : F27 (A 13) = .inl (cs 0, 400, .inl f1) := (hfr _ (by rw [(y_k13 hA)]; decide)).trans o2
  obtain ⟨z29, q30, oY31, bz32, bq33⟩ := y_opY hI ha0
  have hz0 : ∀ k, k ∈ ([1, 2, 3, 4, 5, 6, 7, 8, 11, 15, 16, 19, 31, 32] : List Nat) → z29 k = z0 k := fun k hk => (y_fiZ oY31 (s_sub (by decide) hk)).symm.trans (hz0 k hk)
  obtain ⟨f34, o35, b36⟩ := y_op20 hI
  have h25 : (y_NG f1 f34) := by have q9 := h25; rw [y_atE o35] at q9; exact q9
  obtain ⟨v37, ev37⟩ : ∃ y : Int32, y = z29 26 := ⟨_, rfl⟩
  have qv37 : -1 ≤ v37.toInt ∧ v37.toInt ≤ 400 := by rw [ev37]; exact y_bY26 bz32
  have h26 : (0 ≤ v37.toInt) := by have q9 := h26; rw [y_fiZ oY31 (k := 26) (by decide), ← ev37] at q9; exact q9
  have hn : n = (402 - v37.toInt).toNat := by have q9 := hn; rw [y_fiZ oY31 (k := 26) (by decide), ← ev37] at q9; exact q9
  have hn_37 := hn
  have h38 : (z29 26).toInt = v37.toInt := by rw [ev37]
  refine lv_aload_n hx hb dX7_goesOn_10 rfl (lv_at hl 0 rfl) ?_
  refine lv_aload_n hx hb dX7_goesOn_11 rfl (lv_at hl 0 rfl) ?_
  refine th_get (D := (dC, dI)) (ci := 7) (v := .int (z29 26)) (C := RX7) (T := TX7) (N := 34) hx hb hts inX7 hown hK hP (hLK _ ha0 (by decide)) oY31 rfl 26 (by decide) (hts _ T_1184) (fun _ h9 => h9) rfl dX7_goesOn_12 ?_
  refine ax_eqi (y := v37) ev37.symm ?_
  have h39 : 0 ≤ v37.toInt ∧ v37.toInt ≤ 400 := ⟨by omega, by omega⟩
  have rg40 : 0 ≤ v37.toInt ∧ v37.toInt ≤ 400 := ⟨by omega, by omega⟩
  refine va_calli (va_runV (As := [.int v37]) (rest := []) ⟨hx, hb, hml, hown, hts⟩ (y_X7_isOver l dC dI H.size hLK A hA F27 a0 v37 ha0 rg40 hI (by rw [y_atE o28]; exact hPG) (by rw [y_atE o28, y_atE o35]; exact h25)) (cwV 1 hts (ax_gV T_1185 T_1187 T_1188 T_265 T_1186) rfl rfl rfl (by decide +kernel) ⟨Nat.le_of_ble_eq_true rfl, Nat.le_of_ble_eq_true rfl⟩) ⟨fun a U g mk q => ⟨q.1, s_pc (U := U) rfl rfl q.2⟩, s_recv hK hP (hLK _ ha0 (by decide)) (ci := 7) rfl oY31, fun U hU hW => ⟨rfl, s_pw hU hW hP hK hD hN⟩⟩ rfl rfl hl.1 rfl (lv_room (Nat.le_of_ble_eq_true rfl)) dX7_goesOn_15 ⟨Nat.zero_le _, Nat.zero_le _⟩) hS (fun q _ h => h) (fun q h => h) (fun r42 F43 t H1 locs ht hvm hw hB hz1 hk1 hS => ?_)
  obtain ⟨hP, hK1⟩ := hB
  rw [ht] at hP
  generalize H1 = H at hP hS ⊢
  clear hz1 hk1 hvm hK1
  obtain ⟨h44, h46, hI, hfr1, hzf, h45⟩ := hw
  have o47 : F43 (A 13) = .inl (cs 0, 400, .inl f1) := (hfr1 _ (by rw [(y_k13 hA)]; decide)).trans o28
  have o48 : F43 (A 20) = .inl (cs 0, 918, .inl f34) := (hfr1 _ (by rw [(y_k20 hA)]; decide)).trans o35
  obtain ⟨z49, q50, oY51, bz52, bq53⟩ := y_opY hI ha0
  have hzf : ∀ k, k ∈ ([1, 2, 3, 4, 5, 6, 7, 8, 11, 15, 16, 19, 26, 31, 32] : List Nat) → z49 k = z29 k := fun k hk => by have q9 := hzf k hk; rw [y_fiZ oY51 (s_sub (by decide) hk), y_fiZ oY31 (s_sub (by decide) hk)] at q9; exact q9
  have hz0 : ∀ k, k ∈ ([1, 2, 3, 4, 5, 6, 7, 8, 11, 15, 16, 19, 31, 32] : List Nat) → z49 k = z0 k := fun k hk => (hzf k (s_sub (by decide) hk)).trans (hz0 k hk)
  have ev37 : v37 = z49 26 := ev37.trans (hzf 26 (by decide)).symm
  have hfr : ∀ b, K b ∉ [9, 70, 71, 72, 74] → F43 b = F b := fun b hb9 => (hfr1 b (fun q => hb9 (s_sub (by decide) q))).trans (hfr b hb9)
  refine lv_if_ne (tgt := 54) hx hb dX7_goesOn_18 (by decide) (fun c54 => ?_) (fun c54 => ?_)
  · have c54 := mt (ax_eq (n := 0) (by decide)).mpr c54
    exact W.vret hx hb hr (fun t ht hW => ⟨⟨F43, rfl, ⟨trivial, trivial, hI, hfr, fun k hk => (y_fiZ oY51 (s_sub (by decide) hk)).trans ((hz0 k hk).trans (y_fiZ oY0 (s_sub (by decide) hk)).symm), (by rw [y_atE o2, y_atE o48]; exact h25)⟩, by rw [ht]; exact hP, va_K.moved hW.alike hK⟩, hS.F ht⟩) hS.2.2 dX7_goesOn_54
  · have c54 := (ax_eq (n := 0) (by decide)).mp c54
    refine lv_aload_n hx hb dX7_goesOn_21 rfl (lv_at hl 0 rfl) ?_
    refine th_get (D := (dC, dI)) (ci := 7) (v := .int (z49 26)) (C := RX7) (T := TX7) (N := 34) hx hb hts inX7 hown hK hP (hLK _ ha0 (by decide)) oY51 rfl 26 (by decide) (hts _ T_1184) (fun _ h9 => h9) rfl dX7_goesOn_22 ?_
    refine ax_eqi (y := v37) ev37.symm ?_
    refine lv_sipush (v := 400) hx hb dX7_goesOn_25 (by decide) ?_
    refine lv_icmp_ne (tgt := 37) hx hb dX7_goesOn_28 (by decide) (fun c55 => ?_) (fun c55 => ?_)
    · have c55 := mt (ax_eq (n := 400) (by decide)).mpr c55
      refine lv_aload_n hx hb dX7_goesOn_37 rfl (lv_at hl 0 rfl) ?_
      refine va_callv (va_runV (As := []) (rest := []) ⟨hx, hb, hml, hown, hts⟩ (y_X7_aCycle l dC dI H.size hLK A hA F43 a0 ha0 hI (by rw [y_atE o47]; exact hPG) (by rw [y_atE o47, y_atE o48]; exact h25)) (cwV 0 hts (ax_gV T_1070 T_1072 T_1073 T_265 T_1071) rfl rfl rfl (by decide +kernel) ⟨Nat.le_of_ble_eq_true rfl, Nat.le_of_ble_eq_true rfl⟩) ⟨fun a U g mk q => ⟨q.1, s_pc (U := U) rfl rfl q.2⟩, s_recv hK hP (hLK _ ha0 (by decide)) (ci := 7) rfl oY51, fun U hU hW => ⟨rfl, s_pw hU hW hP hK hD hN⟩⟩ rfl rfl hl.1 rfl (lv_room (Nat.le_of_ble_eq_true rfl)) dX7_goesOn_38 ⟨Nat.zero_le _, Nat.zero_le _⟩) hS (fun q _ h => h) (fun q h => h) (fun F57 t H1 locs ht hvm hw hB hz1 hk1 hS => ?_)
      obtain ⟨hP, hK1⟩ := hB
      rw [ht] at hP
      generalize H1 = H at hP hS ⊢
      clear hz1 hk1 hvm hK1
      obtain ⟨h58, h60, hI, hfr1, hzf, h59⟩ := hw
      have o61 : F57 (A 13) = .inl (cs 0, 400, .inl f1) := (hfr1 _ (by rw [(y_k13 hA)]; decide)).trans o47
      have oY62 : F57 a0 = .inr (7, y_fl A z49 q50) := (hfr1 _ (by rw [ha0]; decide)).trans oY51
      have hfr : ∀ b, K b ∉ [9, 70, 71, 72, 74] → F57 b = F b := fun b hb9 => (hfr1 b (fun q => hb9 (s_sub (by decide) q))).trans (hfr b hb9)
      obtain ⟨f63, o64, b65⟩ := y_op20 hI
      have h59 : (y_NG f1 f63 ∧ y_c f63 3 = y_c f34 3 ∧ y_c f63 4 = y_c f34 4) := by have q9 := h59; rw [y_atE o47, y_atE o64, y_atE o48] at q9; exact q9
      refine lv_aload_n hx hb dX7_goesOn_41 rfl (lv_at hl 0 rfl) ?_
      refine lv_dup hx hb dX7_goesOn_42 rfl ?_
      refine th_get (D := (dC, dI)) (ci := 7) (v := .int (z49 26)) (C := RX7) (T := TX7) (N := 34) hx hb hts inX7 hown hK hP (hLK _ ha0 (by decide)) oY62 rfl 26 (by decide) (hts _ T_1184) (fun _ h9 => h9) rfl dX7_goesOn_43 ?_
      refine ax_eqi (y := v37) ev37.symm ?_
      refine lv_iconst (v := 1) hx hb dX7_goesOn_46 (by decide) ?_
      refine lv_iadd hx hb dX7_goesOn_47 ?_
      refine lv_topi (fun v66 ev66 => ?_)
      have qv66 : v66.toInt = v37.toInt + 1 := by rw [ev66]; exact th_add rfl (by decide) ⟨by omega, by omega⟩
      refine th_put (D := (dC, dI)) (ci := 7) (v := .int v66) (ty := .int) (C := RX7) (T := TX7) (N := 34) hx hb hts inX7 tyX7 tyX7_ok nmX7 hown hK hP hD hS (hLK _ ha0 (by decide)) oY62 rfl 26 (by decide) (hts _ T_1184) (fun _ h9 => h9) rfl (by decide +kernel) rfl rfl (Nat.le_of_ble_eq_true rfl) dX7_goesOn_48 (fun H locs hP hS => ?_)
      rw [y_fs26] at hP
      obtain ⟨z67, hz68⟩ : ∃ g : Nat → Int32, g = upd z49 26 v66 := ⟨_, rfl⟩
      rw [← hz68] at hP
      have bz69 : y_bY z67 := by rw [hz68]; exact y_bp26 bz52 ⟨by omega, by omega⟩
      have hP : va_P (dC, dI) vwCl (va_pl L (va_up F57 a0 (.inr (7, y_fl A z67 q50)))) H := hP
      obtain ⟨F70, hF71⟩ : ∃ G : Nat → va_E, G = va_up F57 a0 (.inr (7, y_fl A z67 q50)) := ⟨_, rfl⟩
      rw [← hF71] at hP
      have hI : y_I K cs A F70 := by rw [hF71]; exact y_clY hA hI ha0 bz69 bq53
      have hfr : ∀ b, K b ∉ [9, 70, 71, 72, 74] → F70 b = F b := by rw [hF71]; exact s_fr hfr ha0 (by decide)
      have o72 : F70 (A 13) = .inl (cs 0, 400, .inl f1) := by rw [hF71]; exact th_ne (th_kd (y_k13 hA) ha0 (by decide)) o61
      have o73 : F70 (A 20) = .inl (cs 0, 918, .inl f63) := by rw [hF71]; exact th_ne (th_kd (y_k20 hA) ha0 (by decide)) o64
      have oY74 : F70 a0 = .inr (7, y_fl A z67 q50) := by rw [hF71]; exact th_up
      have hz0 : ∀ k, k ∈ ([1, 2, 3, 4, 5, 6, 7, 8, 11, 15, 16, 19, 31, 32] : List Nat) → z67 k = z0 k := fun k hk => by rw [hz68]; exact (y_un (fun q => absurd hk (by rw [q]; decide))).trans (hz0 k hk)
      obtain ⟨v75, ev75⟩ : ∃ y : Int32, y = z67 26 := ⟨_, rfl⟩
      have qv75 : v75.toInt = v66.toInt := by rw [ev75, hz68, y_ue]
      refine lv_goto (tgt := 10) hx hb dX7_goesOn_51 (by decide) ?_
      have h76 : (y_fi F70 a0 26).toInt = v75.toInt := by rw [y_fiZ oY74 (k := 26) (by decide), ← ev75]
      exact ih10 _ _ _ _ (by omega) ⟨F70, _, rfl, lv_sub hl [0] rfl, hP, hS, hI, hfr, (fun k hk => (y_fiZ oY74 (s_sub (by decide) hk)).trans (hz0 k hk)), (by rw [y_atE o73]; exact h59.1), (by first | (rw [y_fiZ oY74 (k := 26) (by decide), ← ev75]; omega) | rw [y_fiZ oY74 (k := 26) (by decide), ← ev75]), rfl⟩
    · have c55 := (ax_eq (n := 400) (by decide)).mp c55
      refine lv_aload_n hx hb dX7_goesOn_31 rfl (lv_at hl 0 rfl) ?_
      refine lv_iconst (v := (-1)) hx hb dX7_goesOn_32 (by decide) ?_
      refine th_put (D := (dC, dI)) (ci := 7) (v := .int (-1)) (ty := .int) (C := RX7) (T := TX7) (N := 34) hx hb hts inX7 tyX7 tyX7_ok nmX7 hown hK hP hD hS (hLK _ ha0 (by decide)) oY51 rfl 26 (by decide) (hts _ T_1184) (fun _ h9 => h9) rfl (by decide +kernel) rfl rfl (Nat.le_of_ble_eq_true rfl) dX7_goesOn_33 (fun H locs hP hS => ?_)
      rw [y_fs26] at hP
      obtain ⟨z77, hz78⟩ : ∃ g : Nat → Int32, g = upd z49 26 (-1) := ⟨_, rfl⟩
      rw [← hz78] at hP
      have bz79 : y_bY z77 := by rw [hz78]; exact y_bp26 bz52 (by decide)
      have hP : va_P (dC, dI) vwCl (va_pl L (va_up F43 a0 (.inr (7, y_fl A z77 q50)))) H := hP
      obtain ⟨F80, hF81⟩ : ∃ G : Nat → va_E, G = va_up F43 a0 (.inr (7, y_fl A z77 q50)) := ⟨_, rfl⟩
      rw [← hF81] at hP
      have hI : y_I K cs A F80 := by rw [hF81]; exact y_clY hA hI ha0 bz79 bq53
      have hfr : ∀ b, K b ∉ [9, 70, 71, 72, 74] → F80 b = F b := by rw [hF81]; exact s_fr hfr ha0 (by decide)
      have o82 : F80 (A 13) = .inl (cs 0, 400, .inl f1) := by rw [hF81]; exact th_ne (th_kd (y_k13 hA) ha0 (by decide)) o47
      have o83 : F80 (A 20) = .inl (cs 0, 918, .inl f34) := by rw [hF81]; exact th_ne (th_kd (y_k20 hA) ha0 (by decide)) o48
      have oY84 : F80 a0 = .inr (7, y_fl A z77 q50) := by rw [hF81]; exact th_up
      have hz0 : ∀ k, k ∈ ([1, 2, 3, 4, 5, 6, 7, 8, 11, 15, 16, 19, 31, 32] : List Nat) → z77 k = z0 k := fun k hk => by rw [hz78]; exact (y_un (fun q => absurd hk (by rw [q]; decide))).trans (hz0 k hk)
      obtain ⟨v85, ev85⟩ : ∃ y : Int32, y = z77 26 := ⟨_, rfl⟩
      have qv85 : v85.toInt = (-1) := by rw [ev85, hz78, y_ue]; decide
      exact W.vret hx hb hr (fun t ht hW => ⟨⟨F80, rfl, ⟨trivial, trivial, hI, hfr, fun k hk => (y_fiZ oY84 (s_sub (by decide) hk)).trans ((hz0 k hk).trans (y_fiZ oY0 (s_sub (by decide) hk)).symm), (by rw [y_atE o2, y_atE o83]; exact h25)⟩, by rw [ht]; exact hP, va_K.moved hW.alike hK⟩, hS.F ht⟩) hS.2.2 dX7_goesOn_36

set_option maxHeartbeats 4000000 in
set_option maxRecDepth 100000 in
theorem yt_X7_told (l : Launch) (dC : Nat → ClassId) (dI : Nat → Nat → Nat) (sz : Nat) {L : List Nat} {K : Nat → Nat} {cs : Nat → ClassId} (hLK : ∀ a {k : Nat}, K a = k → k ≠ 0 → a ∈ L) (A : Nat → Nat) (hA : y_A K A) (F : Nat → va_E) (a0 : Nat) (x1 : Int32) (ha0 : K a0 = 9) (hI : y_I K cs A F) : Met l yX7_told (Cond.code yX7_told cX7_told 2 (some .int) :: T0) ({ frames := 0, cells := 0, slots := 0, locals := 0 }) (va_Pc [.ref a0, .int x1] (s_W dC dI sz L F [(cs 0, .int), (cs 1, .byte), (cs 2, .long), (cs 3, .object RX5), (cs 4, .object RX4), (cs 5, .array .int), (cs 6, .char), (cs 7, .boolean)])) (va_Qi (fun (r : Int32) (G : Nat → va_E) => True ∧ True ∧ y_I K cs A G ∧ (∀ b, K b ∉ ([] : List Nat) → G b = F b) ∧ (∀ k, k ∈ ([1, 2, 3, 4, 5, 6, 7, 8, 11, 15, 16, 19, 25, 26, 27, 31, 32] : List Nat) → y_fi G a0 k = y_fi F a0 k) ∧ True) (fun (G : Nat → va_E) (t : State) => va_P (dC, dI) vwCl (va_pl L G) t.heap ∧ va_K (dC, dI) vwCl [(cs 0, .int), (cs 1, .byte), (cs 2, .long), (cs 3, .object RX5), (cs 4, .object RX4), (cs 5, .array .int), (cs 6, .char), (cs 7, .boolean)] t) (fun q => q ∈ L)) 0 0 (fun q => q ∈ L) := by
  refine Met.ofW (cc := cX7_told) (maxL := 2) (ret := (some .int)) (by decide) rfl ?_
  intro p e s m args below meth c s₁ B hml hv
  obtain ⟨rfl, hsz, hP, hK, hD, hN⟩ := hv
  have hx := B.exec
  have hb := B.bytes
  have hr := B.returns
  have hts : ∀ w ∈ T0, w.before _ s = true := fun w h => atoms_spec (ws := Cond.code yX7_told cX7_told 2 (some .int) :: T0) B.pre w (List.mem_cons_of_mem _ h)
  have hown : s.vm.findClass RX7 = some m.cls := findClass_of_methodNamed B.named
  have hlocks := B.notSynchronized
  have hS : va_S (fun q => q ∈ L) s.heap s.heap [] := va_S.rf
  have hfr : ∀ b, K b ∉ ([] : List Nat) → F b = F b := fun _ _ => rfl
  have hl := lv_entry ([.ref a0, .int x1]) (n := 2) (Nat.le_of_ble_eq_true rfl)
  rw [lg_entry_eq]
  generalize (lg_sl ([.ref a0, .int x1]) ++ List.replicate (2 - (lg_sl ([.ref a0, .int x1])).length) Slot.unset).toArray = ls at hl ⊢
  have hl : lv_has ls 2 [(0, .ref a0), (1, .int x1)] := hl
  refine s_gen hP hS (fun H locs hP hS => ?_)
  obtain ⟨z0, q0, oY0, bz0, bq0⟩ := y_opY hI ha0
  have hz0 : ∀ k, k ∈ ([1, 2, 3, 4, 5, 6, 7, 8, 11, 15, 16, 19, 25, 26, 27, 31, 32] : List Nat) → z0 k = z0 k := fun _ _ => rfl
  refine lv_iload_n hx hb dX7_told_0 rfl (lv_at hl 1 rfl) ?_
  refine lv_if_ne (tgt := 11) hx hb dX7_told_1 (by decide) (fun c1 => ?_) (fun c1 => ?_)
  · have c1 := mt (ax_eq (n := 0) (by decide)).mpr c1
    refine lv_iload_n hx hb dX7_told_11 rfl (lv_at hl 1 rfl) ?_
    refine lv_iconst (v := 1) hx hb dX7_told_12 (by decide) ?_
    refine lv_icmp_ne (tgt := 23) hx hb dX7_told_13 (by decide) (fun c2 => ?_) (fun c2 => ?_)
    · have c2 := mt (ax_eq (n := 1) (by decide)).mpr c2
      refine lv_aload_n hx hb dX7_told_23 rfl (lv_at hl 0 rfl) ?_
      refine th_get (D := (dC, dI)) (ci := 7) (v := .int (z0 27)) (C := RX7) (T := TX7) (N := 34) hx hb hts inX7 hown hK hP (hLK _ ha0 (by decide)) oY0 rfl 27 (by decide) (hts _ T_1183) (fun _ h9 => h9) rfl dX7_told_24 ?_
      refine lv_topi (fun v3 ev3 => ?_)
      exact W.iret (v := v3) hx hb hr (fun t ht hW => ⟨⟨v3, F, rfl, ⟨trivial, trivial, hI, hfr, fun k hk => (y_fiZ oY0 (s_sub (by decide) hk)).trans ((hz0 k hk).trans (y_fiZ oY0 (s_sub (by decide) hk)).symm), trivial⟩, by rw [ht]; exact hP, va_K.moved hW.alike hK⟩, hS.F ht⟩) hS.2.2 dX7_told_27
    · have c2 := (ax_eq (n := 1) (by decide)).mp c2
      refine lv_aload_n hx hb dX7_told_16 rfl (lv_at hl 0 rfl) ?_
      refine th_get (D := (dC, dI)) (ci := 7) (v := .int (z0 26)) (C := RX7) (T := TX7) (N := 34) hx hb hts inX7 hown hK hP (hLK _ ha0 (by decide)) oY0 rfl 26 (by decide) (hts _ T_1184) (fun _ h9 => h9) rfl dX7_told_17 ?_
      refine lv_topi (fun v4 ev4 => ?_)
      have qv4 : -1 ≤ v4.toInt ∧ v4.toInt ≤ 400 := by rw [ev4]; exact y_bY26 bz0
      refine lv_goto (tgt := 27) hx hb dX7_told_20 (by decide) ?_
      exact W.iret (v := v4) hx hb hr (fun t ht hW => ⟨⟨v4, F, rfl, ⟨trivial, trivial, hI, hfr, fun k hk => (y_fiZ oY0 (s_sub (by decide) hk)).trans ((hz0 k hk).trans (y_fiZ oY0 (s_sub (by decide) hk)).symm), trivial⟩, by rw [ht]; exact hP, va_K.moved hW.alike hK⟩, hS.F ht⟩) hS.2.2 dX7_told_27
  · have c1 := (ax_eq (n := 0) (by decide)).mp c1
    refine lv_aload_n hx hb dX7_told_4 rfl (lv_at hl 0 rfl) ?_
    refine th_get (D := (dC, dI)) (ci := 7) (v := .int (z0 25)) (C := RX7) (T := TX7) (N := 34) hx hb hts inX7 hown hK hP (hLK _ ha0 (by decide)) oY0 rfl 25 (by decide) (hts _ T_1223) (fun _ h9 => h9) rfl dX7_told_5 ?_
    refine lv_topi (fun v5 ev5 => ?_)
    refine lv_goto (tgt := 27) hx hb dX7_told_8 (by decide) ?_
    exact W.iret (v := v5) hx hb hr (fun t ht hW => ⟨⟨v5, F, rfl, ⟨trivial, trivial, hI, hfr, fun k hk => (y_fiZ oY0 (s_sub (by decide) hk)).trans ((hz0 k hk).trans (y_fiZ oY0 (s_sub (by decide) hk)).symm), trivial⟩, by rw [ht]; exact hP, va_K.moved hW.alike hK⟩, hS.F ht⟩) hS.2.2 dX7_told_27

set_option maxHeartbeats 4000000 in
set_option maxRecDepth 100000 in
theorem yt_X7_goes (l : Launch) (dC : Nat → ClassId) (dI : Nat → Nat → Nat) (sz : Nat) {L : List Nat} {K : Nat → Nat} {cs : Nat → ClassId} (hLK : ∀ a {k : Nat}, K a = k → k ≠ 0 → a ∈ L) (A : Nat → Nat) (hA : y_A K A) (F : Nat → va_E) (a0 : Nat) (x1 : Int32) (ha0 : K a0 = 9) (hI : y_I K cs A F) (hT : y_T (y_fi F a0 15) (y_at F (A 13)) (y_at F (A 20)) (y_at F (A 30)) (y_fi F a0 31) (y_fi F a0 32)) : Met l yX7_goes (Cond.code yX7_goes cX7_goes 2 (some .int) :: T0) ({ frames := 9, cells := 0, slots := 0, locals := 208 }) (va_Pc [.ref a0, .int x1] (s_W dC dI sz L F [(cs 0, .int), (cs 1, .byte), (cs 2, .long), (cs 3, .object RX5), (cs 4, .object RX4), (cs 5, .array .int), (cs 6, .char), (cs 7, .boolean)])) (va_Qi (fun (r : Int32) (G : Nat → va_E) => True ∧ True ∧ y_I K cs A G ∧ (∀ b, K b ∉ [9, 70, 71, 72, 73, 74] → G b = F b) ∧ (∀ k, k ∈ ([1, 2, 3, 4, 5, 6, 7, 8, 11, 15, 16, 19, 31, 32] : List Nat) → y_fi G a0 k = y_fi F a0 k) ∧ (y_T (y_fi G a0 15) (y_at G (A 13)) (y_at G (A 20)) (y_at G (A 30)) (y_fi G a0 31) (y_fi G a0 32))) (fun (G : Nat → va_E) (t : State) => va_P (dC, dI) vwCl (va_pl L G) t.heap ∧ va_K (dC, dI) vwCl [(cs 0, .int), (cs 1, .byte), (cs 2, .long), (cs 3, .object RX5), (cs 4, .object RX4), (cs 5, .array .int), (cs 6, .char), (cs 7, .boolean)] t) (fun q => q ∈ L)) 0 0 (fun q => q ∈ L) := by
  refine Met.ofW (cc := cX7_goes) (maxL := 2) (ret := (some .int)) (by decide) rfl ?_
  intro p e s m args below meth c s₁ B hml hv
  obtain ⟨rfl, hsz, hP, hK, hD, hN⟩ := hv
  have hx := B.exec
  have hb := B.bytes
  have hr := B.returns
  have hts : ∀ w ∈ T0, w.before _ s = true := fun w h => atoms_spec (ws := Cond.code yX7_goes cX7_goes 2 (some .int) :: T0) B.pre w (List.mem_cons_of_mem _ h)
  have hown : s.vm.findClass RX7 = some m.cls := findClass_of_methodNamed B.named
  have hlocks := B.notSynchronized
  have hS : va_S (fun q => q ∈ L) s.heap s.heap [] := va_S.rf
  have hfr : ∀ b, K b ∉ [9, 70, 71, 72, 73, 74] → F b = F b := fun _ _ => rfl
  have hl := lv_entry ([.ref a0, .int x1]) (n := 2) (Nat.le_of_ble_eq_true rfl)
  rw [lg_entry_eq]
  generalize (lg_sl ([.ref a0, .int x1]) ++ List.replicate (2 - (lg_sl ([.ref a0, .int x1])).length) Slot.unset).toArray = ls at hl ⊢
  have hl : lv_has ls 2 [(0, .ref a0), (1, .int x1)] := hl
  refine s_gen hP hS (fun H locs hP hS => ?_)
  obtain ⟨z0, q0, oY0, bz0, bq0⟩ := y_opY hI ha0
  have hz0 : ∀ k, k ∈ ([1, 2, 3, 4, 5, 6, 7, 8, 11, 15, 16, 19, 31, 32] : List Nat) → z0 k = z0 k := fun _ _ => rfl
  obtain ⟨f1, o2, b3⟩ := y_op13 hI
  obtain ⟨f4, o5, b6⟩ := y_op20 hI
  obtain ⟨f7, o8, b9⟩ := y_op30 hI
  obtain ⟨v10, ev10⟩ : ∃ y : Int32, y = z0 15 := ⟨_, rfl⟩
  have qv10 : 0 ≤ v10.toInt ∧ v10.toInt ≤ 1 := by rw [ev10]; exact y_bY15 bz0
  have eF_15 := ev10
  obtain ⟨v11, ev11⟩ : ∃ y : Int32, y = z0 31 := ⟨_, rfl⟩
  have qv11 : 0 ≤ v11.toInt ∧ v11.toInt ≤ 20 := by rw [ev11]; exact y_bY31 bz0
  have eF_31 := ev11
  obtain ⟨v12, ev12⟩ : ∃ y : Int32, y = z0 32 := ⟨_, rfl⟩
  have qv12 : 0 ≤ v12.toInt ∧ v12.toInt ≤ 19 := by rw [ev12]; exact y_bY32 bz0
  have eF_32 := ev12
  have hT : y_T v10 f1 f4 f7 v11 v12 := by have q9 := hT; rw [y_fiZ oY0 (k := 15) (by decide), ← ev10, y_atE o2, y_atE o5, y_atE o8, y_fiZ oY0 (k := 31) (by decide), ← ev11, y_fiZ oY0 (k := 32) (by decide), ← ev12] at q9; exact q9
  have e0_v10 := ev10
  have e0_v11 := ev11
  have e0_v12 := ev12
  refine lv_aload_n hx hb dX7_goes_0 rfl (lv_at hl 0 rfl) ?_
  refine th_get (D := (dC, dI)) (ci := 7) (v := .int (z0 15)) (C := RX7) (T := TX7) (N := 34) hx hb hts inX7 hown hK hP (hLK _ ha0 (by decide)) oY0 rfl 15 (by decide) (hts _ T_271) (fun _ h9 => h9) rfl dX7_goes_1 ?_
  refine ax_eqi (y := v10) ev10.symm ?_
  refine lv_if_eq (tgt := 19) hx hb dX7_goes_4 (by decide) (fun c13 => ?_) (fun c13 => ?_)
  · have c13 := (ax_eq (n := 0) (by decide)).mp c13
    refine lv_iconst (v := (-1)) hx hb dX7_goes_19 (by decide) ?_
    have h14 : ((-1) : Int32).toInt = (-1) := by decide
    exact W.iret (v := (-1)) hx hb hr (fun t ht hW => ⟨⟨(-1), F, rfl, ⟨trivial, trivial, hI, hfr, fun k hk => (y_fiZ oY0 (s_sub (by decide) hk)).trans ((hz0 k hk).trans (y_fiZ oY0 (s_sub (by decide) hk)).symm), (by rw [y_fiZ oY0 (k := 15) (by decide), ← ev10, y_atE o2, y_atE o5, y_atE o8, y_fiZ oY0 (k := 31) (by decide), ← ev11, y_fiZ oY0 (k := 32) (by decide), ← ev12]; exact hT)⟩, by rw [ht]; exact hP, va_K.moved hW.alike hK⟩, hS.F ht⟩) hS.2.2 dX7_goes_20
  · have c13 := mt (ax_eq (n := 0) (by decide)).mpr c13
    obtain ⟨htd, hPG, hNG, hUG⟩ := y_TT hT (by omega)
    have hL := y_P0L hPG.1
    have hW := y_P0W hPG.1
    have hnn := And.intro hNG.1 (And.intro hNG.2.1 (And.intro hNG.2.2.1 hNG.2.2.2.1))
    refine lv_iload_n hx hb dX7_goes_7 rfl (lv_at hl 1 rfl) ?_
    refine lv_i2l hx hb dX7_goes_8 rfl ?_
    refine lv_topl (fun v15 ev15 => ?_)
    have qv15 : v15.toInt = x1.toInt := y_i2l ev15
    refine lv_lconst (v := 0) hx hb dX7_goes_9 (by decide) ?_
    refine lv_ldc2 hx hb hown (hts _ T_1040) dX7_goes_10 ?_
    refine va_calli (va_runS (As := [.long v15, .long 0, .long 2]) (rest := []) ⟨hx, hb, hml, hown, hts⟩ (y_X7_isIn l dC dI H.size F v15 0 2) (cwS 3 hts (ax_gS T_267 T_268 T_265 T_21) rfl rfl rfl (by decide +kernel) ⟨Nat.le_of_ble_eq_true rfl, Nat.le_of_ble_eq_true rfl⟩) ⟨fun a U g mk q => ⟨q.1, s_pc (U := U) rfl rfl q.2⟩, fun U hU hW => ⟨rfl, s_pw hU hW hP hK hD hN⟩⟩ rfl rfl hl.1 rfl (lv_room (Nat.le_of_ble_eq_true rfl)) dX7_goes_13 ⟨Nat.zero_le _, Nat.zero_le _⟩) hS (fun q _ h => h) (fun q h => h) (fun r17 F18 t H1 locs ht hvm hw hB hz1 hk1 hS => ?_)
    obtain ⟨hP, hK1⟩ := hB
    rw [ht] at hP
    generalize H1 = H at hP hS ⊢
    clear hz1 hk1 hvm hK1
    obtain ⟨h19, h21, hG9, h20⟩ := hw
    rw [hG9] at hP
    have h20 : ((r17.toInt = 0 ∧ (v15.toInt < 0 ∨ 2 < v15.toInt)) ∨ (r17.toInt = 1 ∧ 0 ≤ v15.toInt ∧ v15.toInt ≤ 2)) := by have q9 := h20; exact q9
    refine lv_if_ne (tgt := 21) hx hb dX7_goes_16 (by decide) (fun c22 => ?_) (fun c22 => ?_)
    · have c22 := mt (ax_eq (n := 0) (by decide)).mpr c22
      refine lv_aload_n hx hb dX7_goes_21 rfl (lv_at hl 0 rfl) ?_
      refine va_callv (va_runV (As := []) (rest := []) ⟨hx, hb, hml, hown, hts⟩ (y_X7_putsAside l dC dI H.size hLK A hA F a0 ha0 hI) (cwV 0 hts (ax_gV T_1041 T_1043 T_1044 T_265 T_1042) rfl rfl rfl (by decide +kernel) ⟨Nat.le_of_ble_eq_true rfl, Nat.le_of_ble_eq_true rfl⟩) ⟨fun a U g mk q => ⟨q.1, s_pc (U := U) rfl rfl q.2⟩, s_recv hK hP (hLK _ ha0 (by decide)) (ci := 7) rfl oY0, fun U hU hW => ⟨rfl, s_pw hU hW hP hK hD hN⟩⟩ rfl rfl hl.1 rfl (lv_room (Nat.le_of_ble_eq_true rfl)) dX7_goes_22 ⟨Nat.zero_le _, Nat.zero_le _⟩) hS (fun q _ h => h) (fun q h => h) (fun F24 t H1 locs ht hvm hw hB hz1 hk1 hS => ?_)
      obtain ⟨hP, hK1⟩ := hB
      rw [ht] at hP
      generalize H1 = H at hP hS ⊢
      clear hz1 hk1 hvm hK1
      obtain ⟨h25, h27, hI, hfr1, hzf, h26⟩ := hw
      have o28 : F24 (A 13) = .inl (cs 0, 400, .inl f1) := (hfr1 _ (by rw [(y_k13 hA)]; decide)).trans o2
      have o29 : F24 (A 20) = .inl (cs 0, 918, .inl f4) := (hfr1 _ (by rw [(y_k20 hA)]; decide)).trans o5
      have o30 : F24 (A 30) = .inl (cs 0, 18360, .inl f7) := (hfr1 _ (by rw [(y_k30 hA)]; decide)).trans o8
      have oY31 : F24 a0 = .inr (7, y_fl A z0 q0) := (hfr1 _ (by rw [ha0]; decide)).trans oY0
      have hfr : ∀ b, K b ∉ [9, 70, 71, 72, 73, 74] → F24 b = F b := fun b hb9 => (hfr1 b (fun q => hb9 (s_sub (by decide) q))).trans (hfr b hb9)
      obtain ⟨f32, o33, b34⟩ := y_op23 hI
      have h26 : (y_CP f4 f32) := by have q9 := h26; rw [y_atE o5, y_atE o33] at q9; exact q9
      refine lv_aload_n hx hb dX7_goes_25 rfl (lv_at hl 0 rfl) ?_
      refine va_callv (va_runV (As := []) (rest := []) ⟨hx, hb, hml, hown, hts⟩ (y_X7_goesOn l dC dI H.size hLK A hA F24 a0 ha0 hI (by rw [y_atE o28]; exact hPG) (by rw [y_atE o28, y_atE o29]; exact hNG)) (cwV 0 hts (ax_gV T_1045 T_1047 T_1048 T_265 T_1046) rfl rfl rfl (by decide +kernel) ⟨Nat.le_of_ble_eq_true rfl, Nat.le_of_ble_eq_true rfl⟩) ⟨fun a U g mk q => ⟨q.1, s_pc (U := U) rfl rfl q.2⟩, s_recv hK hP (hLK _ ha0 (by decide)) (ci := 7) rfl oY31, fun U hU hW => ⟨rfl, s_pw hU hW hP hK hD hN⟩⟩ rfl rfl hl.1 rfl (lv_room (Nat.le_of_ble_eq_true rfl)) dX7_goes_26 ⟨Nat.zero_le _, Nat.zero_le _⟩) hS (fun q _ h => h) (fun q h => h) (fun F36 t H1 locs ht hvm hw hB hz1 hk1 hS => ?_)
      obtain ⟨hP, hK1⟩ := hB
      rw [ht] at hP
      generalize H1 = H at hP hS ⊢
      clear hz1 hk1 hvm hK1
      obtain ⟨h37, h39, hI, hfr1, hzf, h38⟩ := hw
      have o40 : F36 (A 13) = .inl (cs 0, 400, .inl f1) := (hfr1 _ (by rw [(y_k13 hA)]; decide)).trans o28
      have o41 : F36 (A 30) = .inl (cs 0, 18360, .inl f7) := (hfr1 _ (by rw [(y_k30 hA)]; decide)).trans o30
      have o42 : F36 (A 23) = .inl (cs 0, 918, .inl f32) := (hfr1 _ (by rw [(y_k23 hA)]; decide)).trans o33
      obtain ⟨z43, q44, oY45, bz46, bq47⟩ := y_opY hI ha0
      have hzf : ∀ k, k ∈ ([1, 2, 3, 4, 5, 6, 7, 8, 11, 15, 16, 19, 31, 32] : List Nat) → z43 k = z0 k := fun k hk => by have q9 := hzf k hk; rw [y_fiZ oY45 (s_sub (by decide) hk), y_fiZ oY31 (s_sub (by decide) hk)] at q9; exact q9
      have hz0 : ∀ k, k ∈ ([1, 2, 3, 4, 5, 6, 7, 8, 11, 15, 16, 19, 31, 32] : List Nat) → z43 k = z0 k := fun k hk => (hzf k (s_sub (by decide) hk)).trans (hz0 k hk)
      have ev10 : v10 = z43 15 := ev10.trans (hzf 15 (by decide)).symm
      have ev11 : v11 = z43 31 := ev11.trans (hzf 31 (by decide)).symm
      have ev12 : v12 = z43 32 := ev12.trans (hzf 32 (by decide)).symm
      have hfr : ∀ b, K b ∉ [9, 70, 71, 72, 73, 74] → F36 b = F b := fun b hb9 => (hfr1 b (fun q => hb9 (s_sub (by decide) q))).trans (hfr b hb9)
      obtain ⟨f48, o49, b50⟩ := y_op20 hI
      have h38 : (y_NG f1 f48) := by have q9 := h38; rw [y_atE o28, y_atE o49] at q9; exact q9
      refine lv_aload_n hx hb dX7_goes_29 rfl (lv_at hl 0 rfl) ?_
      refine va_callv (va_runV (As := []) (rest := []) ⟨hx, hb, hml, hown, hts⟩ (y_X7_takesBack l dC dI H.size hLK A hA F36 a0 ha0 hI) (cwV 0 hts (ax_gV T_1049 T_1051 T_1052 T_265 T_1050) rfl rfl rfl (by decide +kernel) ⟨Nat.le_of_ble_eq_true rfl, Nat.le_of_ble_eq_true rfl⟩) ⟨fun a U g mk q => ⟨q.1, s_pc (U := U) rfl rfl q.2⟩, s_recv hK hP (hLK _ ha0 (by decide)) (ci := 7) rfl oY45, fun U hU hW => ⟨rfl, s_pw hU hW hP hK hD hN⟩⟩ rfl rfl hl.1 rfl (lv_room (Nat.le_of_ble_eq_true rfl)) dX7_goes_30 ⟨Nat.zero_le _, Nat.zero_le _⟩) hS (fun q _ h => h) (fun q h => h) (fun F52 t H1 locs ht hvm hw hB hz1 hk1 hS => ?_)
      obtain ⟨hP, hK1⟩ := hB
      rw [ht] at hP
      generalize H1 = H at hP hS ⊢
      clear hz1 hk1 hvm hK1
      obtain ⟨h53, h55, hI, hfr1, hzf, h54⟩ := hw
      have o56 : F52 (A 13) = .inl (cs 0, 400, .inl f1) := (hfr1 _ (by rw [(y_k13 hA)]; decide)).trans o40
      have o57 : F52 (A 30) = .inl (cs 0, 18360, .inl f7) := (hfr1 _ (by rw [(y_k30 hA)]; decide)).trans o41
      have o58 : F52 (A 23) = .inl (cs 0, 918, .inl f32) := (hfr1 _ (by rw [(y_k23 hA)]; decide)).trans o42
      have oY59 : F52 a0 = .inr (7, y_fl A z43 q44) := (hfr1 _ (by rw [ha0]; decide)).trans oY45
      have hfr : ∀ b, K b ∉ [9, 70, 71, 72, 73, 74] → F52 b = F b := fun b hb9 => (hfr1 b (fun q => hb9 (s_sub (by decide) q))).trans (hfr b hb9)
      obtain ⟨f60, o61, b62⟩ := y_op20 hI
      have h54 : (y_CP f32 f60) := by have q9 := h54; rw [y_atE o42, y_atE o61] at q9; exact q9
      refine lv_aload_n hx hb dX7_goes_33 rfl (lv_at hl 0 rfl) ?_
      refine lv_iload_n hx hb dX7_goes_34 rfl (lv_at hl 1 rfl) ?_
      refine va_calli (va_runV (As := [.int x1]) (rest := []) ⟨hx, hb, hml, hown, hts⟩ (y_X7_told l dC dI H.size hLK A hA F52 a0 x1 ha0 hI) (cwV 1 hts (ax_gV T_1053 T_1055 T_1056 T_265 T_1054) rfl rfl rfl (by decide +kernel) ⟨Nat.le_of_ble_eq_true rfl, Nat.le_of_ble_eq_true rfl⟩) ⟨fun a U g mk q => ⟨q.1, s_pc (U := U) rfl rfl q.2⟩, s_recv hK hP (hLK _ ha0 (by decide)) (ci := 7) rfl oY59, fun U hU hW => ⟨rfl, s_pw hU hW hP hK hD hN⟩⟩ rfl rfl hl.1 rfl (lv_room (Nat.le_of_ble_eq_true rfl)) dX7_goes_35 ⟨Nat.zero_le _, Nat.zero_le _⟩) hS (fun q _ h => h) (fun q h => h) (fun r64 F65 t H1 locs ht hvm hw hB hz1 hk1 hS => ?_)
      obtain ⟨hP, hK1⟩ := hB
      rw [ht] at hP
      generalize H1 = H at hP hS ⊢
      clear hz1 hk1 hvm hK1
      obtain ⟨h66, h68, hI, hfr1, hzf, h67⟩ := hw
      have o69 : F65 (A 13) = .inl (cs 0, 400, .inl f1) := (hfr1 _ (by rw [(y_k13 hA)]; decide)).trans o56
      have o70 : F65 (A 30) = .inl (cs 0, 18360, .inl f7) := (hfr1 _ (by rw [(y_k30 hA)]; decide)).trans o57
      have o71 : F65 (A 23) = .inl (cs 0, 918, .inl f32) := (hfr1 _ (by rw [(y_k23 hA)]; decide)).trans o58
      have o72 : F65 (A 20) = .inl (cs 0, 918, .inl f60) := (hfr1 _ (by rw [(y_k20 hA)]; decide)).trans o61
      have oY73 : F65 a0 = .inr (7, y_fl A z43 q44) := (hfr1 _ (by rw [ha0]; decide)).trans oY59
      have hfr : ∀ b, K b ∉ [9, 70, 71, 72, 73, 74] → F65 b = F b := fun b hb9 => (hfr1 b (fun q => hb9 (s_sub (by decide) q))).trans (hfr b hb9)
      exact W.iret (v := r64) hx hb hr (fun t ht hW => ⟨⟨r64, F65, rfl, ⟨trivial, trivial, hI, hfr, fun k hk => (y_fiZ oY73 (s_sub (by decide) hk)).trans ((hz0 k hk).trans (y_fiZ oY0 (s_sub (by decide) hk)).symm), (by rw [y_fiZ oY73 (k := 15) (by decide), ← ev10, y_atE o69, y_atE o72, y_atE o70, y_fiZ oY73 (k := 31) (by decide), ← ev11, y_fiZ oY73 (k := 32) (by decide), ← ev12]; exact (y_Tc (y_CP_t h26 h54) hT))⟩, by rw [ht]; exact hP, va_K.moved hW.alike hK⟩, hS.F ht⟩) hS.2.2 dX7_goes_38
    · have c22 := (ax_eq (n := 0) (by decide)).mp c22
      refine lv_iconst (v := (-1)) hx hb dX7_goes_19 (by decide) ?_
      have h74 : ((-1) : Int32).toInt = (-1) := by decide
      exact W.iret (v := (-1)) hx hb hr (fun t ht hW => ⟨⟨(-1), F, rfl, ⟨trivial, trivial, hI, hfr, fun k hk => (y_fiZ oY0 (s_sub (by decide) hk)).trans ((hz0 k hk).trans (y_fiZ oY0 (s_sub (by decide) hk)).symm), (by rw [y_fiZ oY0 (k := 15) (by decide), ← ev10, y_atE o2, y_atE o5, y_atE o8, y_fiZ oY0 (k := 31) (by decide), ← ev11, y_fiZ oY0 (k := 32) (by decide), ← ev12]; exact hT)⟩, by rw [ht]; exact hP, va_K.moved hW.alike hK⟩, hS.F ht⟩) hS.2.2 dX7_goes_20
