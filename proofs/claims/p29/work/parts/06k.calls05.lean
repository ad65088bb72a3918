set_option maxHeartbeats 4000000 in
set_option maxRecDepth 100000 in
theorem y_X7_laysState (l : Launch) (dC : Nat → ClassId) (dI : Nat → Nat → Nat) (sz : Nat) {L : List Nat} {K : Nat → Nat} {cs : Nat → ClassId} (hLK : ∀ a {k : Nat}, K a = k → k ≠ 0 → a ∈ L) (A : Nat → Nat) (hA : y_A K A) (F : Nat → va_E) (a0 : Nat) (x1 : Int32) (ha0 : K a0 = 9) (hx1 : 0 ≤ x1.toInt ∧ x1.toInt ≤ 400) (hI : y_I K cs A F) : Met l yX7_laysState (Cond.code yX7_laysState cX7_laysState 7 none :: T0) ({ frames := 2, cells := 0, slots := 0, locals := 43 }) (va_Pc [.ref a0, .int x1] (s_W dC dI sz L F [(cs 0, .int), (cs 1, .byte), (cs 2, .long), (cs 3, .object RX5), (cs 4, .object RX4), (cs 5, .array .int), (cs 6, .char), (cs 7, .boolean)])) (va_Qv (fun (G : Nat → va_E) => True ∧ True ∧ y_I K cs A G ∧ (∀ b, K b ∉ [74] → G b = F b) ∧ (∀ k, k ∈ ([1, 2, 3, 4, 5, 6, 7, 8, 11, 15, 16, 19, 25, 26, 27, 31, 32] : List Nat) → y_fi G a0 k = y_fi F a0 k) ∧ True) (fun (G : Nat → va_E) (t : State) => va_P (dC, dI) vwCl (va_pl L G) t.heap ∧ va_K (dC, dI) vwCl [(cs 0, .int), (cs 1, .byte), (cs 2, .long), (cs 3, .object RX5), (cs 4, .object RX4), (cs 5, .array .int), (cs 6, .char), (cs 7, .boolean)] t) (fun q => q ∈ L)) 0 0 (fun q => q ∈ L) := by
  refine Met.ofW (cc := cX7_laysState) (maxL := 7) (ret := none) (by decide) rfl ?_
  intro p e s m args below meth c s₁ B hml hv
  obtain ⟨rfl, hsz, hP, hK, hD, hN⟩ := hv
  have hx := B.exec
  have hb := B.bytes
  have hr := B.returns
  have hts : ∀ w ∈ T0, w.before _ s = true := fun w h => atoms_spec (ws := Cond.code yX7_laysState cX7_laysState 7 none :: T0) B.pre w (List.mem_cons_of_mem _ h)
  have hown : s.vm.findClass RX7 = some m.cls := findClass_of_methodNamed B.named
  have hlocks := B.notSynchronized
  have hS : va_S (fun q => q ∈ L) s.heap s.heap [] := va_S.rf
  have hfr : ∀ b, K b ∉ [74] → F b = F b := fun _ _ => rfl
  have hl := lv_entry ([.ref a0, .int x1]) (n := 7) (Nat.le_of_ble_eq_true rfl)
  rw [lg_entry_eq]
  generalize (lg_sl ([.ref a0, .int x1]) ++ List.replicate (7 - (lg_sl ([.ref a0, .int x1])).length) Slot.unset).toArray = ls at hl ⊢
  have hl : lv_has ls 7 [(0, .ref a0), (1, .int x1)] := hl
  refine s_gen hP hS (fun H locs hP hS => ?_)
  obtain ⟨z0, q0, oY0, bz0, bq0⟩ := y_opY hI ha0
  have hz0 : ∀ k, k ∈ ([1, 2, 3, 4, 5, 6, 7, 8, 11, 15, 16, 19, 25, 26, 27, 31, 32] : List Nat) → z0 k = z0 k := fun _ _ => rfl
  refine lv_sipush (v := 477) hx hb dX7_laysState_0 (by decide) ?_
  refine lv_iload_n hx hb dX7_laysState_3 rfl (lv_at hl 1 rfl) ?_
  refine lv_imul hx hb dX7_laysState_4 ?_
  refine lv_topi (fun v1 ev1 => ?_)
  have qv1 : v1.toInt = 477 * x1.toInt := by rw [ev1]; exact th_mul (by decide) rfl ⟨by omega, by omega⟩
  refine lv_istore_n (lv' := [(2, .int v1), (0, .ref a0), (1, .int x1)]) hx hb dX7_laysState_5 rfl hl (by decide) rfl (fun ls hl => ?_)
  refine lv_bipush (v := 8) hx hb dX7_laysState_6 (by decide) ?_
  refine lv_istore_n (lv' := [(3, .int 8), (2, .int v1), (0, .ref a0), (1, .int x1)]) hx hb dX7_laysState_8 rfl hl (by decide) rfl (fun ls hl => ?_)
  have h3 : (8 : Int32).toInt = 8 := by decide
  refine th_loop (fun n g H locs => ∃ (G : Nat → va_E) (ls : Array Slot) (w2 : Int32), g = F0 m 9 ls [] ∧ lv_has ls 7 [(0, .ref a0), (2, .int v1), (3, .int w2)] ∧ va_P (dC, dI) vwCl (va_pl L G) H ∧ va_S (fun q => q ∈ L) s.heap H locs ∧ y_I K cs A G ∧ (∀ b, K b ∉ [74] → G b = F b) ∧ (∀ k, k ∈ ([1, 2, 3, 4, 5, 6, 7, 8, 11, 15, 16, 19, 25, 26, 27, 31, 32] : List Nat) → y_fi G a0 k = z0 k) ∧ (8 ≤ w2.toInt ∧ w2.toInt ≤ 480) ∧ (0 ≤ v1.toInt ∧ v1.toInt ≤ 190800) ∧ n = (481 - w2.toInt).toNat) _ ⟨F, _, 8, rfl, lv_sub hl [2, 1, 0] rfl, hP, hS, hI, hfr, (fun k hk => (y_fiZ oY0 (s_sub (by decide) hk)).trans (hz0 k hk)), (by decide), ⟨by omega, by omega⟩, rfl⟩ (fun n ih9 g H locs hq => ?_)
  obtain ⟨F6, ls, w2, rfl, hl, hP, hS, hI, hfr, hz0, h4, h5, hn⟩ := hq
  have oY7 : F6 a0 = .inr (7, y_fl A z0 q0) := (hfr _ (by rw [ha0]; decide)).trans oY0
  have hz0 : ∀ k, k ∈ ([1, 2, 3, 4, 5, 6, 7, 8, 11, 15, 16, 19, 25, 26, 27, 31, 32] : List Nat) → z0 k = z0 k := fun _ _ => rfl
  have hn_7 := hn
  refine lv_iload_n hx hb dX7_laysState_9 rfl (lv_at hl 2 rfl) ?_
  refine lv_sipush (v := 480) hx hb dX7_laysState_10 (by decide) ?_
  refine lv_icmp_ge (tgt := 39) hx hb dX7_laysState_13 (by decide) (fun c8 => ?_) (fun c8 => ?_)
  · have c8 := (ax_ge (n := 480) (by decide)).mp c8
    refine lv_iconst (v := 0) hx hb dX7_laysState_39 (by decide) ?_
    refine lv_istore_n (lv' := [(3, .int 0), (0, .ref a0), (2, .int v1)]) hx hb dX7_laysState_40 rfl hl (by decide) rfl (fun ls hl => ?_)
    have h10 : (0 : Int32).toInt = 0 := by decide
    refine th_loop (fun n g H locs => ∃ (G : Nat → va_E) (ls : Array Slot) (w9 : Int32), g = F0 m 41 ls [] ∧ lv_has ls 7 [(0, .ref a0), (2, .int v1), (3, .int w9)] ∧ va_P (dC, dI) vwCl (va_pl L G) H ∧ va_S (fun q => q ∈ L) s.heap H locs ∧ y_I K cs A G ∧ (∀ b, K b ∉ [74] → G b = F b) ∧ (∀ k, k ∈ ([1, 2, 3, 4, 5, 6, 7, 8, 11, 15, 16, 19, 25, 26, 27, 31, 32] : List Nat) → y_fi G a0 k = z0 k) ∧ (0 ≤ w9.toInt ∧ w9.toInt ≤ 4) ∧ (0 ≤ v1.toInt ∧ v1.toInt ≤ 190800) ∧ n = (5 - w9.toInt).toNat) _ ⟨F6, _, 0, rfl, lv_sub hl [1, 2, 0] rfl, hP, hS, hI, hfr, (fun k hk => (y_fiZ oY7 (s_sub (by decide) hk)).trans (hz0 k hk)), (by decide), ⟨by omega, by omega⟩, rfl⟩ (fun n ih41 g H locs hq => ?_)
    obtain ⟨F13, ls, w9, rfl, hl, hP, hS, hI, hfr, hz0, h11, h12, hn⟩ := hq
    have oY14 : F13 a0 = .inr (7, y_fl A z0 q0) := (hfr _ (by rw [ha0]; decide)).trans oY0
    have hz0 : ∀ k, k ∈ ([1, 2, 3, 4, 5, 6, 7, 8, 11, 15, 16, 19, 25, 26, 27, 31, 32] : List Nat) → z0 k = z0 k := fun _ _ => rfl
    have hn_14 := hn
    refine th_join (fun g H locs => ∃ (G : Nat → va_E) (ls : Array Slot) (w15 : Int32) (w16 : Int32), g = F0 m 86 ls [.int w15, .int w16, .ref (A 24)] ∧ lv_has ls 7 [(0, .ref a0), (2, .int v1), (3, .int w9)] ∧ va_P (dC, dI) vwCl (va_pl L G) H ∧ va_S (fun q => q ∈ L) s.heap H locs ∧ y_I K cs A G ∧ (∀ b, K b ∉ [74] → G b = F b) ∧ (∀ k, k ∈ ([1, 2, 3, 4, 5, 6, 7, 8, 11, 15, 16, 19, 25, 26, 27, 31, 32] : List Nat) → y_fi G a0 k = z0 k) ∧ (0 ≤ w15.toInt ∧ w15.toInt ≤ 2147483647) ∧ (96 ≤ w16.toInt ∧ w16.toInt ≤ 190919) ∧ (0 ≤ v1.toInt ∧ v1.toInt ≤ 190800) ∧ (0 ≤ w9.toInt ∧ w9.toInt ≤ 3)) (fun K86 => ?_) ?_
    · refine lv_iload_n hx hb dX7_laysState_41 rfl (lv_at hl 2 rfl) ?_
      refine lv_iconst (v := 4) hx hb dX7_laysState_42 (by decide) ?_
      refine lv_icmp_ge (tgt := 226) hx hb dX7_laysState_43 (by decide) (fun c17 => ?_) (fun c17 => ?_)
      · have c17 := (ax_ge (n := 4) (by decide)).mp c17
        refine lv_aload_n hx hb dX7_laysState_226 rfl (lv_at hl 0 rfl) ?_
        refine th_get (D := (dC, dI)) (ci := 7) (v := .ref (A 24)) (C := RX7) (T := TX7) (N := 34) hx hb hts inX7 hown hK hP (hLK _ ha0 (by decide)) oY14 rfl 24 (by decide) (hts _ T_256) (fun _ h9 => h9) rfl dX7_laysState_227 ?_
        refine lv_iload_n hx hb dX7_laysState_230 rfl (lv_at hl 1 rfl) ?_
        refine lv_sipush (v := 472) hx hb dX7_laysState_231 (by decide) ?_
        refine lv_iadd hx hb dX7_laysState_234 ?_
        refine lv_topi (fun v18 ev18 => ?_)
        have qv18 : v18.toInt = v1.toInt + 472 := by rw [ev18]; exact th_add rfl (by decide) ⟨by omega, by omega⟩
        refine lv_aload_n hx hb dX7_laysState_235 rfl (lv_at hl 0 rfl) ?_
        refine th_get (D := (dC, dI)) (ci := 7) (v := .ref (A 20)) (C := RX7) (T := TX7) (N := 34) hx hb hts inX7 hown hK hP (hLK _ ha0 (by decide)) oY14 rfl 20 (by decide) (hts _ T_251) (fun _ h9 => h9) rfl dX7_laysState_236 ?_
        refine lv_bipush (v := 6) hx hb dX7_laysState_239 (by decide) ?_
        obtain ⟨f19, o20, b21⟩ := y_op20 hI
        refine th_iald hx hb hK hP (hLK _ (y_k20 hA) (by decide)) 0 o20 rfl (ax_in (by decide)) dX7_laysState_241 ?_
        refine lv_topi (fun v22 ev22 => ?_)
        obtain ⟨f23, o24, b25⟩ := y_op24 hI
        refine th_iast hx hb hK hP hD hS (hLK _ (y_k24 hA) (by decide)) 0 o24 rfl (th_in ⟨by omega, by omega⟩) dX7_laysState_242 (fun H locs hP hS => ?_)
        obtain ⟨f26, u27⟩ : ∃ g : Nat → Int32, g = upd f23 (v18 : Int32).toNatClampNeg v22 := ⟨_, rfl⟩
        rw [← u27] at hP
        have b28 : y_bd 24 f26 := trivial
        have hP : va_P (dC, dI) vwCl (va_pl L (va_up F13 (A 24) (.inl (cs 0, 191277, .inl f26)))) H := hP
        obtain ⟨F29, hF30⟩ : ∃ G : Nat → va_E, G = va_up F13 (A 24) (.inl (cs 0, 191277, .inl f26)) := ⟨_, rfl⟩
        rw [← hF30] at hP
        have hI : y_I K cs A F29 := by rw [hF30]; exact y_clA (i := 24) hA hI (by decide) b28
        have hfr : ∀ b, K b ∉ [74] → F29 b = F b := by rw [hF30]; exact s_fr hfr (y_k24 hA) (by decide)
        have o31 : F29 (A 20) = .inl (cs 0, 918, .inl f19) := by rw [hF30]; exact th_ne (th_kd (y_k20 hA) (y_k24 hA) (by decide)) o20
        have oY32 : F29 a0 = .inr (7, y_fl A z0 q0) := by rw [hF30]; exact th_ne (th_kd ha0 (y_k24 hA) (by decide)) oY14
        have o33 : F29 (A 24) = .inl (cs 0, 191277, .inl f26) := by rw [hF30]; exact th_up
        have u34 : ∀ j : Int, 0 ≤ j → y_c f26 j = if j = v18.toInt then v22 else y_c f23 j := by rw [u27]; exact y_cu rfl (by omega)
        exact W.vret hx hb hr (fun t ht hW => ⟨⟨F29, rfl, ⟨trivial, trivial, hI, hfr, fun k hk => (y_fiZ oY32 (s_sub (by decide) hk)).trans ((hz0 k hk).trans (y_fiZ oY0 (s_sub (by decide) hk)).symm), trivial⟩, by rw [ht]; exact hP, va_K.moved hW.alike hK⟩, hS.F ht⟩) hS.2.2 dX7_laysState_243
      · have c17 := mt (ax_ge (n := 4) (by decide)).mpr c17
        refine lv_aload_n hx hb dX7_laysState_46 rfl (lv_at hl 0 rfl) ?_
        refine lv_iload_n hx hb dX7_laysState_47 rfl (lv_at hl 2 rfl) ?_
        refine lv_iconst (v := 0) hx hb dX7_laysState_48 (by decide) ?_
        obtain ⟨f35, o36, b37⟩ := y_op20 hI
        refine va_calli (va_runV (As := [.int w9, .int 0]) (rest := []) ⟨hx, hb, hml, hown, hts⟩ (y_X7_its l dC dI H.size hLK A hA F13 a0 w9 0 ha0 (⟨by omega, by omega⟩) (by decide) hI) (cwV 2 hts (ax_gV T_1057 T_1059 T_1060 T_265 T_1058) rfl rfl rfl (by decide +kernel) ⟨Nat.le_of_ble_eq_true rfl, Nat.le_of_ble_eq_true rfl⟩) ⟨fun a U g mk q => ⟨q.1, s_pc rfl rfl q.2⟩, s_recv hK hP (hLK _ ha0 (by decide)) (ci := 7) rfl oY14, fun U hU hW => ⟨rfl, s_pw hU hW hP hK hD hN⟩⟩ rfl rfl hl.1 rfl (lv_room (Nat.le_of_ble_eq_true rfl)) dX7_laysState_49 ⟨Nat.zero_le _, Nat.zero_le _⟩) hS (fun q _ h => h) (fun q h => h) (fun r39 F40 t H1 locs ht hvm hw hB hz1 hk1 hS => ?_)
        obtain ⟨hP, hK1⟩ := hB
        rw [ht] at hP
        generalize H1 = H at hP hS ⊢
        obtain ⟨h41, h43, hI, hfr1, hzf, h42⟩ := hw
        have o44 : F40 (A 20) = .inl (cs 0, 918, .inl f35) := (hfr1 _ (by rw [(y_k20 hA)]; decide)).trans o36
        have oY45 : F40 a0 = .inr (7, y_fl A z0 q0) := (hfr1 _ (by rw [ha0]; decide)).trans oY14
        have hfr : ∀ b, K b ∉ [74] → F40 b = F b := fun b hb9 => (hfr1 b (fun q => hb9 (s_sub (by decide) q))).trans (hfr b hb9)
        have h42 : (r39 = y_c f35 (104 + 6 * w9.toInt + 0)) := by have q9 := h42; rw [y_atE o36] at q9; exact q9
        have h42 : r39 = y_c f35 (104 + 6 * w9.toInt) := h42.trans (congrArg (y_c f35) (by omega))
        have h46 := congrArg Int32.toInt h42
        refine lv_aload_n hx hb dX7_laysState_52 rfl (lv_at hl 0 rfl) ?_
        refine th_get (D := (dC, dI)) (ci := 7) (v := .ref (A 20)) (C := RX7) (T := TX7) (N := 34) hx hb hts inX7 hown hK hP (hLK _ ha0 (by decide)) oY45 rfl 20 (by decide) (hts _ T_251) (fun _ h9 => h9) rfl dX7_laysState_53 ?_
        refine lv_iconst (v := 0) hx hb dX7_laysState_56 (by decide) ?_
        refine th_iald hx hb hK hP (hLK _ (y_k20 hA) (by decide)) 0 o44 rfl (ax_in (by decide)) dX7_laysState_57 ?_
        refine lv_topi (fun v47 ev47 => ?_)
        refine lv_isub hx hb dX7_laysState_58 ?_
        refine lv_topi (fun v48 ev48 => ?_)
        refine lv_istore (lv' := [(4, .int v48), (0, .ref a0), (2, .int v1), (3, .int w9)]) hx hb dX7_laysState_59 hl (by decide) rfl (fun ls hl => ?_)
        refine lv_aload_n hx hb dX7_laysState_61 rfl (lv_at hl 1 rfl) ?_
        refine th_get (D := (dC, dI)) (ci := 7) (v := .ref (A 24)) (C := RX7) (T := TX7) (N := 34) hx hb hts inX7 hown hK hP (hLK _ ha0 (by decide)) oY45 rfl 24 (by decide) (hts _ T_256) (fun _ h9 => h9) rfl dX7_laysState_62 ?_
        refine lv_iload_n hx hb dX7_laysState_65 rfl (lv_at hl 2 rfl) ?_
        refine lv_iload_n hx hb dX7_laysState_66 rfl (lv_at hl 3 rfl) ?_
        refine lv_iconst (v := 0) hx hb dX7_laysState_67 (by decide) ?_
        refine va_calli (va_runS (As := [.int w9, .int 0]) (rest := [.int v1, .ref (A 24)]) ⟨hx, hb, hml, hown, hts⟩ (y_X7_warpAt l dC dI H.size F40 w9 0 (⟨by omega, by omega⟩) (by decide)) (cwS 2 hts (ax_gS T_1021 T_1023 T_265 T_1022) rfl rfl rfl (by decide +kernel) ⟨Nat.le_of_ble_eq_true rfl, Nat.le_of_ble_eq_true rfl⟩) ⟨fun a U g mk q => ⟨q.1, s_pc rfl rfl q.2⟩, fun U hU hW => ⟨rfl, s_pw hU hW hP hK hD hN⟩⟩ rfl rfl hl.1 rfl (lv_room (Nat.le_of_ble_eq_true rfl)) dX7_laysState_68 ⟨Nat.zero_le _, Nat.zero_le _⟩) hS (fun q _ h => h) (fun q h => h) (fun r50 F51 t H1 locs ht hvm hw hB hz1 hk1 hS => ?_)
        obtain ⟨hP, hK1⟩ := hB
        rw [ht] at hP
        generalize H1 = H at hP hS ⊢
        obtain ⟨h52, h54, hG9, h53⟩ := hw
        rw [hG9] at hP
        have h53 : (r50.toInt = 104 + 6 * w9.toInt + 0) := by have q9 := h53; exact q9
        refine lv_iadd hx hb dX7_laysState_71 ?_
        refine lv_topi (fun v55 ev55 => ?_)
        have qv55 : v55.toInt = v1.toInt + r50.toInt := by rw [ev55]; exact th_add rfl rfl ⟨by omega, by omega⟩
        refine lv_bipush (v := 8) hx hb dX7_laysState_72 (by decide) ?_
        refine lv_isub hx hb dX7_laysState_74 ?_
        refine lv_topi (fun v56 ev56 => ?_)
        have qv56 : v56.toInt = v55.toInt - 8 := by rw [ev56]; exact th_sub rfl (by decide) ⟨by omega, by omega⟩
        refine lv_iload hx hb dX7_laysState_75 (lv_at hl 0 rfl) ?_
        refine lv_if_le (tgt := 85) hx hb dX7_laysState_77 (by decide) (fun c57 => ?_) (fun c57 => ?_)
        · have c57 := (ax_le (n := 0) (by decide)).mp c57
          refine lv_iconst (v := 0) hx hb dX7_laysState_85 (by decide) ?_
          have h58 : (0 : Int32).toInt = 0 := by decide
          exact K86 _ _ _ ⟨F40, _, 0, v56, rfl, lv_sub hl [1, 2, 3] rfl, hP, hS, hI, hfr, (fun k hk => (y_fiZ oY45 (s_sub (by decide) hk)).trans (hz0 k hk)), (by decide), ⟨by omega, by omega⟩, ⟨by omega, by omega⟩, ⟨by omega, by omega⟩⟩
        · have c57 := mt (ax_le (n := 0) (by decide)).mpr c57
          refine lv_iload hx hb dX7_laysState_80 (lv_at hl 0 rfl) ?_
          refine lv_goto (tgt := 86) hx hb dX7_laysState_82 (by decide) ?_
          exact K86 _ _ _ ⟨F40, _, v48, v56, rfl, lv_sub hl [1, 2, 3] rfl, hP, hS, hI, hfr, (fun k hk => (y_fiZ oY45 (s_sub (by decide) hk)).trans (hz0 k hk)), ⟨by omega, by have q9 := th_hi v48; omega⟩, ⟨by omega, by omega⟩, ⟨by omega, by omega⟩, ⟨by omega, by omega⟩⟩
    · intro g H locs hq
      obtain ⟨F63, ls, w15, w16, rfl, hl, hP, hS, hI, hfr, hz0, h59, h60, h61, h62⟩ := hq
      have oY64 : F63 a0 = .inr (7, y_fl A z0 q0) := (hfr _ (by rw [ha0]; decide)).trans oY0
      have hz0 : ∀ k, k ∈ ([1, 2, 3, 4, 5, 6, 7, 8, 11, 15, 16, 19, 25, 26, 27, 31, 32] : List Nat) → z0 k = z0 k := fun _ _ => rfl
      obtain ⟨f65, o66, b67⟩ := y_op24 hI
      refine th_iast hx hb hK hP hD hS (hLK _ (y_k24 hA) (by decide)) 0 o66 rfl (th_in ⟨by omega, by omega⟩) dX7_laysState_86 (fun H locs hP hS => ?_)
      obtain ⟨f68, u69⟩ : ∃ g : Nat → Int32, g = upd f65 (w16 : Int32).toNatClampNeg w15 := ⟨_, rfl⟩
      rw [← u69] at hP
      have b70 : y_bd 24 f68 := trivial
      have hP : va_P (dC, dI) vwCl (va_pl L (va_up F63 (A 24) (.inl (cs 0, 191277, .inl f68)))) H := hP
      obtain ⟨F71, hF72⟩ : ∃ G : Nat → va_E, G = va_up F63 (A 24) (.inl (cs 0, 191277, .inl f68)) := ⟨_, rfl⟩
      rw [← hF72] at hP
      have hI : y_I K cs A F71 := by rw [hF72]; exact y_clA (i := 24) hA hI (by decide) b70
      have hfr : ∀ b, K b ∉ [74] → F71 b = F b := by rw [hF72]; exact s_fr hfr (y_k24 hA) (by decide)
      have oY73 : F71 a0 = .inr (7, y_fl A z0 q0) := by rw [hF72]; exact th_ne (th_kd ha0 (y_k24 hA) (by decide)) oY64
      have o74 : F71 (A 24) = .inl (cs 0, 191277, .inl f68) := by rw [hF72]; exact th_up
      have u75 : ∀ j : Int, 0 ≤ j → y_c f68 j = if j = w16.toInt then w15 else y_c f65 j := by rw [u69]; exact y_cu rfl (by omega)
      refine lv_aload_n hx hb dX7_laysState_87 rfl (lv_at hl 0 rfl) ?_
      refine th_get (D := (dC, dI)) (ci := 7) (v := .ref (A 24)) (C := RX7) (T := TX7) (N := 34) hx hb hts inX7 hown hK hP (hLK _ ha0 (by decide)) oY73 rfl 24 (by decide) (hts _ T_256) (fun _ h9 => h9) rfl dX7_laysState_88 ?_
      refine lv_iload_n hx hb dX7_laysState_91 rfl (lv_at hl 1 rfl) ?_
      refine lv_iload_n hx hb dX7_laysState_92 rfl (lv_at hl 2 rfl) ?_
      refine lv_iconst (v := 2) hx hb dX7_laysState_93 (by decide) ?_
      refine va_calli (va_runS (As := [.int w9, .int 2]) (rest := [.int v1, .ref (A 24)]) ⟨hx, hb, hml, hown, hts⟩ (y_X7_warpAt l dC dI H.size F71 w9 2 (⟨by omega, by omega⟩) (by decide)) (cwS 2 hts (ax_gS T_1021 T_1023 T_265 T_1022) rfl rfl rfl (by decide +kernel) ⟨Nat.le_of_ble_eq_true rfl, Nat.le_of_ble_eq_true rfl⟩) ⟨fun a U g mk q => ⟨q.1, s_pc rfl rfl q.2⟩, fun U hU hW => ⟨rfl, s_pw hU hW hP hK hD hN⟩⟩ rfl rfl hl.1 rfl (lv_room (Nat.le_of_ble_eq_true rfl)) dX7_laysState_94 ⟨Nat.zero_le _, Nat.zero_le _⟩) hS (fun q _ h => h) (fun q h => h) (fun r77 F78 t H1 locs ht hvm hw hB hz1 hk1 hS => ?_)
      obtain ⟨hP, hK1⟩ := hB
      rw [ht] at hP
      generalize H1 = H at hP hS ⊢
      obtain ⟨h79, h81, hG9, h80⟩ := hw
      rw [hG9] at hP
      have h80 : (r77.toInt = 104 + 6 * w9.toInt + 2) := by have q9 := h80; exact q9
      refine lv_iadd hx hb dX7_laysState_97 ?_
      refine lv_topi (fun v82 ev82 => ?_)
      have qv82 : v82.toInt = v1.toInt + r77.toInt := by rw [ev82]; exact th_add rfl rfl ⟨by omega, by omega⟩
      refine lv_bipush (v := 8) hx hb dX7_laysState_98 (by decide) ?_
      refine lv_isub hx hb dX7_laysState_100 ?_
      refine lv_topi (fun v83 ev83 => ?_)
      have qv83 : v83.toInt = v82.toInt - 8 := by rw [ev83]; exact th_sub rfl (by decide) ⟨by omega, by omega⟩
      refine lv_iconst (v := 0) hx hb dX7_laysState_101 (by decide) ?_
      refine th_iast hx hb hK hP hD hS (hLK _ (y_k24 hA) (by decide)) 0 o74 rfl (th_in ⟨by omega, by omega⟩) dX7_laysState_102 (fun H locs hP hS => ?_)
      obtain ⟨f84, u85⟩ : ∃ g : Nat → Int32, g = upd f68 (v83 : Int32).toNatClampNeg 0 := ⟨_, rfl⟩
      rw [← u85] at hP
      have b86 : y_bd 24 f84 := trivial
      have hP : va_P (dC, dI) vwCl (va_pl L (va_up F71 (A 24) (.inl (cs 0, 191277, .inl f84)))) H := hP
      obtain ⟨F87, hF88⟩ : ∃ G : Nat → va_E, G = va_up F71 (A 24) (.inl (cs 0, 191277, .inl f84)) := ⟨_, rfl⟩
      rw [← hF88] at hP
      have hI : y_I K cs A F87 := by rw [hF88]; exact y_clA (i := 24) hA hI (by decide) b86
      have hfr : ∀ b, K b ∉ [74] → F87 b = F b := by rw [hF88]; exact s_fr hfr (y_k24 hA) (by decide)
      have oY89 : F87 a0 = .inr (7, y_fl A z0 q0) := by rw [hF88]; exact th_ne (th_kd ha0 (y_k24 hA) (by decide)) oY73
      have o90 : F87 (A 24) = .inl (cs 0, 191277, .inl f84) := by rw [hF88]; exact th_up
      have u91 : ∀ j : Int, 0 ≤ j → y_c f84 j = if j = v83.toInt then 0 else y_c f68 j := by rw [u85]; exact y_cu rfl (by omega)
      refine lv_iconst (v := 0) hx hb dX7_laysState_103 (by decide) ?_
      refine lv_istore (lv' := [(5, .int 0), (0, .ref a0), (2, .int v1), (3, .int w9)]) hx hb dX7_laysState_104 hl (by decide) rfl (fun ls hl => ?_)
      have h93 : (0 : Int32).toInt = 0 := by decide
      refine th_loop (fun n g H locs => ∃ (G : Nat → va_E) (ls : Array Slot) (w92 : Int32), g = F0 m 106 ls [] ∧ lv_has ls 7 [(0, .ref a0), (2, .int v1), (3, .int w9), (5, .int w92)] ∧ va_P (dC, dI) vwCl (va_pl L G) H ∧ va_S (fun q => q ∈ L) s.heap H locs ∧ y_I K cs A G ∧ (∀ b, K b ∉ [74] → G b = F b) ∧ (∀ k, k ∈ ([1, 2, 3, 4, 5, 6, 7, 8, 11, 15, 16, 19, 25, 26, 27, 31, 32] : List Nat) → y_fi G a0 k = z0 k) ∧ (0 ≤ w92.toInt ∧ w92.toInt ≤ 16) ∧ (0 ≤ v1.toInt ∧ v1.toInt ≤ 190800) ∧ (0 ≤ w9.toInt ∧ w9.toInt ≤ 3) ∧ n = (17 - w92.toInt).toNat) _ ⟨F87, _, 0, rfl, lv_sub hl [1, 2, 3, 0] rfl, hP, hS, hI, hfr, (fun k hk => (y_fiZ oY89 (s_sub (by decide) hk)).trans (hz0 k hk)), (by decide), ⟨by omega, by omega⟩, ⟨by omega, by omega⟩, rfl⟩ (fun n ih106 g H locs hq => ?_)
      obtain ⟨F97, ls, w92, rfl, hl, hP, hS, hI, hfr, hz0, h94, h95, h96, hn⟩ := hq
      have oY98 : F97 a0 = .inr (7, y_fl A z0 q0) := (hfr _ (by rw [ha0]; decide)).trans oY0
      have hz0 : ∀ k, k ∈ ([1, 2, 3, 4, 5, 6, 7, 8, 11, 15, 16, 19, 25, 26, 27, 31, 32] : List Nat) → z0 k = z0 k := fun _ _ => rfl
      have hn_98 := hn
      refine th_join (fun g H locs => ∃ (G : Nat → va_E) (ls : Array Slot), g = F0 m 158 ls [] ∧ lv_has ls 7 [(0, .ref a0), (2, .int v1), (3, .int w9), (5, .int w92)] ∧ va_P (dC, dI) vwCl (va_pl L G) H ∧ va_S (fun q => q ∈ L) s.heap H locs ∧ y_I K cs A G ∧ (∀ b, K b ∉ [74] → G b = F b) ∧ (∀ k, k ∈ ([1, 2, 3, 4, 5, 6, 7, 8, 11, 15, 16, 19, 25, 26, 27, 31, 32] : List Nat) → y_fi G a0 k = z0 k) ∧ (0 ≤ v1.toInt ∧ v1.toInt ≤ 190800) ∧ (0 ≤ w9.toInt ∧ w9.toInt ≤ 3) ∧ (0 ≤ w92.toInt ∧ w92.toInt ≤ 15)) (fun K158 => ?_) ?_
      · refine lv_iload hx hb dX7_laysState_106 (lv_at hl 3 rfl) ?_
        refine lv_bipush (v := 16) hx hb dX7_laysState_108 (by decide) ?_
        refine lv_icmp_ge (tgt := 164) hx hb dX7_laysState_110 (by decide) (fun c99 => ?_) (fun c99 => ?_)
        · have c99 := (ax_ge (n := 16) (by decide)).mp c99
          refine lv_iconst (v := 0) hx hb dX7_laysState_164 (by decide) ?_
          refine lv_istore (lv' := [(5, .int 0), (0, .ref a0), (2, .int v1), (3, .int w9)]) hx hb dX7_laysState_165 hl (by decide) rfl (fun ls hl => ?_)
          have h101 : (0 : Int32).toInt = 0 := by decide
          refine th_loop (fun n g H locs => ∃ (G : Nat → va_E) (ls : Array Slot) (w100 : Int32), g = F0 m 167 ls [] ∧ lv_has ls 7 [(0, .ref a0), (2, .int v1), (3, .int w9), (5, .int w100)] ∧ va_P (dC, dI) vwCl (va_pl L G) H ∧ va_S (fun q => q ∈ L) s.heap H locs ∧ y_I K cs A G ∧ (∀ b, K b ∉ [74] → G b = F b) ∧ (∀ k, k ∈ ([1, 2, 3, 4, 5, 6, 7, 8, 11, 15, 16, 19, 25, 26, 27, 31, 32] : List Nat) → y_fi G a0 k = z0 k) ∧ (0 ≤ w100.toInt ∧ w100.toInt ≤ 8) ∧ (0 ≤ v1.toInt ∧ v1.toInt ≤ 190800) ∧ (0 ≤ w9.toInt ∧ w9.toInt ≤ 3) ∧ n = (9 - w100.toInt).toNat) _ ⟨F97, _, 0, rfl, lv_sub hl [1, 2, 3, 0] rfl, hP, hS, hI, hfr, (fun k hk => (y_fiZ oY98 (s_sub (by decide) hk)).trans (hz0 k hk)), (by decide), ⟨by omega, by omega⟩, ⟨by omega, by omega⟩, rfl⟩ (fun n ih167 g H locs hq => ?_)
          obtain ⟨F105, ls, w100, rfl, hl, hP, hS, hI, hfr, hz0, h102, h103, h104, hn⟩ := hq
          have oY106 : F105 a0 = .inr (7, y_fl A z0 q0) := (hfr _ (by rw [ha0]; decide)).trans oY0
          have hz0 : ∀ k, k ∈ ([1, 2, 3, 4, 5, 6, 7, 8, 11, 15, 16, 19, 25, 26, 27, 31, 32] : List Nat) → z0 k = z0 k := fun _ _ => rfl
          have hn_106 := hn
          refine th_join (fun g H locs => ∃ (G : Nat → va_E) (ls : Array Slot), g = F0 m 214 ls [] ∧ lv_has ls 7 [(0, .ref a0), (2, .int v1), (3, .int w9), (5, .int w100)] ∧ va_P (dC, dI) vwCl (va_pl L G) H ∧ va_S (fun q => q ∈ L) s.heap H locs ∧ y_I K cs A G ∧ (∀ b, K b ∉ [74] → G b = F b) ∧ (∀ k, k ∈ ([1, 2, 3, 4, 5, 6, 7, 8, 11, 15, 16, 19, 25, 26, 27, 31, 32] : List Nat) → y_fi G a0 k = z0 k) ∧ (0 ≤ v1.toInt ∧ v1.toInt ≤ 190800) ∧ (0 ≤ w9.toInt ∧ w9.toInt ≤ 3) ∧ (0 ≤ w100.toInt ∧ w100.toInt ≤ 7)) (fun K214 => ?_) ?_
          refine th_join (fun g H locs => ∃ (G : Nat → va_E) (ls : Array Slot), g = F0 m 197 ls [] ∧ lv_has ls 7 [(0, .ref a0), (2, .int v1), (3, .int w9), (5, .int w100)] ∧ va_P (dC, dI) vwCl (va_pl L G) H ∧ va_S (fun q => q ∈ L) s.heap H locs ∧ y_I K cs A G ∧ (∀ b, K b ∉ [74] → G b = F b) ∧ (∀ k, k ∈ ([1, 2, 3, 4, 5, 6, 7, 8, 11, 15, 16, 19, 25, 26, 27, 31, 32] : List Nat) → y_fi G a0 k = z0 k) ∧ (0 ≤ v1.toInt ∧ v1.toInt ≤ 190800) ∧ (0 ≤ w9.toInt ∧ w9.toInt ≤ 3) ∧ (0 ≤ w100.toInt ∧ w100.toInt ≤ 7)) (fun K197 => ?_) ?_
          · refine lv_iload hx hb dX7_laysState_167 (lv_at hl 3 rfl) ?_
            refine lv_bipush (v := 8) hx hb dX7_laysState_169 (by decide) ?_
            refine lv_icmp_ge (tgt := 220) hx hb dX7_laysState_171 (by decide) (fun c107 => ?_) (fun c107 => ?_)
            · have c107 := (ax_ge (n := 8) (by decide)).mp c107
              obtain ⟨v108, ev108⟩ : ∃ y : Int32, w9 + 1 = y := ⟨_, rfl⟩
              have qv108 : v108.toInt = w9.toInt + 1 := by rw [← ev108]; exact th_add rfl (by decide) ⟨by omega, by omega⟩
              refine lv_iinc (v := v108) (lv' := [(3, .int v108), (0, .ref a0), (2, .int v1), (5, .int w100)]) hx hb dX7_laysState_220 hl (k := 2) rfl ev108 (by decide) rfl (fun ls hl => ?_)
              refine lv_goto (tgt := 41) hx hb dX7_laysState_223 (by decide) ?_
              exact ih41 _ _ _ _ (by omega) ⟨F105, _, v108, rfl, lv_sub hl [1, 2, 0] rfl, hP, hS, hI, hfr, (fun k hk => (y_fiZ oY106 (s_sub (by decide) hk)).trans (hz0 k hk)), ⟨by omega, by omega⟩, ⟨by omega, by omega⟩, rfl⟩
            · have c107 := mt (ax_ge (n := 8) (by decide)).mpr c107
              refine lv_aload_n hx hb dX7_laysState_174 rfl (lv_at hl 0 rfl) ?_
              refine th_get (D := (dC, dI)) (ci := 7) (v := .ref (A 20)) (C := RX7) (T := TX7) (N := 34) hx hb hts inX7 hown hK hP (hLK _ ha0 (by decide)) oY106 rfl 20 (by decide) (hts _ T_251) (fun _ h9 => h9) rfl dX7_laysState_175 ?_
              refine lv_iconst (v := 3) hx hb dX7_laysState_178 (by decide) ?_
              obtain ⟨f109, o110, b111⟩ := y_op20 hI
              refine th_iald hx hb hK hP (hLK _ (y_k20 hA) (by decide)) 0 o110 rfl (ax_in (by decide)) dX7_laysState_179 ?_
              refine lv_topi (fun v112 ev112 => ?_)
              refine lv_if_eq (tgt := 197) hx hb dX7_laysState_180 (by decide) (fun c113 => ?_) (fun c113 => ?_)
              · have c113 := (ax_eq (n := 0) (by decide)).mp c113
                exact K197 _ _ _ ⟨F105, _, rfl, lv_sub hl [0, 1, 2, 3] rfl, hP, hS, hI, hfr, (fun k hk => (y_fiZ oY106 (s_sub (by decide) hk)).trans (hz0 k hk)), ⟨by omega, by omega⟩, ⟨by omega, by omega⟩, ⟨by omega, by omega⟩⟩
              · have c113 := mt (ax_eq (n := 0) (by decide)).mpr c113
                refine lv_aload_n hx hb dX7_laysState_183 rfl (lv_at hl 0 rfl) ?_
                refine lv_iload_n hx hb dX7_laysState_184 rfl (lv_at hl 2 rfl) ?_
                refine lv_iconst (v := 3) hx hb dX7_laysState_185 (by decide) ?_
                refine va_calli (va_runV (As := [.int w9, .int 3]) (rest := []) ⟨hx, hb, hml, hown, hts⟩ (y_X7_its l dC dI H.size hLK A hA F105 a0 w9 3 ha0 (⟨by omega, by omega⟩) (by decide) hI) (cwV 2 hts (ax_gV T_1057 T_1059 T_1060 T_265 T_1058) rfl rfl rfl (by decide +kernel) ⟨Nat.le_of_ble_eq_true rfl, Nat.le_of_ble_eq_true rfl⟩) ⟨fun a U g mk q => ⟨q.1, s_pc rfl rfl q.2⟩, s_recv hK hP (hLK _ ha0 (by decide)) (ci := 7) rfl oY106, fun U hU hW => ⟨rfl, s_pw hU hW hP hK hD hN⟩⟩ rfl rfl hl.1 rfl (lv_room (Nat.le_of_ble_eq_true rfl)) dX7_laysState_186 ⟨Nat.zero_le _, Nat.zero_le _⟩) hS (fun q _ h => h) (fun q h => h) (fun r115 F116 t H1 locs ht hvm hw hB hz1 hk1 hS => ?_)
                obtain ⟨hP, hK1⟩ := hB
                rw [ht] at hP
                generalize H1 = H at hP hS ⊢
                obtain ⟨h117, h119, hI, hfr1, hzf, h118⟩ := hw
                have o120 : F116 (A 20) = .inl (cs 0, 918, .inl f109) := (hfr1 _ (by rw [(y_k20 hA)]; decide)).trans o110
                have oY121 : F116 a0 = .inr (7, y_fl A z0 q0) := (hfr1 _ (by rw [ha0]; decide)).trans oY106
                have hfr : ∀ b, K b ∉ [74] → F116 b = F b := fun b hb9 => (hfr1 b (fun q => hb9 (s_sub (by decide) q))).trans (hfr b hb9)
                have h118 : (r115 = y_c f109 (104 + 6 * w9.toInt + 3)) := by have q9 := h118; rw [y_atE o110] at q9; exact q9
                have h118 : r115 = y_c f109 (107 + 6 * w9.toInt) := h118.trans (congrArg (y_c f109) (by omega))
                have h122 := congrArg Int32.toInt h118
                refine lv_iload hx hb dX7_laysState_189 (lv_at hl 3 rfl) ?_
                refine va_calli (va_runS (As := [.int r115, .int w100]) (rest := []) ⟨hx, hb, hml, hown, hts⟩ (y_X7_isOf l dC dI H.size F116 r115 w100 (⟨by omega, by omega⟩)) (cwS 2 hts (ax_gS T_1027 T_1029 T_265 T_1028) rfl rfl rfl (by decide +kernel) ⟨Nat.le_of_ble_eq_true rfl, Nat.le_of_ble_eq_true rfl⟩) ⟨fun a U g mk q => ⟨q.1, s_pc rfl rfl q.2⟩, fun U hU hW => ⟨rfl, s_pw hU hW hP hK hD hN⟩⟩ rfl rfl hl.1 rfl (lv_room (Nat.le_of_ble_eq_true rfl)) dX7_laysState_191 ⟨Nat.zero_le _, Nat.zero_le _⟩) hS (fun q _ h => h) (fun q h => h) (fun r124 F125 t H1 locs ht hvm hw hB hz1 hk1 hS => ?_)
                obtain ⟨hP, hK1⟩ := hB
                rw [ht] at hP
                generalize H1 = H at hP hS ⊢
                obtain ⟨h126, h128, hG9, h127⟩ := hw
                rw [hG9] at hP
                have h127 : ((r124.toInt = 1 ∧ bt r115 w100.toInt.toNat = true) ∨ (r124.toInt = 0 ∧ bt r115 w100.toInt.toNat = false)) := by have q9 := h127; exact q9
                refine lv_if_ne (tgt := 214) hx hb dX7_laysState_194 (by decide) (fun c129 => ?_) (fun c129 => ?_)
                · have c129 := mt (ax_eq (n := 0) (by decide)).mpr c129
                  exact K214 _ _ _ ⟨F116, _, rfl, lv_sub hl [0, 1, 2, 3] rfl, hP, hS, hI, hfr, (fun k hk => (y_fiZ oY121 (s_sub (by decide) hk)).trans (hz0 k hk)), ⟨by omega, by omega⟩, ⟨by omega, by omega⟩, ⟨by omega, by omega⟩⟩
                · have c129 := (ax_eq (n := 0) (by decide)).mp c129
                  exact K197 _ _ _ ⟨F116, _, rfl, lv_sub hl [0, 1, 2, 3] rfl, hP, hS, hI, hfr, (fun k hk => (y_fiZ oY121 (s_sub (by decide) hk)).trans (hz0 k hk)), ⟨by omega, by omega⟩, ⟨by omega, by omega⟩, ⟨by omega, by omega⟩⟩
          · intro g H locs hq
            obtain ⟨F133, ls, rfl, hl, hP, hS, hI, hfr, hz0, h130, h131, h132⟩ := hq
            have oY134 : F133 a0 = .inr (7, y_fl A z0 q0) := (hfr _ (by rw [ha0]; decide)).trans oY0
            have hz0 : ∀ k, k ∈ ([1, 2, 3, 4, 5, 6, 7, 8, 11, 15, 16, 19, 25, 26, 27, 31, 32] : List Nat) → z0 k = z0 k := fun _ _ => rfl
            refine lv_aload_n hx hb dX7_laysState_197 rfl (lv_at hl 0 rfl) ?_
            refine th_get (D := (dC, dI)) (ci := 7) (v := .ref (A 24)) (C := RX7) (T := TX7) (N := 34) hx hb hts inX7 hown hK hP (hLK _ ha0 (by decide)) oY134 rfl 24 (by decide) (hts _ T_256) (fun _ h9 => h9) rfl dX7_laysState_198 ?_
            refine lv_iload_n hx hb dX7_laysState_201 rfl (lv_at hl 1 rfl) ?_
            refine lv_iload_n hx hb dX7_laysState_202 rfl (lv_at hl 2 rfl) ?_
            refine lv_iload hx hb dX7_laysState_203 (lv_at hl 3 rfl) ?_
            refine va_calli (va_runS (As := [.int w9, .int w100]) (rest := [.int v1, .ref (A 24)]) ⟨hx, hb, hml, hown, hts⟩ (y_X7_nextAt l dC dI H.size F133 w9 w100 (⟨by omega, by omega⟩) (⟨by omega, by omega⟩)) (cwS 2 hts (ax_gS T_1024 T_1026 T_265 T_1025) rfl rfl rfl (by decide +kernel) ⟨Nat.le_of_ble_eq_true rfl, Nat.le_of_ble_eq_true rfl⟩) ⟨fun a U g mk q => ⟨q.1, s_pc rfl rfl q.2⟩, fun U hU hW => ⟨rfl, s_pw hU hW hP hK hD hN⟩⟩ rfl rfl hl.1 rfl (lv_room (Nat.le_of_ble_eq_true rfl)) dX7_laysState_205 ⟨Nat.zero_le _, Nat.zero_le _⟩) hS (fun q _ h => h) (fun q h => h) (fun r136 F137 t H1 locs ht hvm hw hB hz1 hk1 hS => ?_)
            obtain ⟨hP, hK1⟩ := hB
            rw [ht] at hP
            generalize H1 = H at hP hS ⊢
            obtain ⟨h138, h140, hG9, h139⟩ := hw
            rw [hG9] at hP
            have h139 : (r136.toInt = 256 + 8 * w9.toInt + w100.toInt) := by have q9 := h139; exact q9
            refine lv_iadd hx hb dX7_laysState_208 ?_
            refine lv_topi (fun v141 ev141 => ?_)
            have qv141 : v141.toInt = v1.toInt + r136.toInt := by rw [ev141]; exact th_add rfl rfl ⟨by omega, by omega⟩
            refine lv_bipush (v := 8) hx hb dX7_laysState_209 (by decide) ?_
            refine lv_isub hx hb dX7_laysState_211 ?_
            refine lv_topi (fun v142 ev142 => ?_)
            have qv142 : v142.toInt = v141.toInt - 8 := by rw [ev142]; exact th_sub rfl (by decide) ⟨by omega, by omega⟩
            refine lv_iconst (v := 0) hx hb dX7_laysState_212 (by decide) ?_
            obtain ⟨f143, o144, b145⟩ := y_op24 hI
            refine th_iast hx hb hK hP hD hS (hLK _ (y_k24 hA) (by decide)) 0 o144 rfl (th_in ⟨by omega, by omega⟩) dX7_laysState_213 (fun H locs hP hS => ?_)
            obtain ⟨f146, u147⟩ : ∃ g : Nat → Int32, g = upd f143 (v142 : Int32).toNatClampNeg 0 := ⟨_, rfl⟩
            rw [← u147] at hP
            have b148 : y_bd 24 f146 := trivial
            have hP : va_P (dC, dI) vwCl (va_pl L (va_up F133 (A 24) (.inl (cs 0, 191277, .inl f146)))) H := hP
            obtain ⟨F149, hF150⟩ : ∃ G : Nat → va_E, G = va_up F133 (A 24) (.inl (cs 0, 191277, .inl f146)) := ⟨_, rfl⟩
            rw [← hF150] at hP
            have hI : y_I K cs A F149 := by rw [hF150]; exact y_clA (i := 24) hA hI (by decide) b148
            have hfr : ∀ b, K b ∉ [74] → F149 b = F b := by rw [hF150]; exact s_fr hfr (y_k24 hA) (by decide)
            have oY151 : F149 a0 = .inr (7, y_fl A z0 q0) := by rw [hF150]; exact th_ne (th_kd ha0 (y_k24 hA) (by decide)) oY134
            have o152 : F149 (A 24) = .inl (cs 0, 191277, .inl f146) := by rw [hF150]; exact th_up
            have u153 : ∀ j : Int, 0 ≤ j → y_c f146 j = if j = v142.toInt then 0 else y_c f143 j := by rw [u147]; exact y_cu rfl (by omega)
            exact K214 _ _ _ ⟨F149, _, rfl, lv_sub hl [0, 1, 2, 3] rfl, hP, hS, hI, hfr, (fun k hk => (y_fiZ oY151 (s_sub (by decide) hk)).trans (hz0 k hk)), ⟨by omega, by omega⟩, ⟨by omega, by omega⟩, ⟨by omega, by omega⟩⟩
          · intro g H locs hq
            obtain ⟨F157, ls, rfl, hl, hP, hS, hI, hfr, hz0, h154, h155, h156⟩ := hq
            have oY158 : F157 a0 = .inr (7, y_fl A z0 q0) := (hfr _ (by rw [ha0]; decide)).trans oY0
            have hz0 : ∀ k, k ∈ ([1, 2, 3, 4, 5, 6, 7, 8, 11, 15, 16, 19, 25, 26, 27, 31, 32] : List Nat) → z0 k = z0 k := fun _ _ => rfl
            obtain ⟨v159, ev159⟩ : ∃ y : Int32, w100 + 1 = y := ⟨_, rfl⟩
            have qv159 : v159.toInt = w100.toInt + 1 := by rw [← ev159]; exact th_add rfl (by decide) ⟨by omega, by omega⟩
            refine lv_iinc (v := v159) (lv' := [(5, .int v159), (0, .ref a0), (2, .int v1), (3, .int w9)]) hx hb dX7_laysState_214 hl (k := 3) rfl ev159 (by decide) rfl (fun ls hl => ?_)
            refine lv_goto (tgt := 167) hx hb dX7_laysState_217 (by decide) ?_
            exact ih167 _ _ _ _ (by omega) ⟨F157, _, v159, rfl, lv_sub hl [1, 2, 3, 0] rfl, hP, hS, hI, hfr, (fun k hk => (y_fiZ oY158 (s_sub (by decide) hk)).trans (hz0 k hk)), ⟨by omega, by omega⟩, ⟨by omega, by omega⟩, ⟨by omega, by omega⟩, rfl⟩
        · have c99 := mt (ax_ge (n := 16) (by decide)).mpr c99
          refine lv_iload hx hb dX7_laysState_113 (lv_at hl 3 rfl) ?_
          refine lv_aload_n hx hb dX7_laysState_115 rfl (lv_at hl 0 rfl) ?_
          refine lv_iload_n hx hb dX7_laysState_116 rfl (lv_at hl 2 rfl) ?_
          refine lv_iconst (v := 5) hx hb dX7_laysState_117 (by decide) ?_
          obtain ⟨f160, o161, b162⟩ := y_op20 hI
          refine va_calli (va_runV (As := [.int w9, .int 5]) (rest := [.int w92]) ⟨hx, hb, hml, hown, hts⟩ (y_X7_its l dC dI H.size hLK A hA F97 a0 w9 5 ha0 (⟨by omega, by omega⟩) (by decide) hI) (cwV 2 hts (ax_gV T_1057 T_1059 T_1060 T_265 T_1058) rfl rfl rfl (by decide +kernel) ⟨Nat.le_of_ble_eq_true rfl, Nat.le_of_ble_eq_true rfl⟩) ⟨fun a U g mk q => ⟨q.1, s_pc rfl rfl q.2⟩, s_recv hK hP (hLK _ ha0 (by decide)) (ci := 7) rfl oY98, fun U hU hW => ⟨rfl, s_pw hU hW hP hK hD hN⟩⟩ rfl rfl hl.1 rfl (lv_room (Nat.le_of_ble_eq_true rfl)) dX7_laysState_118 ⟨Nat.zero_le _, Nat.zero_le _⟩) hS (fun q _ h => h) (fun q h => h) (fun r164 F165 t H1 locs ht hvm hw hB hz1 hk1 hS => ?_)
          obtain ⟨hP, hK1⟩ := hB
          rw [ht] at hP
          generalize H1 = H at hP hS ⊢
          obtain ⟨h166, h168, hI, hfr1, hzf, h167⟩ := hw
          have o169 : F165 (A 20) = .inl (cs 0, 918, .inl f160) := (hfr1 _ (by rw [(y_k20 hA)]; decide)).trans o161
          have oY170 : F165 a0 = .inr (7, y_fl A z0 q0) := (hfr1 _ (by rw [ha0]; decide)).trans oY98
          have hfr : ∀ b, K b ∉ [74] → F165 b = F b := fun b hb9 => (hfr1 b (fun q => hb9 (s_sub (by decide) q))).trans (hfr b hb9)
          have h167 : (r164 = y_c f160 (104 + 6 * w9.toInt + 5)) := by have q9 := h167; rw [y_atE o161] at q9; exact q9
          have h167 : r164 = y_c f160 (109 + 6 * w9.toInt) := h167.trans (congrArg (y_c f160) (by omega))
          have h171 := congrArg Int32.toInt h167
          refine lv_icmp_lt (tgt := 158) hx hb dX7_laysState_121 (by decide) (fun c172 => ?_) (fun c172 => ?_)
          · have c172 := Int32.lt_iff_toInt_lt.mp c172
            exact K158 _ _ _ ⟨F165, _, rfl, lv_sub hl [0, 1, 2, 3] rfl, hP, hS, hI, hfr, (fun k hk => (y_fiZ oY170 (s_sub (by decide) hk)).trans (hz0 k hk)), ⟨by omega, by omega⟩, ⟨by omega, by omega⟩, ⟨by omega, by omega⟩⟩
          · have c172 := mt Int32.lt_iff_toInt_lt.mpr c172
            refine lv_iconst (v := 0) hx hb dX7_laysState_124 (by decide) ?_
            refine lv_istore (lv' := [(6, .int 0), (0, .ref a0), (2, .int v1), (3, .int w9), (5, .int w92)]) hx hb dX7_laysState_125 hl (by decide) rfl (fun ls hl => ?_)
            have h174 : (0 : Int32).toInt = 0 := by decide
            refine th_loop (fun n g H locs => ∃ (G : Nat → va_E) (ls : Array Slot) (w173 : Int32), g = F0 m 127 ls [] ∧ lv_has ls 7 [(0, .ref a0), (2, .int v1), (3, .int w9), (5, .int w92), (6, .int w173)] ∧ va_P (dC, dI) vwCl (va_pl L G) H ∧ va_S (fun q => q ∈ L) s.heap H locs ∧ y_I K cs A G ∧ (∀ b, K b ∉ [74] → G b = F b) ∧ (∀ k, k ∈ ([1, 2, 3, 4, 5, 6, 7, 8, 11, 15, 16, 19, 25, 26, 27, 31, 32] : List Nat) → y_fi G a0 k = z0 k) ∧ (0 ≤ w173.toInt ∧ w173.toInt ≤ 3) ∧ (0 ≤ v1.toInt ∧ v1.toInt ≤ 190800) ∧ (0 ≤ w9.toInt ∧ w9.toInt ≤ 3) ∧ (0 ≤ w92.toInt ∧ w92.toInt ≤ 15) ∧ n = (4 - w173.toInt).toNat) _ ⟨F165, _, 0, rfl, lv_sub hl [1, 2, 3, 4, 0] rfl, hP, hS, hI, hfr, (fun k hk => (y_fiZ oY170 (s_sub (by decide) hk)).trans (hz0 k hk)), (by decide), ⟨by omega, by omega⟩, ⟨by omega, by omega⟩, ⟨by omega, by omega⟩, rfl⟩ (fun n ih127 g H locs hq => ?_)
            obtain ⟨F179, ls, w173, rfl, hl, hP, hS, hI, hfr, hz0, h175, h176, h177, h178, hn⟩ := hq
            have oY180 : F179 a0 = .inr (7, y_fl A z0 q0) := (hfr _ (by rw [ha0]; decide)).trans oY0
            have hz0 : ∀ k, k ∈ ([1, 2, 3, 4, 5, 6, 7, 8, 11, 15, 16, 19, 25, 26, 27, 31, 32] : List Nat) → z0 k = z0 k := fun _ _ => rfl
            have hn_180 := hn
            refine lv_iload hx hb dX7_laysState_127 (lv_at hl 4 rfl) ?_
            refine lv_iconst (v := 3) hx hb dX7_laysState_129 (by decide) ?_
            refine lv_icmp_ge (tgt := 158) hx hb dX7_laysState_130 (by decide) (fun c181 => ?_) (fun c181 => ?_)
            · have c181 := (ax_ge (n := 3) (by decide)).mp c181
              exact K158 _ _ _ ⟨F179, _, rfl, lv_sub hl [0, 1, 2, 3] rfl, hP, hS, hI, hfr, (fun k hk => (y_fiZ oY180 (s_sub (by decide) hk)).trans (hz0 k hk)), ⟨by omega, by omega⟩, ⟨by omega, by omega⟩, ⟨by omega, by omega⟩⟩
            · have c181 := mt (ax_ge (n := 3) (by decide)).mpr c181
              refine lv_aload_n hx hb dX7_laysState_133 rfl (lv_at hl 0 rfl) ?_
              refine th_get (D := (dC, dI)) (ci := 7) (v := .ref (A 24)) (C := RX7) (T := TX7) (N := 34) hx hb hts inX7 hown hK hP (hLK _ ha0 (by decide)) oY180 rfl 24 (by decide) (hts _ T_256) (fun _ h9 => h9) rfl dX7_laysState_134 ?_
              refine lv_iload_n hx hb dX7_laysState_137 rfl (lv_at hl 1 rfl) ?_
              refine lv_iload_n hx hb dX7_laysState_138 rfl (lv_at hl 2 rfl) ?_
              refine lv_iload hx hb dX7_laysState_139 (lv_at hl 3 rfl) ?_
              refine lv_iload hx hb dX7_laysState_141 (lv_at hl 4 rfl) ?_
              refine va_calli (va_runS (As := [.int w9, .int w92, .int w173]) (rest := [.int v1, .ref (A 24)]) ⟨hx, hb, hml, hown, hts⟩ (y_X7_partAt l dC dI H.size F179 w9 w92 w173 (⟨by omega, by omega⟩) (⟨by omega, by omega⟩) (⟨by omega, by omega⟩)) (cwS 3 hts (ax_gS T_1078 T_1080 T_265 T_1079) rfl rfl rfl (by decide +kernel) ⟨Nat.le_of_ble_eq_true rfl, Nat.le_of_ble_eq_true rfl⟩) ⟨fun a U g mk q => ⟨q.1, s_pc rfl rfl q.2⟩, fun U hU hW => ⟨rfl, s_pw hU hW hP hK hD hN⟩⟩ rfl rfl hl.1 rfl (lv_room (Nat.le_of_ble_eq_true rfl)) dX7_laysState_143 ⟨Nat.zero_le _, Nat.zero_le _⟩) hS (fun q _ h => h) (fun q h => h) (fun r183 F184 t H1 locs ht hvm hw hB hz1 hk1 hS => ?_)
              obtain ⟨hP, hK1⟩ := hB
              rw [ht] at hP
              generalize H1 = H at hP hS ⊢
              obtain ⟨h185, h187, hG9, h186⟩ := hw
              rw [hG9] at hP
              have h186 : (r183.toInt = 288 + 48 * w9.toInt + 3 * w92.toInt + w173.toInt) := by have q9 := h186; exact q9
              refine lv_iadd hx hb dX7_laysState_146 ?_
              refine lv_topi (fun v188 ev188 => ?_)
              have qv188 : v188.toInt = v1.toInt + r183.toInt := by rw [ev188]; exact th_add rfl rfl ⟨by omega, by omega⟩
              refine lv_bipush (v := 8) hx hb dX7_laysState_147 (by decide) ?_
              refine lv_isub hx hb dX7_laysState_149 ?_
              refine lv_topi (fun v189 ev189 => ?_)
              have qv189 : v189.toInt = v188.toInt - 8 := by rw [ev189]; exact th_sub rfl (by decide) ⟨by omega, by omega⟩
              refine lv_iconst (v := 0) hx hb dX7_laysState_150 (by decide) ?_
              obtain ⟨f190, o191, b192⟩ := y_op24 hI
              refine th_iast hx hb hK hP hD hS (hLK _ (y_k24 hA) (by decide)) 0 o191 rfl (th_in ⟨by omega, by omega⟩) dX7_laysState_151 (fun H locs hP hS => ?_)
              obtain ⟨f193, u194⟩ : ∃ g : Nat → Int32, g = upd f190 (v189 : Int32).toNatClampNeg 0 := ⟨_, rfl⟩
              rw [← u194] at hP
              have b195 : y_bd 24 f193 := trivial
              have hP : va_P (dC, dI) vwCl (va_pl L (va_up F179 (A 24) (.inl (cs 0, 191277, .inl f193)))) H := hP
              obtain ⟨F196, hF197⟩ : ∃ G : Nat → va_E, G = va_up F179 (A 24) (.inl (cs 0, 191277, .inl f193)) := ⟨_, rfl⟩
              rw [← hF197] at hP
              have hI : y_I K cs A F196 := by rw [hF197]; exact y_clA (i := 24) hA hI (by decide) b195
              have hfr : ∀ b, K b ∉ [74] → F196 b = F b := by rw [hF197]; exact s_fr hfr (y_k24 hA) (by decide)
              have oY198 : F196 a0 = .inr (7, y_fl A z0 q0) := by rw [hF197]; exact th_ne (th_kd ha0 (y_k24 hA) (by decide)) oY180
              have o199 : F196 (A 24) = .inl (cs 0, 191277, .inl f193) := by rw [hF197]; exact th_up
              have u200 : ∀ j : Int, 0 ≤ j → y_c f193 j = if j = v189.toInt then 0 else y_c f190 j := by rw [u194]; exact y_cu rfl (by omega)
              obtain ⟨v201, ev201⟩ : ∃ y : Int32, w173 + 1 = y := ⟨_, rfl⟩
              have qv201 : v201.toInt = w173.toInt + 1 := by rw [← ev201]; exact th_add rfl (by decide) ⟨by omega, by omega⟩
              refine lv_iinc (v := v201) (lv' := [(6, .int v201), (0, .ref a0), (2, .int v1), (3, .int w9), (5, .int w92)]) hx hb dX7_laysState_152 hl (k := 4) rfl ev201 (by decide) rfl (fun ls hl => ?_)
              refine lv_goto (tgt := 127) hx hb dX7_laysState_155 (by decide) ?_
              exact ih127 _ _ _ _ (by omega) ⟨F196, _, v201, rfl, lv_sub hl [1, 2, 3, 4, 0] rfl, hP, hS, hI, hfr, (fun k hk => (y_fiZ oY198 (s_sub (by decide) hk)).trans (hz0 k hk)), ⟨by omega, by omega⟩, ⟨by omega, by omega⟩, ⟨by omega, by omega⟩, ⟨by omega, by omega⟩, rfl⟩
      · intro g H locs hq
        obtain ⟨F205, ls, rfl, hl, hP, hS, hI, hfr, hz0, h202, h203, h204⟩ := hq
        have oY206 : F205 a0 = .inr (7, y_fl A z0 q0) := (hfr _ (by rw [ha0]; decide)).trans oY0
        have hz0 : ∀ k, k ∈ ([1, 2, 3, 4, 5, 6, 7, 8, 11, 15, 16, 19, 25, 26, 27, 31, 32] : List Nat) → z0 k = z0 k := fun _ _ => rfl
        obtain ⟨v207, ev207⟩ : ∃ y : Int32, w92 + 1 = y := ⟨_, rfl⟩
        have qv207 : v207.toInt = w92.toInt + 1 := by rw [← ev207]; exact th_add rfl (by decide) ⟨by omega, by omega⟩
        refine lv_iinc (v := v207) (lv' := [(5, .int v207), (0, .ref a0), (2, .int v1), (3, .int w9)]) hx hb dX7_laysState_158 hl (k := 3) rfl ev207 (by decide) rfl (fun ls hl => ?_)
        refine lv_goto (tgt := 106) hx hb dX7_laysState_161 (by decide) ?_
        exact ih106 _ _ _ _ (by omega) ⟨F205, _, v207, rfl, lv_sub hl [1, 2, 3, 0] rfl, hP, hS, hI, hfr, (fun k hk => (y_fiZ oY206 (s_sub (by decide) hk)).trans (hz0 k hk)), ⟨by omega, by omega⟩, ⟨by omega, by omega⟩, ⟨by omega, by omega⟩, rfl⟩
  · have c8 := mt (ax_ge (n := 480) (by decide)).mpr c8
    refine lv_aload_n hx hb dX7_laysState_16 rfl (lv_at hl 0 rfl) ?_
    refine th_get (D := (dC, dI)) (ci := 7) (v := .ref (A 24)) (C := RX7) (T := TX7) (N := 34) hx hb hts inX7 hown hK hP (hLK _ ha0 (by decide)) oY7 rfl 24 (by decide) (hts _ T_256) (fun _ h9 => h9) rfl dX7_laysState_17 ?_
    refine lv_iload_n hx hb dX7_laysState_20 rfl (lv_at hl 1 rfl) ?_
    refine lv_iload_n hx hb dX7_laysState_21 rfl (lv_at hl 2 rfl) ?_
    refine lv_iadd hx hb dX7_laysState_22 ?_
    refine lv_topi (fun v208 ev208 => ?_)
    have qv208 : v208.toInt = v1.toInt + w2.toInt := by rw [ev208]; exact th_add rfl rfl ⟨by omega, by omega⟩
    refine lv_bipush (v := 8) hx hb dX7_laysState_23 (by decide) ?_
    refine lv_isub hx hb dX7_laysState_25 ?_
    refine lv_topi (fun v209 ev209 => ?_)
    have qv209 : v209.toInt = v208.toInt - 8 := by rw [ev209]; exact th_sub rfl (by decide) ⟨by omega, by omega⟩
    refine lv_aload_n hx hb dX7_laysState_26 rfl (lv_at hl 0 rfl) ?_
    refine th_get (D := (dC, dI)) (ci := 7) (v := .ref (A 20)) (C := RX7) (T := TX7) (N := 34) hx hb hts inX7 hown hK hP (hLK _ ha0 (by decide)) oY7 rfl 20 (by decide) (hts _ T_251) (fun _ h9 => h9) rfl dX7_laysState_27 ?_
    refine lv_iload_n hx hb dX7_laysState_30 rfl (lv_at hl 2 rfl) ?_
    obtain ⟨f210, o211, b212⟩ := y_op20 hI
    refine th_iald hx hb hK hP (hLK _ (y_k20 hA) (by decide)) 0 o211 rfl (th_in ⟨by omega, by omega⟩) dX7_laysState_31 ?_
    refine lv_topi (fun v213 ev213 => ?_)
    obtain ⟨f214, o215, b216⟩ := y_op24 hI
    refine th_iast hx hb hK hP hD hS (hLK _ (y_k24 hA) (by decide)) 0 o215 rfl (th_in ⟨by omega, by omega⟩) dX7_laysState_32 (fun H locs hP hS => ?_)
    obtain ⟨f217, u218⟩ : ∃ g : Nat → Int32, g = upd f214 (v209 : Int32).toNatClampNeg v213 := ⟨_, rfl⟩
    rw [← u218] at hP
    have b219 : y_bd 24 f217 := trivial
    have hP : va_P (dC, dI) vwCl (va_pl L (va_up F6 (A 24) (.inl (cs 0, 191277, .inl f217)))) H := hP
    obtain ⟨F220, hF221⟩ : ∃ G : Nat → va_E, G = va_up F6 (A 24) (.inl (cs 0, 191277, .inl f217)) := ⟨_, rfl⟩
    rw [← hF221] at hP
    have hI : y_I K cs A F220 := by rw [hF221]; exact y_clA (i := 24) hA hI (by decide) b219
    have hfr : ∀ b, K b ∉ [74] → F220 b = F b := by rw [hF221]; exact s_fr hfr (y_k24 hA) (by decide)
    have o222 : F220 (A 20) = .inl (cs 0, 918, .inl f210) := by rw [hF221]; exact th_ne (th_kd (y_k20 hA) (y_k24 hA) (by decide)) o211
    have oY223 : F220 a0 = .inr (7, y_fl A z0 q0) := by rw [hF221]; exact th_ne (th_kd ha0 (y_k24 hA) (by decide)) oY7
    have o224 : F220 (A 24) = .inl (cs 0, 191277, .inl f217) := by rw [hF221]; exact th_up
    have u225 : ∀ j : Int, 0 ≤ j → y_c f217 j = if j = v209.toInt then v213 else y_c f214 j := by rw [u218]; exact y_cu rfl (by omega)
    obtain ⟨v226, ev226⟩ : ∃ y : Int32, w2 + 1 = y := ⟨_, rfl⟩
    have qv226 : v226.toInt = w2.toInt + 1 := by rw [← ev226]; exact th_add rfl (by decide) ⟨by omega, by omega⟩
    refine lv_iinc (v := v226) (lv' := [(3, .int v226), (0, .ref a0), (2, .int v1)]) hx hb dX7_laysState_33 hl (k := 2) rfl ev226 (by decide) rfl (fun ls hl => ?_)
    refine lv_goto (tgt := 9) hx hb dX7_laysState_36 (by decide) ?_
    exact ih9 _ _ _ _ (by omega) ⟨F220, _, v226, rfl, lv_sub hl [1, 2, 0] rfl, hP, hS, hI, hfr, (fun k hk => (y_fiZ oY223 (s_sub (by decide) hk)).trans (hz0 k hk)), ⟨by omega, by omega⟩, ⟨by omega, by omega⟩, rfl⟩

set_option maxHeartbeats 4000000 in
set_option maxRecDepth 100000 in
theorem y_X7_areAlike (l : Launch) (dC : Nat → ClassId) (dI : Nat → Nat → Nat) (sz : Nat) {L : List Nat} {K : Nat → Nat} {cs : Nat → ClassId} (hLK : ∀ a {k : Nat}, K a = k → k ≠ 0 → a ∈ L) (A : Nat → Nat) (hA : y_A K A) (F : Nat → va_E) (a0 : Nat) (x1 : Int32) (x2 : Int32) (ha0 : K a0 = 9) (hx1 : 0 ≤ x1.toInt ∧ x1.toInt ≤ 400) (hx2 : 0 ≤ x2.toInt ∧ x2.toInt ≤ 400) (hI : y_I K cs A F) : Met l yX7_areAlike (Cond.code yX7_areAlike cX7_areAlike 4 (some .boolean) :: T0) ({ frames := 0, cells := 0, slots := 0, locals := 0 }) (va_Pc [.ref a0, .int x1, .int x2] (s_W dC dI sz L F [(cs 0, .int), (cs 1, .byte), (cs 2, .long), (cs 3, .object RX5), (cs 4, .object RX4), (cs 5, .array .int), (cs 6, .char), (cs 7, .boolean)])) (va_Qi (fun (r : Int32) (G : Nat → va_E) => (0 ≤ r.toInt ∧ r.toInt ≤ 1) ∧ True ∧ y_I K cs A G ∧ (∀ b, K b ∉ ([] : List Nat) → G b = F b) ∧ (∀ k, k ∈ ([1, 2, 3, 4, 5, 6, 7, 8, 11, 15, 16, 19, 25, 26, 27, 31, 32] : List Nat) → y_fi G a0 k = y_fi F a0 k) ∧ True) (fun (G : Nat → va_E) (t : State) => va_P (dC, dI) vwCl (va_pl L G) t.heap ∧ va_K (dC, dI) vwCl [(cs 0, .int), (cs 1, .byte), (cs 2, .long), (cs 3, .object RX5), (cs 4, .object RX4), (cs 5, .array .int), (cs 6, .char), (cs 7, .boolean)] t) (fun q => q ∈ L)) 0 0 (fun q => q ∈ L) := by
  refine Met.ofW (cc := cX7_areAlike) (maxL := 4) (ret := (some .boolean)) (by decide) rfl ?_
  intro p e s m args below meth c s₁ B hml hv
  obtain ⟨rfl, hsz, hP, hK, hD, hN⟩ := hv
  have hx := B.exec
  have hb := B.bytes
  have hr := B.returns
  have hts : ∀ w ∈ T0, w.before _ s = true := fun w h => atoms_spec (ws := Cond.code yX7_areAlike cX7_areAlike 4 (some .boolean) :: T0) B.pre w (List.mem_cons_of_mem _ h)
  have hown : s.vm.findClass RX7 = some m.cls := findClass_of_methodNamed B.named
  have hlocks := B.notSynchronized
  have hS : va_S (fun q => q ∈ L) s.heap s.heap [] := va_S.rf
  have hfr : ∀ b, K b ∉ ([] : List Nat) → F b = F b := fun _ _ => rfl
  have hl := lv_entry ([.ref a0, .int x1, .int x2]) (n := 4) (Nat.le_of_ble_eq_true rfl)
  rw [lg_entry_eq]
  generalize (lg_sl ([.ref a0, .int x1, .int x2]) ++ List.replicate (4 - (lg_sl ([.ref a0, .int x1, .int x2])).length) Slot.unset).toArray = ls at hl ⊢
  have hl : lv_has ls 4 [(0, .ref a0), (1, .int x1), (2, .int x2)] := hl
  refine s_gen hP hS (fun H locs hP hS => ?_)
  obtain ⟨z0, q0, oY0, bz0, bq0⟩ := y_opY hI ha0
  have hz0 : ∀ k, k ∈ ([1, 2, 3, 4, 5, 6, 7, 8, 11, 15, 16, 19, 25, 26, 27, 31, 32] : List Nat) → z0 k = z0 k := fun _ _ => rfl
  refine lv_iconst (v := 0) hx hb dX7_areAlike_0 (by decide) ?_
  refine lv_istore_n (lv' := [(3, .int 0), (0, .ref a0), (1, .int x1), (2, .int x2)]) hx hb dX7_areAlike_1 rfl hl (by decide) rfl (fun ls hl => ?_)
  have h2 : (0 : Int32).toInt = 0 := by decide
  refine th_loop (fun n g H locs => ∃ (G : Nat → va_E) (ls : Array Slot) (w1 : Int32), g = F0 m 2 ls [] ∧ lv_has ls 4 [(0, .ref a0), (1, .int x1), (2, .int x2), (3, .int w1)] ∧ va_P (dC, dI) vwCl (va_pl L G) H ∧ va_S (fun q => q ∈ L) s.heap H locs ∧ y_I K cs A G ∧ (∀ b, K b ∉ ([] : List Nat) → G b = F b) ∧ (∀ k, k ∈ ([1, 2, 3, 4, 5, 6, 7, 8, 11, 15, 16, 19, 25, 26, 27, 31, 32] : List Nat) → y_fi G a0 k = z0 k) ∧ (0 ≤ w1.toInt ∧ w1.toInt ≤ 473) ∧ (0 ≤ x1.toInt ∧ x1.toInt ≤ 400) ∧ (0 ≤ x2.toInt ∧ x2.toInt ≤ 400) ∧ n = (474 - w1.toInt).toNat) _ ⟨F, _, 0, rfl, lv_sub hl [1, 2, 3, 0] rfl, hP, hS, hI, hfr, (fun k hk => (y_fiZ oY0 (s_sub (by decide) hk)).trans (hz0 k hk)), (by decide), ⟨by omega, by omega⟩, ⟨by omega, by omega⟩, rfl⟩ (fun n ih2 g H locs hq => ?_)
  obtain ⟨F6, ls, w1, rfl, hl, hP, hS, hI, hfr, hz0, h3, h4, h5, hn⟩ := hq
  have oY7 : F6 a0 = .inr (7, y_fl A z0 q0) := (hfr _ (by rw [ha0]; decide)).trans oY0
  have hz0 : ∀ k, k ∈ ([1, 2, 3, 4, 5, 6, 7, 8, 11, 15, 16, 19, 25, 26, 27, 31, 32] : List Nat) → z0 k = z0 k := fun _ _ => rfl
  have hn_7 := hn
  refine lv_iload_n hx hb dX7_areAlike_2 rfl (lv_at hl 3 rfl) ?_
  refine lv_sipush (v := 473) hx hb dX7_areAlike_3 (by decide) ?_
  refine lv_icmp_ge (tgt := 44) hx hb dX7_areAlike_6 (by decide) (fun c8 => ?_) (fun c8 => ?_)
  · have c8 := (ax_ge (n := 473) (by decide)).mp c8
    refine lv_iconst (v := 1) hx hb dX7_areAlike_44 (by decide) ?_
    have h9 : (1 : Int32).toInt = 1 := by decide
    exact W.zret (v := 1) (ty := .boolean) hx hb hr (by decide) (fun t ht hW => ⟨⟨1, F6, rfl, ⟨(by decide), trivial, hI, hfr, fun k hk => (y_fiZ oY7 (s_sub (by decide) hk)).trans ((hz0 k hk).trans (y_fiZ oY0 (s_sub (by decide) hk)).symm), trivial⟩, by rw [ht]; exact hP, va_K.moved hW.alike hK⟩, hS.F ht⟩) hS.2.2 dX7_areAlike_45
  · have c8 := mt (ax_ge (n := 473) (by decide)).mpr c8
    refine lv_aload_n hx hb dX7_areAlike_9 rfl (lv_at hl 0 rfl) ?_
    refine th_get (D := (dC, dI)) (ci := 7) (v := .ref (A 24)) (C := RX7) (T := TX7) (N := 34) hx hb hts inX7 hown hK hP (hLK _ ha0 (by decide)) oY7 rfl 24 (by decide) (hts _ T_256) (fun _ h9 => h9) rfl dX7_areAlike_10 ?_
    refine lv_sipush (v := 477) hx hb dX7_areAlike_13 (by decide) ?_
    refine lv_iload_n hx hb dX7_areAlike_16 rfl (lv_at hl 1 rfl) ?_
    refine lv_imul hx hb dX7_areAlike_17 ?_
    refine lv_topi (fun v10 ev10 => ?_)
    have qv10 : v10.toInt = 477 * x1.toInt := by rw [ev10]; exact th_mul (by decide) rfl ⟨by omega, by omega⟩
    refine lv_iload_n hx hb dX7_areAlike_18 rfl (lv_at hl 3 rfl) ?_
    refine lv_iadd hx hb dX7_areAlike_19 ?_
    refine lv_topi (fun v11 ev11 => ?_)
    have qv11 : v11.toInt = v10.toInt + w1.toInt := by rw [ev11]; exact th_add rfl rfl ⟨by omega, by omega⟩
    obtain ⟨f12, o13, b14⟩ := y_op24 hI
    refine th_iald hx hb hK hP (hLK _ (y_k24 hA) (by decide)) 0 o13 rfl (th_in ⟨by omega, by omega⟩) dX7_areAlike_20 ?_
    refine lv_topi (fun v15 ev15 => ?_)
    refine lv_aload_n hx hb dX7_areAlike_21 rfl (lv_at hl 0 rfl) ?_
    refine th_get (D := (dC, dI)) (ci := 7) (v := .ref (A 24)) (C := RX7) (T := TX7) (N := 34) hx hb hts inX7 hown hK hP (hLK _ ha0 (by decide)) oY7 rfl 24 (by decide) (hts _ T_256) (fun _ h9 => h9) rfl dX7_areAlike_22 ?_
    refine lv_sipush (v := 477) hx hb dX7_areAlike_25 (by decide) ?_
    refine lv_iload_n hx hb dX7_areAlike_28 rfl (lv_at hl 2 rfl) ?_
    refine lv_imul hx hb dX7_areAlike_29 ?_
    refine lv_topi (fun v16 ev16 => ?_)
    have qv16 : v16.toInt = 477 * x2.toInt := by rw [ev16]; exact th_mul (by decide) rfl ⟨by omega, by omega⟩
    refine lv_iload_n hx hb dX7_areAlike_30 rfl (lv_at hl 3 rfl) ?_
    refine lv_iadd hx hb dX7_areAlike_31 ?_
    refine lv_topi (fun v17 ev17 => ?_)
    have qv17 : v17.toInt = v16.toInt + w1.toInt := by rw [ev17]; exact th_add rfl rfl ⟨by omega, by omega⟩
    refine th_iald hx hb hK hP (hLK _ (y_k24 hA) (by decide)) 0 o13 rfl (th_in ⟨by omega, by omega⟩) dX7_areAlike_32 ?_
    refine lv_topi (fun v18 ev18 => ?_)
    refine lv_icmp_eq (tgt := 38) hx hb dX7_areAlike_33 (by decide) (fun c19 => ?_) (fun c19 => ?_)
    · have c19 := Int32.toInt_inj.symm.mp c19
      obtain ⟨v20, ev20⟩ : ∃ y : Int32, w1 + 1 = y := ⟨_, rfl⟩
      have qv20 : v20.toInt = w1.toInt + 1 := by rw [← ev20]; exact th_add rfl (by decide) ⟨by omega, by omega⟩
      refine lv_iinc (v := v20) (lv' := [(3, .int v20), (0, .ref a0), (1, .int x1), (2, .int x2)]) hx hb dX7_areAlike_38 hl (k := 3) rfl ev20 (by decide) rfl (fun ls hl => ?_)
      refine lv_goto (tgt := 2) hx hb dX7_areAlike_41 (by decide) ?_
      exact ih2 _ _ _ _ (by omega) ⟨F6, _, v20, rfl, lv_sub hl [1, 2, 3, 0] rfl, hP, hS, hI, hfr, (fun k hk => (y_fiZ oY7 (s_sub (by decide) hk)).trans (hz0 k hk)), ⟨by omega, by omega⟩, ⟨by omega, by omega⟩, ⟨by omega, by omega⟩, rfl⟩
    · have c19 := mt Int32.toInt_inj.symm.mpr c19
      refine lv_iconst (v := 0) hx hb dX7_areAlike_36 (by decide) ?_
      have h21 : (0 : Int32).toInt = 0 := by decide
      exact W.zret (v := 0) (ty := .boolean) hx hb hr (by decide) (fun t ht hW => ⟨⟨0, F6, rfl, ⟨(by decide), trivial, hI, hfr, fun k hk => (y_fiZ oY7 (s_sub (by decide) hk)).trans ((hz0 k hk).trans (y_fiZ oY0 (s_sub (by decide) hk)).symm), trivial⟩, by rw [ht]; exact hP, va_K.moved hW.alike hK⟩, hS.F ht⟩) hS.2.2 dX7_areAlike_37

set_option maxHeartbeats 4000000 in
set_option maxRecDepth 100000 in
theorem y_X7_likeOf (l : Launch) (dC : Nat → ClassId) (dI : Nat → Nat → Nat) (sz : Nat) {L : List Nat} {K : Nat → Nat} {cs : Nat → ClassId} (hLK : ∀ a {k : Nat}, K a = k → k ≠ 0 → a ∈ L) (A : Nat → Nat) (hA : y_A K A) (F : Nat → va_E) (a0 : Nat) (x1 : Int32) (ha0 : K a0 = 9) (hx1 : 0 ≤ x1.toInt ∧ x1.toInt ≤ 400) (hI : y_I K cs A F) : Met l yX7_likeOf (Cond.code yX7_likeOf cX7_likeOf 3 (some .int) :: T0) ({ frames := 1, cells := 0, slots := 0, locals := 23 }) (va_Pc [.ref a0, .int x1] (s_W dC dI sz L F [(cs 0, .int), (cs 1, .byte), (cs 2, .long), (cs 3, .object RX5), (cs 4, .object RX4), (cs 5, .array .int), (cs 6, .char), (cs 7, .boolean)])) (va_Qi (fun (r : Int32) (G : Nat → va_E) => (-1 ≤ r.toInt ∧ r.toInt ≤ 399) ∧ True ∧ y_I K cs A G ∧ (∀ b, K b ∉ ([] : List Nat) → G b = F b) ∧ (∀ k, k ∈ ([1, 2, 3, 4, 5, 6, 7, 8, 11, 15, 16, 19, 25, 26, 27, 31, 32] : List Nat) → y_fi G a0 k = y_fi F a0 k) ∧ True) (fun (G : Nat → va_E) (t : State) => va_P (dC, dI) vwCl (va_pl L G) t.heap ∧ va_K (dC, dI) vwCl [(cs 0, .int), (cs 1, .byte), (cs 2, .long), (cs 3, .object RX5), (cs 4, .object RX4), (cs 5, .array .int), (cs 6, .char), (cs 7, .boolean)] t) (fun q => q ∈ L)) 0 0 (fun q => q ∈ L) := by
  refine Met.ofW (cc := cX7_likeOf) (maxL := 3) (ret := (some .int)) (by decide) rfl ?_
  intro p e s m args below meth c s₁ B hml hv
  obtain ⟨rfl, hsz, hP, hK, hD, hN⟩ := hv
  have hx := B.exec
  have hb := B.bytes
  have hr := B.returns
  have hts : ∀ w ∈ T0, w.before _ s = true := fun w h => atoms_spec (ws := Cond.code yX7_likeOf cX7_likeOf 3 (some .int) :: T0) B.pre w (List.mem_cons_of_mem _ h)
  have hown : s.vm.findClass RX7 = some m.cls := findClass_of_methodNamed B.named
  have hlocks := B.notSynchronized
  have hS : va_S (fun q => q ∈ L) s.heap s.heap [] := va_S.rf
  have hfr : ∀ b, K b ∉ ([] : List Nat) → F b = F b := fun _ _ => rfl
  have hl := lv_entry ([.ref a0, .int x1]) (n := 3) (Nat.le_of_ble_eq_true rfl)
  rw [lg_entry_eq]
  generalize (lg_sl ([.ref a0, .int x1]) ++ List.replicate (3 - (lg_sl ([.ref a0, .int x1])).length) Slot.unset).toArray = ls at hl ⊢
  have hl : lv_has ls 3 [(0, .ref a0), (1, .int x1)] := hl
  refine s_gen hP hS (fun H locs hP hS => ?_)
  obtain ⟨z0, q0, oY0, bz0, bq0⟩ := y_opY hI ha0
  have hz0 : ∀ k, k ∈ ([1, 2, 3, 4, 5, 6, 7, 8, 11, 15, 16, 19, 25, 26, 27, 31, 32] : List Nat) → z0 k = z0 k := fun _ _ => rfl
  refine lv_iload_n hx hb dX7_likeOf_0 rfl (lv_at hl 1 rfl) ?_
  refine lv_iconst (v := 1) hx hb dX7_likeOf_1 (by decide) ?_
  refine lv_isub hx hb dX7_likeOf_2 ?_
  refine lv_topi (fun v1 ev1 => ?_)
  have qv1 : v1.toInt = x1.toInt - 1 := by rw [ev1]; exact th_sub rfl (by decide) ⟨by omega, by omega⟩
  refine lv_istore_n (lv' := [(2, .int v1), (0, .ref a0), (1, .int x1)]) hx hb dX7_likeOf_3 rfl hl (by decide) rfl (fun ls hl => ?_)
  refine th_loop (fun n g H locs => ∃ (G : Nat → va_E) (ls : Array Slot) (w2 : Int32), g = F0 m 4 ls [] ∧ lv_has ls 3 [(0, .ref a0), (1, .int x1), (2, .int w2)] ∧ va_P (dC, dI) vwCl (va_pl L G) H ∧ va_S (fun q => q ∈ L) s.heap H locs ∧ y_I K cs A G ∧ (∀ b, K b ∉ ([] : List Nat) → G b = F b) ∧ (∀ k, k ∈ ([1, 2, 3, 4, 5, 6, 7, 8, 11, 15, 16, 19, 25, 26, 27, 31, 32] : List Nat) → y_fi G a0 k = z0 k) ∧ (-1 ≤ w2.toInt ∧ w2.toInt ≤ 399) ∧ (0 ≤ x1.toInt ∧ x1.toInt ≤ 400) ∧ n = (w2.toInt - (-2)).toNat) _ ⟨F, _, v1, rfl, lv_sub hl [1, 2, 0] rfl, hP, hS, hI, hfr, (fun k hk => (y_fiZ oY0 (s_sub (by decide) hk)).trans (hz0 k hk)), ⟨by omega, by omega⟩, ⟨by omega, by omega⟩, rfl⟩ (fun n ih4 g H locs hq => ?_)
  obtain ⟨F5, ls, w2, rfl, hl, hP, hS, hI, hfr, hz0, h3, h4, hn⟩ := hq
  have oY6 : F5 a0 = .inr (7, y_fl A z0 q0) := (hfr _ (by rw [ha0]; decide)).trans oY0
  have hz0 : ∀ k, k ∈ ([1, 2, 3, 4, 5, 6, 7, 8, 11, 15, 16, 19, 25, 26, 27, 31, 32] : List Nat) → z0 k = z0 k := fun _ _ => rfl
  have hn_6 := hn
  refine lv_iload_n hx hb dX7_likeOf_4 rfl (lv_at hl 2 rfl) ?_
  refine lv_if_lt (tgt := 25) hx hb dX7_likeOf_5 (by decide) (fun c7 => ?_) (fun c7 => ?_)
  · have c7 := (ax_lt (n := 0) (by decide)).mp c7
    refine lv_iconst (v := (-1)) hx hb dX7_likeOf_25 (by decide) ?_
    have h8 : ((-1) : Int32).toInt = (-1) := by decide
    exact W.iret (v := (-1)) hx hb hr (fun t ht hW => ⟨⟨(-1), F5, rfl, ⟨(by decide), trivial, hI, hfr, fun k hk => (y_fiZ oY6 (s_sub (by decide) hk)).trans ((hz0 k hk).trans (y_fiZ oY0 (s_sub (by decide) hk)).symm), trivial⟩, by rw [ht]; exact hP, va_K.moved hW.alike hK⟩, hS.F ht⟩) hS.2.2 dX7_likeOf_26
  · have c7 := mt (ax_lt (n := 0) (by decide)).mpr c7
    refine lv_aload_n hx hb dX7_likeOf_8 rfl (lv_at hl 0 rfl) ?_
    refine lv_iload_n hx hb dX7_likeOf_9 rfl (lv_at hl 2 rfl) ?_
    refine lv_iload_n hx hb dX7_likeOf_10 rfl (lv_at hl 1 rfl) ?_
    refine va_calli (va_runV (As := [.int w2, .int x1]) (rest := []) ⟨hx, hb, hml, hown, hts⟩ (y_X7_areAlike l dC dI H.size hLK A hA F5 a0 w2 x1 ha0 (⟨by omega, by omega⟩) (⟨by omega, by omega⟩) hI) (cwV 2 hts (ax_gV T_1239 T_1241 T_1242 T_265 T_1240) rfl rfl rfl (by decide +kernel) ⟨Nat.le_of_ble_eq_true rfl, Nat.le_of_ble_eq_true rfl⟩) ⟨fun a U g mk q => ⟨q.1, s_pc rfl rfl q.2⟩, s_recv hK hP (hLK _ ha0 (by decide)) (ci := 7) rfl oY6, fun U hU hW => ⟨rfl, s_pw hU hW hP hK hD hN⟩⟩ rfl rfl hl.1 rfl (lv_room (Nat.le_of_ble_eq_true rfl)) dX7_likeOf_11 ⟨Nat.zero_le _, Nat.zero_le _⟩) hS (fun q _ h => h) (fun q h => h) (fun r10 F11 t H1 locs ht hvm hw hB hz1 hk1 hS => ?_)
    obtain ⟨hP, hK1⟩ := hB
    rw [ht] at hP
    generalize H1 = H at hP hS ⊢
    obtain ⟨h12, h14, hI, hfr1, hzf, h13⟩ := hw
    have oY15 : F11 a0 = .inr (7, y_fl A z0 q0) := (hfr1 _ (by rw [ha0]; decide)).trans oY6
    have hfr : ∀ b, K b ∉ ([] : List Nat) → F11 b = F b := fun b hb9 => (hfr1 b (fun q => hb9 (s_sub (by decide) q))).trans (hfr b hb9)
    refine lv_if_eq (tgt := 19) hx hb dX7_likeOf_14 (by decide) (fun c16 => ?_) (fun c16 => ?_)
    · have c16 := (ax_eq (n := 0) (by decide)).mp c16
      obtain ⟨v17, ev17⟩ : ∃ y : Int32, w2 + (-1) = y := ⟨_, rfl⟩
      have qv17 : v17.toInt = w2.toInt + (-1) := by rw [← ev17]; exact th_add rfl (by decide) ⟨by omega, by omega⟩
      refine lv_iinc (v := v17) (lv' := [(2, .int v17), (0, .ref a0), (1, .int x1)]) hx hb dX7_likeOf_19 hl (k := 2) rfl ev17 (by decide) rfl (fun ls hl => ?_)
      refine lv_goto (tgt := 4) hx hb dX7_likeOf_22 (by decide) ?_
      exact ih4 _ _ _ _ (by omega) ⟨F11, _, v17, rfl, lv_sub hl [1, 2, 0] rfl, hP, hS, hI, hfr, (fun k hk => (y_fiZ oY15 (s_sub (by decide) hk)).trans (hz0 k hk)), ⟨by omega, by omega⟩, ⟨by omega, by omega⟩, rfl⟩
    · have c16 := mt (ax_eq (n := 0) (by decide)).mpr c16
      refine lv_iload_n hx hb dX7_likeOf_17 rfl (lv_at hl 2 rfl) ?_
      exact W.iret (v := w2) hx hb hr (fun t ht hW => ⟨⟨w2, F11, rfl, ⟨⟨by omega, by omega⟩, trivial, hI, hfr, fun k hk => (y_fiZ oY15 (s_sub (by decide) hk)).trans ((hz0 k hk).trans (y_fiZ oY0 (s_sub (by decide) hk)).symm), trivial⟩, by rw [ht]; exact hP, va_K.moved hW.alike hK⟩, hS.F ht⟩) hS.2.2 dX7_likeOf_18
