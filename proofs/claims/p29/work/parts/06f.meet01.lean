set_option maxHeartbeats 4000000 in
set_option maxRecDepth 100000 in
theorem y_X7_isEndReached (l : Launch) (dC : Nat → ClassId) (dI : Nat → Nat → Nat) (sz : Nat) {L : List Nat} {K : Nat → Nat} {cs : Nat → ClassId} (hLK : ∀ a {k : Nat}, K a = k → k ≠ 0 → a ∈ L) (A : Nat → Nat) (hA : y_A K A) (F : Nat → va_E) (a0 : Nat) (x1 : Int32) (x2 : Int32) (ha0 : K a0 = 9) (hx1 : 0 ≤ x1.toInt ∧ x1.toInt ≤ 40) (hx2 : -1 ≤ x2.toInt ∧ x2.toInt ≤ 40) (hI : y_I K cs A F) (hP0 : y_P0 (y_at F (A 13))) (hxl : x1.toInt ≤ (y_c (y_at F (A 13)) 387).toInt) : Met l yX7_isEndReached (Cond.code yX7_isEndReached cX7_isEndReached 4 (some .boolean) :: T0) ({ frames := 4, cells := 0, slots := 0, locals := 87 }) (va_Pc [.ref a0, .int x1, .int x2] (s_W dC dI sz L F [(cs 0, .int), (cs 1, .byte), (cs 2, .long), (cs 3, .object RX5), (cs 4, .object RX4), (cs 5, .array .int), (cs 6, .char), (cs 7, .boolean)])) (va_Qi (fun (r : Int32) (G : Nat → va_E) => (0 ≤ r.toInt ∧ r.toInt ≤ 1) ∧ True ∧ y_I K cs A G ∧ (∀ b, K b ∉ [9, 67, 68] → G b = F b) ∧ (∀ k, k ∈ ([1, 2, 3, 4, 5, 6, 7, 8, 11, 15, 16, 25, 26, 27, 31, 32] : List Nat) → y_fi G a0 k = y_fi F a0 k) ∧ True) (fun (G : Nat → va_E) (t : State) => va_P (dC, dI) vwCl (va_pl L G) t.heap ∧ va_K (dC, dI) vwCl [(cs 0, .int), (cs 1, .byte), (cs 2, .long), (cs 3, .object RX5), (cs 4, .object RX4), (cs 5, .array .int), (cs 6, .char), (cs 7, .boolean)] t) (fun q => q ∈ L)) 0 0 (fun q => q ∈ L) := by
  refine Met.ofW (cc := cX7_isEndReached) (maxL := 4) (ret := (some .boolean)) (by decide) rfl ?_
  intro p e s m args below meth c s₁ B hml hv
  obtain ⟨rfl, hsz, hP, hK, hD, hN⟩ := hv
  have hx := B.exec
  have hb := B.bytes
  have hr := B.returns
  have hts : ∀ w ∈ T0, w.before _ s = true := fun w h => atoms_spec (ws := Cond.code yX7_isEndReached cX7_isEndReached 4 (some .boolean) :: T0) B.pre w (List.mem_cons_of_mem _ h)
  have hown : s.vm.findClass RX7 = some m.cls := findClass_of_methodNamed B.named
  have hlocks := B.notSynchronized
  have hS : va_S (fun q => q ∈ L) s.heap s.heap [] := va_S.rf
  have hfr : ∀ b, K b ∉ [9, 67, 68] → F b = F b := fun _ _ => rfl
  have hl := lv_entry ([.ref a0, .int x1, .int x2]) (n := 4) (Nat.le_of_ble_eq_true rfl)
  rw [lg_entry_eq]
  generalize (lg_sl ([.ref a0, .int x1, .int x2]) ++ List.replicate (4 - (lg_sl ([.ref a0, .int x1, .int x2])).length) Slot.unset).toArray = ls at hl ⊢
  have hl : lv_has ls 4 [(0, .ref a0), (1, .int x1), (2, .int x2)] := hl
  refine s_gen hP hS (fun H locs hP hS => ?_)
  obtain ⟨z0, q0, oY0, bz0, bq0⟩ := y_opY hI ha0
  have hz0 : ∀ k, k ∈ ([1, 2, 3, 4, 5, 6, 7, 8, 11, 15, 16, 25, 26, 27, 31, 32] : List Nat) → z0 k = z0 k := fun _ _ => rfl
  obtain ⟨f1, o2, b3⟩ := y_op13 hI
  obtain ⟨f4, o5, b6⟩ := y_op17 hI
  obtain ⟨f7, o8, b9⟩ := y_op18 hI
  have hP0 : y_P0 f1 := by have q9 := hP0; rw [y_atE o2] at q9; exact q9
  have hxl : x1.toInt ≤ (y_c f1 387).toInt := by have q9 := hxl; rw [y_atE o2] at q9; exact q9
  have hL := y_P0L hP0
  have hW := y_P0W hP0
  refine lv_iconst (v := 0) hx hb dX7_isEndReached_0 (by decide) ?_
  refine lv_istore_n (lv' := [(3, .int 0), (0, .ref a0), (1, .int x1), (2, .int x2)]) hx hb dX7_isEndReached_1 rfl hl (by decide) rfl (fun ls hl => ?_)
  have h11 : (0 : Int32).toInt = 0 := by decide
  refine th_loop (fun n g H locs => ∃ (G : Nat → va_E) (ls : Array Slot) (w10 : Int32), g = F0 m 2 ls [] ∧ lv_has ls 4 [(0, .ref a0), (1, .int x1), (2, .int x2), (3, .int w10)] ∧ va_P (dC, dI) vwCl (va_pl L G) H ∧ va_S (fun q => q ∈ L) s.heap H locs ∧ y_I K cs A G ∧ (∀ b, K b ∉ [9, 67, 68] → G b = F b) ∧ (∀ k, k ∈ ([1, 2, 3, 4, 5, 6, 7, 8, 11, 15, 16, 25, 26, 27, 31, 32] : List Nat) → y_fi G a0 k = z0 k) ∧ (0 ≤ w10.toInt ∧ w10.toInt ≤ 41) ∧ (0 ≤ x1.toInt ∧ x1.toInt ≤ 40) ∧ (-1 ≤ x2.toInt ∧ x2.toInt ≤ 40) ∧ (∀ j : Int, 0 ≤ j → j < w10.toInt → y_c (y_at G (A 17)) j = 0) ∧ n = (42 - w10.toInt).toNat) _ ⟨F, _, 0, rfl, lv_sub hl [1, 2, 3, 0] rfl, hP, hS, hI, hfr, (fun k hk => (y_fiZ oY0 (s_sub (by decide) hk)).trans (hz0 k hk)), (by decide), ⟨by omega, by omega⟩, ⟨by omega, by omega⟩, (by rw [y_atE o5]; exact (fun j h0 h1 => absurd h1 (by omega))), rfl⟩ (fun n ih2 g H locs hq => ?_)
  obtain ⟨F16, ls, w10, rfl, hl, hP, hS, hI, hfr, hz0, h12, h13, h14, h15, hn⟩ := hq
  have o17 : F16 (A 13) = .inl (cs 0, 400, .inl f1) := (hfr _ (by rw [(y_k13 hA)]; decide)).trans o2
  obtain ⟨z18, q19, oY20, bz21, bq22⟩ := y_opY hI ha0
  have hz0 : ∀ k, k ∈ ([1, 2, 3, 4, 5, 6, 7, 8, 11, 15, 16, 25, 26, 27, 31, 32] : List Nat) → z18 k = z0 k := fun k hk => (y_fiZ oY20 (s_sub (by decide) hk)).symm.trans (hz0 k hk)
  obtain ⟨f23, o24, b25⟩ := y_op17 hI
  have h15 : (∀ j : Int, 0 ≤ j → j < w10.toInt → y_c f23 j = 0) := by have q9 := h15; rw [y_atE o24] at q9; exact q9
  have hn_25 := hn
  refine lv_iload_n hx hb dX7_isEndReached_2 rfl (lv_at hl 3 rfl) ?_
  refine lv_bipush (v := 40) hx hb dX7_isEndReached_3 (by decide) ?_
  refine lv_icmp_gt (tgt := 21) hx hb dX7_isEndReached_5 (by decide) (fun c26 => ?_) (fun c26 => ?_)
  · have c26 := (ax_gt (n := 40) (by decide)).mp c26
    refine lv_aload_n hx hb dX7_isEndReached_21 rfl (lv_at hl 0 rfl) ?_
    refine lv_iconst (v := 0) hx hb dX7_isEndReached_22 (by decide) ?_
    refine th_put (D := (dC, dI)) (ci := 7) (v := .int 0) (ty := .int) (C := RX7) (T := TX7) (N := 34) hx hb hts inX7 tyX7 tyX7_ok nmX7 hown hK hP hD hS (hLK _ ha0 (by decide)) oY20 rfl 19 (by decide) (hts _ T_1093) (fun _ h9 => h9) rfl (by decide +kernel) rfl rfl (Nat.le_of_ble_eq_true rfl) dX7_isEndReached_23 (fun H locs hP hS => ?_)
    rw [y_fs19] at hP
    obtain ⟨z27, hz28⟩ : ∃ g : Nat → Int32, g = upd z18 19 0 := ⟨_, rfl⟩
    rw [← hz28] at hP
    have bz29 : y_bY z27 := by rw [hz28]; exact y_bp19 bz21 (by decide)
    have hP : va_P (dC, dI) vwCl (va_pl L (va_up F16 a0 (.inr (7, y_fl A z27 q19)))) H := hP
    obtain ⟨F30, hF31⟩ : ∃ G : Nat → va_E, G = va_up F16 a0 (.inr (7, y_fl A z27 q19)) := ⟨_, rfl⟩
    rw [← hF31] at hP
    have hI : y_I K cs A F30 := by rw [hF31]; exact y_clY hA hI ha0 bz29 bq22
    have hfr : ∀ b, K b ∉ [9, 67, 68] → F30 b = F b := by rw [hF31]; exact s_fr hfr ha0 (by decide)
    have o32 : F30 (A 13) = .inl (cs 0, 400, .inl f1) := by rw [hF31]; exact th_ne (th_kd (y_k13 hA) ha0 (by decide)) o17
    have o33 : F30 (A 17) = .inl (cs 7, 41, .inl f23) := by rw [hF31]; exact th_ne (th_kd (y_k17 hA) ha0 (by decide)) o24
    have oY34 : F30 a0 = .inr (7, y_fl A z27 q19) := by rw [hF31]; exact th_up
    have hz0 : ∀ k, k ∈ ([1, 2, 3, 4, 5, 6, 7, 8, 11, 15, 16, 25, 26, 27, 31, 32] : List Nat) → z27 k = z0 k := fun k hk => by rw [hz28]; exact (y_un (fun q => absurd hk (by rw [q]; decide))).trans (hz0 k hk)
    obtain ⟨v35, ev35⟩ : ∃ y : Int32, y = z27 19 := ⟨_, rfl⟩
    have qv35 : v35.toInt = 0 := by rw [ev35, hz28, y_ue]; decide
    refine lv_aload_n hx hb dX7_isEndReached_26 rfl (lv_at hl 0 rfl) ?_
    refine lv_iload_n hx hb dX7_isEndReached_27 rfl (lv_at hl 1 rfl) ?_
    refine lv_iload_n hx hb dX7_isEndReached_28 rfl (lv_at hl 2 rfl) ?_
    obtain ⟨f37, o38, b39⟩ := y_op18 hI
    refine va_callv (va_runV (As := [.int x1, .int x2]) (rest := []) ⟨hx, hb, hml, hown, hts⟩ (y_X7_goesFrom l dC dI H.size hLK A hA F30 a0 x1 x2 ha0 (⟨by omega, by omega⟩) (⟨by omega, by omega⟩) hI (by rw [y_atE o32]; exact hP0) (by rw [y_atE o33, y_atE o38, y_fiZ oY34 (k := 19) (by decide), ← ev35, y_atE o32]; rw [show v35.toInt = 0 by omega]; exact ⟨(y_cnt0 41 (fun j hj => by have q9 := h15 j (by omega) (by omega); exact q9)).symm, fun j h0 h1 => absurd h1 (by omega)⟩) (by rw [y_atE o32]; exact hxl)) (cwV 2 hts (ax_gV T_1207 T_1209 T_1210 T_265 T_1208) rfl rfl rfl (by decide +kernel) ⟨Nat.le_of_ble_eq_true rfl, Nat.le_of_ble_eq_true rfl⟩) ⟨fun a U g mk q => ⟨q.1, s_pc rfl rfl q.2⟩, s_recv hK hP (hLK _ ha0 (by decide)) (ci := 7) rfl oY34, fun U hU hW => ⟨rfl, s_pw hU hW hP hK hD hN⟩⟩ rfl rfl hl.1 rfl (lv_room (Nat.le_of_ble_eq_true rfl)) dX7_isEndReached_29 ⟨Nat.zero_le _, Nat.zero_le _⟩) hS (fun q _ h => h) (fun q h => h) (fun F40 t H1 locs ht hvm hw hB hz1 hk1 hS => ?_)
    obtain ⟨hP, hK1⟩ := hB
    rw [ht] at hP
    generalize H1 = H at hP hS ⊢
    obtain ⟨h41, h43, hI, hfr1, hzf, h42⟩ := hw
    have o44 : F40 (A 13) = .inl (cs 0, 400, .inl f1) := (hfr1 _ (by rw [(y_k13 hA)]; decide)).trans o32
    obtain ⟨z45, q46, oY47, bz48, bq49⟩ := y_opY hI ha0
    have hzf : ∀ k, k ∈ ([1, 2, 3, 4, 5, 6, 7, 8, 11, 15, 16, 25, 26, 27, 31, 32] : List Nat) → z45 k = z27 k := fun k hk => by have q9 := hzf k hk; rw [y_fiZ oY47 (s_sub (by decide) hk), y_fiZ oY34 (s_sub (by decide) hk)] at q9; exact q9
    have hz0 : ∀ k, k ∈ ([1, 2, 3, 4, 5, 6, 7, 8, 11, 15, 16, 25, 26, 27, 31, 32] : List Nat) → z45 k = z0 k := fun k hk => (hzf k (s_sub (by decide) hk)).trans (hz0 k hk)
    have hfr : ∀ b, K b ∉ [9, 67, 68] → F40 b = F b := fun b hb9 => (hfr1 b (fun q => hb9 (s_sub (by decide) q))).trans (hfr b hb9)
    obtain ⟨f50, o51, b52⟩ := y_op17 hI
    obtain ⟨f53, o54, b55⟩ := y_op18 hI
    obtain ⟨v56, ev56⟩ : ∃ y : Int32, y = z45 19 := ⟨_, rfl⟩
    have qv56 : 0 ≤ v56.toInt ∧ v56.toInt ≤ 41 := by rw [ev56]; exact y_bY19 bz48
    have h42 : (y_CM f50 f53 v56.toInt (y_c f1 387).toInt) := by have q9 := h42; rw [y_atE o51, y_atE o54, y_fiZ oY47 (k := 19) (by decide), ← ev56, y_atE o32] at q9; exact q9
    refine lv_iconst (v := 0) hx hb dX7_isEndReached_32 (by decide) ?_
    refine lv_istore_n (lv' := [(3, .int 0), (0, .ref a0), (1, .int x1), (2, .int x2)]) hx hb dX7_isEndReached_33 rfl hl (by decide) rfl (fun ls hl => ?_)
    have h58 : (0 : Int32).toInt = 0 := by decide
    refine th_loop (fun n g H locs => ∃ (G : Nat → va_E) (ls : Array Slot) (w57 : Int32), g = F0 m 34 ls [] ∧ lv_has ls 4 [(0, .ref a0), (2, .int x2), (3, .int w57)] ∧ va_P (dC, dI) vwCl (va_pl L G) H ∧ va_S (fun q => q ∈ L) s.heap H locs ∧ y_I K cs A G ∧ (∀ b, K b ∉ [9, 67, 68] → G b = F b) ∧ (∀ k, k ∈ ([1, 2, 3, 4, 5, 6, 7, 8, 11, 15, 16, 25, 26, 27, 31, 32] : List Nat) → y_fi G a0 k = z0 k) ∧ (0 ≤ w57.toInt ∧ w57.toInt ≤ 41) ∧ (-1 ≤ x2.toInt ∧ x2.toInt ≤ 40) ∧ y_CM (y_at G (A 17)) (y_at G (A 18)) (y_fi G a0 19).toInt (y_c f1 387).toInt ∧ n = (42 - w57.toInt).toNat) _ ⟨F40, _, 0, rfl, lv_sub hl [1, 3, 0] rfl, hP, hS, hI, hfr, (fun k hk => (y_fiZ oY47 (s_sub (by decide) hk)).trans (hz0 k hk)), (by decide), ⟨by omega, by omega⟩, (by rw [y_atE o51, y_atE o54, y_fiZ oY47 (k := 19) (by decide), ← ev56]; exact h42), rfl⟩ (fun n ih34 g H locs hq => ?_)
    obtain ⟨F62, ls, w57, rfl, hl, hP, hS, hI, hfr, hz0, h59, h60, h61, hn⟩ := hq
    have o63 : F62 (A 13) = .inl (cs 0, 400, .inl f1) := (hfr _ (by rw [(y_k13 hA)]; decide)).trans o2
    obtain ⟨z64, q65, oY66, bz67, bq68⟩ := y_opY hI ha0
    have hz0 : ∀ k, k ∈ ([1, 2, 3, 4, 5, 6, 7, 8, 11, 15, 16, 25, 26, 27, 31, 32] : List Nat) → z64 k = z0 k := fun k hk => (y_fiZ oY66 (s_sub (by decide) hk)).symm.trans (hz0 k hk)
    obtain ⟨f69, o70, b71⟩ := y_op17 hI
    obtain ⟨f72, o73, b74⟩ := y_op18 hI
    obtain ⟨v75, ev75⟩ : ∃ y : Int32, y = z64 19 := ⟨_, rfl⟩
    have qv75 : 0 ≤ v75.toInt ∧ v75.toInt ≤ 41 := by rw [ev75]; exact y_bY19 bz67
    have h61 : y_CM f69 f72 v75.toInt (y_c f1 387).toInt := by have q9 := h61; rw [y_atE o70, y_atE o73, y_fiZ oY66 (k := 19) (by decide), ← ev75] at q9; exact q9
    have hn_75 := hn
    refine lv_iload_n hx hb dX7_isEndReached_34 rfl (lv_at hl 2 rfl) ?_
    refine lv_aload_n hx hb dX7_isEndReached_35 rfl (lv_at hl 0 rfl) ?_
    refine th_get (D := (dC, dI)) (ci := 7) (v := .int (z64 19)) (C := RX7) (T := TX7) (N := 34) hx hb hts inX7 hown hK hP (hLK _ ha0 (by decide)) oY66 rfl 19 (by decide) (hts _ T_1093) (fun _ h9 => h9) rfl dX7_isEndReached_36 ?_
    refine ax_eqi (y := v75) ev75.symm ?_
    refine lv_icmp_ge (tgt := 59) hx hb dX7_isEndReached_39 (by decide) (fun c76 => ?_) (fun c76 => ?_)
    · have c76 := Int32.le_iff_toInt_le.mp c76
      refine lv_aload_n hx hb dX7_isEndReached_59 rfl (lv_at hl 0 rfl) ?_
      refine th_get (D := (dC, dI)) (ci := 7) (v := .ref (A 17)) (C := RX7) (T := TX7) (N := 34) hx hb hts inX7 hown hK hP (hLK _ ha0 (by decide)) oY66 rfl 17 (by decide) (hts _ T_249) (fun _ h9 => h9) rfl dX7_isEndReached_60 ?_
      refine lv_aload_n hx hb dX7_isEndReached_63 rfl (lv_at hl 0 rfl) ?_
      refine va_calli (va_runV (As := []) (rest := [.ref (A 17)]) ⟨hx, hb, hml, hown, hts⟩ (y_X7_lines l dC dI H.size hLK A hA F62 a0 ha0 hI) (cwV 0 hts (ax_gV T_1030 T_1032 T_1033 T_265 T_1031) rfl rfl rfl (by decide +kernel) ⟨Nat.le_of_ble_eq_true rfl, Nat.le_of_ble_eq_true rfl⟩) ⟨fun a U g mk q => ⟨q.1, s_pc rfl rfl q.2⟩, s_recv hK hP (hLK _ ha0 (by decide)) (ci := 7) rfl oY66, fun U hU hW => ⟨rfl, s_pw hU hW hP hK hD hN⟩⟩ rfl rfl hl.1 rfl (lv_room (Nat.le_of_ble_eq_true rfl)) dX7_isEndReached_64 ⟨Nat.zero_le _, Nat.zero_le _⟩) hS (fun q _ h => h) (fun q h => h) (fun r78 F79 t H1 locs ht hvm hw hB hz1 hk1 hS => ?_)
      obtain ⟨hP, hK1⟩ := hB
      rw [ht] at hP
      generalize H1 = H at hP hS ⊢
      obtain ⟨h80, h82, hI, hfr1, hzf, h81⟩ := hw
      have o83 : F79 (A 13) = .inl (cs 0, 400, .inl f1) := (hfr1 _ (by rw [(y_k13 hA)]; decide)).trans o63
      have o84 : F79 (A 17) = .inl (cs 7, 41, .inl f69) := (hfr1 _ (by rw [(y_k17 hA)]; decide)).trans o70
      have o85 : F79 (A 18) = .inl (cs 0, 41, .inl f72) := (hfr1 _ (by rw [(y_k18 hA)]; decide)).trans o73
      have oY86 : F79 a0 = .inr (7, y_fl A z64 q65) := (hfr1 _ (by rw [ha0]; decide)).trans oY66
      have hfr : ∀ b, K b ∉ [9, 67, 68] → F79 b = F b := fun b hb9 => (hfr1 b (fun q => hb9 (s_sub (by decide) q))).trans (hfr b hb9)
      have h81 : (r78 = y_c f1 387) := by have q9 := h81; rw [y_atE o63] at q9; exact q9
      have h87 := congrArg Int32.toInt h81
      have h88 : 1 ≤ r78.toInt ∧ r78.toInt ≤ 40 := ⟨by omega, by omega⟩
      refine th_zald hx hb hK hP (hLK _ (y_k17 hA) (by decide)) 7 o84 rfl (th_in ⟨by omega, by omega⟩) dX7_isEndReached_67 ?_
      refine lv_topi (fun v89 ev89 => ?_)
      have qv89 : 0 ≤ v89.toInt ∧ v89.toInt ≤ 1 := by rw [ev89]; exact b71 _ (th_cl ⟨by omega, by omega⟩)
      exact W.zret (v := v89) (ty := .boolean) hx hb hr (th_nz ⟨by omega, by omega⟩) (fun t ht hW => ⟨⟨v89, F79, rfl, ⟨⟨by omega, by omega⟩, trivial, hI, hfr, fun k hk => (y_fiZ oY86 (s_sub (by decide) hk)).trans ((hz0 k hk).trans (y_fiZ oY0 (s_sub (by decide) hk)).symm), trivial⟩, by rw [ht]; exact hP, va_K.moved hW.alike hK⟩, hS.F ht⟩) hS.2.2 dX7_isEndReached_68
    · have c76 := mt Int32.le_iff_toInt_le.mpr c76
      refine lv_aload_n hx hb dX7_isEndReached_42 rfl (lv_at hl 0 rfl) ?_
      refine lv_aload_n hx hb dX7_isEndReached_43 rfl (lv_at hl 0 rfl) ?_
      refine th_get (D := (dC, dI)) (ci := 7) (v := .ref (A 18)) (C := RX7) (T := TX7) (N := 34) hx hb hts inX7 hown hK hP (hLK _ ha0 (by decide)) oY66 rfl 18 (by decide) (hts _ T_250) (fun _ h9 => h9) rfl dX7_isEndReached_44 ?_
      refine lv_iload_n hx hb dX7_isEndReached_47 rfl (lv_at hl 2 rfl) ?_
      refine th_iald hx hb hK hP (hLK _ (y_k18 hA) (by decide)) 0 o73 rfl (th_in ⟨by omega, by omega⟩) dX7_isEndReached_48 ?_
      refine lv_topi (fun v90 ev90 => ?_)
      have qv90 : 0 ≤ v90.toInt ∧ v90.toInt ≤ 40 := by rw [ev90]; exact b74 _ (th_cl ⟨by omega, by omega⟩)
      refine lv_iload_n hx hb dX7_isEndReached_49 rfl (lv_at hl 1 rfl) ?_
      refine va_callv (va_runV (As := [.int v90, .int x2]) (rest := []) ⟨hx, hb, hml, hown, hts⟩ (y_X7_goesFrom l dC dI H.size hLK A hA F62 a0 v90 x2 ha0 (⟨by omega, by omega⟩) (⟨by omega, by omega⟩) hI (by rw [y_atE o63]; exact hP0) (by rw [y_atE o70, y_atE o73, y_fiZ oY66 (k := 19) (by decide), ← ev75, y_atE o63]; exact h61) (by rw [y_atE o63]; have q9 := (h61.2 w57.toInt (by omega) (by omega)).2; rw [show y_c f72 w57.toInt = v90 from ev90.symm] at q9; exact q9)) (cwV 2 hts (ax_gV T_1207 T_1209 T_1210 T_265 T_1208) rfl rfl rfl (by decide +kernel) ⟨Nat.le_of_ble_eq_true rfl, Nat.le_of_ble_eq_true rfl⟩) ⟨fun a U g mk q => ⟨q.1, s_pc rfl rfl q.2⟩, s_recv hK hP (hLK _ ha0 (by decide)) (ci := 7) rfl oY66, fun U hU hW => ⟨rfl, s_pw hU hW hP hK hD hN⟩⟩ rfl rfl hl.1 rfl (lv_room (Nat.le_of_ble_eq_true rfl)) dX7_isEndReached_50 ⟨Nat.zero_le _, Nat.zero_le _⟩) hS (fun q _ h => h) (fun q h => h) (fun F92 t H1 locs ht hvm hw hB hz1 hk1 hS => ?_)
      obtain ⟨hP, hK1⟩ := hB
      rw [ht] at hP
      generalize H1 = H at hP hS ⊢
      obtain ⟨h93, h95, hI, hfr1, hzf, h94⟩ := hw
      have o96 : F92 (A 13) = .inl (cs 0, 400, .inl f1) := (hfr1 _ (by rw [(y_k13 hA)]; decide)).trans o63
      obtain ⟨z97, q98, oY99, bz100, bq101⟩ := y_opY hI ha0
      have hzf : ∀ k, k ∈ ([1, 2, 3, 4, 5, 6, 7, 8, 11, 15, 16, 25, 26, 27, 31, 32] : List Nat) → z97 k = z64 k := fun k hk => by have q9 := hzf k hk; rw [y_fiZ oY99 (s_sub (by decide) hk), y_fiZ oY66 (s_sub (by decide) hk)] at q9; exact q9
      have hz0 : ∀ k, k ∈ ([1, 2, 3, 4, 5, 6, 7, 8, 11, 15, 16, 25, 26, 27, 31, 32] : List Nat) → z97 k = z0 k := fun k hk => (hzf k (s_sub (by decide) hk)).trans (hz0 k hk)
      have hfr : ∀ b, K b ∉ [9, 67, 68] → F92 b = F b := fun b hb9 => (hfr1 b (fun q => hb9 (s_sub (by decide) q))).trans (hfr b hb9)
      obtain ⟨f102, o103, b104⟩ := y_op17 hI
      obtain ⟨f105, o106, b107⟩ := y_op18 hI
      obtain ⟨v108, ev108⟩ : ∃ y : Int32, y = z97 19 := ⟨_, rfl⟩
      have qv108 : 0 ≤ v108.toInt ∧ v108.toInt ≤ 41 := by rw [ev108]; exact y_bY19 bz100
      have h94 : (y_CM f102 f105 v108.toInt (y_c f1 387).toInt) := by have q9 := h94; rw [y_atE o103, y_atE o106, y_fiZ oY99 (k := 19) (by decide), ← ev108, y_atE o63] at q9; exact q9
      obtain ⟨v109, ev109⟩ : ∃ y : Int32, w57 + 1 = y := ⟨_, rfl⟩
      have qv109 : v109.toInt = w57.toInt + 1 := by rw [← ev109]; exact th_add rfl (by decide) ⟨by omega, by omega⟩
      refine lv_iinc (v := v109) (lv' := [(3, .int v109), (0, .ref a0), (2, .int x2)]) hx hb dX7_isEndReached_53 hl (k := 2) rfl ev109 (by decide) rfl (fun ls hl => ?_)
      refine lv_goto (tgt := 34) hx hb dX7_isEndReached_56 (by decide) ?_
      exact ih34 _ _ _ _ (by omega) ⟨F92, _, v109, rfl, lv_sub hl [1, 2, 0] rfl, hP, hS, hI, hfr, (fun k hk => (y_fiZ oY99 (s_sub (by decide) hk)).trans (hz0 k hk)), ⟨by omega, by omega⟩, ⟨by omega, by omega⟩, (by rw [y_atE o103, y_atE o106, y_fiZ oY99 (k := 19) (by decide), ← ev108]; exact h94), rfl⟩
  · have c26 := mt (ax_gt (n := 40) (by decide)).mpr c26
    refine lv_aload_n hx hb dX7_isEndReached_8 rfl (lv_at hl 0 rfl) ?_
    refine th_get (D := (dC, dI)) (ci := 7) (v := .ref (A 17)) (C := RX7) (T := TX7) (N := 34) hx hb hts inX7 hown hK hP (hLK _ ha0 (by decide)) oY20 rfl 17 (by decide) (hts _ T_249) (fun _ h9 => h9) rfl dX7_isEndReached_9 ?_
    refine lv_iload_n hx hb dX7_isEndReached_12 rfl (lv_at hl 3 rfl) ?_
    refine lv_iconst (v := 0) hx hb dX7_isEndReached_13 (by decide) ?_
    refine th_zast hx hb hK hP hD hS (hLK _ (y_k17 hA) (by decide)) 7 o24 rfl (th_in ⟨by omega, by omega⟩) dX7_isEndReached_14 (fun H locs hP hS => ?_)
    obtain ⟨f110, u111⟩ : ∃ g : Nat → Int32, g = upd f23 (w10 : Int32).toNatClampNeg (vp_nar .boolean 0) := ⟨_, rfl⟩
    rw [← u111] at hP
    have b112 : y_bd 17 f110 := by rw [u111]; exact th_updB b25 (by decide)
    have hP : va_P (dC, dI) vwCl (va_pl L (va_up F16 (A 17) (.inl (cs 7, 41, .inl f110)))) H := hP
    obtain ⟨F113, hF114⟩ : ∃ G : Nat → va_E, G = va_up F16 (A 17) (.inl (cs 7, 41, .inl f110)) := ⟨_, rfl⟩
    rw [← hF114] at hP
    have hI : y_I K cs A F113 := by rw [hF114]; exact y_clA (i := 17) hA hI (by decide) b112
    have hfr : ∀ b, K b ∉ [9, 67, 68] → F113 b = F b := by rw [hF114]; exact s_fr hfr (y_k17 hA) (by decide)
    have o115 : F113 (A 13) = .inl (cs 0, 400, .inl f1) := by rw [hF114]; exact th_ne (th_kd (y_k13 hA) (y_k17 hA) (by decide)) o17
    have oY116 : F113 a0 = .inr (7, y_fl A z18 q19) := by rw [hF114]; exact th_ne (th_kd ha0 (y_k17 hA) (by decide)) oY20
    have o117 : F113 (A 17) = .inl (cs 7, 41, .inl f110) := by rw [hF114]; exact th_up
    have u118 : ∀ j : Int, 0 ≤ j → y_c f110 j = if j = w10.toInt then (vp_nar .boolean 0) else y_c f23 j := by rw [u111]; exact y_cu rfl (by omega)
    obtain ⟨v119, ev119⟩ : ∃ y : Int32, w10 + 1 = y := ⟨_, rfl⟩
    have qv119 : v119.toInt = w10.toInt + 1 := by rw [← ev119]; exact th_add rfl (by decide) ⟨by omega, by omega⟩
    refine lv_iinc (v := v119) (lv' := [(3, .int v119), (0, .ref a0), (1, .int x1), (2, .int x2)]) hx hb dX7_isEndReached_15 hl (k := 3) rfl ev119 (by decide) rfl (fun ls hl => ?_)
    refine lv_goto (tgt := 2) hx hb dX7_isEndReached_18 (by decide) ?_
    exact ih2 _ _ _ _ (by omega) ⟨F113, _, v119, rfl, lv_sub hl [1, 2, 3, 0] rfl, hP, hS, hI, hfr, (fun k hk => (y_fiZ oY116 (s_sub (by decide) hk)).trans (hz0 k hk)), ⟨by omega, by omega⟩, ⟨by omega, by omega⟩, ⟨by omega, by omega⟩, (by rw [y_atE o117]; exact (fun j h0 h1 => by rw [u118 j h0]; split; exact (by decide); exact h15 j h0 (by omega))), rfl⟩

set_option maxHeartbeats 4000000 in
set_option maxRecDepth 100000 in
theorem y_X7_isFirst (l : Launch) (dC : Nat → ClassId) (dI : Nat → Nat → Nat) (sz : Nat) {L : List Nat} {K : Nat → Nat} {cs : Nat → ClassId} (hLK : ∀ a {k : Nat}, K a = k → k ≠ 0 → a ∈ L) (A : Nat → Nat) (hA : y_A K A) (F : Nat → va_E) (a0 : Nat) (x1 : Int32) (x2 : Int32) (ha0 : K a0 = 9) (hx1 : 0 ≤ x1.toInt ∧ x1.toInt ≤ 39) (hx2 : 0 ≤ x2.toInt ∧ x2.toInt ≤ 39) (hI : y_I K cs A F) (hP0 : y_P0 (y_at F (A 13))) (hxm : x1.toInt < (y_c (y_at F (A 13)) 387).toInt) : Met l yX7_isFirst (Cond.code yX7_isFirst cX7_isFirst 4 (some .boolean) :: T0) ({ frames := 5, cells := 0, slots := 0, locals := 110 }) (va_Pc [.ref a0, .int x1, .int x2] (s_W dC dI sz L F [(cs 0, .int), (cs 1, .byte), (cs 2, .long), (cs 3, .object RX5), (cs 4, .object RX4), (cs 5, .array .int), (cs 6, .char), (cs 7, .boolean)])) (va_Qi (fun (r : Int32) (G : Nat → va_E) => (0 ≤ r.toInt ∧ r.toInt ≤ 1) ∧ True ∧ y_I K cs A G ∧ (∀ b, K b ∉ [9, 67, 68] → G b = F b) ∧ (∀ k, k ∈ ([1, 2, 3, 4, 5, 6, 7, 8, 11, 15, 16, 25, 26, 27, 31, 32] : List Nat) → y_fi G a0 k = y_fi F a0 k) ∧ True) (fun (G : Nat → va_E) (t : State) => va_P (dC, dI) vwCl (va_pl L G) t.heap ∧ va_K (dC, dI) vwCl [(cs 0, .int), (cs 1, .byte), (cs 2, .long), (cs 3, .object RX5), (cs 4, .object RX4), (cs 5, .array .int), (cs 6, .char), (cs 7, .boolean)] t) (fun q => q ∈ L)) 0 0 (fun q => q ∈ L) := by
  refine Met.ofW (cc := cX7_isFirst) (maxL := 4) (ret := (some .boolean)) (by decide) rfl ?_
  intro p e s m args below meth c s₁ B hml hv
  obtain ⟨rfl, hsz, hP, hK, hD, hN⟩ := hv
  have hx := B.exec
  have hb := B.bytes
  have hr := B.returns
  have hts : ∀ w ∈ T0, w.before _ s = true := fun w h => atoms_spec (ws := Cond.code yX7_isFirst cX7_isFirst 4 (some .boolean) :: T0) B.pre w (List.mem_cons_of_mem _ h)
  have hown : s.vm.findClass RX7 = some m.cls := findClass_of_methodNamed B.named
  have hlocks := B.notSynchronized
  have hS : va_S (fun q => q ∈ L) s.heap s.heap [] := va_S.rf
  have hfr : ∀ b, K b ∉ [9, 67, 68] → F b = F b := fun _ _ => rfl
  have hl := lv_entry ([.ref a0, .int x1, .int x2]) (n := 4) (Nat.le_of_ble_eq_true rfl)
  rw [lg_entry_eq]
  generalize (lg_sl ([.ref a0, .int x1, .int x2]) ++ List.replicate (4 - (lg_sl ([.ref a0, .int x1, .int x2])).length) Slot.unset).toArray = ls at hl ⊢
  have hl : lv_has ls 4 [(0, .ref a0), (1, .int x1), (2, .int x2)] := hl
  refine s_gen hP hS (fun H locs hP hS => ?_)
  obtain ⟨z0, q0, oY0, bz0, bq0⟩ := y_opY hI ha0
  have hz0 : ∀ k, k ∈ ([1, 2, 3, 4, 5, 6, 7, 8, 11, 15, 16, 25, 26, 27, 31, 32] : List Nat) → z0 k = z0 k := fun _ _ => rfl
  obtain ⟨f1, o2, b3⟩ := y_op13 hI
  have hP0 : y_P0 f1 := by have q9 := hP0; rw [y_atE o2] at q9; exact q9
  have hxm : x1.toInt < (y_c f1 387).toInt := by have q9 := hxm; rw [y_atE o2] at q9; exact q9
  have hL := y_P0L hP0
  have hW := y_P0W hP0
  refine lv_iconst (v := 0) hx hb dX7_isFirst_0 (by decide) ?_
  refine lv_istore_n (lv' := [(3, .int 0), (0, .ref a0), (1, .int x1), (2, .int x2)]) hx hb dX7_isFirst_1 rfl hl (by decide) rfl (fun ls hl => ?_)
  have h5 : (0 : Int32).toInt = 0 := by decide
  refine th_loop (fun n g H locs => ∃ (G : Nat → va_E) (ls : Array Slot) (w4 : Int32), g = F0 m 2 ls [] ∧ lv_has ls 4 [(0, .ref a0), (1, .int x1), (2, .int x2), (3, .int w4)] ∧ va_P (dC, dI) vwCl (va_pl L G) H ∧ va_S (fun q => q ∈ L) s.heap H locs ∧ y_I K cs A G ∧ (∀ b, K b ∉ [9, 67, 68] → G b = F b) ∧ (∀ k, k ∈ ([1, 2, 3, 4, 5, 6, 7, 8, 11, 15, 16, 25, 26, 27, 31, 32] : List Nat) → y_fi G a0 k = z0 k) ∧ (0 ≤ w4.toInt ∧ w4.toInt ≤ 40) ∧ (0 ≤ x1.toInt ∧ x1.toInt ≤ 39) ∧ (0 ≤ x2.toInt ∧ x2.toInt ≤ 39) ∧ n = (41 - w4.toInt).toNat) _ ⟨F, _, 0, rfl, lv_sub hl [1, 2, 3, 0] rfl, hP, hS, hI, hfr, (fun k hk => (y_fiZ oY0 (s_sub (by decide) hk)).trans (hz0 k hk)), (by decide), ⟨by omega, by omega⟩, ⟨by omega, by omega⟩, rfl⟩ (fun n ih2 g H locs hq => ?_)
  obtain ⟨F9, ls, w4, rfl, hl, hP, hS, hI, hfr, hz0, h6, h7, h8, hn⟩ := hq
  have o10 : F9 (A 13) = .inl (cs 0, 400, .inl f1) := (hfr _ (by rw [(y_k13 hA)]; decide)).trans o2
  obtain ⟨z11, q12, oY13, bz14, bq15⟩ := y_opY hI ha0
  have hz0 : ∀ k, k ∈ ([1, 2, 3, 4, 5, 6, 7, 8, 11, 15, 16, 25, 26, 27, 31, 32] : List Nat) → z11 k = z0 k := fun k hk => (y_fiZ oY13 (s_sub (by decide) hk)).symm.trans (hz0 k hk)
  have hn_15 := hn
  refine th_join (fun g H locs => ∃ (G : Nat → va_E) (ls : Array Slot), g = F0 m 50 ls [] ∧ lv_has ls 4 [(0, .ref a0), (1, .int x1), (2, .int x2), (3, .int w4)] ∧ va_P (dC, dI) vwCl (va_pl L G) H ∧ va_S (fun q => q ∈ L) s.heap H locs ∧ y_I K cs A G ∧ (∀ b, K b ∉ [9, 67, 68] → G b = F b) ∧ (∀ k, k ∈ ([1, 2, 3, 4, 5, 6, 7, 8, 11, 15, 16, 25, 26, 27, 31, 32] : List Nat) → y_fi G a0 k = z0 k) ∧ (0 ≤ x1.toInt ∧ x1.toInt ≤ 39) ∧ (0 ≤ x2.toInt ∧ x2.toInt ≤ 39) ∧ (0 ≤ w4.toInt ∧ w4.toInt ≤ 39)) (fun K50 => ?_) ?_
  · refine lv_iload_n hx hb dX7_isFirst_2 rfl (lv_at hl 3 rfl) ?_
    refine lv_aload_n hx hb dX7_isFirst_3 rfl (lv_at hl 0 rfl) ?_
    refine va_calli (va_runV (As := []) (rest := [.int w4]) ⟨hx, hb, hml, hown, hts⟩ (y_X7_lines l dC dI H.size hLK A hA F9 a0 ha0 hI) (cwV 0 hts (ax_gV T_1030 T_1032 T_1033 T_265 T_1031) rfl rfl rfl (by decide +kernel) ⟨Nat.le_of_ble_eq_true rfl, Nat.le_of_ble_eq_true rfl⟩) ⟨fun a U g mk q => ⟨q.1, s_pc rfl rfl q.2⟩, s_recv hK hP (hLK _ ha0 (by decide)) (ci := 7) rfl oY13, fun U hU hW => ⟨rfl, s_pw hU hW hP hK hD hN⟩⟩ rfl rfl hl.1 rfl (lv_room (Nat.le_of_ble_eq_true rfl)) dX7_isFirst_4 ⟨Nat.zero_le _, Nat.zero_le _⟩) hS (fun q _ h => h) (fun q h => h) (fun r17 F18 t H1 locs ht hvm hw hB hz1 hk1 hS => ?_)
    obtain ⟨hP, hK1⟩ := hB
    rw [ht] at hP
    generalize H1 = H at hP hS ⊢
    obtain ⟨h19, h21, hI, hfr1, hzf, h20⟩ := hw
    have o22 : F18 (A 13) = .inl (cs 0, 400, .inl f1) := (hfr1 _ (by rw [(y_k13 hA)]; decide)).trans o10
    have oY23 : F18 a0 = .inr (7, y_fl A z11 q12) := (hfr1 _ (by rw [ha0]; decide)).trans oY13
    have hfr : ∀ b, K b ∉ [9, 67, 68] → F18 b = F b := fun b hb9 => (hfr1 b (fun q => hb9 (s_sub (by decide) q))).trans (hfr b hb9)
    have h20 : (r17 = y_c f1 387) := by have q9 := h20; rw [y_atE o10] at q9; exact q9
    have h24 := congrArg Int32.toInt h20
    have h25 : 1 ≤ r17.toInt ∧ r17.toInt ≤ 40 := ⟨by omega, by omega⟩
    refine lv_icmp_ge (tgt := 56) hx hb dX7_isFirst_7 (by decide) (fun c26 => ?_) (fun c26 => ?_)
    · have c26 := Int32.le_iff_toInt_le.mp c26
      refine lv_iconst (v := 1) hx hb dX7_isFirst_56 (by decide) ?_
      have h27 : (1 : Int32).toInt = 1 := by decide
      exact W.zret (v := 1) (ty := .boolean) hx hb hr (by decide) (fun t ht hW => ⟨⟨1, F18, rfl, ⟨(by decide), trivial, hI, hfr, fun k hk => (y_fiZ oY23 (s_sub (by decide) hk)).trans ((hz0 k hk).trans (y_fiZ oY0 (s_sub (by decide) hk)).symm), trivial⟩, by rw [ht]; exact hP, va_K.moved hW.alike hK⟩, hS.F ht⟩) hS.2.2 dX7_isFirst_57
    · have c26 := mt Int32.le_iff_toInt_le.mpr c26
      refine lv_iload_n hx hb dX7_isFirst_10 rfl (lv_at hl 3 rfl) ?_
      refine lv_iload_n hx hb dX7_isFirst_11 rfl (lv_at hl 1 rfl) ?_
      refine lv_icmp_eq (tgt := 50) hx hb dX7_isFirst_12 (by decide) (fun c28 => ?_) (fun c28 => ?_)
      · have c28 := Int32.toInt_inj.symm.mp c28
        exact K50 _ _ _ ⟨F18, _, rfl, lv_sub hl [0, 1, 2, 3] rfl, hP, hS, hI, hfr, (fun k hk => (y_fiZ oY23 (s_sub (by decide) hk)).trans (hz0 k hk)), ⟨by omega, by omega⟩, ⟨by omega, by omega⟩, ⟨by omega, by omega⟩⟩
      · have c28 := mt Int32.toInt_inj.symm.mpr c28
        refine lv_iload_n hx hb dX7_isFirst_15 rfl (lv_at hl 3 rfl) ?_
        refine lv_iload_n hx hb dX7_isFirst_16 rfl (lv_at hl 2 rfl) ?_
        refine lv_icmp_eq (tgt := 50) hx hb dX7_isFirst_17 (by decide) (fun c29 => ?_) (fun c29 => ?_)
        · have c29 := Int32.toInt_inj.symm.mp c29
          exact K50 _ _ _ ⟨F18, _, rfl, lv_sub hl [0, 1, 2, 3] rfl, hP, hS, hI, hfr, (fun k hk => (y_fiZ oY23 (s_sub (by decide) hk)).trans (hz0 k hk)), ⟨by omega, by omega⟩, ⟨by omega, by omega⟩, ⟨by omega, by omega⟩⟩
        · have c29 := mt Int32.toInt_inj.symm.mpr c29
          refine lv_aload_n hx hb dX7_isFirst_20 rfl (lv_at hl 0 rfl) ?_
          refine lv_iload_n hx hb dX7_isFirst_21 rfl (lv_at hl 1 rfl) ?_
          refine lv_iload_n hx hb dX7_isFirst_22 rfl (lv_at hl 3 rfl) ?_
          refine va_calli (va_runV (As := [.int x1, .int w4]) (rest := []) ⟨hx, hb, hml, hown, hts⟩ (y_X7_isEndReached l dC dI H.size hLK A hA F18 a0 x1 w4 ha0 (⟨by omega, by omega⟩) (⟨by omega, by omega⟩) hI (by rw [y_atE o22]; exact hP0) (by first | (rw [y_atE o22]; omega) | rw [y_atE o22])) (cwV 2 hts (ax_gV T_1211 T_1213 T_1214 T_265 T_1212) rfl rfl rfl (by decide +kernel) ⟨Nat.le_of_ble_eq_true rfl, Nat.le_of_ble_eq_true rfl⟩) ⟨fun a U g mk q => ⟨q.1, s_pc rfl rfl q.2⟩, s_recv hK hP (hLK _ ha0 (by decide)) (ci := 7) rfl oY23, fun U hU hW => ⟨rfl, s_pw hU hW hP hK hD hN⟩⟩ rfl rfl hl.1 rfl (lv_room (Nat.le_of_ble_eq_true rfl)) dX7_isFirst_23 ⟨Nat.zero_le _, Nat.zero_le _⟩) hS (fun q _ h => h) (fun q h => h) (fun r31 F32 t H1 locs ht hvm hw hB hz1 hk1 hS => ?_)
          obtain ⟨hP, hK1⟩ := hB
          rw [ht] at hP
          generalize H1 = H at hP hS ⊢
          obtain ⟨h33, h35, hI, hfr1, hzf, h34⟩ := hw
          have o36 : F32 (A 13) = .inl (cs 0, 400, .inl f1) := (hfr1 _ (by rw [(y_k13 hA)]; decide)).trans o22
          obtain ⟨z37, q38, oY39, bz40, bq41⟩ := y_opY hI ha0
          have hzf : ∀ k, k ∈ ([1, 2, 3, 4, 5, 6, 7, 8, 11, 15, 16, 25, 26, 27, 31, 32] : List Nat) → z37 k = z11 k := fun k hk => by have q9 := hzf k hk; rw [y_fiZ oY39 (s_sub (by decide) hk), y_fiZ oY23 (s_sub (by decide) hk)] at q9; exact q9
          have hz0 : ∀ k, k ∈ ([1, 2, 3, 4, 5, 6, 7, 8, 11, 15, 16, 25, 26, 27, 31, 32] : List Nat) → z37 k = z0 k := fun k hk => (hzf k (s_sub (by decide) hk)).trans (hz0 k hk)
          have hfr : ∀ b, K b ∉ [9, 67, 68] → F32 b = F b := fun b hb9 => (hfr1 b (fun q => hb9 (s_sub (by decide) q))).trans (hfr b hb9)
          refine lv_if_eq (tgt := 32) hx hb dX7_isFirst_26 (by decide) (fun c42 => ?_) (fun c42 => ?_)
          · have c42 := (ax_eq (n := 0) (by decide)).mp c42
            refine lv_aload_n hx hb dX7_isFirst_32 rfl (lv_at hl 0 rfl) ?_
            refine lv_iload_n hx hb dX7_isFirst_33 rfl (lv_at hl 1 rfl) ?_
            refine lv_iload_n hx hb dX7_isFirst_34 rfl (lv_at hl 2 rfl) ?_
            refine va_calli (va_runV (As := [.int x1, .int x2]) (rest := []) ⟨hx, hb, hml, hown, hts⟩ (y_X7_isEndReached l dC dI H.size hLK A hA F32 a0 x1 x2 ha0 (⟨by omega, by omega⟩) (⟨by omega, by omega⟩) hI (by rw [y_atE o36]; exact hP0) (by first | (rw [y_atE o36]; omega) | rw [y_atE o36])) (cwV 2 hts (ax_gV T_1211 T_1213 T_1214 T_265 T_1212) rfl rfl rfl (by decide +kernel) ⟨Nat.le_of_ble_eq_true rfl, Nat.le_of_ble_eq_true rfl⟩) ⟨fun a U g mk q => ⟨q.1, s_pc rfl rfl q.2⟩, s_recv hK hP (hLK _ ha0 (by decide)) (ci := 7) rfl oY39, fun U hU hW => ⟨rfl, s_pw hU hW hP hK hD hN⟩⟩ rfl rfl hl.1 rfl (lv_room (Nat.le_of_ble_eq_true rfl)) dX7_isFirst_35 ⟨Nat.zero_le _, Nat.zero_le _⟩) hS (fun q _ h => h) (fun q h => h) (fun r44 F45 t H1 locs ht hvm hw hB hz1 hk1 hS => ?_)
            obtain ⟨hP, hK1⟩ := hB
            rw [ht] at hP
            generalize H1 = H at hP hS ⊢
            obtain ⟨h46, h48, hI, hfr1, hzf, h47⟩ := hw
            have o49 : F45 (A 13) = .inl (cs 0, 400, .inl f1) := (hfr1 _ (by rw [(y_k13 hA)]; decide)).trans o36
            obtain ⟨z50, q51, oY52, bz53, bq54⟩ := y_opY hI ha0
            have hzf : ∀ k, k ∈ ([1, 2, 3, 4, 5, 6, 7, 8, 11, 15, 16, 25, 26, 27, 31, 32] : List Nat) → z50 k = z37 k := fun k hk => by have q9 := hzf k hk; rw [y_fiZ oY52 (s_sub (by decide) hk), y_fiZ oY39 (s_sub (by decide) hk)] at q9; exact q9
            have hz0 : ∀ k, k ∈ ([1, 2, 3, 4, 5, 6, 7, 8, 11, 15, 16, 25, 26, 27, 31, 32] : List Nat) → z50 k = z0 k := fun k hk => (hzf k (s_sub (by decide) hk)).trans (hz0 k hk)
            have hfr : ∀ b, K b ∉ [9, 67, 68] → F45 b = F b := fun b hb9 => (hfr1 b (fun q => hb9 (s_sub (by decide) q))).trans (hfr b hb9)
            refine lv_pop hx hb dX7_isFirst_38 rfl ?_
            refine lv_aload_n hx hb dX7_isFirst_39 rfl (lv_at hl 0 rfl) ?_
            refine th_get (D := (dC, dI)) (ci := 7) (v := .ref (A 17)) (C := RX7) (T := TX7) (N := 34) hx hb hts inX7 hown hK hP (hLK _ ha0 (by decide)) oY52 rfl 17 (by decide) (hts _ T_249) (fun _ h9 => h9) rfl dX7_isFirst_40 ?_
            refine lv_iload_n hx hb dX7_isFirst_43 rfl (lv_at hl 3 rfl) ?_
            obtain ⟨f55, o56, b57⟩ := y_op17 hI
            refine th_zald hx hb hK hP (hLK _ (y_k17 hA) (by decide)) 7 o56 rfl (th_in ⟨by omega, by omega⟩) dX7_isFirst_44 ?_
            refine lv_topi (fun v58 ev58 => ?_)
            have qv58 : 0 ≤ v58.toInt ∧ v58.toInt ≤ 1 := by rw [ev58]; exact b57 _ (th_cl ⟨by omega, by omega⟩)
            refine lv_if_eq (tgt := 50) hx hb dX7_isFirst_45 (by decide) (fun c59 => ?_) (fun c59 => ?_)
            · have c59 := (ax_eq (n := 0) (by decide)).mp c59
              exact K50 _ _ _ ⟨F45, _, rfl, lv_sub hl [0, 1, 2, 3] rfl, hP, hS, hI, hfr, (fun k hk => (y_fiZ oY52 (s_sub (by decide) hk)).trans (hz0 k hk)), ⟨by omega, by omega⟩, ⟨by omega, by omega⟩, ⟨by omega, by omega⟩⟩
            · have c59 := mt (ax_eq (n := 0) (by decide)).mpr c59
              refine lv_iconst (v := 0) hx hb dX7_isFirst_48 (by decide) ?_
              have h60 : (0 : Int32).toInt = 0 := by decide
              exact W.zret (v := 0) (ty := .boolean) hx hb hr (by decide) (fun t ht hW => ⟨⟨0, F45, rfl, ⟨(by decide), trivial, hI, hfr, fun k hk => (y_fiZ oY52 (s_sub (by decide) hk)).trans ((hz0 k hk).trans (y_fiZ oY0 (s_sub (by decide) hk)).symm), trivial⟩, by rw [ht]; exact hP, va_K.moved hW.alike hK⟩, hS.F ht⟩) hS.2.2 dX7_isFirst_49
          · have c42 := mt (ax_eq (n := 0) (by decide)).mpr c42
            refine lv_goto (tgt := 50) hx hb dX7_isFirst_29 (by decide) ?_
            exact K50 _ _ _ ⟨F32, _, rfl, lv_sub hl [0, 1, 2, 3] rfl, hP, hS, hI, hfr, (fun k hk => (y_fiZ oY39 (s_sub (by decide) hk)).trans (hz0 k hk)), ⟨by omega, by omega⟩, ⟨by omega, by omega⟩, ⟨by omega, by omega⟩⟩
  · intro g H locs hq
    obtain ⟨F64, ls, rfl, hl, hP, hS, hI, hfr, hz0, h61, h62, h63⟩ := hq
    have o65 : F64 (A 13) = .inl (cs 0, 400, .inl f1) := (hfr _ (by rw [(y_k13 hA)]; decide)).trans o2
    obtain ⟨z66, q67, oY68, bz69, bq70⟩ := y_opY hI ha0
    have hz0 : ∀ k, k ∈ ([1, 2, 3, 4, 5, 6, 7, 8, 11, 15, 16, 25, 26, 27, 31, 32] : List Nat) → z66 k = z0 k := fun k hk => (y_fiZ oY68 (s_sub (by decide) hk)).symm.trans (hz0 k hk)
    obtain ⟨v71, ev71⟩ : ∃ y : Int32, w4 + 1 = y := ⟨_, rfl⟩
    have qv71 : v71.toInt = w4.toInt + 1 := by rw [← ev71]; exact th_add rfl (by decide) ⟨by omega, by omega⟩
    refine lv_iinc (v := v71) (lv' := [(3, .int v71), (0, .ref a0), (1, .int x1), (2, .int x2)]) hx hb dX7_isFirst_50 hl (k := 3) rfl ev71 (by decide) rfl (fun ls hl => ?_)
    refine lv_goto (tgt := 2) hx hb dX7_isFirst_53 (by decide) ?_
    exact ih2 _ _ _ _ (by omega) ⟨F64, _, v71, rfl, lv_sub hl [1, 2, 3, 0] rfl, hP, hS, hI, hfr, (fun k hk => (y_fiZ oY68 (s_sub (by decide) hk)).trans (hz0 k hk)), ⟨by omega, by omega⟩, ⟨by omega, by omega⟩, ⟨by omega, by omega⟩, rfl⟩

set_option maxHeartbeats 4000000 in
set_option maxRecDepth 100000 in
theorem y_X7_meetOf (l : Launch) (dC : Nat → ClassId) (dI : Nat → Nat → Nat) (sz : Nat) {L : List Nat} {K : Nat → Nat} {cs : Nat → ClassId} (hLK : ∀ a {k : Nat}, K a = k → k ≠ 0 → a ∈ L) (A : Nat → Nat) (hA : y_A K A) (F : Nat → va_E) (a0 : Nat) (x1 : Int32) (ha0 : K a0 = 9) (hx1 : 0 ≤ x1.toInt ∧ x1.toInt ≤ 39) (hI : y_I K cs A F) (hP0 : y_P0 (y_at F (A 13))) (hxm : x1.toInt < (y_c (y_at F (A 13)) 387).toInt) : Met l yX7_meetOf (Cond.code yX7_meetOf cX7_meetOf 3 (some .int) :: T0) ({ frames := 6, cells := 0, slots := 0, locals := 133 }) (va_Pc [.ref a0, .int x1] (s_W dC dI sz L F [(cs 0, .int), (cs 1, .byte), (cs 2, .long), (cs 3, .object RX5), (cs 4, .object RX4), (cs 5, .array .int), (cs 6, .char), (cs 7, .boolean)])) (va_Qi (fun (r : Int32) (G : Nat → va_E) => (0 ≤ r.toInt ∧ r.toInt ≤ 40) ∧ True ∧ y_I K cs A G ∧ (∀ b, K b ∉ [9, 67, 68] → G b = F b) ∧ (∀ k, k ∈ ([1, 2, 3, 4, 5, 6, 7, 8, 11, 15, 16, 25, 26, 27, 31, 32] : List Nat) → y_fi G a0 k = y_fi F a0 k) ∧ (0 ≤ r.toInt ∧ r.toInt ≤ (y_c (y_at F (A 13)) 387).toInt)) (fun (G : Nat → va_E) (t : State) => va_P (dC, dI) vwCl (va_pl L G) t.heap ∧ va_K (dC, dI) vwCl [(cs 0, .int), (cs 1, .byte), (cs 2, .long), (cs 3, .object RX5), (cs 4, .object RX4), (cs 5, .array .int), (cs 6, .char), (cs 7, .boolean)] t) (fun q => q ∈ L)) 0 0 (fun q => q ∈ L) := by
  refine Met.ofW (cc := cX7_meetOf) (maxL := 3) (ret := (some .int)) (by decide) rfl ?_
  intro p e s m args below meth c s₁ B hml hv
  obtain ⟨rfl, hsz, hP, hK, hD, hN⟩ := hv
  have hx := B.exec
  have hb := B.bytes
  have hr := B.returns
  have hts : ∀ w ∈ T0, w.before _ s = true := fun w h => atoms_spec (ws := Cond.code yX7_meetOf cX7_meetOf 3 (some .int) :: T0) B.pre w (List.mem_cons_of_mem _ h)
  have hown : s.vm.findClass RX7 = some m.cls := findClass_of_methodNamed B.named
  have hlocks := B.notSynchronized
  have hS : va_S (fun q => q ∈ L) s.heap s.heap [] := va_S.rf
  have hfr : ∀ b, K b ∉ [9, 67, 68] → F b = F b := fun _ _ => rfl
  have hl := lv_entry ([.ref a0, .int x1]) (n := 3) (Nat.le_of_ble_eq_true rfl)
  rw [lg_entry_eq]
  generalize (lg_sl ([.ref a0, .int x1]) ++ List.replicate (3 - (lg_sl ([.ref a0, .int x1])).length) Slot.unset).toArray = ls at hl ⊢
  have hl : lv_has ls 3 [(0, .ref a0), (1, .int x1)] := hl
  refine s_gen hP hS (fun H locs hP hS => ?_)
  obtain ⟨z0, q0, oY0, bz0, bq0⟩ := y_opY hI ha0
  have hz0 : ∀ k, k ∈ ([1, 2, 3, 4, 5, 6, 7, 8, 11, 15, 16, 25, 26, 27, 31, 32] : List Nat) → z0 k = z0 k := fun _ _ => rfl
  obtain ⟨f1, o2, b3⟩ := y_op13 hI
  have hP0 : y_P0 f1 := by have q9 := hP0; rw [y_atE o2] at q9; exact q9
  have hxm : x1.toInt < (y_c f1 387).toInt := by have q9 := hxm; rw [y_atE o2] at q9; exact q9
  have hL := y_P0L hP0
  have hW := y_P0W hP0
  refine lv_aload_n hx hb dX7_meetOf_0 rfl (lv_at hl 0 rfl) ?_
  refine lv_iload_n hx hb dX7_meetOf_1 rfl (lv_at hl 1 rfl) ?_
  refine lv_iconst (v := (-1)) hx hb dX7_meetOf_2 (by decide) ?_
  refine va_calli (va_runV (As := [.int x1, .int (-1)]) (rest := []) ⟨hx, hb, hml, hown, hts⟩ (y_X7_isEndReached l dC dI H.size hLK A hA F a0 x1 (-1) ha0 (⟨by omega, by omega⟩) (by decide) hI (by rw [y_atE o2]; exact hP0) (by first | (rw [y_atE o2]; omega) | rw [y_atE o2])) (cwV 2 hts (ax_gV T_1211 T_1213 T_1214 T_265 T_1212) rfl rfl rfl (by decide +kernel) ⟨Nat.le_of_ble_eq_true rfl, Nat.le_of_ble_eq_true rfl⟩) ⟨fun a U g mk q => ⟨q.1, s_pc rfl rfl q.2⟩, s_recv hK hP (hLK _ ha0 (by decide)) (ci := 7) rfl oY0, fun U hU hW => ⟨rfl, s_pw hU hW hP hK hD hN⟩⟩ rfl rfl hl.1 rfl (lv_room (Nat.le_of_ble_eq_true rfl)) dX7_meetOf_3 ⟨Nat.zero_le _, Nat.zero_le _⟩) hS (fun q _ h => h) (fun q h => h) (fun r5 F6 t H1 locs ht hvm hw hB hz1 hk1 hS => ?_)
  obtain ⟨hP, hK1⟩ := hB
  rw [ht] at hP
  generalize H1 = H at hP hS ⊢
  obtain ⟨h7, h9, hI, hfr1, hzf, h8⟩ := hw
  have o10 : F6 (A 13) = .inl (cs 0, 400, .inl f1) := (hfr1 _ (by rw [(y_k13 hA)]; decide)).trans o2
  obtain ⟨z11, q12, oY13, bz14, bq15⟩ := y_opY hI ha0
  have hzf : ∀ k, k ∈ ([1, 2, 3, 4, 5, 6, 7, 8, 11, 15, 16, 25, 26, 27, 31, 32] : List Nat) → z11 k = z0 k := fun k hk => by have q9 := hzf k hk; rw [y_fiZ oY13 (s_sub (by decide) hk), y_fiZ oY0 (s_sub (by decide) hk)] at q9; exact q9
  have hz0 : ∀ k, k ∈ ([1, 2, 3, 4, 5, 6, 7, 8, 11, 15, 16, 25, 26, 27, 31, 32] : List Nat) → z11 k = z0 k := fun k hk => (hzf k (s_sub (by decide) hk)).trans (hz0 k hk)
  have hfr : ∀ b, K b ∉ [9, 67, 68] → F6 b = F b := fun b hb9 => (hfr1 b (fun q => hb9 (s_sub (by decide) q))).trans (hfr b hb9)
  refine lv_if_ne (tgt := 14) hx hb dX7_meetOf_6 (by decide) (fun c16 => ?_) (fun c16 => ?_)
  · have c16 := mt (ax_eq (n := 0) (by decide)).mpr c16
    refine lv_iconst (v := 0) hx hb dX7_meetOf_14 (by decide) ?_
    refine lv_istore_n (lv' := [(2, .int 0), (0, .ref a0), (1, .int x1)]) hx hb dX7_meetOf_15 rfl hl (by decide) rfl (fun ls hl => ?_)
    have h18 : (0 : Int32).toInt = 0 := by decide
    refine th_loop (fun n g H locs => ∃ (G : Nat → va_E) (ls : Array Slot) (w17 : Int32), g = F0 m 16 ls [] ∧ lv_has ls 3 [(0, .ref a0), (1, .int x1), (2, .int w17)] ∧ va_P (dC, dI) vwCl (va_pl L G) H ∧ va_S (fun q => q ∈ L) s.heap H locs ∧ y_I K cs A G ∧ (∀ b, K b ∉ [9, 67, 68] → G b = F b) ∧ (∀ k, k ∈ ([1, 2, 3, 4, 5, 6, 7, 8, 11, 15, 16, 25, 26, 27, 31, 32] : List Nat) → y_fi G a0 k = z0 k) ∧ (0 ≤ w17.toInt ∧ w17.toInt ≤ 40) ∧ (0 ≤ x1.toInt ∧ x1.toInt ≤ 39) ∧ n = (41 - w17.toInt).toNat) _ ⟨F6, _, 0, rfl, lv_sub hl [1, 2, 0] rfl, hP, hS, hI, hfr, (fun k hk => (y_fiZ oY13 (s_sub (by decide) hk)).trans (hz0 k hk)), (by decide), ⟨by omega, by omega⟩, rfl⟩ (fun n ih16 g H locs hq => ?_)
    obtain ⟨F21, ls, w17, rfl, hl, hP, hS, hI, hfr, hz0, h19, h20, hn⟩ := hq
    have o22 : F21 (A 13) = .inl (cs 0, 400, .inl f1) := (hfr _ (by rw [(y_k13 hA)]; decide)).trans o2
    obtain ⟨z23, q24, oY25, bz26, bq27⟩ := y_opY hI ha0
    have hz0 : ∀ k, k ∈ ([1, 2, 3, 4, 5, 6, 7, 8, 11, 15, 16, 25, 26, 27, 31, 32] : List Nat) → z23 k = z0 k := fun k hk => (y_fiZ oY25 (s_sub (by decide) hk)).symm.trans (hz0 k hk)
    have hn_27 := hn
    refine th_join (fun g H locs => ∃ (G : Nat → va_E) (ls : Array Slot), g = F0 m 49 ls [] ∧ lv_has ls 3 [(0, .ref a0), (1, .int x1), (2, .int w17)] ∧ va_P (dC, dI) vwCl (va_pl L G) H ∧ va_S (fun q => q ∈ L) s.heap H locs ∧ y_I K cs A G ∧ (∀ b, K b ∉ [9, 67, 68] → G b = F b) ∧ (∀ k, k ∈ ([1, 2, 3, 4, 5, 6, 7, 8, 11, 15, 16, 25, 26, 27, 31, 32] : List Nat) → y_fi G a0 k = z0 k) ∧ (0 ≤ x1.toInt ∧ x1.toInt ≤ 39) ∧ (0 ≤ w17.toInt ∧ w17.toInt ≤ 39)) (fun K49 => ?_) ?_
    · refine lv_iload_n hx hb dX7_meetOf_16 rfl (lv_at hl 2 rfl) ?_
      refine lv_aload_n hx hb dX7_meetOf_17 rfl (lv_at hl 0 rfl) ?_
      refine va_calli (va_runV (As := []) (rest := [.int w17]) ⟨hx, hb, hml, hown, hts⟩ (y_X7_lines l dC dI H.size hLK A hA F21 a0 ha0 hI) (cwV 0 hts (ax_gV T_1030 T_1032 T_1033 T_265 T_1031) rfl rfl rfl (by decide +kernel) ⟨Nat.le_of_ble_eq_true rfl, Nat.le_of_ble_eq_true rfl⟩) ⟨fun a U g mk q => ⟨q.1, s_pc rfl rfl q.2⟩, s_recv hK hP (hLK _ ha0 (by decide)) (ci := 7) rfl oY25, fun U hU hW => ⟨rfl, s_pw hU hW hP hK hD hN⟩⟩ rfl rfl hl.1 rfl (lv_room (Nat.le_of_ble_eq_true rfl)) dX7_meetOf_18 ⟨Nat.zero_le _, Nat.zero_le _⟩) hS (fun q _ h => h) (fun q h => h) (fun r29 F30 t H1 locs ht hvm hw hB hz1 hk1 hS => ?_)
      obtain ⟨hP, hK1⟩ := hB
      rw [ht] at hP
      generalize H1 = H at hP hS ⊢
      obtain ⟨h31, h33, hI, hfr1, hzf, h32⟩ := hw
      have o34 : F30 (A 13) = .inl (cs 0, 400, .inl f1) := (hfr1 _ (by rw [(y_k13 hA)]; decide)).trans o22
      have oY35 : F30 a0 = .inr (7, y_fl A z23 q24) := (hfr1 _ (by rw [ha0]; decide)).trans oY25
      have hfr : ∀ b, K b ∉ [9, 67, 68] → F30 b = F b := fun b hb9 => (hfr1 b (fun q => hb9 (s_sub (by decide) q))).trans (hfr b hb9)
      have h32 : (r29 = y_c f1 387) := by have q9 := h32; rw [y_atE o22] at q9; exact q9
      have h36 := congrArg Int32.toInt h32
      have h37 : 1 ≤ r29.toInt ∧ r29.toInt ≤ 40 := ⟨by omega, by omega⟩
      refine lv_icmp_ge (tgt := 55) hx hb dX7_meetOf_21 (by decide) (fun c38 => ?_) (fun c38 => ?_)
      · have c38 := Int32.le_iff_toInt_le.mp c38
        refine lv_aload_n hx hb dX7_meetOf_55 rfl (lv_at hl 0 rfl) ?_
        refine va_calli (va_runV (As := []) (rest := []) ⟨hx, hb, hml, hown, hts⟩ (y_X7_lines l dC dI H.size hLK A hA F30 a0 ha0 hI) (cwV 0 hts (ax_gV T_1030 T_1032 T_1033 T_265 T_1031) rfl rfl rfl (by decide +kernel) ⟨Nat.le_of_ble_eq_true rfl, Nat.le_of_ble_eq_true rfl⟩) ⟨fun a U g mk q => ⟨q.1, s_pc rfl rfl q.2⟩, s_recv hK hP (hLK _ ha0 (by decide)) (ci := 7) rfl oY35, fun U hU hW => ⟨rfl, s_pw hU hW hP hK hD hN⟩⟩ rfl rfl hl.1 rfl (lv_room (Nat.le_of_ble_eq_true rfl)) dX7_meetOf_56 ⟨Nat.zero_le _, Nat.zero_le _⟩) hS (fun q _ h => h) (fun q h => h) (fun r40 F41 t H1 locs ht hvm hw hB hz1 hk1 hS => ?_)
        obtain ⟨hP, hK1⟩ := hB
        rw [ht] at hP
        generalize H1 = H at hP hS ⊢
        obtain ⟨h42, h44, hI, hfr1, hzf, h43⟩ := hw
        have o45 : F41 (A 13) = .inl (cs 0, 400, .inl f1) := (hfr1 _ (by rw [(y_k13 hA)]; decide)).trans o34
        have oY46 : F41 a0 = .inr (7, y_fl A z23 q24) := (hfr1 _ (by rw [ha0]; decide)).trans oY35
        have hfr : ∀ b, K b ∉ [9, 67, 68] → F41 b = F b := fun b hb9 => (hfr1 b (fun q => hb9 (s_sub (by decide) q))).trans (hfr b hb9)
        have h43 : (r40 = y_c f1 387) := by have q9 := h43; rw [y_atE o34] at q9; exact q9
        have h47 := congrArg Int32.toInt h43
        have h48 : 1 ≤ r40.toInt ∧ r40.toInt ≤ 40 := ⟨by omega, by omega⟩
        exact W.iret (v := r40) hx hb hr (fun t ht hW => ⟨⟨r40, F41, rfl, ⟨⟨by omega, by omega⟩, trivial, hI, hfr, fun k hk => (y_fiZ oY46 (s_sub (by decide) hk)).trans ((hz0 k hk).trans (y_fiZ oY0 (s_sub (by decide) hk)).symm), (by first | (rw [y_atE o2]; omega) | rw [y_atE o2])⟩, by rw [ht]; exact hP, va_K.moved hW.alike hK⟩, hS.F ht⟩) hS.2.2 dX7_meetOf_59
      · have c38 := mt Int32.le_iff_toInt_le.mpr c38
        refine lv_iload_n hx hb dX7_meetOf_24 rfl (lv_at hl 2 rfl) ?_
        refine lv_iload_n hx hb dX7_meetOf_25 rfl (lv_at hl 1 rfl) ?_
        refine lv_icmp_eq (tgt := 49) hx hb dX7_meetOf_26 (by decide) (fun c49 => ?_) (fun c49 => ?_)
        · have c49 := Int32.toInt_inj.symm.mp c49
          exact K49 _ _ _ ⟨F30, _, rfl, lv_sub hl [0, 1, 2] rfl, hP, hS, hI, hfr, (fun k hk => (y_fiZ oY35 (s_sub (by decide) hk)).trans (hz0 k hk)), ⟨by omega, by omega⟩, ⟨by omega, by omega⟩⟩
        · have c49 := mt Int32.toInt_inj.symm.mpr c49
          refine lv_aload_n hx hb dX7_meetOf_29 rfl (lv_at hl 0 rfl) ?_
          refine lv_iload_n hx hb dX7_meetOf_30 rfl (lv_at hl 1 rfl) ?_
          refine lv_iload_n hx hb dX7_meetOf_31 rfl (lv_at hl 2 rfl) ?_
          refine va_calli (va_runV (As := [.int x1, .int w17]) (rest := []) ⟨hx, hb, hml, hown, hts⟩ (y_X7_isEndReached l dC dI H.size hLK A hA F30 a0 x1 w17 ha0 (⟨by omega, by omega⟩) (⟨by omega, by omega⟩) hI (by rw [y_atE o34]; exact hP0) (by first | (rw [y_atE o34]; omega) | rw [y_atE o34])) (cwV 2 hts (ax_gV T_1211 T_1213 T_1214 T_265 T_1212) rfl rfl rfl (by decide +kernel) ⟨Nat.le_of_ble_eq_true rfl, Nat.le_of_ble_eq_true rfl⟩) ⟨fun a U g mk q => ⟨q.1, s_pc rfl rfl q.2⟩, s_recv hK hP (hLK _ ha0 (by decide)) (ci := 7) rfl oY35, fun U hU hW => ⟨rfl, s_pw hU hW hP hK hD hN⟩⟩ rfl rfl hl.1 rfl (lv_room (Nat.le_of_ble_eq_true rfl)) dX7_meetOf_32 ⟨Nat.zero_le _, Nat.zero_le _⟩) hS (fun q _ h => h) (fun q h => h) (fun r51 F52 t H1 locs ht hvm hw hB hz1 hk1 hS => ?_)
          obtain ⟨hP, hK1⟩ := hB
          rw [ht] at hP
          generalize H1 = H at hP hS ⊢
          obtain ⟨h53, h55, hI, hfr1, hzf, h54⟩ := hw
          have o56 : F52 (A 13) = .inl (cs 0, 400, .inl f1) := (hfr1 _ (by rw [(y_k13 hA)]; decide)).trans o34
          obtain ⟨z57, q58, oY59, bz60, bq61⟩ := y_opY hI ha0
          have hzf : ∀ k, k ∈ ([1, 2, 3, 4, 5, 6, 7, 8, 11, 15, 16, 25, 26, 27, 31, 32] : List Nat) → z57 k = z23 k := fun k hk => by have q9 := hzf k hk; rw [y_fiZ oY59 (s_sub (by decide) hk), y_fiZ oY35 (s_sub (by decide) hk)] at q9; exact q9
          have hz0 : ∀ k, k ∈ ([1, 2, 3, 4, 5, 6, 7, 8, 11, 15, 16, 25, 26, 27, 31, 32] : List Nat) → z57 k = z0 k := fun k hk => (hzf k (s_sub (by decide) hk)).trans (hz0 k hk)
          have hfr : ∀ b, K b ∉ [9, 67, 68] → F52 b = F b := fun b hb9 => (hfr1 b (fun q => hb9 (s_sub (by decide) q))).trans (hfr b hb9)
          refine lv_if_ne (tgt := 49) hx hb dX7_meetOf_35 (by decide) (fun c62 => ?_) (fun c62 => ?_)
          · have c62 := mt (ax_eq (n := 0) (by decide)).mpr c62
            exact K49 _ _ _ ⟨F52, _, rfl, lv_sub hl [0, 1, 2] rfl, hP, hS, hI, hfr, (fun k hk => (y_fiZ oY59 (s_sub (by decide) hk)).trans (hz0 k hk)), ⟨by omega, by omega⟩, ⟨by omega, by omega⟩⟩
          · have c62 := (ax_eq (n := 0) (by decide)).mp c62
            refine lv_aload_n hx hb dX7_meetOf_38 rfl (lv_at hl 0 rfl) ?_
            refine lv_iload_n hx hb dX7_meetOf_39 rfl (lv_at hl 1 rfl) ?_
            refine lv_iload_n hx hb dX7_meetOf_40 rfl (lv_at hl 2 rfl) ?_
            refine va_calli (va_runV (As := [.int x1, .int w17]) (rest := []) ⟨hx, hb, hml, hown, hts⟩ (y_X7_isFirst l dC dI H.size hLK A hA F52 a0 x1 w17 ha0 (⟨by omega, by omega⟩) (⟨by omega, by omega⟩) hI (by rw [y_atE o56]; exact hP0) (by first | (rw [y_atE o56]; omega) | rw [y_atE o56])) (cwV 2 hts (ax_gV T_1275 T_1277 T_1278 T_265 T_1276) rfl rfl rfl (by decide +kernel) ⟨Nat.le_of_ble_eq_true rfl, Nat.le_of_ble_eq_true rfl⟩) ⟨fun a U g mk q => ⟨q.1, s_pc rfl rfl q.2⟩, s_recv hK hP (hLK _ ha0 (by decide)) (ci := 7) rfl oY59, fun U hU hW => ⟨rfl, s_pw hU hW hP hK hD hN⟩⟩ rfl rfl hl.1 rfl (lv_room (Nat.le_of_ble_eq_true rfl)) dX7_meetOf_41 ⟨Nat.zero_le _, Nat.zero_le _⟩) hS (fun q _ h => h) (fun q h => h) (fun r64 F65 t H1 locs ht hvm hw hB hz1 hk1 hS => ?_)
            obtain ⟨hP, hK1⟩ := hB
            rw [ht] at hP
            generalize H1 = H at hP hS ⊢
            obtain ⟨h66, h68, hI, hfr1, hzf, h67⟩ := hw
            have o69 : F65 (A 13) = .inl (cs 0, 400, .inl f1) := (hfr1 _ (by rw [(y_k13 hA)]; decide)).trans o56
            obtain ⟨z70, q71, oY72, bz73, bq74⟩ := y_opY hI ha0
            have hzf : ∀ k, k ∈ ([1, 2, 3, 4, 5, 6, 7, 8, 11, 15, 16, 25, 26, 27, 31, 32] : List Nat) → z70 k = z57 k := fun k hk => by have q9 := hzf k hk; rw [y_fiZ oY72 (s_sub (by decide) hk), y_fiZ oY59 (s_sub (by decide) hk)] at q9; exact q9
            have hz0 : ∀ k, k ∈ ([1, 2, 3, 4, 5, 6, 7, 8, 11, 15, 16, 25, 26, 27, 31, 32] : List Nat) → z70 k = z0 k := fun k hk => (hzf k (s_sub (by decide) hk)).trans (hz0 k hk)
            have hfr : ∀ b, K b ∉ [9, 67, 68] → F65 b = F b := fun b hb9 => (hfr1 b (fun q => hb9 (s_sub (by decide) q))).trans (hfr b hb9)
            refine lv_if_eq (tgt := 49) hx hb dX7_meetOf_44 (by decide) (fun c75 => ?_) (fun c75 => ?_)
            · have c75 := (ax_eq (n := 0) (by decide)).mp c75
              exact K49 _ _ _ ⟨F65, _, rfl, lv_sub hl [0, 1, 2] rfl, hP, hS, hI, hfr, (fun k hk => (y_fiZ oY72 (s_sub (by decide) hk)).trans (hz0 k hk)), ⟨by omega, by omega⟩, ⟨by omega, by omega⟩⟩
            · have c75 := mt (ax_eq (n := 0) (by decide)).mpr c75
              refine lv_iload_n hx hb dX7_meetOf_47 rfl (lv_at hl 2 rfl) ?_
              exact W.iret (v := w17) hx hb hr (fun t ht hW => ⟨⟨w17, F65, rfl, ⟨⟨by omega, by omega⟩, trivial, hI, hfr, fun k hk => (y_fiZ oY72 (s_sub (by decide) hk)).trans ((hz0 k hk).trans (y_fiZ oY0 (s_sub (by decide) hk)).symm), (by first | (rw [y_atE o2]; omega) | rw [y_atE o2])⟩, by rw [ht]; exact hP, va_K.moved hW.alike hK⟩, hS.F ht⟩) hS.2.2 dX7_meetOf_48
    · intro g H locs hq
      obtain ⟨F78, ls, rfl, hl, hP, hS, hI, hfr, hz0, h76, h77⟩ := hq
      have o79 : F78 (A 13) = .inl (cs 0, 400, .inl f1) := (hfr _ (by rw [(y_k13 hA)]; decide)).trans o2
      obtain ⟨z80, q81, oY82, bz83, bq84⟩ := y_opY hI ha0
      have hz0 : ∀ k, k ∈ ([1, 2, 3, 4, 5, 6, 7, 8, 11, 15, 16, 25, 26, 27, 31, 32] : List Nat) → z80 k = z0 k := fun k hk => (y_fiZ oY82 (s_sub (by decide) hk)).symm.trans (hz0 k hk)
      obtain ⟨v85, ev85⟩ : ∃ y : Int32, w17 + 1 = y := ⟨_, rfl⟩
      have qv85 : v85.toInt = w17.toInt + 1 := by rw [← ev85]; exact th_add rfl (by decide) ⟨by omega, by omega⟩
      refine lv_iinc (v := v85) (lv' := [(2, .int v85), (0, .ref a0), (1, .int x1)]) hx hb dX7_meetOf_49 hl (k := 2) rfl ev85 (by decide) rfl (fun ls hl => ?_)
      refine lv_goto (tgt := 16) hx hb dX7_meetOf_52 (by decide) ?_
      exact ih16 _ _ _ _ (by omega) ⟨F78, _, v85, rfl, lv_sub hl [1, 2, 0] rfl, hP, hS, hI, hfr, (fun k hk => (y_fiZ oY82 (s_sub (by decide) hk)).trans (hz0 k hk)), ⟨by omega, by omega⟩, ⟨by omega, by omega⟩, rfl⟩
  · have c16 := (ax_eq (n := 0) (by decide)).mp c16
    refine lv_aload_n hx hb dX7_meetOf_9 rfl (lv_at hl 0 rfl) ?_
    refine va_calli (va_runV (As := []) (rest := []) ⟨hx, hb, hml, hown, hts⟩ (y_X7_lines l dC dI H.size hLK A hA F6 a0 ha0 hI) (cwV 0 hts (ax_gV T_1030 T_1032 T_1033 T_265 T_1031) rfl rfl rfl (by decide +kernel) ⟨Nat.le_of_ble_eq_true rfl, Nat.le_of_ble_eq_true rfl⟩) ⟨fun a U g mk q => ⟨q.1, s_pc rfl rfl q.2⟩, s_recv hK hP (hLK _ ha0 (by decide)) (ci := 7) rfl oY13, fun U hU hW => ⟨rfl, s_pw hU hW hP hK hD hN⟩⟩ rfl rfl hl.1 rfl (lv_room (Nat.le_of_ble_eq_true rfl)) dX7_meetOf_10 ⟨Nat.zero_le _, Nat.zero_le _⟩) hS (fun q _ h => h) (fun q h => h) (fun r87 F88 t H1 locs ht hvm hw hB hz1 hk1 hS => ?_)
    obtain ⟨hP, hK1⟩ := hB
    rw [ht] at hP
    generalize H1 = H at hP hS ⊢
    obtain ⟨h89, h91, hI, hfr1, hzf, h90⟩ := hw
    have o92 : F88 (A 13) = .inl (cs 0, 400, .inl f1) := (hfr1 _ (by rw [(y_k13 hA)]; decide)).trans o10
    have oY93 : F88 a0 = .inr (7, y_fl A z11 q12) := (hfr1 _ (by rw [ha0]; decide)).trans oY13
    have hfr : ∀ b, K b ∉ [9, 67, 68] → F88 b = F b := fun b hb9 => (hfr1 b (fun q => hb9 (s_sub (by decide) q))).trans (hfr b hb9)
    have h90 : (r87 = y_c f1 387) := by have q9 := h90; rw [y_atE o10] at q9; exact q9
    have h94 := congrArg Int32.toInt h90
    have h95 : 1 ≤ r87.toInt ∧ r87.toInt ≤ 40 := ⟨by omega, by omega⟩
    exact W.iret (v := r87) hx hb hr (fun t ht hW => ⟨⟨r87, F88, rfl, ⟨⟨by omega, by omega⟩, trivial, hI, hfr, fun k hk => (y_fiZ oY93 (s_sub (by decide) hk)).trans ((hz0 k hk).trans (y_fiZ oY0 (s_sub (by decide) hk)).symm), (by first | (rw [y_atE o2]; omega) | rw [y_atE o2])⟩, by rw [ht]; exact hP, va_K.moved hW.alike hK⟩, hS.F ht⟩) hS.2.2 dX7_meetOf_13
