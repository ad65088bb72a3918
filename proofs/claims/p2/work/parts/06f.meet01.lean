set_option maxHeartbeats 4000000 in
set_option maxRecDepth 100000 in
theorem y_X7_isEndReached (l : Launch) (dC : Nat → ClassId) (dI : Nat → Nat → Nat) (sz : Nat) {L : List Nat} {K : Nat → Nat} {cs : Nat → ClassId} (hLK : ∀ a {k : Nat}, K a = k → k ≠ 0 → a ∈ L) (A : Nat → Nat) (hA : y_A K A) (F : Nat → va_E) (a0 : Nat) (x1 : Int32) (x2 : Int32) (ha0 : K a0 = 9) (hx1 : 0 ≤ x1.toInt ∧ x1.toInt ≤ 40) (hx2 : -1 ≤ x2.toInt ∧ x2.toInt ≤ 40) (hI : y_I K cs A F) (hP0 : y_P0 (y_at F (A 13))) (hxl : x1.toInt ≤ (y_c (y_at F (A 13)) 387).toInt) : Met l yX7_isEndReached (Cond.code yX7_isEndReached cX7_isEndReached 4 (some .boolean) :: T0) ({ frames := 4, cells := 0, slots := 0, locals := 87 }) (va_Pc [.ref a0, .int x1, .int x2] (s_W dC dI sz L F [(cs 0, .int), (cs 1, .byte), (cs 2, .long), (cs 3, .object RX5), (cs 4, .object RX4), (cs 5, .array .int), (cs 6, .char), (cs 7, .boolean)])) (va_Qi (fun (r : Int32) (G : Nat → va_E) => (0 ≤ r.toInt ∧ r.toInt ≤ 1) ∧ True ∧ y_I K cs A G ∧ (∀ b, K b ∉ [9, 67, 68] → G b = F b) ∧ (∀ k, k ∈ ([1, 2, 3, 4, 5, 6, 7, 8, 11, 15, 16, 25, 26, 27, 31, 32] : List Nat) → y_fi G a0 k = y_fi F a0 k) ∧ True) (fun (G : Nat → va_E) (t : State) => va_P (dC, dI) vwCl (va_pl L G) t.heap ∧ va_K (dC, dI) vwCl [(cs 0, .int), (cs 1, .byte), (cs 2, .long), (cs 3, .object RX5), (cs 4, .object RX4), (cs 5, .array .int), (cs 6, .char), (cs 7, .boolean)] t) (fun q => q ∈ L)) 0 0 (fun q => q ∈ L) := by
  refine Met.ofW (cc := cX7_isEndReached) (maxL := 4) (ret := (some .boolean)) (by decide) rfl ?_
  intro p e s m args below meth c s₁ B hml hv
  obtain ⟨rfl, hsz, hP, hK, hD, hN⟩ := hv
  have hx := B.exec
  have hb := B.bytes
  have hr := B.returns
  have hts : ∀ w ∈ T0, w.before _ s = true := fun w h => atoms_spec (ws := Cond.code yX7_isEndReached cX7_isEndReached 4 (some .boolean) :: T0) B.pre w (List.mem_cons_of_mem _ h)
  have hown : s.vm.findClass RX7 = some m.cls := findClass_of_methodNamed B.named
  have hlocks := B.notSynchronized
  have hS : va_S (fun q => q ∈ L) s.heap s.heap [] := va_S.rf
  have hfr : ∀ b, K b ∉ [9, 67, 68] → F b = F b := fun _ _ => rfl
  have hl := lv_entry ([.ref a0, .int x1, .int x2]) (n := 4) (Nat.le_of_ble_eq_true rfl)
  rw [lg_entry_eq]
  generalize (lg_sl ([.ref a0, .int x1, .int x2]) ++ List.replicate (4 - (lg_sl ([.ref a0, .int x1, .int x2])).length) Slot.unset).toArray = ls at hl ⊢
  have hl : lv_has ls 4 [(0, .ref a0), (1, .int x1), (2, .int x2)] := hl
  refine s_gen hP hS (fun H locs hP hS => ?_)
  obtain ⟨z0, q0, oY0, bz0, bq0⟩ := y_opY hI ha0
  have hz0 : ∀ k, k ∈ ([1, 2, 3, 4, 5, 6, 7, 8, 11, 15, 16, 25, 26, 27, 31, 32] : List Nat) → z0 k = z0 k := fun _ _ => rfl
  obtain ⟨f1, o2, b3⟩ := y_op13 hI
  obtain ⟨f4, o5, b6⟩ := y_op17 hI
  obtain ⟨f7, o8, b9⟩ := y_op18 hI
  replace hP0 : y_P0 f1 := by have q9 := hP0; rw [y_atE o2] at q9; exact q9
  replace hxl : x1.toInt ≤ (y_c f1 387).toInt := by have q9 := hxl; rw [y_atE o2] at q9; exact q9
  have hL := y_P0L hP0
  have hW := y_P0W hP0
  refine lv_iconst (v := 0) hx hb dX7_isEndReached_0 (by decide) ?_
  refine lv_istore_n (lv' := [(3, .int 0), (0, .ref a0), (1, .int x1), (2, .int x2)]) hx hb dX7_isEndReached_1 rfl hl (by decide) rfl (fun ls hl => ?_)
  have h11 : (0 : Int32).toInt = 0 := by decide
  refine th_loop (fun n g H locs => ∃ (G : Nat → va_E) (ls : Array Slot) (w10 : Int32), g = F0 m 2 ls [] ∧ lv_has ls 4 [(0, .ref a0), (1, .int x1), (2, .int x2), (3, .int w10)] ∧ va_P (dC, dI) vwCl (va_pl L G) H ∧ va_S (fun q => q ∈ L) s.heap H locs ∧ y_I K cs A G ∧ (∀ b, K b ∉ [9, 67, 68] → G b = F b) ∧ (∀ k, k ∈ ([1, 2, 3, 4, 5, 6, 7, 8, 11, 15, 16, 25, 26, 27, 31, 32] : List Nat) → y_fi G a0 k = z0 k) ∧ (0 ≤ w10.toInt ∧ w10.toInt ≤ 41) ∧ (0 ≤ x1.toInt ∧ x1.toInt ≤ 40) ∧ (-1 ≤ x2.toInt ∧ x2.toInt ≤ 40) ∧ (∀ j : Int, 0 ≤ j → j < w10.toInt → y_c (y_at G (A 17)) j = 0) ∧ n = (42 - w10.toInt).toNat) _ ⟨F, _, 0, rfl, lv_sub hl [1, 2, 3, 0] rfl, hP, hS, hI, hfr, (fun k hk => (y_fiZ oY0 (s_sub (by decide) hk)).trans (hz0 k hk)), (by decide), ⟨by omega, by omega⟩, ⟨by omega, by omega⟩, (by rw [y_atE o5]; exact (fun j h0 h1 => absurd h1 (by omega))), rfl⟩ (fun n ih2 g H locs hq => ?_)
  obtain ⟨F16, ls, w10, rfl, hl, hP, hS, hI, hfr, hz0, h12, h13, h14, h15, hn⟩ := hq
  have o17 : F16 (A 13) = .inl (cs 0, 400, .inl f1) := (hfr _ (by rw [(y_k13 hA)]; decide)).trans o2
  obtain ⟨z18, q19, oY20, bz21, bq22⟩ := y_opY hI ha0
  have hz0 : ∀ k, k ∈ ([1, 2, 3, 4, 5, 6, 7, 8, 11, 15, 16, 25, 26, 27, 31, 32] : List Nat) → z18 k = z0 k := fun k hk => (y_fiZ oY20 (s_sub (by decide) hk)).symm.trans (hz0 k hk)
  obtain ⟨f23, o24, b25⟩ := y_op17 hI
  replace h15 : (∀ j : Int, 0 ≤ j → j < w10.toInt → y_c f23 j = 0) := by have q9 := h15; rw [y_atE o24] at q9; exact q9
  have hn_25 := hn
  refine lv_iload_n hx hb dX7_isEndReached_2 rfl (lv_at hl 3 rfl) ?_
  refine lv_bipush (v := 40) hx hb dX7_isEndReached_3 (by decide) ?_
  refine lv_icmp_gt (tgt := 21) hx hb dX7_isEndReached_5 (by decide) (fun c26 => ?_) (fun c26 => ?_)
  · have c26 := (ax_gt (n := 40) (by decide)).mp c26
    refine lv_aload_n hx hb dX7_isEndReached_21 rfl (lv_at hl 0 rfl) ?_
    refine lv_iconst (v := 0) hx hb dX7_isEndReached_22 (by decide) ?_
    refine th_put (D := (dC, dI)) (ci := 7) (v := .int 0) (ty := .int) (C := RX7) (T := TX7) (N := 34) hx hb hts inX7 tyX7 tyX7_ok nmX7 hown hK hP hD hS (hLK _ ha0 (by decide)) oY20 rfl 19 (by decide) (hts _ T_1093) (fun _ h9 => h9) rfl (by decide +kernel) rfl rfl (Nat.le_of_ble_eq_true rfl) dX7_isEndReached_23 (fun H locs hP hS => ?_)
    rw [y_fs19] at hP
    obtain ⟨z27, hz28⟩ : ∃ g : Nat → Int32, g = upd z18 19 0 := ⟨_, rfl⟩
    rw [← hz28] at hP
    have bz29 : y_bY z27 := by rw [hz28]; exact y_bp19 bz21 (by decide)
    have hP : va_P (dC, dI) vwCl (va_pl L (va_up F16 a0 (.inr (7, y_fl A z27 q19)))) H := hP
    obtain ⟨F30, hF31⟩ : ∃ G : Nat → va_E, G = va_up F16 a0 (.inr (7, y_fl A z27 q19)) := ⟨_, rfl⟩
    rw [← hF31] at hP
    have hI : y_I K cs A F30 := by rw [hF31]; exact y_clY hA hI ha0 bz29 bq22
    have hfr : ∀ b, K b ∉ [9, 67, 68] → F30 b = F b := by rw [hF31]; exact s_fr hfr ha0 (by decide)
    have o32 : F30 (A 13) = .inl (cs 0, 400, .inl f1) := by rw [hF31]; exact th_ne (th_kd (y_k13 hA) ha0 (by decide)) o17
    have o33 : F30 (A 17) = .inl (cs 7, 41, .inl f23) := by rw [hF31]; exact th_ne (th_kd (y_k17 hA) ha0 (by decide)) o24
    have oY34 : F30 a0 = .inr (7, y_fl A z27 q19) := by rw [hF31]; exact th_up
    have hz0 : ∀ k, k ∈ ([1, 2, 3, 4, 5, 6, 7, 8, 11, 15, 16, 25, 26, 27, 31, 32] : List Nat) → z27 k = z0 k := fun k hk => by rw [hz28]; exact (y_un (fun q => absurd hk (by rw [q]; decide))).trans (hz0 k hk)
    obtain ⟨v35, ev35⟩ : ∃ y : Int32, y = z27 19 := ⟨_, rfl⟩
    have qv35 : v35.toInt = 0 := by rw [ev35, hz28, y_ue]; decide
    refine lv_aload_n hx hb dX7_isEndReached_26 rfl (lv_at hl 0 rfl) ?_
    refine lv_iload_n hx hb dX7_isEndReached_27 rfl (lv_at hl 1 rfl) ?_
    refine lv_iload_n hx hb dX7_isEndReached_28 rfl (lv_at hl 2 rfl) ?_
    have rg36 : 0 ≤ x1.toInt ∧ x1.toInt ≤ 40 := ⟨by omega, by omega⟩
    have rg37 : -1 ≤ x2.toInt ∧ x2.toInt ≤ 40 := ⟨by omega, by omega⟩
    obtain ⟨f39, o40, b41⟩ := y_op18 hI
    refine va_callv (va_runV (As := [.int x1, .int x2]) (rest := []) ⟨hx, hb, hml, hown, hts⟩ (y_X7_goesFrom l dC dI H.size hLK A hA F30 a0 x1 x2 ha0 rg36 rg37 hI (by rw [y_atE o32]; exact hP0) (by rw [y_atE o33, y_atE o40, y_fiZ oY34 (k := 19) (by decide), ← ev35, y_atE o32]; rw [show v35.toInt = 0 by omega]; exact ⟨(y_cnt0 41 (fun j hj => by have q9 := h15 j (by omega) (by omega); exact q9)).symm, fun j h0 h1 => absurd h1 (by omega)⟩) (by rw [y_atE o32]; exact hxl)) (cwV 2 hts (ax_gV T_1207 T_1209 T_1210 T_265 T_1208) rfl rfl rfl (by decide +kernel) ⟨Nat.le_of_ble_eq_true rfl, Nat.le_of_ble_eq_true rfl⟩) ⟨fun a U g mk q => ⟨q.1, s_pc (U := U) rfl rfl q.2⟩, s_recv hK hP (hLK _ ha0 (by decide)) (ci := 7) rfl oY34, fun U hU hW => ⟨rfl, s_pw hU hW hP hK hD hN⟩⟩ rfl rfl hl.1 rfl (lv_room (Nat.le_of_ble_eq_true rfl)) dX7_isEndReached_29 ⟨Nat.zero_le _, Nat.zero_le _⟩) hS (fun q _ h => h) (fun q h => h) (fun F42 t H1 locs ht hvm hw hB hz1 hk1 hS => ?_)
    obtain ⟨hP, hK1⟩ := hB
    rw [ht] at hP
    generalize H1 = H at hP hS ⊢
    clear hz1 hk1 hvm hK1
    obtain ⟨h43, h45, hI, hfr1, hzf, h44⟩ := hw
    have o46 : F42 (A 13) = .inl (cs 0, 400, .inl f1) := (hfr1 _ (by rw [(y_k13 hA)]; decide)).trans o32
    obtain ⟨z47, q48, oY49, bz50, bq51⟩ := y_opY hI ha0
    have hzf : ∀ k, k ∈ ([1, 2, 3, 4, 5, 6, 7, 8, 11, 15, 16, 25, 26, 27, 31, 32] : List Nat) → z47 k = z27 k := fun k hk => by have q9 := hzf k hk; rw [y_fiZ oY49 (s_sub (by decide) hk), y_fiZ oY34 (s_sub (by decide) hk)] at q9; exact q9
    have hz0 : ∀ k, k ∈ ([1, 2, 3, 4, 5, 6, 7, 8, 11, 15, 16, 25, 26, 27, 31, 32] : List Nat) → z47 k = z0 k := fun k hk => (hzf k (s_sub (by decide) hk)).trans (hz0 k hk)
    have hfr : ∀ b, K b ∉ [9, 67, 68] → F42 b = F b := fun b hb9 => (hfr1 b (fun q => hb9 (s_sub (by decide) q))).trans (hfr b hb9)
    obtain ⟨f52, o53, b54⟩ := y_op17 hI
    obtain ⟨f55, o56, b57⟩ := y_op18 hI
    obtain ⟨v58, ev58⟩ : ∃ y : Int32, y = z47 19 := ⟨_, rfl⟩
    have qv58 : 0 ≤ v58.toInt ∧ v58.toInt ≤ 41 := by rw [ev58]; exact y_bY19 bz50
    replace h44 : (y_CM f52 f55 v58.toInt (y_c f1 387).toInt) := by have q9 := h44; rw [y_atE o53, y_atE o56, y_fiZ oY49 (k := 19) (by decide), ← ev58, y_atE o32] at q9; exact q9
    refine lv_iconst (v := 0) hx hb dX7_isEndReached_32 (by decide) ?_
    refine lv_istore_n (lv' := [(3, .int 0), (0, .ref a0), (1, .int x1), (2, .int x2)]) hx hb dX7_isEndReached_33 rfl hl (by decide) rfl (fun ls hl => ?_)
    have h60 : (0 : Int32).toInt = 0 := by decide
    refine th_loop (fun n g H locs => ∃ (G : Nat → va_E) (ls : Array Slot) (w59 : Int32), g = F0 m 34 ls [] ∧ lv_has ls 4 [(0, .ref a0), (2, .int x2), (3, .int w59)] ∧ va_P (dC, dI) vwCl (va_pl L G) H ∧ va_S (fun q => q ∈ L) s.heap H locs ∧ y_I K cs A G ∧ (∀ b, K b ∉ [9, 67, 68] → G b = F b) ∧ (∀ k, k ∈ ([1, 2, 3, 4, 5, 6, 7, 8, 11, 15, 16, 25, 26, 27, 31, 32] : List Nat) → y_fi G a0 k = z0 k) ∧ (0 ≤ w59.toInt ∧ w59.toInt ≤ 41) ∧ (-1 ≤ x2.toInt ∧ x2.toInt ≤ 40) ∧ y_CM (y_at G (A 17)) (y_at G (A 18)) (y_fi G a0 19).toInt (y_c f1 387).toInt ∧ n = (42 - w59.toInt).toNat) _ ⟨F42, _, 0, rfl, lv_sub hl [1, 3, 0] rfl, hP, hS, hI, hfr, (fun k hk => (y_fiZ oY49 (s_sub (by decide) hk)).trans (hz0 k hk)), (by decide), ⟨by omega, by omega⟩, (by rw [y_atE o53, y_atE o56, y_fiZ oY49 (k := 19) (by decide), ← ev58]; exact h44), rfl⟩ (fun n ih34 g H locs hq => ?_)
    obtain ⟨F64, ls, w59, rfl, hl, hP, hS, hI, hfr, hz0, h61, h62, h63, hn⟩ := hq
    have o65 : F64 (A 13) = .inl (cs 0, 400, .inl f1) := (hfr _ (by rw [(y_k13 hA)]; decide)).trans o2
    obtain ⟨z66, q67, oY68, bz69, bq70⟩ := y_opY hI ha0
    have hz0 : ∀ k, k ∈ ([1, 2, 3, 4, 5, 6, 7, 8, 11, 15, 16, 25, 26, 27, 31, 32] : List Nat) → z66 k = z0 k := fun k hk => (y_fiZ oY68 (s_sub (by decide) hk)).symm.trans (hz0 k hk)
    obtain ⟨f71, o72, b73⟩ := y_op17 hI
    obtain ⟨f74, o75, b76⟩ := y_op18 hI
    obtain ⟨v77, ev77⟩ : ∃ y : Int32, y = z66 19 := ⟨_, rfl⟩
    have qv77 : 0 ≤ v77.toInt ∧ v77.toInt ≤ 41 := by rw [ev77]; exact y_bY19 bz69
    replace h63 : y_CM f71 f74 v77.toInt (y_c f1 387).toInt := by have q9 := h63; rw [y_atE o72, y_atE o75, y_fiZ oY68 (k := 19) (by decide), ← ev77] at q9; exact q9
    have hn_77 := hn
    refine lv_iload_n hx hb dX7_isEndReached_34 rfl (lv_at hl 2 rfl) ?_
    refine lv_aload_n hx hb dX7_isEndReached_35 rfl (lv_at hl 0 rfl) ?_
    refine th_get (D := (dC, dI)) (ci := 7) (v := .int (z66 19)) (C := RX7) (T := TX7) (N := 34) hx hb hts inX7 hown hK hP (hLK _ ha0 (by decide)) oY68 rfl 19 (by decide) (hts _ T_1093) (fun _ h9 => h9) rfl dX7_isEndReached_36 ?_
    refine ax_eqi (y := v77) ev77.symm ?_
    refine lv_icmp_ge (tgt := 59) hx hb dX7_isEndReached_39 (by decide) (fun c78 => ?_) (fun c78 => ?_)
    · have c78 := Int32.le_iff_toInt_le.mp c78
      refine lv_aload_n hx hb dX7_isEndReached_59 rfl (lv_at hl 0 rfl) ?_
      refine th_get (D := (dC, dI)) (ci := 7) (v := .ref (A 17)) (C := RX7) (T := TX7) (N := 34) hx hb hts inX7 hown hK hP (hLK _ ha0 (by decide)) oY68 rfl 17 (by decide) (hts _ T_249) (fun _ h9 => h9) rfl dX7_isEndReached_60 ?_
      refine lv_aload_n hx hb dX7_isEndReached_63 rfl (lv_at hl 0 rfl) ?_
      refine va_calli (va_runV (As := []) (rest := [.ref (A 17)]) ⟨hx, hb, hml, hown, hts⟩ (y_X7_lines l dC dI H.size hLK A hA F64 a0 ha0 hI) (cwV 0 hts (ax_gV T_1030 T_1032 T_1033 T_265 T_1031) rfl rfl rfl (by decide +kernel) ⟨Nat.le_of_ble_eq_true rfl, Nat.le_of_ble_eq_true rfl⟩) ⟨fun a U g mk q => ⟨q.1, s_pc (U := U) rfl rfl q.2⟩, s_recv hK hP (hLK _ ha0 (by decide)) (ci := 7) rfl oY68, fun U hU hW => ⟨rfl, s_pw hU hW hP hK hD hN⟩⟩ rfl rfl hl.1 rfl (lv_room (Nat.le_of_ble_eq_true rfl)) dX7_isEndReached_64 ⟨Nat.zero_le _, Nat.zero_le _⟩) hS (fun q _ h => h) (fun q h => h) (fun r80 F81 t H1 locs ht hvm hw hB hz1 hk1 hS => ?_)
      obtain ⟨hP, hK1⟩ := hB
      rw [ht] at hP
      generalize H1 = H at hP hS ⊢
      clear hz1 hk1 hvm hK1
      obtain ⟨h82, h84, hI, hfr1, hzf, h83⟩ := hw
      have o85 : F81 (A 13) = .inl (cs 0, 400, .inl f1) := (hfr1 _ (by rw [(y_k13 hA)]; decide)).trans o65
      have o86 : F81 (A 17) = .inl (cs 7, 41, .inl f71) := (hfr1 _ (by rw [(y_k17 hA)]; decide)).trans o72
      have o87 : F81 (A 18) = .inl (cs 0, 41, .inl f74) := (hfr1 _ (by rw [(y_k18 hA)]; decide)).trans o75
      have oY88 : F81 a0 = .inr (7, y_fl A z66 q67) := (hfr1 _ (by rw [ha0]; decide)).trans oY68
      have hfr : ∀ b, K b ∉ [9, 67, 68] → F81 b = F b := fun b hb9 => (hfr1 b (fun q => hb9 (s_sub (by decide) q))).trans (hfr b hb9)
      replace h83 : (r80 = y_c f1 387) := by have q9 := h83; rw [y_atE o65] at q9; exact q9
      have h89 := congrArg Int32.toInt h83
      have h90 : 1 ≤ r80.toInt ∧ r80.toInt ≤ 40 := ⟨by omega, by omega⟩
      refine th_zald hx hb hK hP (hLK _ (y_k17 hA) (by decide)) 7 o86 rfl (th_in ⟨by omega, by omega⟩) dX7_isEndReached_67 ?_
      refine lv_topi (fun v91 ev91 => ?_)
      have qv91 : 0 ≤ v91.toInt ∧ v91.toInt ≤ 1 := by rw [ev91]; exact b73 _ (th_cl ⟨by omega, by omega⟩)
      exact W.zret (v := v91) (ty := .boolean) hx hb hr (th_nz ⟨by omega, by omega⟩) (fun t ht hW => ⟨⟨v91, F81, rfl, ⟨⟨by omega, by omega⟩, trivial, hI, hfr, fun k hk => (y_fiZ oY88 (s_sub (by decide) hk)).trans ((hz0 k hk).trans (y_fiZ oY0 (s_sub (by decide) hk)).symm), trivial⟩, by rw [ht]; exact hP, va_K.moved hW.alike hK⟩, hS.F ht⟩) hS.2.2 dX7_isEndReached_68
    · have c78 := mt Int32.le_iff_toInt_le.mpr c78
      refine lv_aload_n hx hb dX7_isEndReached_42 rfl (lv_at hl 0 rfl) ?_
      refine lv_aload_n hx hb dX7_isEndReached_43 rfl (lv_at hl 0 rfl) ?_
      refine th_get (D := (dC, dI)) (ci := 7) (v := .ref (A 18)) (C := RX7) (T := TX7) (N := 34) hx hb hts inX7 hown hK hP (hLK _ ha0 (by decide)) oY68 rfl 18 (by decide) (hts _ T_250) (fun _ h9 => h9) rfl dX7_isEndReached_44 ?_
      refine lv_iload_n hx hb dX7_isEndReached_47 rfl (lv_at hl 2 rfl) ?_
      refine th_iald hx hb hK hP (hLK _ (y_k18 hA) (by decide)) 0 o75 rfl (th_in ⟨by omega, by omega⟩) dX7_isEndReached_48 ?_
      refine lv_topi (fun v92 ev92 => ?_)
      have qv92 : 0 ≤ v92.toInt ∧ v92.toInt ≤ 40 := by rw [ev92]; exact b76 _ (th_cl ⟨by omega, by omega⟩)
      refine lv_iload_n hx hb dX7_isEndReached_49 rfl (lv_at hl 1 rfl) ?_
      have rg93 : 0 ≤ v92.toInt ∧ v92.toInt ≤ 40 := ⟨by omega, by omega⟩
      refine va_callv (va_runV (As := [.int v92, .int x2]) (rest := []) ⟨hx, hb, hml, hown, hts⟩ (y_X7_goesFrom l dC dI H.size hLK A hA F64 a0 v92 x2 ha0 rg93 rg37 hI (by rw [y_atE o65]; exact hP0) (by rw [y_atE o72, y_atE o75, y_fiZ oY68 (k := 19) (by decide), ← ev77, y_atE o65]; exact h63) (by rw [y_atE o65]; have q9 := (h63.2 w59.toInt (by omega) (by omega)).2; rw [show y_c f74 w59.toInt = v92 from ev92.symm] at q9; exact q9)) (cwV 2 hts (ax_gV T_1207 T_1209 T_1210 T_265 T_1208) rfl rfl rfl (by decide +kernel) ⟨Nat.le_of_ble_eq_true rfl, Nat.le_of_ble_eq_true rfl⟩) ⟨fun a U g mk q => ⟨q.1, s_pc (U := U) rfl rfl q.2⟩, s_recv hK hP (hLK _ ha0 (by decide)) (ci := 7) rfl oY68, fun U hU hW => ⟨rfl, s_pw hU hW hP hK hD hN⟩⟩ rfl rfl hl.1 rfl (lv_room (Nat.le_of_ble_eq_true rfl)) dX7_isEndReached_50 ⟨Nat.zero_le _, Nat.zero_le _⟩) hS (fun q _ h => h) (fun q h => h) (fun F95 t H1 locs ht hvm hw hB hz1 hk1 hS => ?_)
      obtain ⟨hP, hK1⟩ := hB
      rw [ht] at hP
      generalize H1 = H at hP hS ⊢
      clear hz1 hk1 hvm hK1
      obtain ⟨h96, h98, hI, hfr1, hzf, h97⟩ := hw
      have o99 : F95 (A 13) = .inl (cs 0, 400, .inl f1) := (hfr1 _ (by rw [(y_k13 hA)]; decide)).trans o65
      obtain ⟨z100, q101, oY102, bz103, bq104⟩ := y_opY hI ha0
      have hzf : ∀ k, k ∈ ([1, 2, 3, 4, 5, 6, 7, 8, 11, 15, 16, 25, 26, 27, 31, 32] : List Nat) → z100 k = z66 k := fun k hk => by have q9 := hzf k hk; rw [y_fiZ oY102 (s_sub (by decide) hk), y_fiZ oY68 (s_sub (by decide) hk)] at q9; exact q9
      have hz0 : ∀ k, k ∈ ([1, 2, 3, 4, 5, 6, 7, 8, 11, 15, 16, 25, 26, 27, 31, 32] : List Nat) → z100 k = z0 k := fun k hk => (hzf k (s_sub (by decide) hk)).trans (hz0 k hk)
      have hfr : ∀ b, K b ∉ [9, 67, 68] → F95 b = F b := fun b hb9 => (hfr1 b (fun q => hb9 (s_sub (by decide) q))).trans (hfr b hb9)
      obtain ⟨f105, o106, b107⟩ := y_op17 hI
      obtain ⟨f108, o109, b110⟩ := y_op18 hI
      obtain ⟨v111, ev111⟩ : ∃ y : Int32, y = z100 19 := ⟨_, rfl⟩
      have qv111 : 0 ≤ v111.toInt ∧ v111.toInt ≤ 41 := by rw [ev111]; exact y_bY19 bz103
      replace h97 : (y_CM f105 f108 v111.toInt (y_c f1 387).toInt) := by have q9 := h97; rw [y_atE o106, y_atE o109, y_fiZ oY102 (k := 19) (by decide), ← ev111, y_atE o65] at q9; exact q9
      obtain ⟨v112, ev112⟩ : ∃ y : Int32, w59 + 1 = y := ⟨_, rfl⟩
      have qv112 : v112.toInt = w59.toInt + 1 := by rw [← ev112]; exact th_add rfl (by decide) ⟨by omega, by omega⟩
      refine lv_iinc (v := v112) (lv' := [(3, .int v112), (0, .ref a0), (2, .int x2)]) hx hb dX7_isEndReached_53 hl (k := 2) rfl ev112 (by decide) rfl (fun ls hl => ?_)
      refine lv_goto (tgt := 34) hx hb dX7_isEndReached_56 (by decide) ?_
      exact ih34 _ _ _ _ (by omega) ⟨F95, _, v112, rfl, lv_sub hl [1, 2, 0] rfl, hP, hS, hI, hfr, (fun k hk => (y_fiZ oY102 (s_sub (by decide) hk)).trans (hz0 k hk)), ⟨by omega, by omega⟩, ⟨by omega, by omega⟩, (by rw [y_atE o106, y_atE o109, y_fiZ oY102 (k := 19) (by decide), ← ev111]; exact h97), rfl⟩
  · have c26 := mt (ax_gt (n := 40) (by decide)).mpr c26
    refine lv_aload_n hx hb dX7_isEndReached_8 rfl (lv_at hl 0 rfl) ?_
    refine th_get (D := (dC, dI)) (ci := 7) (v := .ref (A 17)) (C := RX7) (T := TX7) (N := 34) hx hb hts inX7 hown hK hP (hLK _ ha0 (by decide)) oY20 rfl 17 (by decide) (hts _ T_249) (fun _ h9 => h9) rfl dX7_isEndReached_9 ?_
    refine lv_iload_n hx hb dX7_isEndReached_12 rfl (lv_at hl 3 rfl) ?_
    refine lv_iconst (v := 0) hx hb dX7_isEndReached_13 (by decide) ?_
    refine th_zast hx hb hK hP hD hS (hLK _ (y_k17 hA) (by decide)) 7 o24 rfl (th_in ⟨by omega, by omega⟩) dX7_isEndReached_14 (fun H locs hP hS => ?_)
    obtain ⟨f113, u114⟩ : ∃ g : Nat → Int32, g = upd f23 (w10 : Int32).toNatClampNeg (vp_nar .boolean 0) := ⟨_, rfl⟩
    rw [← u114] at hP
    have b115 : y_bd 17 f113 := by rw [u114]; exact th_updB b25 (by decide)
    have hP : va_P (dC, dI) vwCl (va_pl L (va_up F16 (A 17) (.inl (cs 7, 41, .inl f113)))) H := hP
    obtain ⟨F116, hF117⟩ : ∃ G : Nat → va_E, G = va_up F16 (A 17) (.inl (cs 7, 41, .inl f113)) := ⟨_, rfl⟩
    rw [← hF117] at hP
    have hI : y_I K cs A F116 := by rw [hF117]; exact y_clA (i := 17) hA hI (by decide) b115
    have hfr : ∀ b, K b ∉ [9, 67, 68] → F116 b = F b := by rw [hF117]; exact s_fr hfr (y_k17 hA) (by decide)
    have o118 : F116 (A 13) = .inl (cs 0, 400, .inl f1) := by rw [hF117]; exact th_ne (th_kd (y_k13 hA) (y_k17 hA) (by decide)) o17
    have oY119 : F116 a0 = .inr (7, y_fl A z18 q19) := by rw [hF117]; exact th_ne (th_kd ha0 (y_k17 hA) (by decide)) oY20
    have o120 : F116 (A 17) = .inl (cs 7, 41, .inl f113) := by rw [hF117]; exact th_up
    have u121 : ∀ j : Int, 0 ≤ j → y_c f113 j = if j = w10.toInt then (vp_nar .boolean 0) else y_c f23 j := by rw [u114]; exact y_cu rfl (by omega)
    obtain ⟨v122, ev122⟩ : ∃ y : Int32, w10 + 1 = y := ⟨_, rfl⟩
    have qv122 : v122.toInt = w10.toInt + 1 := by rw [← ev122]; exact th_add rfl (by decide) ⟨by omega, by omega⟩
    refine lv_iinc (v := v122) (lv' := [(3, .int v122), (0, .ref a0), (1, .int x1), (2, .int x2)]) hx hb dX7_isEndReached_15 hl (k := 3) rfl ev122 (by decide) rfl (fun ls hl => ?_)
    refine lv_goto (tgt := 2) hx hb dX7_isEndReached_18 (by decide) ?_
    exact ih2 _ _ _ _ (by omega) ⟨F116, _, v122, rfl, lv_sub hl [1, 2, 3, 0] rfl, hP, hS, hI, hfr, (fun k hk => (y_fiZ oY119 (s_sub (by decide) hk)).trans (hz0 k hk)), ⟨by omega, by omega⟩, ⟨by omega, by omega⟩, ⟨by omega, by omega⟩, (by rw [y_atE o120]; exact (fun j h0 h1 => by rw [u121 j h0]; split; exact (by decide); exact h15 j h0 (by omega))), rfl⟩

set_option maxHeartbeats 4000000 in
set_option maxRecDepth 100000 in
theorem y_X7_isFirst (l : Launch) (dC : Nat → ClassId) (dI : Nat → Nat → Nat) (sz : Nat) {L : List Nat} {K : Nat → Nat} {cs : Nat → ClassId} (hLK : ∀ a {k : Nat}, K a = k → k ≠ 0 → a ∈ L) (A : Nat → Nat) (hA : y_A K A) (F : Nat → va_E) (a0 : Nat) (x1 : Int32) (x2 : Int32) (ha0 : K a0 = 9) (hx1 : 0 ≤ x1.toInt ∧ x1.toInt ≤ 39) (hx2 : 0 ≤ x2.toInt ∧ x2.toInt ≤ 39) (hI : y_I K cs A F) (hP0 : y_P0 (y_at F (A 13))) (hxm : x1.toInt < (y_c (y_at F (A 13)) 387).toInt) : Met l yX7_isFirst (Cond.code yX7_isFirst cX7_isFirst 4 (some .boolean) :: T0) ({ frames := 5, cells := 0, slots := 0, locals := 110 }) (va_Pc [.ref a0, .int x1, .int x2] (s_W dC dI sz L F [(cs 0, .int), (cs 1, .byte), (cs 2, .long), (cs 3, .object RX5), (cs 4, .object RX4), (cs 5, .array .int), (cs 6, .char), (cs 7, .boolean)])) (va_Qi (fun (r : Int32) (G : Nat → va_E) => (0 ≤ r.toInt ∧ r.toInt ≤ 1) ∧ True ∧ y_I K cs A G ∧ (∀ b, K b ∉ [9, 67, 68] → G b = F b) ∧ (∀ k, k ∈ ([1, 2, 3, 4, 5, 6, 7, 8, 11, 15, 16, 25, 26, 27, 31, 32] : List Nat) → y_fi G a0 k = y_fi F a0 k) ∧ True) (fun (G : Nat → va_E) (t : State) => va_P (dC, dI) vwCl (va_pl L G) t.heap ∧ va_K (dC, dI) vwCl [(cs 0, .int), (cs 1, .byte), (cs 2, .long), (cs 3, .object RX5), (cs 4, .object RX4), (cs 5, .array .int), (cs 6, .char), (cs 7, .boolean)] t) (fun q => q ∈ L)) 0 0 (fun q => q ∈ L) := by
  refine Met.ofW (cc := cX7_isFirst) (maxL := 4) (ret := (some .boolean)) (by decide) rfl ?_
  intro p e s m args below meth c s₁ B hml hv
  obtain ⟨rfl, hsz, hP, hK, hD, hN⟩ := hv
  have hx := B.exec
  have hb := B.bytes
  have hr := B.returns
  have hts : ∀ w ∈ T0, w.before _ s = true := fun w h => atoms_spec (ws := Cond.code yX7_isFirst cX7_isFirst 4 (some .boolean) :: T0) B.pre w (List.mem_cons_of_mem _ h)
  have hown : s.vm.findClass RX7 = some m.cls := findClass_of_methodNamed B.named
  have hlocks := B.notSynchronized
  have hS : va_S (fun q => q ∈ L) s.heap s.heap [] := va_S.rf
  have hfr : ∀ b, K b ∉ [9, 67, 68] → F b = F b := fun _ _ => rfl
  have hl := lv_entry ([.ref a0, .int x1, .int x2]) (n := 4) (Nat.le_of_ble_eq_true rfl)
  rw [lg_entry_eq]
  generalize (lg_sl ([.ref a0, .int x1, .int x2]) ++ List.replicate (4 - (lg_sl ([.ref a0, .int x1, .int x2])).length) Slot.unset).toArray = ls at hl ⊢
  have hl : lv_has ls 4 [(0, .ref a0), (1, .int x1), (2, .int x2)] := hl
  refine s_gen hP hS (fun H locs hP hS => ?_)
  obtain ⟨z0, q0, oY0, bz0, bq0⟩ := y_opY hI ha0
  have hz0 : ∀ k, k ∈ ([1, 2, 3, 4, 5, 6, 7, 8, 11, 15, 16, 25, 26, 27, 31, 32] : List Nat) → z0 k = z0 k := fun _ _ => rfl
  obtain ⟨f1, o2, b3⟩ := y_op13 hI
  replace hP0 : y_P0 f1 := by have q9 := hP0; rw [y_atE o2] at q9; exact q9
  replace hxm : x1.toInt < (y_c f1 387).toInt := by have q9 := hxm; rw [y_atE o2] at q9; exact q9
  have hL := y_P0L hP0
  have hW := y_P0W hP0
  refine lv_iconst (v := 0) hx hb dX7_isFirst_0 (by decide) ?_
  refine lv_istore_n (lv' := [(3, .int 0), (0, .ref a0), (1, .int x1), (2, .int x2)]) hx hb dX7_isFirst_1 rfl hl (by decide) rfl (fun ls hl => ?_)
  have h5 : (0 : Int32).toInt = 0 := by decide
  refine th_loop (fun n g H locs => ∃ (G : Nat → va_E) (ls : Array Slot) (w4 : Int32), g = F0 m 2 ls [] ∧ lv_has ls 4 [(0, .ref a0), (1, .int x1), (2, .int x2), (3, .int w4)] ∧ va_P (dC, dI) vwCl (va_pl L G) H ∧ va_S (fun q => q ∈ L) s.heap H locs ∧ y_I K cs A G ∧ (∀ b, K b ∉ [9, 67, 68] → G b = F b) ∧ (∀ k, k ∈ ([1, 2, 3, 4, 5, 6, 7, 8, 11, 15, 16, 25, 26, 27, 31, 32] : List Nat) → y_fi G a0 k = z0 k) ∧ (0 ≤ w4.toInt ∧ w4.toInt ≤ 40) ∧ (0 ≤ x1.toInt ∧ x1.toInt ≤ 39) ∧ (0 ≤ x2.toInt ∧ x2.toInt ≤ 39) ∧ n = (41 - w4.toInt).toNat) _ ⟨F, _, 0, rfl, lv_sub hl [1, 2, 3, 0] rfl, hP, hS, hI, hfr, (fun k hk => (y_fiZ oY0 (s_sub (by decide) hk)).trans (hz0 k hk)), (by decide), ⟨by omega, by omega⟩, ⟨by omega, by omega⟩, rfl⟩ (fun n ih2 g H locs hq => ?_)
  obtain ⟨F9, ls, w4, rfl, hl, hP, hS, hI, hfr, hz0, h6, h7, h8, hn⟩ := hq
  have o10 : F9 (A 13) = .inl (cs 0, 400, .inl f1) := (hfr _ (by rw [(y_k13 hA)]; decide)).trans o2
  obtain ⟨z11, q12, oY13, bz14, bq15⟩ := y_opY hI ha0
  have hz0 : ∀ k, k ∈ ([1, 2, 3, 4, 5, 6, 7, 8, 11, 15, 16, 25, 26, 27, 31, 32] : List Nat) → z11 k = z0 k := fun k hk => (y_fiZ oY13 (s_sub (by decide) hk)).symm.trans (hz0 k hk)
  have hn_15 := hn
  refine th_join (fun g H locs => ∃ (G : Nat → va_E) (ls : Array Slot), g = F0 m 50 ls [] ∧ lv_has ls 4 [(0, .ref a0), (1, .int x1), (2, .int x2), (3, .int w4)] ∧ va_P (dC, dI) vwCl (va_pl L G) H ∧ va_S (fun q => q ∈ L) s.heap H locs ∧ y_I K cs A G ∧ (∀ b, K b ∉ [9, 67, 68] → G b = F b) ∧ (∀ k, k ∈ ([1, 2, 3, 4, 5, 6, 7, 8, 11, 15, 16, 25, 26, 27, 31, 32] : List Nat) → y_fi G a0 k = z0 k) ∧ (0 ≤ x1.toInt ∧ x1.toInt ≤ 39) ∧ (0 ≤ x2.toInt ∧ x2.toInt ≤ 39) ∧ (0 ≤ w4.toInt ∧ w4.toInt ≤ 39)) (fun K50 => ?_) ?_
  · refine lv_iload_n hx hb dX7_isFirst_2 rfl (lv_at hl 3 rfl) ?_
    refine lv_aload_n hx hb dX7_isFirst_3 rfl (lv_at hl 0 rfl) ?_
    refine va_calli (va_runV (As := []) (rest := [.int w4]) ⟨hx, hb, hml, hown, hts⟩ (y_X7_lines l dC dI H.size hLK A hA F9 a0 ha0 hI) (cwV 0 hts (ax_gV T_1030 T_1032 T_1033 T_265 T_1031) rfl rfl rfl (by decide +kernel) ⟨Nat.le_of_ble_eq_true rfl, Nat.le_of_ble_eq_true rfl⟩) ⟨fun a U g mk q => ⟨q.1, s_pc (U := U) rfl rfl q.2⟩, s_recv hK hP (hLK _ ha0 (by decide)) (ci := 7) rfl oY13, fun U hU hW => ⟨rfl, s_pw hU hW hP hK hD hN⟩⟩ rfl rfl hl.1 rfl (lv_room (Nat.le_of_ble_eq_true rfl)) dX7_isFirst_4 ⟨Nat.zero_le _, Nat.zero_le _⟩) hS (fun q _ h => h) (fun q h => h) (fun r17 F18 t H1 locs ht hvm hw hB hz1 hk1 hS => ?_)
    obtain ⟨hP, hK1⟩ := hB
    rw [ht] at hP
    generalize H1 = H at hP hS ⊢
    clear hz1 hk1 hvm hK1
    obtain ⟨h19, h21, hI, hfr1, hzf, h20⟩ := hw
    have o22 : F18 (A 13) = .inl (cs 0, 400, .inl f1) := (hfr1 _ (by rw [(y_k13 hA)]; decide)).trans o10
    have oY23 : F18 a0 = .inr (7, y_fl A z11 q12) := (hfr1 _ (by rw [ha0]; decide)).trans oY13
    have hfr : ∀ b, K b ∉ [9, 67, 68] → F18 b = F b := fun b hb9 => (hfr1 b (fun q => hb9 (s_sub (by decide) q))).trans (hfr b hb9)
    replace h20 : (r17 = y_c f1 387) := by have q9 := h20; rw [y_atE o10] at q9; exact q9
    have h24 := congrArg Int32.toInt h20
    have h25 : 1 ≤ r17.toInt ∧ r17.toInt ≤ 40 := ⟨by omega, by omega⟩
    refine lv_icmp_ge (tgt := 56) hx hb dX7_isFirst_7 (by decide) (fun c26 => ?_) (fun c26 => ?_)
    · have c26 := Int32.le_iff_toInt_le.mp c26
      refine lv_iconst (v := 1) hx hb dX7_isFirst_56 (by decide) ?_
      have h27 : (1 : Int32).toInt = 1 := by decide
      exact W.zret (v := 1) (ty := .boolean) hx hb hr (by decide) (fun t ht hW => ⟨⟨1, F18, rfl, ⟨(by decide), trivial, hI, hfr, fun k hk => (y_fiZ oY23 (s_sub (by decide) hk)).trans ((hz0 k hk).trans (y_fiZ oY0 (s_sub (by decide) hk)).symm), trivial⟩, by rw [ht]; exact hP, va_K.moved hW.alike hK⟩, hS.F ht⟩) hS.2.2 dX7_isFirst_57
    · have c26 := mt Int32.le_iff_toInt_le.mpr c26
      refine lv_iload_n hx hb dX7_isFirst_10 rfl (lv_at hl 3 rfl) ?_
      refine lv_iload_n hx hb dX7_isFirst_11 rfl (lv_at hl 1 rfl) ?_
      refine lv_icmp_eq (tgt := 50) hx hb dX7_isFirst_12 (by decide) (fun c28 => ?_) (fun c28 => ?_)
      · have c28 := Int32.toInt_inj.symm.mp c28
        exact K50 _ _ _ ⟨F18, _, rfl, lv_sub hl [0, 1, 2, 3] rfl, hP, hS, hI, hfr, (fun k hk => (y_fiZ oY23 (s_sub (by decide) hk)).trans (hz0 k hk)), ⟨by omega, by omega⟩, ⟨by omega, by omega⟩, ⟨by omega, by omega⟩⟩
      · have c28 := mt Int32.toInt_inj.symm.mpr c28
        refine lv_iload_n hx hb dX7_isFirst_15 rfl (lv_at hl 3 rfl) ?_
        refine lv_iload_n hx hb dX7_isFirst_16 rfl (lv_at hl 2 rfl) ?_
        refine lv_icmp_eq (tgt := 50) hx hb dX7_isFirst_17 (by decide) (fun c29 => ?_) (fun c29 => ?_)
        · have c29 := Int32.toInt_inj.symm.mp c29
          exact K50 _ _ _ ⟨F18, _, rfl, lv_sub hl [0, 1, 2, 3] rfl, hP, hS, hI, hfr, (fun k hk => (y_fiZ oY23 (s_sub (by decide) hk)).trans (hz0 k hk)), ⟨by omega, by omega⟩, ⟨by omega, by omega⟩, ⟨by omega, by omega⟩⟩
        · have c29 := mt Int32.toInt_inj.symm.mpr c29
          refine lv_aload_n hx hb dX7_isFirst_20 rfl (lv_at hl 0 rfl) ?_
          refine lv_iload_n hx hb dX7_isFirst_21 rfl (lv_at hl 1 rfl) ?_
          refine lv_iload_n hx hb dX7_isFirst_22 rfl (lv_at hl 3 rfl) ?_
          have rg30 : 0 ≤ x1.toInt ∧ x1.toInt ≤ 40 := ⟨by omega, by omega⟩
          have rg31 : -1 ≤ w4.toInt ∧ w4.toInt ≤ 40 := ⟨by omega, by omega⟩
          refine va_calli (va_runV (As := [.int x1, .int w4]) (rest := []) ⟨hx, hb, hml, hown, hts⟩ (y_X7_isEndReached l dC dI H.size hLK A hA F18 a0 x1 w4 ha0 rg30 rg31 hI (by rw [y_atE o22]; exact hP0) (by first | (rw [y_atE o22]; omega) | rw [y_atE o22])) (cwV 2 hts (ax_gV T_1211 T_1213 T_1214 T_265 T_1212) rfl rfl rfl (by decide +kernel) ⟨Nat.le_of_ble_eq_true rfl, Nat.le_of_ble_eq_true rfl⟩) ⟨fun a U g mk q => ⟨q.1, s_pc (U := U) rfl rfl q.2⟩, s_recv hK hP (hLK _ ha0 (by decide)) (ci := 7) rfl oY23, fun U hU hW => ⟨rfl, s_pw hU hW hP hK hD hN⟩⟩ rfl rfl hl.1 rfl (lv_room (Nat.le_of_ble_eq_true rfl)) dX7_isFirst_23 ⟨Nat.zero_le _, Nat.zero_le _⟩) hS (fun q _ h => h) (fun q h => h) (fun r33 F34 t H1 locs ht hvm hw hB hz1 hk1 hS => ?_)
          obtain ⟨hP, hK1⟩ := hB
          rw [ht] at hP
          generalize H1 = H at hP hS ⊢
          clear hz1 hk1 hvm hK1
          obtain ⟨h35, h37, hI, hfr1, hzf, h36⟩ := hw
          have o38 : F34 (A 13) = .inl (cs 0, 400, .inl f1) := (hfr1 _ (by rw [(y_k13 hA)]; decide)).trans o22
          obtain ⟨z39, q40, oY41, bz42, bq43⟩ := y_opY hI ha0
          have hzf : ∀ k, k ∈ ([1, 2, 3, 4, 5, 6, 7, 8, 11, 15, 16, 25, 26, 27, 31, 32] : List Nat) → z39 k = z11 k := fun k hk => by have q9 := hzf k hk; rw [y_fiZ oY41 (s_sub (by decide) hk), y_fiZ oY23 (s_sub (by decide) hk)] at q9; exact q9
          have hz0 : ∀ k, k ∈ ([1, 2, 3, 4, 5, 6, 7, 8, 11, 15, 16, 25, 26, 27, 31, 32] : List Nat) → z39 k = z0 k := fun k hk => (hzf k (s_sub (by decide) hk)).trans (hz0 k hk)
          have hfr : ∀ b, K b ∉ [9, 67, 68] → F34 b = F b := fun b hb9 => (hfr1 b (fun q => hb9 (s_sub (by decide) q))).trans (hfr b hb9)
          refine lv_if_eq (tgt := 32) hx hb dX7_isFirst_26 (by decide) (fun c44 => ?_) (fun c44 => ?_)
          · have c44 := (ax_eq (n := 0) (by decide)).mp c44
            refine lv_aload_n hx hb dX7_isFirst_32 rfl (lv_at hl 0 rfl) ?_
            refine lv_iload_n hx hb dX7_isFirst_33 rfl (lv_at hl 1 rfl) ?_
            refine lv_iload_n hx hb dX7_isFirst_34 rfl (lv_at hl 2 rfl) ?_
            have rg45 : -1 ≤ x2.toInt ∧ x2.toInt ≤ 40 := ⟨by omega, by omega⟩
            refine va_calli (va_runV (As := [.int x1, .int x2]) (rest := []) ⟨hx, hb, hml, hown, hts⟩ (y_X7_isEndReached l dC dI H.size hLK A hA F34 a0 x1 x2 ha0 rg30 rg45 hI (by rw [y_atE o38]; exact hP0) (by first | (rw [y_atE o38]; omega) | rw [y_atE o38])) (cwV 2 hts (ax_gV T_1211 T_1213 T_1214 T_265 T_1212) rfl rfl rfl (by decide +kernel) ⟨Nat.le_of_ble_eq_true rfl, Nat.le_of_ble_eq_true rfl⟩) ⟨fun a U g mk q => ⟨q.1, s_pc (U := U) rfl rfl q.2⟩, s_recv hK hP (hLK _ ha0 (by decide)) (ci := 7) rfl oY41, fun U hU hW => ⟨rfl, s_pw hU hW hP hK hD hN⟩⟩ rfl rfl hl.1 rfl (lv_room (Nat.le_of_ble_eq_true rfl)) dX7_isFirst_35 ⟨Nat.zero_le _, Nat.zero_le _⟩) hS (fun q _ h => h) (fun q h => h) (fun r47 F48 t H1 locs ht hvm hw hB hz1 hk1 hS => ?_)
            obtain ⟨hP, hK1⟩ := hB
            rw [ht] at hP
            generalize H1 = H at hP hS ⊢
            clear hz1 hk1 hvm hK1
            obtain ⟨h49, h51, hI, hfr1, hzf, h50⟩ := hw
            have o52 : F48 (A 13) = .inl (cs 0, 400, .inl f1) := (hfr1 _ (by rw [(y_k13 hA)]; decide)).trans o38
            obtain ⟨z53, q54, oY55, bz56, bq57⟩ := y_opY hI ha0
            have hzf : ∀ k, k ∈ ([1, 2, 3, 4, 5, 6, 7, 8, 11, 15, 16, 25, 26, 27, 31, 32] : List Nat) → z53 k = z39 k := fun k hk => by have q9 := hzf k hk; rw [y_fiZ oY55 (s_sub (by decide) hk), y_fiZ oY41 (s_sub (by decide) hk)] at q9; exact q9
            have hz0 : ∀ k, k ∈ ([1, 2, 3, 4, 5, 6, 7, 8, 11, 15, 16, 25, 26, 27, 31, 32] : List Nat) → z53 k = z0 k := fun k hk => (hzf k (s_sub (by decide) hk)).trans (hz0 k hk)
            have hfr : ∀ b, K b ∉ [9, 67, 68] → F48 b = F b := fun b hb9 => (hfr1 b (fun q => hb9 (s_sub (by decide) q))).trans (hfr b hb9)
            refine lv_pop hx hb dX7_isFirst_38 rfl ?_
            refine lv_aload_n hx hb dX7_isFirst_39 rfl (lv_at hl 0 rfl) ?_
            refine th_get (D := (dC, dI)) (ci := 7) (v := .ref (A 17)) (C := RX7) (T := TX7) (N := 34) hx hb hts inX7 hown hK hP (hLK _ ha0 (by decide)) oY55 rfl 17 (by decide) (hts _ T_249) (fun _ h9 => h9) rfl dX7_isFirst_40 ?_
            refine lv_iload_n hx hb dX7_isFirst_43 rfl (lv_at hl 3 rfl) ?_
            obtain ⟨f58, o59, b60⟩ := y_op17 hI
            refine th_zald hx hb hK hP (hLK _ (y_k17 hA) (by decide)) 7 o59 rfl (th_in ⟨by omega, by omega⟩) dX7_isFirst_44 ?_
            refine lv_topi (fun v61 ev61 => ?_)
            have qv61 : 0 ≤ v61.toInt ∧ v61.toInt ≤ 1 := by rw [ev61]; exact b60 _ (th_cl ⟨by omega, by omega⟩)
            refine lv_if_eq (tgt := 50) hx hb dX7_isFirst_45 (by decide) (fun c62 => ?_) (fun c62 => ?_)
            · have c62 := (ax_eq (n := 0) (by decide)).mp c62
              exact K50 _ _ _ ⟨F48, _, rfl, lv_sub hl [0, 1, 2, 3] rfl, hP, hS, hI, hfr, (fun k hk => (y_fiZ oY55 (s_sub (by decide) hk)).trans (hz0 k hk)), ⟨by omega, by omega⟩, ⟨by omega, by omega⟩, ⟨by omega, by omega⟩⟩
            · have c62 := mt (ax_eq (n := 0) (by decide)).mpr c62
              refine lv_iconst (v := 0) hx hb dX7_isFirst_48 (by decide) ?_
              have h63 : (0 : Int32).toInt = 0 := by decide
              exact W.zret (v := 0) (ty := .boolean) hx hb hr (by decide) (fun t ht hW => ⟨⟨0, F48, rfl, ⟨(by decide), trivial, hI, hfr, fun k hk => (y_fiZ oY55 (s_sub (by decide) hk)).trans ((hz0 k hk).trans (y_fiZ oY0 (s_sub (by decide) hk)).symm), trivial⟩, by rw [ht]; exact hP, va_K.moved hW.alike hK⟩, hS.F ht⟩) hS.2.2 dX7_isFirst_49
          · have c44 := mt (ax_eq (n := 0) (by decide)).mpr c44
            refine lv_goto (tgt := 50) hx hb dX7_isFirst_29 (by decide) ?_
            exact K50 _ _ _ ⟨F34, _, rfl, lv_sub hl [0, 1, 2, 3] rfl, hP, hS, hI, hfr, (fun k hk => (y_fiZ oY41 (s_sub (by decide) hk)).trans (hz0 k hk)), ⟨by omega, by omega⟩, ⟨by omega, by omega⟩, ⟨by omega, by omega⟩⟩
  · intro g H locs hq
    obtain ⟨F67, ls, rfl, hl, hP, hS, hI, hfr, hz0, h64, h65, h66⟩ := hq
    have o68 : F67 (A 13) = .inl (cs 0, 400, .inl f1) := (hfr _ (by rw [(y_k13 hA)]; decide)).trans o2
    obtain ⟨z69, q70, oY71, bz72, bq73⟩ := y_opY hI ha0
    have hz0 : ∀ k, k ∈ ([1, 2, 3, 4, 5, 6, 7, 8, 11, 15, 16, 25, 26, 27, 31, 32] : List Nat) → z69 k = z0 k := fun k hk => (y_fiZ oY71 (s_sub (by decide) hk)).symm.trans (hz0 k hk)
    obtain ⟨v74, ev74⟩ : ∃ y : Int32, w4 + 1 = y := ⟨_, rfl⟩
    have qv74 : v74.toInt = w4.toInt + 1 := by rw [← ev74]; exact th_add rfl (by decide) ⟨by omega, by omega⟩
    refine lv_iinc (v := v74) (lv' := [(3, .int v74), (0, .ref a0), (1, .int x1), (2, .int x2)]) hx hb dX7_isFirst_50 hl (k := 3) rfl ev74 (by decide) rfl (fun ls hl => ?_)
    refine lv_goto (tgt := 2) hx hb dX7_isFirst_53 (by decide) ?_
    exact ih2 _ _ _ _ (by omega) ⟨F67, _, v74, rfl, lv_sub hl [1, 2, 3, 0] rfl, hP, hS, hI, hfr, (fun k hk => (y_fiZ oY71 (s_sub (by decide) hk)).trans (hz0 k hk)), ⟨by omega, by omega⟩, ⟨by omega, by omega⟩, ⟨by omega, by omega⟩, rfl⟩

set_option maxHeartbeats 4000000 in
set_option maxRecDepth 100000 in
theorem y_X7_meetOf (l : Launch) (dC : Nat → ClassId) (dI : Nat → Nat → Nat) (sz : Nat) {L : List Nat} {K : Nat → Nat} {cs : Nat → ClassId} (hLK : ∀ a {k : Nat}, K a = k → k ≠ 0 → a ∈ L) (A : Nat → Nat) (hA : y_A K A) (F : Nat → va_E) (a0 : Nat) (x1 : Int32) (ha0 : K a0 = 9) (hx1 : 0 ≤ x1.toInt ∧ x1.toInt ≤ 39) (hI : y_I K cs A F) (hP0 : y_P0 (y_at F (A 13))) (hxm : x1.toInt < (y_c (y_at F (A 13)) 387).toInt) : Met l yX7_meetOf (Cond.code yX7_meetOf cX7_meetOf 3 (some .int) :: T0) ({ frames := 6, cells := 0, slots := 0, locals := 133 }) (va_Pc [.ref a0, .int x1] (s_W dC dI sz L F [(cs 0, .int), (cs 1, .byte), (cs 2, .long), (cs 3, .object RX5), (cs 4, .object RX4), (cs 5, .array .int), (cs 6, .char), (cs 7, .boolean)])) (va_Qi (fun (r : Int32) (G : Nat → va_E) => (0 ≤ r.toInt ∧ r.toInt ≤ 40) ∧ True ∧ y_I K cs A G ∧ (∀ b, K b ∉ [9, 67, 68] → G b = F b) ∧ (∀ k, k ∈ ([1, 2, 3, 4, 5, 6, 7, 8, 11, 15, 16, 25, 26, 27, 31, 32] : List Nat) → y_fi G a0 k = y_fi F a0 k) ∧ (0 ≤ r.toInt ∧ r.toInt ≤ (y_c (y_at F (A 13)) 387).toInt)) (fun (G : Nat → va_E) (t : State) => va_P (dC, dI) vwCl (va_pl L G) t.heap ∧ va_K (dC, dI) vwCl [(cs 0, .int), (cs 1, .byte), (cs 2, .long), (cs 3, .object RX5), (cs 4, .object RX4), (cs 5, .array .int), (cs 6, .char), (cs 7, .boolean)] t) (fun q => q ∈ L)) 0 0 (fun q => q ∈ L) := by
  refine Met.ofW (cc := cX7_meetOf) (maxL := 3) (ret := (some .int)) (by decide) rfl ?_
  intro p e s m args below meth c s₁ B hml hv
  obtain ⟨rfl, hsz, hP, hK, hD, hN⟩ := hv
  have hx := B.exec
  have hb := B.bytes
  have hr := B.returns
  have hts : ∀ w ∈ T0, w.before _ s = true := fun w h => atoms_spec (ws := Cond.code yX7_meetOf cX7_meetOf 3 (some .int) :: T0) B.pre w (List.mem_cons_of_mem _ h)
  have hown : s.vm.findClass RX7 = some m.cls := findClass_of_methodNamed B.named
  have hlocks := B.notSynchronized
  have hS : va_S (fun q => q ∈ L) s.heap s.heap [] := va_S.rf
  have hfr : ∀ b, K b ∉ [9, 67, 68] → F b = F b := fun _ _ => rfl
  have hl := lv_entry ([.ref a0, .int x1]) (n := 3) (Nat.le_of_ble_eq_true rfl)
  rw [lg_entry_eq]
  generalize (lg_sl ([.ref a0, .int x1]) ++ List.replicate (3 - (lg_sl ([.ref a0, .int x1])).length) Slot.unset).toArray = ls at hl ⊢
  have hl : lv_has ls 3 [(0, .ref a0), (1, .int x1)] := hl
  refine s_gen hP hS (fun H locs hP hS => ?_)
  obtain ⟨z0, q0, oY0, bz0, bq0⟩ := y_opY hI ha0
  have hz0 : ∀ k, k ∈ ([1, 2, 3, 4, 5, 6, 7, 8, 11, 15, 16, 25, 26, 27, 31, 32] : List Nat) → z0 k = z0 k := fun _ _ => rfl
  obtain ⟨f1, o2, b3⟩ := y_op13 hI
  replace hP0 : y_P0 f1 := by have q9 := hP0; rw [y_atE o2] at q9; exact q9
  replace hxm : x1.toInt < (y_c f1 387).toInt := by have q9 := hxm; rw [y_atE o2] at q9; exact q9
  have hL := y_P0L hP0
  have hW := y_P0W hP0
  refine lv_aload_n hx hb dX7_meetOf_0 rfl (lv_at hl 0 rfl) ?_
  refine lv_iload_n hx hb dX7_meetOf_1 rfl (lv_at hl 1 rfl) ?_
  refine lv_iconst (v := (-1)) hx hb dX7_meetOf_2 (by decide) ?_
  have rg4 : 0 ≤ x1.toInt ∧ x1.toInt ≤ 40 := ⟨by omega, by omega⟩
  refine va_calli (va_runV (As := [.int x1, .int (-1)]) (rest := []) ⟨hx, hb, hml, hown, hts⟩ (y_X7_isEndReached l dC dI H.size hLK A hA F a0 x1 (-1) ha0 rg4 (by decide) hI (by rw [y_atE o2]; exact hP0) (by first | (rw [y_atE o2]; omega) | rw [y_atE o2])) (cwV 2 hts (ax_gV T_1211 T_1213 T_1214 T_265 T_1212) rfl rfl rfl (by decide +kernel) ⟨Nat.le_of_ble_eq_true rfl, Nat.le_of_ble_eq_true rfl⟩) ⟨fun a U g mk q => ⟨q.1, s_pc (U := U) rfl rfl q.2⟩, s_recv hK hP (hLK _ ha0 (by decide)) (ci := 7) rfl oY0, fun U hU hW => ⟨rfl, s_pw hU hW hP hK hD hN⟩⟩ rfl rfl hl.1 rfl (lv_room (Nat.le_of_ble_eq_true rfl)) dX7_meetOf_3 ⟨Nat.zero_le _, Nat.zero_le _⟩) hS (fun q _ h => h) (fun q h => h) (fun r6 F7 t H1 locs ht hvm hw hB hz1 hk1 hS => ?_)
  obtain ⟨hP, hK1⟩ := hB
  rw [ht] at hP
  generalize H1 = H at hP hS ⊢
  clear hz1 hk1 hvm hK1
  obtain ⟨h8, h10, hI, hfr1, hzf, h9⟩ := hw
  have o11 : F7 (A 13) = .inl (cs 0, 400, .inl f1) := (hfr1 _ (by rw [(y_k13 hA)]; decide)).trans o2
  obtain ⟨z12, q13, oY14, bz15, bq16⟩ := y_opY hI ha0
  have hzf : ∀ k, k ∈ ([1, 2, 3, 4, 5, 6, 7, 8, 11, 15, 16, 25, 26, 27, 31, 32] : List Nat) → z12 k = z0 k := fun k hk => by have q9 := hzf k hk; rw [y_fiZ oY14 (s_sub (by decide) hk), y_fiZ oY0 (s_sub (by decide) hk)] at q9; exact q9
  have hz0 : ∀ k, k ∈ ([1, 2, 3, 4, 5, 6, 7, 8, 11, 15, 16, 25, 26, 27, 31, 32] : List Nat) → z12 k = z0 k := fun k hk => (hzf k (s_sub (by decide) hk)).trans (hz0 k hk)
  have hfr : ∀ b, K b ∉ [9, 67, 68] → F7 b = F b := fun b hb9 => (hfr1 b (fun q => hb9 (s_sub (by decide) q))).trans (hfr b hb9)
  refine lv_if_ne (tgt := 14) hx hb dX7_meetOf_6 (by decide) (fun c17 => ?_) (fun c17 => ?_)
  · have c17 := mt (ax_eq (n := 0) (by decide)).mpr c17
    refine lv_iconst (v := 0) hx hb dX7_meetOf_14 (by decide) ?_
    refine lv_istore_n (lv' := [(2, .int 0), (0, .ref a0), (1, .int x1)]) hx hb dX7_meetOf_15 rfl hl (by decide) rfl (fun ls hl => ?_)
    have h19 : (0 : Int32).toInt = 0 := by decide
    refine th_loop (fun n g H locs => ∃ (G : Nat → va_E) (ls : Array Slot) (w18 : Int32), g = F0 m 16 ls [] ∧ lv_has ls 3 [(0, .ref a0), (1, .int x1), (2, .int w18)] ∧ va_P (dC, dI) vwCl (va_pl L G) H ∧ va_S (fun q => q ∈ L) s.heap H locs ∧ y_I K cs A G ∧ (∀ b, K b ∉ [9, 67, 68] → G b = F b) ∧ (∀ k, k ∈ ([1, 2, 3, 4, 5, 6, 7, 8, 11, 15, 16, 25, 26, 27, 31, 32] : List Nat) → y_fi G a0 k = z0 k) ∧ (0 ≤ w18.toInt ∧ w18.toInt ≤ 40) ∧ (0 ≤ x1.toInt ∧ x1.toInt ≤ 39) ∧ n = (41 - w18.toInt).toNat) _ ⟨F7, _, 0, rfl, lv_sub hl [1, 2, 0] rfl, hP, hS, hI, hfr, (fun k hk => (y_fiZ oY14 (s_sub (by decide) hk)).trans (hz0 k hk)), (by decide), ⟨by omega, by omega⟩, rfl⟩ (fun n ih16 g H locs hq => ?_)
    obtain ⟨F22, ls, w18, rfl, hl, hP, hS, hI, hfr, hz0, h20, h21, hn⟩ := hq
    have o23 : F22 (A 13) = .inl (cs 0, 400, .inl f1) := (hfr _ (by rw [(y_k13 hA)]; decide)).trans o2
    obtain ⟨z24, q25, oY26, bz27, bq28⟩ := y_opY hI ha0
    have hz0 : ∀ k, k ∈ ([1, 2, 3, 4, 5, 6, 7, 8, 11, 15, 16, 25, 26, 27, 31, 32] : List Nat) → z24 k = z0 k := fun k hk => (y_fiZ oY26 (s_sub (by decide) hk)).symm.trans (hz0 k hk)
    have hn_28 := hn
    refine th_join (fun g H locs => ∃ (G : Nat → va_E) (ls : Array Slot), g = F0 m 49 ls [] ∧ lv_has ls 3 [(0, .ref a0), (1, .int x1), (2, .int w18)] ∧ va_P (dC, dI) vwCl (va_pl L G) H ∧ va_S (fun q => q ∈ L) s.heap H locs ∧ y_I K cs A G ∧ (∀ b, K b ∉ [9, 67, 68] → G b = F b) ∧ (∀ k, k ∈ ([1, 2, 3, 4, 5, 6, 7, 8, 11, 15, 16, 25, 26, 27, 31, 32] : List Nat) → y_fi G a0 k = z0 k) ∧ (0 ≤ x1.toInt ∧ x1.toInt ≤ 39) ∧ (0 ≤ w18.toInt ∧ w18.toInt ≤ 39)) (fun K49 => ?_) ?_
    · refine lv_iload_n hx hb dX7_meetOf_16 rfl (lv_at hl 2 rfl) ?_
      refine lv_aload_n hx hb dX7_meetOf_17 rfl (lv_at hl 0 rfl) ?_
      refine va_calli (va_runV (As := []) (rest := [.int w18]) ⟨hx, hb, hml, hown, hts⟩ (y_X7_lines l dC dI H.size hLK A hA F22 a0 ha0 hI) (cwV 0 hts (ax_gV T_1030 T_1032 T_1033 T_265 T_1031) rfl rfl rfl (by decide +kernel) ⟨Nat.le_of_ble_eq_true rfl, Nat.le_of_ble_eq_true rfl⟩) ⟨fun a U g mk q => ⟨q.1, s_pc (U := U) rfl rfl q.2⟩, s_recv hK hP (hLK _ ha0 (by decide)) (ci := 7) rfl oY26, fun U hU hW => ⟨rfl, s_pw hU hW hP hK hD hN⟩⟩ rfl rfl hl.1 rfl (lv_room (Nat.le_of_ble_eq_true rfl)) dX7_meetOf_18 ⟨Nat.zero_le _, Nat.zero_le _⟩) hS (fun q _ h => h) (fun q h => h) (fun r30 F31 t H1 locs ht hvm hw hB hz1 hk1 hS => ?_)
      obtain ⟨hP, hK1⟩ := hB
      rw [ht] at hP
      generalize H1 = H at hP hS ⊢
      clear hz1 hk1 hvm hK1
      obtain ⟨h32, h34, hI, hfr1, hzf, h33⟩ := hw
      have o35 : F31 (A 13) = .inl (cs 0, 400, .inl f1) := (hfr1 _ (by rw [(y_k13 hA)]; decide)).trans o23
      have oY36 : F31 a0 = .inr (7, y_fl A z24 q25) := (hfr1 _ (by rw [ha0]; decide)).trans oY26
      have hfr : ∀ b, K b ∉ [9, 67, 68] → F31 b = F b := fun b hb9 => (hfr1 b (fun q => hb9 (s_sub (by decide) q))).trans (hfr b hb9)
      replace h33 : (r30 = y_c f1 387) := by have q9 := h33; rw [y_atE o23] at q9; exact q9
      have h37 := congrArg Int32.toInt h33
      have h38 : 1 ≤ r30.toInt ∧ r30.toInt ≤ 40 := ⟨by omega, by omega⟩
      refine lv_icmp_ge (tgt := 55) hx hb dX7_meetOf_21 (by decide) (fun c39 => ?_) (fun c39 => ?_)
      · have c39 := Int32.le_iff_toInt_le.mp c39
        refine lv_aload_n hx hb dX7_meetOf_55 rfl (lv_at hl 0 rfl) ?_
        refine va_calli (va_runV (As := []) (rest := []) ⟨hx, hb, hml, hown, hts⟩ (y_X7_lines l dC dI H.size hLK A hA F31 a0 ha0 hI) (cwV 0 hts (ax_gV T_1030 T_1032 T_1033 T_265 T_1031) rfl rfl rfl (by decide +kernel) ⟨Nat.le_of_ble_eq_true rfl, Nat.le_of_ble_eq_true rfl⟩) ⟨fun a U g mk q => ⟨q.1, s_pc (U := U) rfl rfl q.2⟩, s_recv hK hP (hLK _ ha0 (by decide)) (ci := 7) rfl oY36, fun U hU hW => ⟨rfl, s_pw hU hW hP hK hD hN⟩⟩ rfl rfl hl.1 rfl (lv_room (Nat.le_of_ble_eq_true rfl)) dX7_meetOf_56 ⟨Nat.zero_le _, Nat.zero_le _⟩) hS (fun q _ h => h) (fun q h => h) (fun r41 F42 t H1 locs ht hvm hw hB hz1 hk1 hS => ?_)
        obtain ⟨hP, hK1⟩ := hB
        rw [ht] at hP
        generalize H1 = H at hP hS ⊢
        clear hz1 hk1 hvm hK1
        obtain ⟨h43, h45, hI, hfr1, hzf, h44⟩ := hw
        have o46 : F42 (A 13) = .inl (cs 0, 400, .inl f1) := (hfr1 _ (by rw [(y_k13 hA)]; decide)).trans o35
        have oY47 : F42 a0 = .inr (7, y_fl A z24 q25) := (hfr1 _ (by rw [ha0]; decide)).trans oY36
        have hfr : ∀ b, K b ∉ [9, 67, 68] → F42 b = F b := fun b hb9 => (hfr1 b (fun q => hb9 (s_sub (by decide) q))).trans (hfr b hb9)
        replace h44 : (r41 = y_c f1 387) := by have q9 := h44; rw [y_atE o35] at q9; exact q9
        have h48 := congrArg Int32.toInt h44
        have h49 : 1 ≤ r41.toInt ∧ r41.toInt ≤ 40 := ⟨by omega, by omega⟩
        exact W.iret (v := r41) hx hb hr (fun t ht hW => ⟨⟨r41, F42, rfl, ⟨⟨by omega, by omega⟩, trivial, hI, hfr, fun k hk => (y_fiZ oY47 (s_sub (by decide) hk)).trans ((hz0 k hk).trans (y_fiZ oY0 (s_sub (by decide) hk)).symm), (by first | (rw [y_atE o2]; omega) | rw [y_atE o2])⟩, by rw [ht]; exact hP, va_K.moved hW.alike hK⟩, hS.F ht⟩) hS.2.2 dX7_meetOf_59
      · have c39 := mt Int32.le_iff_toInt_le.mpr c39
        refine lv_iload_n hx hb dX7_meetOf_24 rfl (lv_at hl 2 rfl) ?_
        refine lv_iload_n hx hb dX7_meetOf_25 rfl (lv_at hl 1 rfl) ?_
        refine lv_icmp_eq (tgt := 49) hx hb dX7_meetOf_26 (by decide) (fun c50 => ?_) (fun c50 => ?_)
        · have c50 := Int32.toInt_inj.symm.mp c50
          exact K49 _ _ _ ⟨F31, _, rfl, lv_sub hl [0, 1, 2] rfl, hP, hS, hI, hfr, (fun k hk => (y_fiZ oY36 (s_sub (by decide) hk)).trans (hz0 k hk)), ⟨by omega, by omega⟩, ⟨by omega, by omega⟩⟩
        · have c50 := mt Int32.toInt_inj.symm.mpr c50
          refine lv_aload_n hx hb dX7_meetOf_29 rfl (lv_at hl 0 rfl) ?_
          refine lv_iload_n hx hb dX7_meetOf_30 rfl (lv_at hl 1 rfl) ?_
          refine lv_iload_n hx hb dX7_meetOf_31 rfl (lv_at hl 2 rfl) ?_
          have rg51 : -1 ≤ w18.toInt ∧ w18.toInt ≤ 40 := ⟨by omega, by omega⟩
          refine va_calli (va_runV (As := [.int x1, .int w18]) (rest := []) ⟨hx, hb, hml, hown, hts⟩ (y_X7_isEndReached l dC dI H.size hLK A hA F31 a0 x1 w18 ha0 rg4 rg51 hI (by rw [y_atE o35]; exact hP0) (by first | (rw [y_atE o35]; omega) | rw [y_atE o35])) (cwV 2 hts (ax_gV T_1211 T_1213 T_1214 T_265 T_1212) rfl rfl rfl (by decide +kernel) ⟨Nat.le_of_ble_eq_true rfl, Nat.le_of_ble_eq_true rfl⟩) ⟨fun a U g mk q => ⟨q.1, s_pc (U := U) rfl rfl q.2⟩, s_recv hK hP (hLK _ ha0 (by decide)) (ci := 7) rfl oY36, fun U hU hW => ⟨rfl, s_pw hU hW hP hK hD hN⟩⟩ rfl rfl hl.1 rfl (lv_room (Nat.le_of_ble_eq_true rfl)) dX7_meetOf_32 ⟨Nat.zero_le _, Nat.zero_le _⟩) hS (fun q _ h => h) (fun q h => h) (fun r53 F54 t H1 locs ht hvm hw hB hz1 hk1 hS => ?_)
          obtain ⟨hP, hK1⟩ := hB
          rw [ht] at hP
          generalize H1 = H at hP hS ⊢
          clear hz1 hk1 hvm hK1
          obtain ⟨h55, h57, hI, hfr1, hzf, h56⟩ := hw
          have o58 : F54 (A 13) = .inl (cs 0, 400, .inl f1) := (hfr1 _ (by rw [(y_k13 hA)]; decide)).trans o35
          obtain ⟨z59, q60, oY61, bz62, bq63⟩ := y_opY hI ha0
          have hzf : ∀ k, k ∈ ([1, 2, 3, 4, 5, 6, 7, 8, 11, 15, 16, 25, 26, 27, 31, 32] : List Nat) → z59 k = z24 k := fun k hk => by have q9 := hzf k hk; rw [y_fiZ oY61 (s_sub (by decide) hk), y_fiZ oY36 (s_sub (by decide) hk)] at q9; exact q9
          have hz0 : ∀ k, k ∈ ([1, 2, 3, 4, 5, 6, 7, 8, 11, 15, 16, 25, 26, 27, 31, 32] : List Nat) → z59 k = z0 k := fun k hk => (hzf k (s_sub (by decide) hk)).trans (hz0 k hk)
          have hfr : ∀ b, K b ∉ [9, 67, 68] → F54 b = F b := fun b hb9 => (hfr1 b (fun q => hb9 (s_sub (by decide) q))).trans (hfr b hb9)
          refine lv_if_ne (tgt := 49) hx hb dX7_meetOf_35 (by decide) (fun c64 => ?_) (fun c64 => ?_)
          · have c64 := mt (ax_eq (n := 0) (by decide)).mpr c64
            exact K49 _ _ _ ⟨F54, _, rfl, lv_sub hl [0, 1, 2] rfl, hP, hS, hI, hfr, (fun k hk => (y_fiZ oY61 (s_sub (by decide) hk)).trans (hz0 k hk)), ⟨by omega, by omega⟩, ⟨by omega, by omega⟩⟩
          · have c64 := (ax_eq (n := 0) (by decide)).mp c64
            refine lv_aload_n hx hb dX7_meetOf_38 rfl (lv_at hl 0 rfl) ?_
            refine lv_iload_n hx hb dX7_meetOf_39 rfl (lv_at hl 1 rfl) ?_
            refine lv_iload_n hx hb dX7_meetOf_40 rfl (lv_at hl 2 rfl) ?_
            have rg65 : 0 ≤ x1.toInt ∧ x1.toInt ≤ 39 := ⟨by omega, by omega⟩
            have rg66 : 0 ≤ w18.toInt ∧ w18.toInt ≤ 39 := ⟨by omega, by omega⟩
            refine va_calli (va_runV (As := [.int x1, .int w18]) (rest := []) ⟨hx, hb, hml, hown, hts⟩ (y_X7_isFirst l dC dI H.size hLK A hA F54 a0 x1 w18 ha0 rg65 rg66 hI (by rw [y_atE o58]; exact hP0) (by first | (rw [y_atE o58]; omega) | rw [y_atE o58])) (cwV 2 hts (ax_gV T_1275 T_1277 T_1278 T_265 T_1276) rfl rfl rfl (by decide +kernel) ⟨Nat.le_of_ble_eq_true rfl, Nat.le_of_ble_eq_true rfl⟩) ⟨fun a U g mk q => ⟨q.1, s_pc (U := U) rfl rfl q.2⟩, s_recv hK hP (hLK _ ha0 (by decide)) (ci := 7) rfl oY61, fun U hU hW => ⟨rfl, s_pw hU hW hP hK hD hN⟩⟩ rfl rfl hl.1 rfl (lv_room (Nat.le_of_ble_eq_true rfl)) dX7_meetOf_41 ⟨Nat.zero_le _, Nat.zero_le _⟩) hS (fun q _ h => h) (fun q h => h) (fun r68 F69 t H1 locs ht hvm hw hB hz1 hk1 hS => ?_)
            obtain ⟨hP, hK1⟩ := hB
            rw [ht] at hP
            generalize H1 = H at hP hS ⊢
            clear hz1 hk1 hvm hK1
            obtain ⟨h70, h72, hI, hfr1, hzf, h71⟩ := hw
            have o73 : F69 (A 13) = .inl (cs 0, 400, .inl f1) := (hfr1 _ (by rw [(y_k13 hA)]; decide)).trans o58
            obtain ⟨z74, q75, oY76, bz77, bq78⟩ := y_opY hI ha0
            have hzf : ∀ k, k ∈ ([1, 2, 3, 4, 5, 6, 7, 8, 11, 15, 16, 25, 26, 27, 31, 32] : List Nat) → z74 k = z59 k := fun k hk => by have q9 := hzf k hk; rw [y_fiZ oY76 (s_sub (by decide) hk), y_fiZ oY61 (s_sub (by decide) hk)] at q9; exact q9
            have hz0 : ∀ k, k ∈ ([1, 2, 3, 4, 5, 6, 7, 8, 11, 15, 16, 25, 26, 27, 31, 32] : List Nat) → z74 k = z0 k := fun k hk => (hzf k (s_sub (by decide) hk)).trans (hz0 k hk)
            have hfr : ∀ b, K b ∉ [9, 67, 68] → F69 b = F b := fun b hb9 => (hfr1 b (fun q => hb9 (s_sub (by decide) q))).trans (hfr b hb9)
            refine lv_if_eq (tgt := 49) hx hb dX7_meetOf_44 (by decide) (fun c79 => ?_) (fun c79 => ?_)
            · have c79 := (ax_eq (n := 0) (by decide)).mp c79
              exact K49 _ _ _ ⟨F69, _, rfl, lv_sub hl [0, 1, 2] rfl, hP, hS, hI, hfr, (fun k hk => (y_fiZ oY76 (s_sub (by decide) hk)).trans (hz0 k hk)), ⟨by omega, by omega⟩, ⟨by omega, by omega⟩⟩
            · have c79 := mt (ax_eq (n := 0) (by decide)).mpr c79
              refine lv_iload_n hx hb dX7_meetOf_47 rfl (lv_at hl 2 rfl) ?_
              exact W.iret (v := w18) hx hb hr (fun t ht hW => ⟨⟨w18, F69, rfl, ⟨⟨by omega, by omega⟩, trivial, hI, hfr, fun k hk => (y_fiZ oY76 (s_sub (by decide) hk)).trans ((hz0 k hk).trans (y_fiZ oY0 (s_sub (by decide) hk)).symm), (by first | (rw [y_atE o2]; omega) | rw [y_atE o2])⟩, by rw [ht]; exact hP, va_K.moved hW.alike hK⟩, hS.F ht⟩) hS.2.2 dX7_meetOf_48
    · intro g H locs hq
      obtain ⟨F82, ls, rfl, hl, hP, hS, hI, hfr, hz0, h80, h81⟩ := hq
      have o83 : F82 (A 13) = .inl (cs 0, 400, .inl f1) := (hfr _ (by rw [(y_k13 hA)]; decide)).trans o2
      obtain ⟨z84, q85, oY86, bz87, bq88⟩ := y_opY hI ha0
      have hz0 : ∀ k, k ∈ ([1, 2, 3, 4, 5, 6, 7, 8, 11, 15, 16, 25, 26, 27, 31, 32] : List Nat) → z84 k = z0 k := fun k hk => (y_fiZ oY86 (s_sub (by decide) hk)).symm.trans (hz0 k hk)
      obtain ⟨v89, ev89⟩ : ∃ y : Int32, w18 + 1 = y := ⟨_, rfl⟩
      have qv89 : v89.toInt = w18.toInt + 1 := by rw [← ev89]; exact th_add rfl (by decide) ⟨by omega, by omega⟩
      refine lv_iinc (v := v89) (lv' := [(2, .int v89), (0, .ref a0), (1, .int x1)]) hx hb dX7_meetOf_49 hl (k := 2) rfl ev89 (by decide) rfl (fun ls hl => ?_)
      refine lv_goto (tgt := 16) hx hb dX7_meetOf_52 (by decide) ?_
      exact ih16 _ _ _ _ (by omega) ⟨F82, _, v89, rfl, lv_sub hl [1, 2, 0] rfl, hP, hS, hI, hfr, (fun k hk => (y_fiZ oY86 (s_sub (by decide) hk)).trans (hz0 k hk)), ⟨by omega, by omega⟩, ⟨by omega, by omega⟩, rfl⟩
  · have c17 := (ax_eq (n := 0) (by decide)).mp c17
    refine lv_aload_n hx hb dX7_meetOf_9 rfl (lv_at hl 0 rfl) ?_
    refine va_calli (va_runV (As := []) (rest := []) ⟨hx, hb, hml, hown, hts⟩ (y_X7_lines l dC dI H.size hLK A hA F7 a0 ha0 hI) (cwV 0 hts (ax_gV T_1030 T_1032 T_1033 T_265 T_1031) rfl rfl rfl (by decide +kernel) ⟨Nat.le_of_ble_eq_true rfl, Nat.le_of_ble_eq_true rfl⟩) ⟨fun a U g mk q => ⟨q.1, s_pc (U := U) rfl rfl q.2⟩, s_recv hK hP (hLK _ ha0 (by decide)) (ci := 7) rfl oY14, fun U hU hW => ⟨rfl, s_pw hU hW hP hK hD hN⟩⟩ rfl rfl hl.1 rfl (lv_room (Nat.le_of_ble_eq_true rfl)) dX7_meetOf_10 ⟨Nat.zero_le _, Nat.zero_le _⟩) hS (fun q _ h => h) (fun q h => h) (fun r91 F92 t H1 locs ht hvm hw hB hz1 hk1 hS => ?_)
    obtain ⟨hP, hK1⟩ := hB
    rw [ht] at hP
    generalize H1 = H at hP hS ⊢
    clear hz1 hk1 hvm hK1
    obtain ⟨h93, h95, hI, hfr1, hzf, h94⟩ := hw
    have o96 : F92 (A 13) = .inl (cs 0, 400, .inl f1) := (hfr1 _ (by rw [(y_k13 hA)]; decide)).trans o11
    have oY97 : F92 a0 = .inr (7, y_fl A z12 q13) := (hfr1 _ (by rw [ha0]; decide)).trans oY14
    have hfr : ∀ b, K b ∉ [9, 67, 68] → F92 b = F b := fun b hb9 => (hfr1 b (fun q => hb9 (s_sub (by decide) q))).trans (hfr b hb9)
    replace h94 : (r91 = y_c f1 387) := by have q9 := h94; rw [y_atE o11] at q9; exact q9
    have h98 := congrArg Int32.toInt h94
    have h99 : 1 ≤ r91.toInt ∧ r91.toInt ≤ 40 := ⟨by omega, by omega⟩
    exact W.iret (v := r91) hx hb hr (fun t ht hW => ⟨⟨r91, F92, rfl, ⟨⟨by omega, by omega⟩, trivial, hI, hfr, fun k hk => (y_fiZ oY97 (s_sub (by decide) hk)).trans ((hz0 k hk).trans (y_fiZ oY0 (s_sub (by decide) hk)).symm), (by first | (rw [y_atE o2]; omega) | rw [y_atE o2])⟩, by rw [ht]; exact hP, va_K.moved hW.alike hK⟩, hS.F ht⟩) hS.2.2 dX7_meetOf_13
