set_option maxHeartbeats 4000000 in
set_option maxRecDepth 100000 in
theorem y_X7_begins (l : Launch) (dC : Nat → ClassId) (dI : Nat → Nat → Nat) (sz : Nat) {L : List Nat} {K : Nat → Nat} {cs : Nat → ClassId} (hLK : ∀ a {k : Nat}, K a = k → k ≠ 0 → a ∈ L) (A : Nat → Nat) (hA : y_A K A) (F : Nat → va_E) (a0 : Nat) (x1 : Int32) (ha0 : K a0 = 9) (hx1 : -1 ≤ x1.toInt ∧ x1.toInt ≤ 31) (hI : y_I K cs A F) (hPG : y_PG (y_at F (A 13))) (hmo : ((0 ≤ (y_c (y_at F (A 20)) 3).toInt ∧ (y_c (y_at F (A 20)) 3).toInt ≤ 1) ∧ (0 ≤ (y_c (y_at F (A 20)) 4).toInt ∧ (y_c (y_at F (A 20)) 4).toInt ≤ 1))) : Met l yX7_begins (Cond.code yX7_begins cX7_begins 5 none :: T0) ({ frames := 3, cells := 0, slots := 0, locals := 68 }) (va_Pc [.ref a0, .int x1] (s_W dC dI sz L F [(cs 0, .int), (cs 1, .byte), (cs 2, .long), (cs 3, .object RX5), (cs 4, .object RX4), (cs 5, .array .int), (cs 6, .char), (cs 7, .boolean)])) (va_Qv (fun (G : Nat → va_E) => True ∧ True ∧ y_I K cs A G ∧ (∀ b, K b ∉ [70] → G b = F b) ∧ (∀ k, k ∈ ([1, 2, 3, 4, 5, 6, 7, 8, 11, 15, 16, 19, 25, 26, 27, 31, 32] : List Nat) → y_fi G a0 k = y_fi F a0 k) ∧ (y_NG (y_at F (A 13)) (y_at G (A 20)))) (fun (G : Nat → va_E) (t : State) => va_P (dC, dI) vwCl (va_pl L G) t.heap ∧ va_K (dC, dI) vwCl [(cs 0, .int), (cs 1, .byte), (cs 2, .long), (cs 3, .object RX5), (cs 4, .object RX4), (cs 5, .array .int), (cs 6, .char), (cs 7, .boolean)] t) (fun q => q ∈ L)) 0 0 (fun q => q ∈ L) := by
  refine Met.ofW (cc := cX7_begins) (maxL := 5) (ret := none) (by decide) rfl ?_
  intro p e s m args below meth c s₁ B hml hv
  obtain ⟨rfl, hsz, hP, hK, hD, hN⟩ := hv
  have hx := B.exec
  have hb := B.bytes
  have hr := B.returns
  have hts : ∀ w ∈ T0, w.before _ s = true := fun w h => atoms_spec (ws := Cond.code yX7_begins cX7_begins 5 none :: T0) B.pre w (List.mem_cons_of_mem _ h)
  have hown : s.vm.findClass RX7 = some m.cls := findClass_of_methodNamed B.named
  have hlocks := B.notSynchronized
  have hS : va_S (fun q => q ∈ L) s.heap s.heap [] := va_S.rf
  have hfr : ∀ b, K b ∉ [70] → F b = F b := fun _ _ => rfl
  have hl := lv_entry ([.ref a0, .int x1]) (n := 5) (Nat.le_of_ble_eq_true rfl)
  rw [lg_entry_eq]
  generalize (lg_sl ([.ref a0, .int x1]) ++ List.replicate (5 - (lg_sl ([.ref a0, .int x1])).length) Slot.unset).toArray = ls at hl ⊢
  have hl : lv_has ls 5 [(0, .ref a0), (1, .int x1)] := hl
  refine s_gen hP hS (fun H locs hP hS => ?_)
  obtain ⟨z0, q0, oY0, bz0, bq0⟩ := y_opY hI ha0
  have hz0 : ∀ k, k ∈ ([1, 2, 3, 4, 5, 6, 7, 8, 11, 15, 16, 19, 25, 26, 27, 31, 32] : List Nat) → z0 k = z0 k := fun _ _ => rfl
  obtain ⟨f1, o2, b3⟩ := y_op13 hI
  obtain ⟨f4, o5, b6⟩ := y_op20 hI
  replace hPG : y_PG f1 := by have q9 := hPG; rw [y_atE o2] at q9; exact q9
  replace hmo : ((0 ≤ (y_c f4 3).toInt ∧ (y_c f4 3).toInt ≤ 1) ∧ (0 ≤ (y_c f4 4).toInt ∧ (y_c f4 4).toInt ≤ 1)) := by have q9 := hmo; rw [y_atE o5] at q9; exact q9
  have hL := y_P0L hPG.1
  have hW := y_P0W hPG.1
  refine lv_iconst (v := 0) hx hb dX7_begins_0 (by decide) ?_
  refine lv_istore_n (lv' := [(2, .int 0), (0, .ref a0), (1, .int x1)]) hx hb dX7_begins_1 rfl hl (by decide) rfl (fun ls hl => ?_)
  have h8 : (0 : Int32).toInt = 0 := by decide
  refine th_loop (fun n g H locs => ∃ (G : Nat → va_E) (ls : Array Slot) (w7 : Int32), g = F0 m 2 ls [] ∧ lv_has ls 5 [(0, .ref a0), (1, .int x1), (2, .int w7)] ∧ va_P (dC, dI) vwCl (va_pl L G) H ∧ va_S (fun q => q ∈ L) s.heap H locs ∧ y_I K cs A G ∧ (∀ b, K b ∉ [70] → G b = F b) ∧ (∀ k, k ∈ ([1, 2, 3, 4, 5, 6, 7, 8, 11, 15, 16, 19, 25, 26, 27, 31, 32] : List Nat) → y_fi G a0 k = z0 k) ∧ (0 ≤ w7.toInt ∧ w7.toInt ≤ 918) ∧ (-1 ≤ x1.toInt ∧ x1.toInt ≤ 31) ∧ (y_c (y_at G (A 20)) 3 = y_c f4 3) ∧ (y_c (y_at G (A 20)) 4 = y_c f4 4) ∧ (∀ j : Int, 0 ≤ j → j < w7.toInt → (j < 3 ∨ 5 < j) → y_c (y_at G (A 20)) j = 0) ∧ n = (919 - w7.toInt).toNat) _ ⟨F, _, 0, rfl, lv_sub hl [1, 2, 0] rfl, hP, hS, hI, hfr, (fun k hk => (y_fiZ oY0 (s_sub (by decide) hk)).trans (hz0 k hk)), (by decide), ⟨by omega, by omega⟩, (by first | (rw [y_atE o5]; exact rfl) | rw [y_atE o5]), (by first | (rw [y_atE o5]; exact rfl) | rw [y_atE o5]), (by rw [y_atE o5]; exact (fun j h0 h1 => absurd h1 (by omega))), rfl⟩ (fun n ih2 g H locs hq => ?_)
  obtain ⟨F14, ls, w7, rfl, hl, hP, hS, hI, hfr, hz0, h9, h10, h11, h12, h13, hn⟩ := hq
  have o15 : F14 (A 13) = .inl (cs 0, 400, .inl f1) := (hfr _ (by rw [(y_k13 hA)]; decide)).trans o2
  have oY16 : F14 a0 = .inr (7, y_fl A z0 q0) := (hfr _ (by rw [ha0]; decide)).trans oY0
  have hz0 : ∀ k, k ∈ ([1, 2, 3, 4, 5, 6, 7, 8, 11, 15, 16, 19, 25, 26, 27, 31, 32] : List Nat) → z0 k = z0 k := fun _ _ => rfl
  obtain ⟨f17, o18, b19⟩ := y_op20 hI
  replace h11 : (y_c f17 3 = y_c f4 3) := by have q9 := h11; rw [y_atE o18] at q9; exact q9
  replace h12 : (y_c f17 4 = y_c f4 4) := by have q9 := h12; rw [y_atE o18] at q9; exact q9
  replace h13 : (∀ j : Int, 0 ≤ j → j < w7.toInt → (j < 3 ∨ 5 < j) → y_c f17 j = 0) := by have q9 := h13; rw [y_atE o18] at q9; exact q9
  have hn_19 := hn
  refine lv_iload_n hx hb dX7_begins_2 rfl (lv_at hl 2 rfl) ?_
  refine lv_sipush (v := 918) hx hb dX7_begins_3 (by decide) ?_
  refine lv_icmp_ge (tgt := 32) hx hb dX7_begins_6 (by decide) (fun c20 => ?_) (fun c20 => ?_)
  · have c20 := (ax_ge (n := 918) (by decide)).mp c20
    refine lv_aload_n hx hb dX7_begins_32 rfl (lv_at hl 0 rfl) ?_
    refine th_get (D := (dC, dI)) (ci := 7) (v := .ref (A 20)) (C := RX7) (T := TX7) (N := 34) hx hb hts inX7 hown hK hP (hLK _ ha0 (by decide)) oY16 rfl 20 (by decide) (hts _ T_251) (fun _ h9 => h9) rfl dX7_begins_33 ?_
    refine lv_bipush (v := 6) hx hb dX7_begins_36 (by decide) ?_
    refine lv_iconst (v := (-1)) hx hb dX7_begins_38 (by decide) ?_
    refine th_iast hx hb hK hP hD hS (hLK _ (y_k20 hA) (by decide)) 0 o18 rfl (ax_in (by decide)) dX7_begins_39 (fun H locs hP hS => ?_)
    obtain ⟨f21, u22⟩ : ∃ g : Nat → Int32, g = upd f17 (6 : Int32).toNatClampNeg (-1) := ⟨_, rfl⟩
    rw [← u22] at hP
    have b23 : y_bd 20 f21 := trivial
    have hP : va_P (dC, dI) vwCl (va_pl L (va_up F14 (A 20) (.inl (cs 0, 918, .inl f21)))) H := hP
    obtain ⟨F24, hF25⟩ : ∃ G : Nat → va_E, G = va_up F14 (A 20) (.inl (cs 0, 918, .inl f21)) := ⟨_, rfl⟩
    rw [← hF25] at hP
    have hI : y_I K cs A F24 := by rw [hF25]; exact y_clA (i := 20) hA hI (by decide) b23
    have hfr : ∀ b, K b ∉ [70] → F24 b = F b := by rw [hF25]; exact s_fr hfr (y_k20 hA) (by decide)
    have o26 : F24 (A 13) = .inl (cs 0, 400, .inl f1) := by rw [hF25]; exact th_ne (th_kd (y_k13 hA) (y_k20 hA) (by decide)) o15
    have oY27 : F24 a0 = .inr (7, y_fl A z0 q0) := by rw [hF25]; exact th_ne (th_kd ha0 (y_k20 hA) (by decide)) oY16
    have o28 : F24 (A 20) = .inl (cs 0, 918, .inl f21) := by rw [hF25]; exact th_up
    have u29 : ∀ j : Int, 0 ≤ j → y_c f21 j = if j = 6 then (-1) else y_c f17 j := by rw [u22]; exact y_cu (by decide) (by decide)
    have k30x : y_c f21 3 = y_c f4 3 := by rw [u29 3 (by omega), if_neg (by omega)] <;> exact h11
    have k30y : y_c f21 4 = y_c f4 4 := by rw [u29 4 (by omega), if_neg (by omega)] <;> exact h12
    have hz7 : ∀ j : Int, 72 ≤ j → j < 918 → y_c f21 j = 0 := fun j h0 h1 => by rw [u29 j (by omega), if_neg (by omega)]; exact h13 j (by omega) (by omega) (by omega)
    have h67 : (y_c f21 6).toInt = -1 ∧ (y_c f21 7).toInt = 0 := ⟨by rw [u29 6 (by omega), if_pos (by omega)]; decide, by rw [u29 7 (by omega), if_neg (by omega), h13 7 (by omega) (by omega) (by omega)]; decide⟩
    refine lv_iconst (v := 0) hx hb dX7_begins_40 (by decide) ?_
    refine lv_istore_n (lv' := [(2, .int 0), (0, .ref a0), (1, .int x1)]) hx hb dX7_begins_41 rfl hl (by decide) rfl (fun ls hl => ?_)
    have h32 : (0 : Int32).toInt = 0 := by decide
    refine th_loop (fun n g H locs => ∃ (G : Nat → va_E) (ls : Array Slot) (w31 : Int32), g = F0 m 42 ls [] ∧ lv_has ls 5 [(0, .ref a0), (1, .int x1), (2, .int w31)] ∧ va_P (dC, dI) vwCl (va_pl L G) H ∧ va_S (fun q => q ∈ L) s.heap H locs ∧ y_I K cs A G ∧ (∀ b, K b ∉ [70] → G b = F b) ∧ (∀ k, k ∈ ([1, 2, 3, 4, 5, 6, 7, 8, 11, 15, 16, 19, 25, 26, 27, 31, 32] : List Nat) → y_fi G a0 k = z0 k) ∧ (0 ≤ w31.toInt ∧ w31.toInt ≤ 64) ∧ (-1 ≤ x1.toInt ∧ x1.toInt ≤ 31) ∧ (y_c (y_at G (A 20)) 3 = y_c f4 3) ∧ (y_c (y_at G (A 20)) 4 = y_c f4 4) ∧ (∀ j : Int, 72 ≤ j → j < 918 → y_c (y_at G (A 20)) j = 0) ∧ ((y_c (y_at G (A 20)) 6).toInt = -1 ∧ (y_c (y_at G (A 20)) 7).toInt = 0) ∧ n = (65 - w31.toInt).toNat) _ ⟨F24, _, 0, rfl, lv_sub hl [1, 2, 0] rfl, hP, hS, hI, hfr, (fun k hk => (y_fiZ oY27 (s_sub (by decide) hk)).trans (hz0 k hk)), (by decide), ⟨by omega, by omega⟩, (by rw [y_atE o28]; exact k30x), (by rw [y_atE o28]; exact k30y), (by rw [y_atE o28]; exact hz7), (by rw [y_atE o28]; exact h67), rfl⟩ (fun n ih42 g H locs hq => ?_)
    obtain ⟨F39, ls, w31, rfl, hl, hP, hS, hI, hfr, hz0, h33, h34, h35, h36, h37, h38, hn⟩ := hq
    have o40 : F39 (A 13) = .inl (cs 0, 400, .inl f1) := (hfr _ (by rw [(y_k13 hA)]; decide)).trans o2
    have oY41 : F39 a0 = .inr (7, y_fl A z0 q0) := (hfr _ (by rw [ha0]; decide)).trans oY0
    have hz0 : ∀ k, k ∈ ([1, 2, 3, 4, 5, 6, 7, 8, 11, 15, 16, 19, 25, 26, 27, 31, 32] : List Nat) → z0 k = z0 k := fun _ _ => rfl
    obtain ⟨f42, o43, b44⟩ := y_op20 hI
    replace h35 : (y_c f42 3 = y_c f4 3) := by have q9 := h35; rw [y_atE o43] at q9; exact q9
    replace h36 : (y_c f42 4 = y_c f4 4) := by have q9 := h36; rw [y_atE o43] at q9; exact q9
    replace h37 : (∀ j : Int, 72 ≤ j → j < 918 → y_c f42 j = 0) := by have q9 := h37; rw [y_atE o43] at q9; exact q9
    replace h38 : ((y_c f42 6).toInt = -1 ∧ (y_c f42 7).toInt = 0) := by have q9 := h38; rw [y_atE o43] at q9; exact q9
    have hn_44 := hn
    refine lv_iload_n hx hb dX7_begins_42 rfl (lv_at hl 2 rfl) ?_
    refine lv_bipush (v := 64) hx hb dX7_begins_43 (by decide) ?_
    refine lv_icmp_ge (tgt := 73) hx hb dX7_begins_45 (by decide) (fun c45 => ?_) (fun c45 => ?_)
    · have c45 := (ax_ge (n := 64) (by decide)).mp c45
      refine lv_iconst (v := 0) hx hb dX7_begins_73 (by decide) ?_
      refine lv_istore_n (lv' := [(2, .int 0), (0, .ref a0), (1, .int x1)]) hx hb dX7_begins_74 rfl hl (by decide) rfl (fun ls hl => ?_)
      have h47 : (0 : Int32).toInt = 0 := by decide
      refine th_loop (fun n g H locs => ∃ (G : Nat → va_E) (ls : Array Slot) (w46 : Int32), g = F0 m 75 ls [] ∧ lv_has ls 5 [(0, .ref a0), (1, .int x1), (2, .int w46)] ∧ va_P (dC, dI) vwCl (va_pl L G) H ∧ va_S (fun q => q ∈ L) s.heap H locs ∧ y_I K cs A G ∧ (∀ b, K b ∉ [70] → G b = F b) ∧ (∀ k, k ∈ ([1, 2, 3, 4, 5, 6, 7, 8, 11, 15, 16, 19, 25, 26, 27, 31, 32] : List Nat) → y_fi G a0 k = z0 k) ∧ (0 ≤ w46.toInt ∧ w46.toInt ≤ 4) ∧ (-1 ≤ x1.toInt ∧ x1.toInt ≤ 31) ∧ (y_c (y_at G (A 20)) 3 = y_c f4 3) ∧ (y_c (y_at G (A 20)) 4 = y_c f4 4) ∧ (y_BG f1 (y_at G (A 20)) w46.toInt) ∧ ((y_c (y_at G (A 20)) 6).toInt = -1 ∧ (y_c (y_at G (A 20)) 7).toInt = 0) ∧ n = (5 - w46.toInt).toNat) _ ⟨F39, _, 0, rfl, lv_sub hl [1, 2, 0] rfl, hP, hS, hI, hfr, (fun k hk => (y_fiZ oY41 (s_sub (by decide) hk)).trans (hz0 k hk)), (by decide), ⟨by omega, by omega⟩, (by rw [y_atE o43]; exact h35), (by rw [y_atE o43]; exact h36), (by rw [y_atE o43]; exact (by rw [show (0 : Int32).toInt = 0 by decide]; exact y_BG0 h37)), (by rw [y_atE o43]; exact h38), rfl⟩ (fun n ih75 g H locs hq => ?_)
      obtain ⟨F54, ls, w46, rfl, hl, hP, hS, hI, hfr, hz0, h48, h49, h50, h51, h52, h53, hn⟩ := hq
      have o55 : F54 (A 13) = .inl (cs 0, 400, .inl f1) := (hfr _ (by rw [(y_k13 hA)]; decide)).trans o2
      have oY56 : F54 a0 = .inr (7, y_fl A z0 q0) := (hfr _ (by rw [ha0]; decide)).trans oY0
      have hz0 : ∀ k, k ∈ ([1, 2, 3, 4, 5, 6, 7, 8, 11, 15, 16, 19, 25, 26, 27, 31, 32] : List Nat) → z0 k = z0 k := fun _ _ => rfl
      obtain ⟨f57, o58, b59⟩ := y_op20 hI
      replace h50 : (y_c f57 3 = y_c f4 3) := by have q9 := h50; rw [y_atE o58] at q9; exact q9
      replace h51 : (y_c f57 4 = y_c f4 4) := by have q9 := h51; rw [y_atE o58] at q9; exact q9
      replace h52 : (y_BG f1 f57 w46.toInt) := by have q9 := h52; rw [y_atE o58] at q9; exact q9
      replace h53 : ((y_c f57 6).toInt = -1 ∧ (y_c f57 7).toInt = 0) := by have q9 := h53; rw [y_atE o58] at q9; exact q9
      have hn_59 := hn
      refine th_join (fun g H locs => ∃ (G : Nat → va_E) (ls : Array Slot), g = F0 m 192 ls [] ∧ lv_has ls 5 [(0, .ref a0), (1, .int x1), (2, .int w46)] ∧ va_P (dC, dI) vwCl (va_pl L G) H ∧ va_S (fun q => q ∈ L) s.heap H locs ∧ y_I K cs A G ∧ (∀ b, K b ∉ [70] → G b = F b) ∧ (∀ k, k ∈ ([1, 2, 3, 4, 5, 6, 7, 8, 11, 15, 16, 19, 25, 26, 27, 31, 32] : List Nat) → y_fi G a0 k = z0 k) ∧ (-1 ≤ x1.toInt ∧ x1.toInt ≤ 31) ∧ (0 ≤ w46.toInt ∧ w46.toInt ≤ 3) ∧ (y_BG f1 (y_at G (A 20)) (w46.toInt + 1)) ∧ (y_fw w46.toInt f57 (y_at G (A 20)))) (fun K192 => ?_) ?_
      refine th_join (fun g H locs => ∃ (G : Nat → va_E) (ls : Array Slot) (w60 : Int32), g = F0 m 112 ls [.int w60] ∧ lv_has ls 5 [(0, .ref a0), (1, .int x1), (2, .int w46)] ∧ va_P (dC, dI) vwCl (va_pl L G) H ∧ va_S (fun q => q ∈ L) s.heap H locs ∧ y_I K cs A G ∧ (∀ b, K b ∉ [70] → G b = F b) ∧ (∀ k, k ∈ ([1, 2, 3, 4, 5, 6, 7, 8, 11, 15, 16, 19, 25, 26, 27, 31, 32] : List Nat) → y_fi G a0 k = z0 k) ∧ True ∧ (-1 ≤ x1.toInt ∧ x1.toInt ≤ 31) ∧ (0 ≤ w46.toInt ∧ w46.toInt ≤ 3) ∧ (y_8 w60) ∧ ((y_at G (A 20)) = f57)) (fun K112 => ?_) ?_
      · refine lv_iload_n hx hb dX7_begins_75 rfl (lv_at hl 2 rfl) ?_
        refine lv_aload_n hx hb dX7_begins_76 rfl (lv_at hl 0 rfl) ?_
        refine va_calli (va_runV (As := []) (rest := [.int w46]) ⟨hx, hb, hml, hown, hts⟩ (y_X7_warps l dC dI H.size hLK A hA F54 a0 ha0 hI) (cwV 0 hts (ax_gV T_993 T_995 T_996 T_265 T_994) rfl rfl rfl (by decide +kernel) ⟨Nat.le_of_ble_eq_true rfl, Nat.le_of_ble_eq_true rfl⟩) ⟨fun a U g mk q => ⟨q.1, s_pc (U := U) rfl rfl q.2⟩, s_recv hK hP (hLK _ ha0 (by decide)) (ci := 7) rfl oY56, fun U hU hW => ⟨rfl, s_pw hU hW hP hK hD hN⟩⟩ rfl rfl hl.1 rfl (lv_room (Nat.le_of_ble_eq_true rfl)) dX7_begins_77 ⟨Nat.zero_le _, Nat.zero_le _⟩) hS (fun q _ h => h) (fun q h => h) (fun r62 F63 t H1 locs ht hvm hw hB hz1 hk1 hS => ?_)
        obtain ⟨hP, hK1⟩ := hB
        rw [ht] at hP
        generalize H1 = H at hP hS ⊢
        clear hz1 hk1 hvm hK1
        obtain ⟨h64, h66, hI, hfr1, hzf, h65⟩ := hw
        have o67 : F63 (A 13) = .inl (cs 0, 400, .inl f1) := (hfr1 _ (by rw [(y_k13 hA)]; decide)).trans o55
        have o68 : F63 (A 20) = .inl (cs 0, 918, .inl f57) := (hfr1 _ (by rw [(y_k20 hA)]; decide)).trans o58
        have oY69 : F63 a0 = .inr (7, y_fl A z0 q0) := (hfr1 _ (by rw [ha0]; decide)).trans oY56
        have hfr : ∀ b, K b ∉ [70] → F63 b = F b := fun b hb9 => (hfr1 b (fun q => hb9 (s_sub (by decide) q))).trans (hfr b hb9)
        replace h65 : (r62 = y_c f1 384) := by have q9 := h65; rw [y_atE o55] at q9; exact q9
        have h70 := congrArg Int32.toInt h65
        have h71 : 1 ≤ r62.toInt ∧ r62.toInt ≤ 4 := ⟨by omega, by omega⟩
        refine lv_icmp_ge (tgt := 198) hx hb dX7_begins_80 (by decide) (fun c72 => ?_) (fun c72 => ?_)
        · have c72 := Int32.le_iff_toInt_le.mp c72
          exact W.vret hx hb hr (fun t ht hW => ⟨⟨F63, rfl, ⟨trivial, trivial, hI, hfr, fun k hk => (y_fiZ oY69 (s_sub (by decide) hk)).trans ((hz0 k hk).trans (y_fiZ oY0 (s_sub (by decide) hk)).symm), (by rw [y_atE o2, y_atE o68]; exact ⟨by rw [h50]; exact hmo.1, by rw [h51]; exact hmo.2, by have q9 := h53; omega, by have q9 := h53; omega, fun w9 h0 h1 => h52.1 w9 h0 (by omega)⟩)⟩, by rw [ht]; exact hP, va_K.moved hW.alike hK⟩, hS.F ht⟩) hS.2.2 dX7_begins_198
        · have c72 := mt Int32.le_iff_toInt_le.mpr c72
          refine lv_iload_n hx hb dX7_begins_83 rfl (lv_at hl 1 rfl) ?_
          refine lv_iconst (v := (-1)) hx hb dX7_begins_84 (by decide) ?_
          refine lv_icmp_ne (tgt := 94) hx hb dX7_begins_85 (by decide) (fun c73 => ?_) (fun c73 => ?_)
          · have c73 := mt (ax_eq (n := (-1)) (by decide)).mpr c73
            refine lv_iload_n hx hb dX7_begins_94 rfl (lv_at hl 1 rfl) ?_
            refine lv_bipush (v := 8) hx hb dX7_begins_95 (by decide) ?_
            refine lv_idiv hx hb dX7_begins_97 (by decide) ?_
            refine lv_topi (fun v74 ev74 => ?_)
            have qv74 : v74.toInt = x1.toInt / 8 := by rw [ev74]; exact th_div rfl (by decide) (by omega) (by decide)
            have h75 : 0 ≤ v74.toInt ∧ v74.toInt ≤ 3 := ⟨by omega, by omega⟩
            refine lv_iload_n hx hb dX7_begins_98 rfl (lv_at hl 2 rfl) ?_
            refine lv_icmp_ne (tgt := 111) hx hb dX7_begins_99 (by decide) (fun c76 => ?_) (fun c76 => ?_)
            · have c76 := mt Int32.toInt_inj.symm.mpr c76
              refine lv_iconst (v := 0) hx hb dX7_begins_111 (by decide) ?_
              have h77 : (0 : Int32).toInt = 0 := by decide
              exact K112 _ _ _ ⟨F63, _, 0, rfl, lv_sub hl [0, 1, 2] rfl, hP, hS, hI, hfr, (fun k hk => (y_fiZ oY69 (s_sub (by decide) hk)).trans (hz0 k hk)), trivial, ⟨by omega, by omega⟩, ⟨by omega, by omega⟩, (show (y_8 0) from (fun i _ => b_0 i)), (by first | (rw [y_atE o68]; exact rfl) | rw [y_atE o68])⟩
            · have c76 := Int32.toInt_inj.symm.mp c76
              refine lv_iconst (v := 1) hx hb dX7_begins_102 (by decide) ?_
              refine lv_iload_n hx hb dX7_begins_103 rfl (lv_at hl 1 rfl) ?_
              refine lv_bipush (v := 8) hx hb dX7_begins_104 (by decide) ?_
              refine lv_irem hx hb dX7_begins_106 (by decide) ?_
              refine lv_topi (fun v78 ev78 => ?_)
              have qv78 : v78.toInt = x1.toInt % 8 := by rw [ev78]; exact th_rem rfl (by decide) (by omega) (by decide)
              have h79 : 0 ≤ v78.toInt ∧ v78.toInt ≤ 7 := ⟨by omega, by omega⟩
              refine lv_ishl hx hb dX7_begins_107 ?_
              refine lv_topi (fun v80 ev80 => ?_)
              refine lv_goto (tgt := 112) hx hb dX7_begins_108 (by decide) ?_
              exact K112 _ _ _ ⟨F63, _, v80, rfl, lv_sub hl [0, 1, 2] rfl, hP, hS, hI, hfr, (fun k hk => (y_fiZ oY69 (s_sub (by decide) hk)).trans (hz0 k hk)), trivial, ⟨by omega, by omega⟩, ⟨by omega, by omega⟩, (show (y_8 v80) from (by rw [ev80]; exact y_8b ⟨by omega, by omega⟩)), (by first | (rw [y_atE o68]; exact rfl) | rw [y_atE o68])⟩
          · have c73 := (ax_eq (n := (-1)) (by decide)).mp c73
            refine lv_sipush (v := 255) hx hb dX7_begins_88 (by decide) ?_
            refine lv_goto (tgt := 112) hx hb dX7_begins_91 (by decide) ?_
            have h81 : (255 : Int32).toInt = 255 := by decide
            exact K112 _ _ _ ⟨F63, _, 255, rfl, lv_sub hl [0, 1, 2] rfl, hP, hS, hI, hfr, (fun k hk => (y_fiZ oY69 (s_sub (by decide) hk)).trans (hz0 k hk)), trivial, ⟨by omega, by omega⟩, ⟨by omega, by omega⟩, (show (y_8 255) from y_255), (by first | (rw [y_atE o68]; exact rfl) | rw [y_atE o68])⟩
      · intro g H locs hq
        obtain ⟨F87, ls, w60, rfl, hl, hP, hS, hI, hfr, hz0, h82, h83, h84, h85, h86⟩ := hq
        have o88 : F87 (A 13) = .inl (cs 0, 400, .inl f1) := (hfr _ (by rw [(y_k13 hA)]; decide)).trans o2
        have oY89 : F87 a0 = .inr (7, y_fl A z0 q0) := (hfr _ (by rw [ha0]; decide)).trans oY0
        have hz0 : ∀ k, k ∈ ([1, 2, 3, 4, 5, 6, 7, 8, 11, 15, 16, 19, 25, 26, 27, 31, 32] : List Nat) → z0 k = z0 k := fun _ _ => rfl
        obtain ⟨f90, o91, b92⟩ := y_op20 hI
        replace h86 : (f90 = f57) := by have q9 := h86; rw [y_atE o91] at q9; exact q9
        refine lv_istore_n (lv' := [(3, .int w60), (0, .ref a0), (1, .int x1), (2, .int w46)]) hx hb dX7_begins_112 rfl hl (by decide) rfl (fun ls hl => ?_)
        refine lv_aload_n hx hb dX7_begins_113 rfl (lv_at hl 1 rfl) ?_
        refine th_get (D := (dC, dI)) (ci := 7) (v := .ref (A 20)) (C := RX7) (T := TX7) (N := 34) hx hb hts inX7 hown hK hP (hLK _ ha0 (by decide)) oY89 rfl 20 (by decide) (hts _ T_251) (fun _ h9 => h9) rfl dX7_begins_114 ?_
        refine lv_iload_n hx hb dX7_begins_117 rfl (lv_at hl 3 rfl) ?_
        refine lv_iconst (v := 3) hx hb dX7_begins_118 (by decide) ?_
        have rg93 : 0 ≤ w46.toInt ∧ w46.toInt ≤ 3 := ⟨by omega, by omega⟩
        refine va_calli (va_runS (As := [.int w46, .int 3]) (rest := [.ref (A 20)]) ⟨hx, hb, hml, hown, hts⟩ (y_X7_warpAt l dC dI H.size F87 w46 3 rg93 (by decide)) (cwS 2 hts (ax_gS T_1021 T_1023 T_265 T_1022) rfl rfl rfl (by decide +kernel) ⟨Nat.le_of_ble_eq_true rfl, Nat.le_of_ble_eq_true rfl⟩) ⟨fun a U g mk q => ⟨q.1, s_pc (U := U) rfl rfl q.2⟩, fun U hU hW => ⟨rfl, s_pw hU hW hP hK hD hN⟩⟩ rfl rfl hl.1 rfl (lv_room (Nat.le_of_ble_eq_true rfl)) dX7_begins_119 ⟨Nat.zero_le _, Nat.zero_le _⟩) hS (fun q _ h => h) (fun q h => h) (fun r95 F96 t H1 locs ht hvm hw hB hz1 hk1 hS => ?_)
        obtain ⟨hP, hK1⟩ := hB
        rw [ht] at hP
        generalize H1 = H at hP hS ⊢
        clear hz1 hk1 hvm hK1
        obtain ⟨h97, h99, hG9, h98⟩ := hw
        rw [hG9] at hP
        replace h98 : (r95.toInt = 104 + 6 * w46.toInt + 3) := by have q9 := h98; exact q9
        refine lv_iload_n hx hb dX7_begins_122 rfl (lv_at hl 0 rfl) ?_
        refine th_iast hx hb hK hP hD hS (hLK _ (y_k20 hA) (by decide)) 0 o91 rfl (th_in ⟨by omega, by omega⟩) dX7_begins_123 (fun H locs hP hS => ?_)
        obtain ⟨f100, u101⟩ : ∃ g : Nat → Int32, g = upd f90 (r95 : Int32).toNatClampNeg w60 := ⟨_, rfl⟩
        rw [← u101] at hP
        have b102 : y_bd 20 f100 := trivial
        have hP : va_P (dC, dI) vwCl (va_pl L (va_up F87 (A 20) (.inl (cs 0, 918, .inl f100)))) H := hP
        obtain ⟨F103, hF104⟩ : ∃ G : Nat → va_E, G = va_up F87 (A 20) (.inl (cs 0, 918, .inl f100)) := ⟨_, rfl⟩
        rw [← hF104] at hP
        have hI : y_I K cs A F103 := by rw [hF104]; exact y_clA (i := 20) hA hI (by decide) b102
        have hfr : ∀ b, K b ∉ [70] → F103 b = F b := by rw [hF104]; exact s_fr hfr (y_k20 hA) (by decide)
        have o105 : F103 (A 13) = .inl (cs 0, 400, .inl f1) := by rw [hF104]; exact th_ne (th_kd (y_k13 hA) (y_k20 hA) (by decide)) o88
        have oY106 : F103 a0 = .inr (7, y_fl A z0 q0) := by rw [hF104]; exact th_ne (th_kd ha0 (y_k20 hA) (by decide)) oY89
        have o107 : F103 (A 20) = .inl (cs 0, 918, .inl f100) := by rw [hF104]; exact th_up
        have u108 : ∀ j : Int, 0 ≤ j → y_c f100 j = if j = r95.toInt then w60 else y_c f90 j := by rw [u101]; exact y_cu rfl (by omega)
        rw [h86] at u108
        obtain ⟨hbn, hbf⟩ := y_BN0 (L := (y_c f1 387).toInt) ⟨by omega, by omega⟩ h52 u108 (by omega)
        refine lv_iconst (v := 0) hx hb dX7_begins_124 (by decide) ?_
        refine lv_istore (lv' := [(4, .int 0), (3, .int w60), (0, .ref a0), (1, .int x1), (2, .int w46)]) hx hb dX7_begins_125 hl (by decide) rfl (fun ls hl => ?_)
        have h110 : (0 : Int32).toInt = 0 := by decide
        refine th_loop (fun n g H locs => ∃ (G : Nat → va_E) (ls : Array Slot) (w109 : Int32), g = F0 m 127 ls [] ∧ lv_has ls 5 [(0, .ref a0), (1, .int x1), (2, .int w46), (3, .int w60), (4, .int w109)] ∧ va_P (dC, dI) vwCl (va_pl L G) H ∧ va_S (fun q => q ∈ L) s.heap H locs ∧ y_I K cs A G ∧ (∀ b, K b ∉ [70] → G b = F b) ∧ (∀ k, k ∈ ([1, 2, 3, 4, 5, 6, 7, 8, 11, 15, 16, 19, 25, 26, 27, 31, 32] : List Nat) → y_fi G a0 k = z0 k) ∧ (0 ≤ w109.toInt ∧ w109.toInt ≤ 8) ∧ (-1 ≤ x1.toInt ∧ x1.toInt ≤ 31) ∧ (0 ≤ w46.toInt ∧ w46.toInt ≤ 3) ∧ (y_BN (y_at G (A 20)) w46.toInt w109.toInt (y_c f1 387).toInt w60) ∧ (y_fw w46.toInt f57 (y_at G (A 20))) ∧ n = (9 - w109.toInt).toNat) _ ⟨F103, _, 0, rfl, lv_sub hl [2, 3, 4, 1, 0] rfl, hP, hS, hI, hfr, (fun k hk => (y_fiZ oY106 (s_sub (by decide) hk)).trans (hz0 k hk)), (by decide), ⟨by omega, by omega⟩, ⟨by omega, by omega⟩, (by rw [y_atE o107]; exact (by rw [show (0 : Int32).toInt = 0 by decide]; exact hbn)), (by rw [y_atE o107]; exact hbf), rfl⟩ (fun n ih127 g H locs hq => ?_)
        obtain ⟨F116, ls, w109, rfl, hl, hP, hS, hI, hfr, hz0, h111, h112, h113, h114, h115, hn⟩ := hq
        have o117 : F116 (A 13) = .inl (cs 0, 400, .inl f1) := (hfr _ (by rw [(y_k13 hA)]; decide)).trans o2
        have oY118 : F116 a0 = .inr (7, y_fl A z0 q0) := (hfr _ (by rw [ha0]; decide)).trans oY0
        have hz0 : ∀ k, k ∈ ([1, 2, 3, 4, 5, 6, 7, 8, 11, 15, 16, 19, 25, 26, 27, 31, 32] : List Nat) → z0 k = z0 k := fun _ _ => rfl
        obtain ⟨f119, o120, b121⟩ := y_op20 hI
        replace h114 : (y_BN f119 w46.toInt w109.toInt (y_c f1 387).toInt w60) := by have q9 := h114; rw [y_atE o120] at q9; exact q9
        replace h115 : (y_fw w46.toInt f57 f119) := by have q9 := h115; rw [y_atE o120] at q9; exact q9
        have hn_121 := hn
        refine lv_iload hx hb dX7_begins_127 (lv_at hl 4 rfl) ?_
        refine lv_bipush (v := 8) hx hb dX7_begins_129 (by decide) ?_
        refine lv_icmp_ge (tgt := 168) hx hb dX7_begins_131 (by decide) (fun c122 => ?_) (fun c122 => ?_)
        · have c122 := (ax_ge (n := 8) (by decide)).mp c122
          have hb8 : y_BN f119 w46.toInt 8 (y_c f1 387).toInt w60 := by have q9 := h114; rw [show w109.toInt = 8 by omega] at q9; exact q9
          have hf8 := h115
          have h83 := congrArg Int32.toInt ((y_fw3 (by omega) hf8).trans h50)
          refine lv_aload_n hx hb dX7_begins_168 rfl (lv_at hl 0 rfl) ?_
          refine th_get (D := (dC, dI)) (ci := 7) (v := .ref (A 20)) (C := RX7) (T := TX7) (N := 34) hx hb hts inX7 hown hK hP (hLK _ ha0 (by decide)) oY118 rfl 20 (by decide) (hts _ T_251) (fun _ h9 => h9) rfl dX7_begins_169 ?_
          refine lv_iconst (v := 3) hx hb dX7_begins_172 (by decide) ?_
          refine th_iald hx hb hK hP (hLK _ (y_k20 hA) (by decide)) 0 o120 rfl (ax_in (by decide)) dX7_begins_173 ?_
          refine lv_topi (fun v123 ev123 => ?_)
          have Ev123 : v123 = y_c f119 (3) := ev123.trans (y_ci (by decide))
          have tEv123 := congrArg Int32.toInt Ev123
          refine lv_if_ne (tgt := 192) hx hb dX7_begins_174 (by decide) (fun c124 => ?_) (fun c124 => ?_)
          · have c124 := mt (ax_eq (n := 0) (by decide)).mpr c124
            have hnw9 := y_BNf h85 (by omega) hb8
            exact K192 _ _ _ ⟨F116, _, rfl, lv_sub hl [0, 1, 2] rfl, hP, hS, hI, hfr, (fun k hk => (y_fiZ oY118 (s_sub (by decide) hk)).trans (hz0 k hk)), ⟨by omega, by omega⟩, ⟨by omega, by omega⟩, (by rw [y_atE o120]; exact y_BGs ⟨by omega, by omega⟩ h52 hf8 hnw9), (by rw [y_atE o120]; exact hf8)⟩
          · have c124 := (ax_eq (n := 0) (by decide)).mp c124
            refine lv_iload_n hx hb dX7_begins_177 rfl (lv_at hl 3 rfl) ?_
            refine lv_if_eq (tgt := 192) hx hb dX7_begins_178 (by decide) (fun c125 => ?_) (fun c125 => ?_)
            · have c125 := (ax_eq (n := 0) (by decide)).mp c125
              have hnw9 := y_BNz (f := f119) (L := (y_c f1 387).toInt) (by omega) (by have q9 := hb8; rw [y_z32 c125] at q9; exact q9)
              exact K192 _ _ _ ⟨F116, _, rfl, lv_sub hl [0, 1, 2] rfl, hP, hS, hI, hfr, (fun k hk => (y_fiZ oY118 (s_sub (by decide) hk)).trans (hz0 k hk)), ⟨by omega, by omega⟩, ⟨by omega, by omega⟩, (by rw [y_atE o120]; exact y_BGs ⟨by omega, by omega⟩ h52 hf8 hnw9), (by rw [y_atE o120]; exact hf8)⟩
            · have c125 := mt (ax_eq (n := 0) (by decide)).mpr c125
              refine lv_aload_n hx hb dX7_begins_181 rfl (lv_at hl 0 rfl) ?_
              refine lv_iload_n hx hb dX7_begins_182 rfl (lv_at hl 2 rfl) ?_
              refine lv_iconst (v := 0) hx hb dX7_begins_183 (by decide) ?_
              refine lv_aload_n hx hb dX7_begins_184 rfl (lv_at hl 0 rfl) ?_
              refine va_calli (va_runV (As := []) (rest := [.int 0, .int w46, .ref a0]) ⟨hx, hb, hml, hown, hts⟩ (y_X7_lines l dC dI H.size hLK A hA F116 a0 ha0 hI) (cwV 0 hts (ax_gV T_1030 T_1032 T_1033 T_265 T_1031) rfl rfl rfl (by decide +kernel) ⟨Nat.le_of_ble_eq_true rfl, Nat.le_of_ble_eq_true rfl⟩) ⟨fun a U g mk q => ⟨q.1, s_pc (U := U) rfl rfl q.2⟩, s_recv hK hP (hLK _ ha0 (by decide)) (ci := 7) rfl oY118, fun U hU hW => ⟨rfl, s_pw hU hW hP hK hD hN⟩⟩ rfl rfl hl.1 rfl (lv_room (Nat.le_of_ble_eq_true rfl)) dX7_begins_185 ⟨Nat.zero_le _, Nat.zero_le _⟩) hS (fun q _ h => h) (fun q h => h) (fun r127 F128 t H1 locs ht hvm hw hB hz1 hk1 hS => ?_)
              obtain ⟨hP, hK1⟩ := hB
              rw [ht] at hP
              generalize H1 = H at hP hS ⊢
              clear hz1 hk1 hvm hK1
              obtain ⟨h129, h131, hI, hfr1, hzf, h130⟩ := hw
              have o132 : F128 (A 13) = .inl (cs 0, 400, .inl f1) := (hfr1 _ (by rw [(y_k13 hA)]; decide)).trans o117
              have o133 : F128 (A 20) = .inl (cs 0, 918, .inl f119) := (hfr1 _ (by rw [(y_k20 hA)]; decide)).trans o120
              have oY134 : F128 a0 = .inr (7, y_fl A z0 q0) := (hfr1 _ (by rw [ha0]; decide)).trans oY118
              have hfr : ∀ b, K b ∉ [70] → F128 b = F b := fun b hb9 => (hfr1 b (fun q => hb9 (s_sub (by decide) q))).trans (hfr b hb9)
              replace h130 : (r127 = y_c f1 387) := by have q9 := h130; rw [y_atE o117] at q9; exact q9
              have h135 := congrArg Int32.toInt h130
              have h136 : 1 ≤ r127.toInt ∧ r127.toInt ≤ 40 := ⟨by omega, by omega⟩
              refine lv_iload_n hx hb dX7_begins_188 rfl (lv_at hl 3 rfl) ?_
              refine va_callv (va_runV (As := [.int w46, .int 0, .int r127, .int w60]) (rest := []) ⟨hx, hb, hml, hown, hts⟩ (y_X7_pushes l dC dI H.size hLK A hA F128 a0 w46 0 r127 w60 ha0 rg93 hI (by rw [y_atE o133]; rw [hb8.2.2.2.1]; decide)) (cwV 4 hts (ax_gV T_1034 T_1036 T_1037 T_265 T_1035) rfl rfl rfl (by decide +kernel) ⟨Nat.le_of_ble_eq_true rfl, Nat.le_of_ble_eq_true rfl⟩) ⟨fun a U g mk q => ⟨q.1, s_pc (U := U) rfl rfl q.2⟩, s_recv hK hP (hLK _ ha0 (by decide)) (ci := 7) rfl oY134, fun U hU hW => ⟨rfl, s_pw hU hW hP hK hD hN⟩⟩ rfl rfl hl.1 rfl (lv_room (Nat.le_of_ble_eq_true rfl)) dX7_begins_189 ⟨Nat.zero_le _, Nat.zero_le _⟩) hS (fun q _ h => h) (fun q h => h) (fun F138 t H1 locs ht hvm hw hB hz1 hk1 hS => ?_)
              obtain ⟨hP, hK1⟩ := hB
              rw [ht] at hP
              generalize H1 = H at hP hS ⊢
              clear hz1 hk1 hvm hK1
              obtain ⟨h139, h141, hI, hfr1, hzf, h140⟩ := hw
              have o142 : F138 (A 13) = .inl (cs 0, 400, .inl f1) := (hfr1 _ (by rw [(y_k13 hA)]; decide)).trans o132
              have oY143 : F138 a0 = .inr (7, y_fl A z0 q0) := (hfr1 _ (by rw [ha0]; decide)).trans oY134
              have hfr : ∀ b, K b ∉ [70] → F138 b = F b := fun b hb9 => (hfr1 b (fun q => hb9 (s_sub (by decide) q))).trans (hfr b hb9)
              obtain ⟨f144, o145, b146⟩ := y_op20 hI
              replace h140 : (∀ j : Int, 0 ≤ j → y_c f144 j = y_psh f119 w46.toInt 0 r127 w60 j) := by have q9 := h140; rw [y_atE o145, y_atE o133] at q9; exact q9
              have h00 : (0 : Int32).toInt = 0 := by decide
              obtain ⟨hnw9, hfp9⟩ := y_BNp (L := (y_c f1 387).toInt) ⟨by omega, by omega⟩ h85 (by omega) hb8 (by omega) (by decide) h140
              exact K192 _ _ _ ⟨F138, _, rfl, lv_sub hl [0, 1, 2] rfl, hP, hS, hI, hfr, (fun k hk => (y_fiZ oY143 (s_sub (by decide) hk)).trans (hz0 k hk)), ⟨by omega, by omega⟩, ⟨by omega, by omega⟩, (by rw [y_atE o145]; exact y_BGs ⟨by omega, by omega⟩ h52 (y_fw_t hf8 hfp9) hnw9), (by rw [y_atE o145]; exact (y_fw_t hf8 hfp9))⟩
        · have c122 := mt (ax_ge (n := 8) (by decide)).mpr c122
          refine lv_aload_n hx hb dX7_begins_134 rfl (lv_at hl 0 rfl) ?_
          refine th_get (D := (dC, dI)) (ci := 7) (v := .ref (A 20)) (C := RX7) (T := TX7) (N := 34) hx hb hts inX7 hown hK hP (hLK _ ha0 (by decide)) oY118 rfl 20 (by decide) (hts _ T_251) (fun _ h9 => h9) rfl dX7_begins_135 ?_
          refine lv_iload_n hx hb dX7_begins_138 rfl (lv_at hl 2 rfl) ?_
          refine lv_iload hx hb dX7_begins_139 (lv_at hl 4 rfl) ?_
          have rg147 : 0 ≤ w109.toInt ∧ w109.toInt ≤ 7 := ⟨by omega, by omega⟩
          refine va_calli (va_runS (As := [.int w46, .int w109]) (rest := [.ref (A 20)]) ⟨hx, hb, hml, hown, hts⟩ (y_X7_nextAt l dC dI H.size F116 w46 w109 rg93 rg147) (cwS 2 hts (ax_gS T_1024 T_1026 T_265 T_1025) rfl rfl rfl (by decide +kernel) ⟨Nat.le_of_ble_eq_true rfl, Nat.le_of_ble_eq_true rfl⟩) ⟨fun a U g mk q => ⟨q.1, s_pc (U := U) rfl rfl q.2⟩, fun U hU hW => ⟨rfl, s_pw hU hW hP hK hD hN⟩⟩ rfl rfl hl.1 rfl (lv_room (Nat.le_of_ble_eq_true rfl)) dX7_begins_141 ⟨Nat.zero_le _, Nat.zero_le _⟩) hS (fun q _ h => h) (fun q h => h) (fun r149 F150 t H1 locs ht hvm hw hB hz1 hk1 hS => ?_)
          obtain ⟨hP, hK1⟩ := hB
          rw [ht] at hP
          generalize H1 = H at hP hS ⊢
          clear hz1 hk1 hvm hK1
          obtain ⟨h151, h153, hG9, h152⟩ := hw
          rw [hG9] at hP
          replace h152 : (r149.toInt = 256 + 8 * w46.toInt + w109.toInt) := by have q9 := h152; exact q9
          refine lv_iload_n hx hb dX7_begins_144 rfl (lv_at hl 3 rfl) ?_
          refine lv_iload hx hb dX7_begins_145 (lv_at hl 4 rfl) ?_
          have rg154 : 0 ≤ w109.toInt ∧ w109.toInt ≤ 31 := ⟨by omega, by omega⟩
          refine va_calli (va_runS (As := [.int w60, .int w109]) (rest := [.int r149, .ref (A 20)]) ⟨hx, hb, hml, hown, hts⟩ (y_X7_isOf l dC dI H.size F116 w60 w109 rg154) (cwS 2 hts (ax_gS T_1027 T_1029 T_265 T_1028) rfl rfl rfl (by decide +kernel) ⟨Nat.le_of_ble_eq_true rfl, Nat.le_of_ble_eq_true rfl⟩) ⟨fun a U g mk q => ⟨q.1, s_pc (U := U) rfl rfl q.2⟩, fun U hU hW => ⟨rfl, s_pw hU hW hP hK hD hN⟩⟩ rfl rfl hl.1 rfl (lv_room (Nat.le_of_ble_eq_true rfl)) dX7_begins_147 ⟨Nat.zero_le _, Nat.zero_le _⟩) hS (fun q _ h => h) (fun q h => h) (fun r156 F157 t H1 locs ht hvm hw hB hz1 hk1 hS => ?_)
          obtain ⟨hP, hK1⟩ := hB
          rw [ht] at hP
          generalize H1 = H at hP hS ⊢
          clear hz1 hk1 hvm hK1
          obtain ⟨h158, h160, hG9, h159⟩ := hw
          rw [hG9] at hP
          replace h159 : ((r156.toInt = 1 ∧ bt w60 w109.toInt.toNat = true) ∨ (r156.toInt = 0 ∧ bt w60 w109.toInt.toNat = false)) := by have q9 := h159; exact q9
          refine lv_if_eq (tgt := 157) hx hb dX7_begins_150 (by decide) (fun c161 => ?_) (fun c161 => ?_)
          · have c161 := (ax_eq (n := 0) (by decide)).mp c161
            have hbk := y_bF h159 c161
            refine lv_aload_n hx hb dX7_begins_157 rfl (lv_at hl 0 rfl) ?_
            refine va_calli (va_runV (As := []) (rest := [.int r149, .ref (A 20)]) ⟨hx, hb, hml, hown, hts⟩ (y_X7_lines l dC dI H.size hLK A hA F116 a0 ha0 hI) (cwV 0 hts (ax_gV T_1030 T_1032 T_1033 T_265 T_1031) rfl rfl rfl (by decide +kernel) ⟨Nat.le_of_ble_eq_true rfl, Nat.le_of_ble_eq_true rfl⟩) ⟨fun a U g mk q => ⟨q.1, s_pc (U := U) rfl rfl q.2⟩, s_recv hK hP (hLK _ ha0 (by decide)) (ci := 7) rfl oY118, fun U hU hW => ⟨rfl, s_pw hU hW hP hK hD hN⟩⟩ rfl rfl hl.1 rfl (lv_room (Nat.le_of_ble_eq_true rfl)) dX7_begins_158 ⟨Nat.zero_le _, Nat.zero_le _⟩) hS (fun q _ h => h) (fun q h => h) (fun r163 F164 t H1 locs ht hvm hw hB hz1 hk1 hS => ?_)
            obtain ⟨hP, hK1⟩ := hB
            rw [ht] at hP
            generalize H1 = H at hP hS ⊢
            clear hz1 hk1 hvm hK1
            obtain ⟨h165, h167, hI, hfr1, hzf, h166⟩ := hw
            have o168 : F164 (A 13) = .inl (cs 0, 400, .inl f1) := (hfr1 _ (by rw [(y_k13 hA)]; decide)).trans o117
            have o169 : F164 (A 20) = .inl (cs 0, 918, .inl f119) := (hfr1 _ (by rw [(y_k20 hA)]; decide)).trans o120
            have oY170 : F164 a0 = .inr (7, y_fl A z0 q0) := (hfr1 _ (by rw [ha0]; decide)).trans oY118
            have hfr : ∀ b, K b ∉ [70] → F164 b = F b := fun b hb9 => (hfr1 b (fun q => hb9 (s_sub (by decide) q))).trans (hfr b hb9)
            replace h166 : (r163 = y_c f1 387) := by have q9 := h166; rw [y_atE o117] at q9; exact q9
            have h171 := congrArg Int32.toInt h166
            have h172 : 1 ≤ r163.toInt ∧ r163.toInt ≤ 40 := ⟨by omega, by omega⟩
            refine th_iast hx hb hK hP hD hS (hLK _ (y_k20 hA) (by decide)) 0 o169 rfl (th_in ⟨by omega, by omega⟩) dX7_begins_161 (fun H locs hP hS => ?_)
            obtain ⟨f173, u174⟩ : ∃ g : Nat → Int32, g = upd f119 (r149 : Int32).toNatClampNeg r163 := ⟨_, rfl⟩
            rw [← u174] at hP
            have b175 : y_bd 20 f173 := trivial
            have hP : va_P (dC, dI) vwCl (va_pl L (va_up F164 (A 20) (.inl (cs 0, 918, .inl f173)))) H := hP
            obtain ⟨F176, hF177⟩ : ∃ G : Nat → va_E, G = va_up F164 (A 20) (.inl (cs 0, 918, .inl f173)) := ⟨_, rfl⟩
            rw [← hF177] at hP
            have hI : y_I K cs A F176 := by rw [hF177]; exact y_clA (i := 20) hA hI (by decide) b175
            have hfr : ∀ b, K b ∉ [70] → F176 b = F b := by rw [hF177]; exact s_fr hfr (y_k20 hA) (by decide)
            have o178 : F176 (A 13) = .inl (cs 0, 400, .inl f1) := by rw [hF177]; exact th_ne (th_kd (y_k13 hA) (y_k20 hA) (by decide)) o168
            have oY179 : F176 a0 = .inr (7, y_fl A z0 q0) := by rw [hF177]; exact th_ne (th_kd ha0 (y_k20 hA) (by decide)) oY170
            have o180 : F176 (A 20) = .inl (cs 0, 918, .inl f173) := by rw [hF177]; exact th_up
            have u181 : ∀ j : Int, 0 ≤ j → y_c f173 j = if j = r149.toInt then r163 else y_c f119 j := by rw [u174]; exact y_cu rfl (by omega)
            obtain ⟨k182a, k182b⟩ := y_BNs ⟨by omega, by omega⟩ ⟨by omega, by omega⟩ h114 u181 (by omega) ⟨⟨by omega, by omega⟩, fun q => by rw [hbk] at q; cases q⟩
            obtain ⟨v183, ev183⟩ : ∃ y : Int32, w109 + 1 = y := ⟨_, rfl⟩
            have qv183 : v183.toInt = w109.toInt + 1 := by rw [← ev183]; exact th_add rfl (by decide) ⟨by omega, by omega⟩
            refine lv_iinc (v := v183) (lv' := [(4, .int v183), (0, .ref a0), (1, .int x1), (2, .int w46), (3, .int w60)]) hx hb dX7_begins_162 hl (k := 4) rfl ev183 (by decide) rfl (fun ls hl => ?_)
            refine lv_goto (tgt := 127) hx hb dX7_begins_165 (by decide) ?_
            exact ih127 _ _ _ _ (by omega) ⟨F176, _, v183, rfl, lv_sub hl [1, 2, 3, 4, 0] rfl, hP, hS, hI, hfr, (fun k hk => (y_fiZ oY179 (s_sub (by decide) hk)).trans (hz0 k hk)), ⟨by omega, by omega⟩, ⟨by omega, by omega⟩, ⟨by omega, by omega⟩, (by rw [y_atE o180]; exact (by rw [show v183.toInt = w109.toInt + 1 by omega]; exact k182a)), (by rw [y_atE o180]; exact (y_fw_t h115 k182b)), rfl⟩
          · have c161 := mt (ax_eq (n := 0) (by decide)).mpr c161
            have hbk := y_bT h159 c161
            refine lv_iconst (v := 0) hx hb dX7_begins_153 (by decide) ?_
            refine lv_goto (tgt := 161) hx hb dX7_begins_154 (by decide) ?_
            refine th_iast hx hb hK hP hD hS (hLK _ (y_k20 hA) (by decide)) 0 o120 rfl (th_in ⟨by omega, by omega⟩) dX7_begins_161 (fun H locs hP hS => ?_)
            obtain ⟨f184, u185⟩ : ∃ g : Nat → Int32, g = upd f119 (r149 : Int32).toNatClampNeg 0 := ⟨_, rfl⟩
            rw [← u185] at hP
            have b186 : y_bd 20 f184 := trivial
            have hP : va_P (dC, dI) vwCl (va_pl L (va_up F116 (A 20) (.inl (cs 0, 918, .inl f184)))) H := hP
            obtain ⟨F187, hF188⟩ : ∃ G : Nat → va_E, G = va_up F116 (A 20) (.inl (cs 0, 918, .inl f184)) := ⟨_, rfl⟩
            rw [← hF188] at hP
            have hI : y_I K cs A F187 := by rw [hF188]; exact y_clA (i := 20) hA hI (by decide) b186
            have hfr : ∀ b, K b ∉ [70] → F187 b = F b := by rw [hF188]; exact s_fr hfr (y_k20 hA) (by decide)
            have o189 : F187 (A 13) = .inl (cs 0, 400, .inl f1) := by rw [hF188]; exact th_ne (th_kd (y_k13 hA) (y_k20 hA) (by decide)) o117
            have oY190 : F187 a0 = .inr (7, y_fl A z0 q0) := by rw [hF188]; exact th_ne (th_kd ha0 (y_k20 hA) (by decide)) oY118
            have o191 : F187 (A 20) = .inl (cs 0, 918, .inl f184) := by rw [hF188]; exact th_up
            have u192 : ∀ j : Int, 0 ≤ j → y_c f184 j = if j = r149.toInt then 0 else y_c f119 j := by rw [u185]; exact y_cu rfl (by omega)
            have h00 : (0 : Int32).toInt = 0 := by decide
            obtain ⟨k193a, k193b⟩ := y_BNs ⟨by omega, by omega⟩ ⟨by omega, by omega⟩ h114 u192 (by omega) ⟨⟨by omega, by omega⟩, fun _ => by omega⟩
            obtain ⟨v194, ev194⟩ : ∃ y : Int32, w109 + 1 = y := ⟨_, rfl⟩
            have qv194 : v194.toInt = w109.toInt + 1 := by rw [← ev194]; exact th_add rfl (by decide) ⟨by omega, by omega⟩
            refine lv_iinc (v := v194) (lv' := [(4, .int v194), (0, .ref a0), (1, .int x1), (2, .int w46), (3, .int w60)]) hx hb dX7_begins_162 hl (k := 4) rfl ev194 (by decide) rfl (fun ls hl => ?_)
            refine lv_goto (tgt := 127) hx hb dX7_begins_165 (by decide) ?_
            exact ih127 _ _ _ _ (by omega) ⟨F187, _, v194, rfl, lv_sub hl [1, 2, 3, 4, 0] rfl, hP, hS, hI, hfr, (fun k hk => (y_fiZ oY190 (s_sub (by decide) hk)).trans (hz0 k hk)), ⟨by omega, by omega⟩, ⟨by omega, by omega⟩, ⟨by omega, by omega⟩, (by rw [y_atE o191]; exact (by rw [show v194.toInt = w109.toInt + 1 by omega]; exact k193a)), (by rw [y_atE o191]; exact (y_fw_t h115 k193b)), rfl⟩
      · intro g H locs hq
        obtain ⟨F199, ls, rfl, hl, hP, hS, hI, hfr, hz0, h195, h196, h197, h198⟩ := hq
        have o200 : F199 (A 13) = .inl (cs 0, 400, .inl f1) := (hfr _ (by rw [(y_k13 hA)]; decide)).trans o2
        have oY201 : F199 a0 = .inr (7, y_fl A z0 q0) := (hfr _ (by rw [ha0]; decide)).trans oY0
        have hz0 : ∀ k, k ∈ ([1, 2, 3, 4, 5, 6, 7, 8, 11, 15, 16, 19, 25, 26, 27, 31, 32] : List Nat) → z0 k = z0 k := fun _ _ => rfl
        obtain ⟨f202, o203, b204⟩ := y_op20 hI
        replace h197 : (y_BG f1 f202 (w46.toInt + 1)) := by have q9 := h197; rw [y_atE o203] at q9; exact q9
        replace h198 : (y_fw w46.toInt f57 f202) := by have q9 := h198; rw [y_atE o203] at q9; exact q9
        obtain ⟨v205, ev205⟩ : ∃ y : Int32, w46 + 1 = y := ⟨_, rfl⟩
        have qv205 : v205.toInt = w46.toInt + 1 := by rw [← ev205]; exact th_add rfl (by decide) ⟨by omega, by omega⟩
        refine lv_iinc (v := v205) (lv' := [(2, .int v205), (0, .ref a0), (1, .int x1)]) hx hb dX7_begins_192 hl (k := 2) rfl ev205 (by decide) rfl (fun ls hl => ?_)
        refine lv_goto (tgt := 75) hx hb dX7_begins_195 (by decide) ?_
        exact ih75 _ _ _ _ (by omega) ⟨F199, _, v205, rfl, lv_sub hl [1, 2, 0] rfl, hP, hS, hI, hfr, (fun k hk => (y_fiZ oY201 (s_sub (by decide) hk)).trans (hz0 k hk)), ⟨by omega, by omega⟩, ⟨by omega, by omega⟩, (by rw [y_atE o203]; exact ((y_fw3 (by omega) h198).trans h50)), (by rw [y_atE o203]; exact ((h198 4 (by omega) (by omega) (by omega) (by omega)).trans h51)), (by rw [y_atE o203]; exact (by rw [show v205.toInt = w46.toInt + 1 by omega]; exact h197)), (by rw [y_atE o203]; exact (by rw [h198 6 (by omega) (by omega) (by omega) (by omega), h198 7 (by omega) (by omega) (by omega) (by omega)]; exact h53)), rfl⟩
    · have c45 := mt (ax_ge (n := 64) (by decide)).mpr c45
      refine lv_aload_n hx hb dX7_begins_48 rfl (lv_at hl 0 rfl) ?_
      refine th_get (D := (dC, dI)) (ci := 7) (v := .ref (A 20)) (C := RX7) (T := TX7) (N := 34) hx hb hts inX7 hown hK hP (hLK _ ha0 (by decide)) oY41 rfl 20 (by decide) (hts _ T_251) (fun _ h9 => h9) rfl dX7_begins_49 ?_
      refine lv_bipush (v := 8) hx hb dX7_begins_52 (by decide) ?_
      refine lv_iload_n hx hb dX7_begins_54 rfl (lv_at hl 2 rfl) ?_
      refine lv_iadd hx hb dX7_begins_55 ?_
      refine lv_topi (fun v206 ev206 => ?_)
      have qv206 : v206.toInt = 8 + w31.toInt := by rw [ev206]; exact th_add (by decide) rfl ⟨by omega, by omega⟩
      refine lv_aload_n hx hb dX7_begins_56 rfl (lv_at hl 0 rfl) ?_
      refine th_get (D := (dC, dI)) (ci := 7) (v := .ref (A 13)) (C := RX7) (T := TX7) (N := 34) hx hb hts inX7 hown hK hP (hLK _ ha0 (by decide)) oY41 rfl 13 (by decide) (hts _ T_246) (fun _ h9 => h9) rfl dX7_begins_57 ?_
      refine lv_sipush (v := 320) hx hb dX7_begins_60 (by decide) ?_
      refine lv_iload_n hx hb dX7_begins_63 rfl (lv_at hl 2 rfl) ?_
      refine lv_iadd hx hb dX7_begins_64 ?_
      refine lv_topi (fun v207 ev207 => ?_)
      have qv207 : v207.toInt = 320 + w31.toInt := by rw [ev207]; exact th_add (by decide) rfl ⟨by omega, by omega⟩
      refine th_iald hx hb hK hP (hLK _ (y_k13 hA) (by decide)) 0 o40 rfl (th_in ⟨by omega, by omega⟩) dX7_begins_65 ?_
      refine lv_topi (fun v208 ev208 => ?_)
      refine th_iast hx hb hK hP hD hS (hLK _ (y_k20 hA) (by decide)) 0 o43 rfl (th_in ⟨by omega, by omega⟩) dX7_begins_66 (fun H locs hP hS => ?_)
      obtain ⟨f209, u210⟩ : ∃ g : Nat → Int32, g = upd f42 (v206 : Int32).toNatClampNeg v208 := ⟨_, rfl⟩
      rw [← u210] at hP
      have b211 : y_bd 20 f209 := trivial
      have hP : va_P (dC, dI) vwCl (va_pl L (va_up F39 (A 20) (.inl (cs 0, 918, .inl f209)))) H := hP
      obtain ⟨F212, hF213⟩ : ∃ G : Nat → va_E, G = va_up F39 (A 20) (.inl (cs 0, 918, .inl f209)) := ⟨_, rfl⟩
      rw [← hF213] at hP
      have hI : y_I K cs A F212 := by rw [hF213]; exact y_clA (i := 20) hA hI (by decide) b211
      have hfr : ∀ b, K b ∉ [70] → F212 b = F b := by rw [hF213]; exact s_fr hfr (y_k20 hA) (by decide)
      have o214 : F212 (A 13) = .inl (cs 0, 400, .inl f1) := by rw [hF213]; exact th_ne (th_kd (y_k13 hA) (y_k20 hA) (by decide)) o40
      have oY215 : F212 a0 = .inr (7, y_fl A z0 q0) := by rw [hF213]; exact th_ne (th_kd ha0 (y_k20 hA) (by decide)) oY41
      have o216 : F212 (A 20) = .inl (cs 0, 918, .inl f209) := by rw [hF213]; exact th_up
      have u217 : ∀ j : Int, 0 ≤ j → y_c f209 j = if j = v206.toInt then v208 else y_c f42 j := by rw [u210]; exact y_cu rfl (by omega)
      have k218x : y_c f209 3 = y_c f4 3 := by rw [u217 3 (by omega), if_neg (by omega)] <;> exact h35
      have k218y : y_c f209 4 = y_c f4 4 := by rw [u217 4 (by omega), if_neg (by omega)] <;> exact h36
      have k219a : ∀ j : Int, 72 ≤ j → j < 918 → y_c f209 j = 0 := fun j h0 h1 => by rw [u217 j (by omega), if_neg (by omega)]; exact h37 j h0 h1
      have k219b : (y_c f209 6).toInt = -1 ∧ (y_c f209 7).toInt = 0 := ⟨by rw [u217 6 (by omega), if_neg (by omega)]; exact h38.1, by rw [u217 7 (by omega), if_neg (by omega)]; exact h38.2⟩
      obtain ⟨v220, ev220⟩ : ∃ y : Int32, w31 + 1 = y := ⟨_, rfl⟩
      have qv220 : v220.toInt = w31.toInt + 1 := by rw [← ev220]; exact th_add rfl (by decide) ⟨by omega, by omega⟩
      refine lv_iinc (v := v220) (lv' := [(2, .int v220), (0, .ref a0), (1, .int x1)]) hx hb dX7_begins_67 hl (k := 2) rfl ev220 (by decide) rfl (fun ls hl => ?_)
      refine lv_goto (tgt := 42) hx hb dX7_begins_70 (by decide) ?_
      exact ih42 _ _ _ _ (by omega) ⟨F212, _, v220, rfl, lv_sub hl [1, 2, 0] rfl, hP, hS, hI, hfr, (fun k hk => (y_fiZ oY215 (s_sub (by decide) hk)).trans (hz0 k hk)), ⟨by omega, by omega⟩, ⟨by omega, by omega⟩, (by rw [y_atE o216]; exact k218x), (by rw [y_atE o216]; exact k218y), (by rw [y_atE o216]; exact k219a), (by rw [y_atE o216]; exact k219b), rfl⟩
  · have c20 := mt (ax_ge (n := 918) (by decide)).mpr c20
    refine lv_iload_n hx hb dX7_begins_9 rfl (lv_at hl 2 rfl) ?_
    refine lv_iconst (v := 3) hx hb dX7_begins_10 (by decide) ?_
    refine lv_icmp_lt (tgt := 19) hx hb dX7_begins_11 (by decide) (fun c221 => ?_) (fun c221 => ?_)
    · have c221 := (ax_lt (n := 3) (by decide)).mp c221
      refine lv_aload_n hx hb dX7_begins_19 rfl (lv_at hl 0 rfl) ?_
      refine th_get (D := (dC, dI)) (ci := 7) (v := .ref (A 20)) (C := RX7) (T := TX7) (N := 34) hx hb hts inX7 hown hK hP (hLK _ ha0 (by decide)) oY16 rfl 20 (by decide) (hts _ T_251) (fun _ h9 => h9) rfl dX7_begins_20 ?_
      refine lv_iload_n hx hb dX7_begins_23 rfl (lv_at hl 2 rfl) ?_
      refine lv_iconst (v := 0) hx hb dX7_begins_24 (by decide) ?_
      refine th_iast hx hb hK hP hD hS (hLK _ (y_k20 hA) (by decide)) 0 o18 rfl (th_in ⟨by omega, by omega⟩) dX7_begins_25 (fun H locs hP hS => ?_)
      obtain ⟨f222, u223⟩ : ∃ g : Nat → Int32, g = upd f17 (w7 : Int32).toNatClampNeg 0 := ⟨_, rfl⟩
      rw [← u223] at hP
      have b224 : y_bd 20 f222 := trivial
      have hP : va_P (dC, dI) vwCl (va_pl L (va_up F14 (A 20) (.inl (cs 0, 918, .inl f222)))) H := hP
      obtain ⟨F225, hF226⟩ : ∃ G : Nat → va_E, G = va_up F14 (A 20) (.inl (cs 0, 918, .inl f222)) := ⟨_, rfl⟩
      rw [← hF226] at hP
      have hI : y_I K cs A F225 := by rw [hF226]; exact y_clA (i := 20) hA hI (by decide) b224
      have hfr : ∀ b, K b ∉ [70] → F225 b = F b := by rw [hF226]; exact s_fr hfr (y_k20 hA) (by decide)
      have o227 : F225 (A 13) = .inl (cs 0, 400, .inl f1) := by rw [hF226]; exact th_ne (th_kd (y_k13 hA) (y_k20 hA) (by decide)) o15
      have oY228 : F225 a0 = .inr (7, y_fl A z0 q0) := by rw [hF226]; exact th_ne (th_kd ha0 (y_k20 hA) (by decide)) oY16
      have o229 : F225 (A 20) = .inl (cs 0, 918, .inl f222) := by rw [hF226]; exact th_up
      have u230 : ∀ j : Int, 0 ≤ j → y_c f222 j = if j = w7.toInt then 0 else y_c f17 j := by rw [u223]; exact y_cu rfl (by omega)
      have k231x : y_c f222 3 = y_c f4 3 := by rw [u230 3 (by omega), if_neg (by omega)] <;> exact h11
      have k231y : y_c f222 4 = y_c f4 4 := by rw [u230 4 (by omega), if_neg (by omega)] <;> exact h12
      obtain ⟨v232, ev232⟩ : ∃ y : Int32, w7 + 1 = y := ⟨_, rfl⟩
      have qv232 : v232.toInt = w7.toInt + 1 := by rw [← ev232]; exact th_add rfl (by decide) ⟨by omega, by omega⟩
      refine lv_iinc (v := v232) (lv' := [(2, .int v232), (0, .ref a0), (1, .int x1)]) hx hb dX7_begins_26 hl (k := 2) rfl ev232 (by decide) rfl (fun ls hl => ?_)
      refine lv_goto (tgt := 2) hx hb dX7_begins_29 (by decide) ?_
      exact ih2 _ _ _ _ (by omega) ⟨F225, _, v232, rfl, lv_sub hl [1, 2, 0] rfl, hP, hS, hI, hfr, (fun k hk => (y_fiZ oY228 (s_sub (by decide) hk)).trans (hz0 k hk)), ⟨by omega, by omega⟩, ⟨by omega, by omega⟩, (by rw [y_atE o229]; exact k231x), (by rw [y_atE o229]; exact k231y), (by rw [y_atE o229]; exact (fun j h0 h1 h2 => by rw [u230 j h0]; split; exact rfl; exact h13 j h0 (by omega) h2)), rfl⟩
    · have c221 := mt (ax_lt (n := 3) (by decide)).mpr c221
      refine lv_iload_n hx hb dX7_begins_14 rfl (lv_at hl 2 rfl) ?_
      refine lv_iconst (v := 5) hx hb dX7_begins_15 (by decide) ?_
      refine lv_icmp_le (tgt := 26) hx hb dX7_begins_16 (by decide) (fun c233 => ?_) (fun c233 => ?_)
      · have c233 := (ax_le (n := 5) (by decide)).mp c233
        obtain ⟨v234, ev234⟩ : ∃ y : Int32, w7 + 1 = y := ⟨_, rfl⟩
        have qv234 : v234.toInt = w7.toInt + 1 := by rw [← ev234]; exact th_add rfl (by decide) ⟨by omega, by omega⟩
        refine lv_iinc (v := v234) (lv' := [(2, .int v234), (0, .ref a0), (1, .int x1)]) hx hb dX7_begins_26 hl (k := 2) rfl ev234 (by decide) rfl (fun ls hl => ?_)
        refine lv_goto (tgt := 2) hx hb dX7_begins_29 (by decide) ?_
        exact ih2 _ _ _ _ (by omega) ⟨F14, _, v234, rfl, lv_sub hl [1, 2, 0] rfl, hP, hS, hI, hfr, (fun k hk => (y_fiZ oY16 (s_sub (by decide) hk)).trans (hz0 k hk)), ⟨by omega, by omega⟩, ⟨by omega, by omega⟩, (by rw [y_atE o18]; exact h11), (by rw [y_atE o18]; exact h12), (by rw [y_atE o18]; exact (fun j h0 h1 h2 => h13 j h0 (by omega) h2)), rfl⟩
      · have c233 := mt (ax_le (n := 5) (by decide)).mpr c233
        refine lv_aload_n hx hb dX7_begins_19 rfl (lv_at hl 0 rfl) ?_
        refine th_get (D := (dC, dI)) (ci := 7) (v := .ref (A 20)) (C := RX7) (T := TX7) (N := 34) hx hb hts inX7 hown hK hP (hLK _ ha0 (by decide)) oY16 rfl 20 (by decide) (hts _ T_251) (fun _ h9 => h9) rfl dX7_begins_20 ?_
        refine lv_iload_n hx hb dX7_begins_23 rfl (lv_at hl 2 rfl) ?_
        refine lv_iconst (v := 0) hx hb dX7_begins_24 (by decide) ?_
        refine th_iast hx hb hK hP hD hS (hLK _ (y_k20 hA) (by decide)) 0 o18 rfl (th_in ⟨by omega, by omega⟩) dX7_begins_25 (fun H locs hP hS => ?_)
        obtain ⟨f235, u236⟩ : ∃ g : Nat → Int32, g = upd f17 (w7 : Int32).toNatClampNeg 0 := ⟨_, rfl⟩
        rw [← u236] at hP
        have b237 : y_bd 20 f235 := trivial
        have hP : va_P (dC, dI) vwCl (va_pl L (va_up F14 (A 20) (.inl (cs 0, 918, .inl f235)))) H := hP
        obtain ⟨F238, hF239⟩ : ∃ G : Nat → va_E, G = va_up F14 (A 20) (.inl (cs 0, 918, .inl f235)) := ⟨_, rfl⟩
        rw [← hF239] at hP
        have hI : y_I K cs A F238 := by rw [hF239]; exact y_clA (i := 20) hA hI (by decide) b237
        have hfr : ∀ b, K b ∉ [70] → F238 b = F b := by rw [hF239]; exact s_fr hfr (y_k20 hA) (by decide)
        have o240 : F238 (A 13) = .inl (cs 0, 400, .inl f1) := by rw [hF239]; exact th_ne (th_kd (y_k13 hA) (y_k20 hA) (by decide)) o15
        have oY241 : F238 a0 = .inr (7, y_fl A z0 q0) := by rw [hF239]; exact th_ne (th_kd ha0 (y_k20 hA) (by decide)) oY16
        have o242 : F238 (A 20) = .inl (cs 0, 918, .inl f235) := by rw [hF239]; exact th_up
        have u243 : ∀ j : Int, 0 ≤ j → y_c f235 j = if j = w7.toInt then 0 else y_c f17 j := by rw [u236]; exact y_cu rfl (by omega)
        have k244x : y_c f235 3 = y_c f4 3 := by rw [u243 3 (by omega), if_neg (by omega)] <;> exact h11
        have k244y : y_c f235 4 = y_c f4 4 := by rw [u243 4 (by omega), if_neg (by omega)] <;> exact h12
        obtain ⟨v245, ev245⟩ : ∃ y : Int32, w7 + 1 = y := ⟨_, rfl⟩
        have qv245 : v245.toInt = w7.toInt + 1 := by rw [← ev245]; exact th_add rfl (by decide) ⟨by omega, by omega⟩
        refine lv_iinc (v := v245) (lv' := [(2, .int v245), (0, .ref a0), (1, .int x1)]) hx hb dX7_begins_26 hl (k := 2) rfl ev245 (by decide) rfl (fun ls hl => ?_)
        refine lv_goto (tgt := 2) hx hb dX7_begins_29 (by decide) ?_
        exact ih2 _ _ _ _ (by omega) ⟨F238, _, v245, rfl, lv_sub hl [1, 2, 0] rfl, hP, hS, hI, hfr, (fun k hk => (y_fiZ oY241 (s_sub (by decide) hk)).trans (hz0 k hk)), ⟨by omega, by omega⟩, ⟨by omega, by omega⟩, (by rw [y_atE o242]; exact k244x), (by rw [y_atE o242]; exact k244y), (by rw [y_atE o242]; exact (fun j h0 h1 h2 => by rw [u243 j h0]; split; exact rfl; exact h13 j h0 (by omega) h2)), rfl⟩
