set_option maxHeartbeats 4000000 in
set_option maxRecDepth 100000 in
theorem y_X7_begins (l : Launch) (dC : Nat → ClassId) (dI : Nat → Nat → Nat) (sz : Nat) {L : List Nat} {K : Nat → Nat} {cs : Nat → ClassId} (hLK : ∀ a {k : Nat}, K a = k → k ≠ 0 → a ∈ L) (A : Nat → Nat) (hA : y_A K A) (F : Nat → va_E) (a0 : Nat) (x1 : Int32) (ha0 : K a0 = 9) (hx1 : -1 ≤ x1.toInt ∧ x1.toInt ≤ 31) (hI : y_I K cs A F) (hPG : y_PG (y_at F (A 13))) (hmo : ((0 ≤ (y_c (y_at F (A 20)) 3).toInt ∧ (y_c (y_at F (A 20)) 3).toInt ≤ 1) ∧ (0 ≤ (y_c (y_at F (A 20)) 4).toInt ∧ (y_c (y_at F (A 20)) 4).toInt ≤ 1))) : Met l yX7_begins (Cond.code yX7_begins cX7_begins 5 none :: T0) ({ frames := 3, cells := 0, slots := 0, locals := 68 }) (va_Pc [.ref a0, .int x1] (s_W dC dI sz L F [(cs 0, .int), (cs 1, .byte), (cs 2, .long), (cs 3, .object RX5), (cs 4, .object RX4), (cs 5, .array .int), (cs 6, .char), (cs 7, .boolean)])) (va_Qv (fun (G : Nat → va_E) => True ∧ True ∧ y_I K cs A G ∧ (∀ b, K b ∉ [70] → G b = F b) ∧ (∀ k, k ∈ ([1, 2, 3, 4, 5, 6, 7, 8, 11, 15, 16, 19, 25, 26, 27, 31, 32] : List Nat) → y_fi G a0 k = y_fi F a0 k) ∧ (y_NG (y_at F (A 13)) (y_at G (A 20)))) (fun (G : Nat → va_E) (t : State) => va_P (dC, dI) vwCl (va_pl L G) t.heap ∧ va_K (dC, dI) vwCl [(cs 0, .int), (cs 1, .byte), (cs 2, .long), (cs 3, .object RX5), (cs 4, .object RX4), (cs 5, .array .int), (cs 6, .char), (cs 7, .boolean)] t) (fun q => q ∈ L)) 0 0 (fun q => q ∈ L) := by
  refine Met.ofW (cc := cX7_begins) (maxL := 5) (ret := none) (by decide) rfl ?_
  intro p e s m args below meth c s₁ B hml hv
  obtain ⟨rfl, hsz, hP, hK, hD, hN⟩ := hv
  have hx := B.exec
  have hb := B.bytes
  have hr := B.returns
  have hts : ∀ w ∈ T0, w.before _ s = true := fun w h => atoms_spec (ws := Cond.code yX7_begins cX7_begins 5 none :: T0) B.pre w (List.mem_cons_of_mem _ h)
  have hown : s.vm.findClass RX7 = some m.cls := findClass_of_methodNamed B.named
  have hlocks := B.notSynchronized
  have hS : va_S (fun q => q ∈ L) s.heap s.heap [] := va_S.rf
  have hfr : ∀ b, K b ∉ [70] → F b = F b := fun _ _ => rfl
  have hl := lv_entry ([.ref a0, .int x1]) (n := 5) (Nat.le_of_ble_eq_true rfl)
  rw [lg_entry_eq]
  generalize (lg_sl ([.ref a0, .int x1]) ++ List.replicate (5 - (lg_sl ([.ref a0, .int x1])).length) Slot.unset).toArray = ls at hl ⊢
  have hl : lv_has ls 5 [(0, .ref a0), (1, .int x1)] := hl
  refine s_gen hP hS (fun H locs hP hS => ?_)
  obtain ⟨z0, q0, oY0, bz0, bq0⟩ := y_opY hI ha0
  have hz0 : ∀ k, k ∈ ([1, 2, 3, 4, 5, 6, 7, 8, 11, 15, 16, 19, 25, 26, 27, 31, 32] : List Nat) → z0 k = z0 k := fun _ _ => rfl
  obtain ⟨f1, o2, b3⟩ := y_op13 hI
  obtain ⟨f4, o5, b6⟩ := y_op20 hI
  have hPG : y_PG f1 := by have q9 := hPG; rw [y_atE o2] at q9; exact q9
  have hmo : ((0 ≤ (y_c f4 3).toInt ∧ (y_c f4 3).toInt ≤ 1) ∧ (0 ≤ (y_c f4 4).toInt ∧ (y_c f4 4).toInt ≤ 1)) := by have q9 := hmo; rw [y_atE o5] at q9; exact q9
  have hL := y_P0L hPG.1
  have hW := y_P0W hPG.1
  refine lv_iconst (v := 0) hx hb dX7_begins_0 (by decide) ?_
  refine lv_istore_n (lv' := [(2, .int 0), (0, .ref a0), (1, .int x1)]) hx hb dX7_begins_1 rfl hl (by decide) rfl (fun ls hl => ?_)
  have h8 : (0 : Int32).toInt = 0 := by decide
  refine th_loop (fun n g H locs => ∃ (G : Nat → va_E) (ls : Array Slot) (w7 : Int32), g = F0 m 2 ls [] ∧ lv_has ls 5 [(0, .ref a0), (1, .int x1), (2, .int w7)] ∧ va_P (dC, dI) vwCl (va_pl L G) H ∧ va_S (fun q => q ∈ L) s.heap H locs ∧ y_I K cs A G ∧ (∀ b, K b ∉ [70] → G b = F b) ∧ (∀ k, k ∈ ([1, 2, 3, 4, 5, 6, 7, 8, 11, 15, 16, 19, 25, 26, 27, 31, 32] : List Nat) → y_fi G a0 k = z0 k) ∧ (0 ≤ w7.toInt ∧ w7.toInt ≤ 918) ∧ (-1 ≤ x1.toInt ∧ x1.toInt ≤ 31) ∧ (y_c (y_at G (A 20)) 3 = y_c f4 3) ∧ (y_c (y_at G (A 20)) 4 = y_c f4 4) ∧ (∀ j : Int, 0 ≤ j → j < w7.toInt → (j < 3 ∨ 5 < j) → y_c (y_at G (A 20)) j = 0) ∧ n = (919 - w7.toInt).toNat) _ ⟨F, _, 0, rfl, lv_sub hl [1, 2, 0] rfl, hP, hS, hI, hfr, (fun k hk => (y_fiZ oY0 (s_sub (by decide) hk)).trans (hz0 k hk)), (by decide), ⟨by omega, by omega⟩, (by first | (rw [y_atE o5]; exact rfl) | rw [y_atE o5]), (by first | (rw [y_atE o5]; exact rfl) | rw [y_atE o5]), (by rw [y_atE o5]; exact (fun j h0 h1 => absurd h1 (by omega))), rfl⟩ (fun n ih2 g H locs hq => ?_)
  obtain ⟨F14, ls, w7, rfl, hl, hP, hS, hI, hfr, hz0, h9, h10, h11, h12, h13, hn⟩ := hq
  have o15 : F14 (A 13) = .inl (cs 0, 400, .inl f1) := (hfr _ (by rw [(y_k13 hA)]; decide)).trans o2
  have oY16 : F14 a0 = .inr (7, y_fl A z0 q0) := (hfr _ (by rw [ha0]; decide)).trans oY0
  have hz0 : ∀ k, k ∈ ([1, 2, 3, 4, 5, 6, 7, 8, 11, 15, 16, 19, 25, 26, 27, 31, 32] : List Nat) → z0 k = z0 k := fun _ _ => rfl
  obtain ⟨f17, o18, b19⟩ := y_op20 hI
  have h11 : (y_c f17 3 = y_c f4 3) := by have q9 := h11; rw [y_atE o18] at q9; exact q9
  have h12 : (y_c f17 4 = y_c f4 4) := by have q9 := h12; rw [y_atE o18] at q9; exact q9
  have h13 : (∀ j : Int, 0 ≤ j → j < w7.toInt → (j < 3 ∨ 5 < j) → y_c f17 j = 0) := by have q9 := h13; rw [y_atE o18] at q9; exact q9
  have hn_19 := hn
  refine lv_iload_n hx hb dX7_begins_2 rfl (lv_at hl 2 rfl) ?_
  refine lv_sipush (v := 918) hx hb dX7_begins_3 (by decide) ?_
  refine lv_icmp_ge (tgt := 32) hx hb dX7_begins_6 (by decide) (fun c20 => ?_) (fun c20 => ?_)
  · have c20 := (ax_ge (n := 918) (by decide)).mp c20
    refine lv_aload_n hx hb dX7_begins_32 rfl (lv_at hl 0 rfl) ?_
    refine th_get (D := (dC, dI)) (ci := 7) (v := .ref (A 20)) (C := RX7) (T := TX7) (N := 34) hx hb hts inX7 hown hK hP (hLK _ ha0 (by decide)) oY16 rfl 20 (by decide) (hts _ T_251) (fun _ h9 => h9) rfl dX7_begins_33 ?_
    refine lv_bipush (v := 6) hx hb dX7_begins_36 (by decide) ?_
    refine lv_iconst (v := (-1)) hx hb dX7_begins_38 (by decide) ?_
    refine th_iast hx hb hK hP hD hS (hLK _ (y_k20 hA) (by decide)) 0 o18 rfl (ax_in (by decide)) dX7_begins_39 (fun H locs hP hS => ?_)
    obtain ⟨f21, u22⟩ : ∃ g : Nat → Int32, g = upd f17 (6 : Int32).toNatClampNeg (-1) := ⟨_, rfl⟩
    rw [← u22] at hP
    have b23 : y_bd 20 f21 := trivial
    have hP : va_P (dC, dI) vwCl (va_pl L (va_up F14 (A 20) (.inl (cs 0, 918, .inl f21)))) H := hP
    obtain ⟨F24, hF25⟩ : ∃ G : Nat → va_E, G = va_up F14 (A 20) (.inl (cs 0, 918, .inl f21)) := ⟨_, rfl⟩
    rw [← hF25] at hP
    have hI : y_I K cs A F24 := by rw [hF25]; exact y_clA (i := 20) hA hI (by decide) b23
    have hfr : ∀ b, K b ∉ [70] → F24 b = F b := by rw [hF25]; exact s_fr hfr (y_k20 hA) (by decide)
    have o26 : F24 (A 13) = .inl (cs 0, 400, .inl f1) := by rw [hF25]; exact th_ne (th_kd (y_k13 hA) (y_k20 hA) (by decide)) o15
    have oY27 : F24 a0 = .inr (7, y_fl A z0 q0) := by rw [hF25]; exact th_ne (th_kd ha0 (y_k20 hA) (by decide)) oY16
    have o28 : F24 (A 20) = .inl (cs 0, 918, .inl f21) := by rw [hF25]; exact th_up
    have u29 : ∀ j : Int, 0 ≤ j → y_c f21 j = if j = 6 then (-1) else y_c f17 j := by rw [u22]; exact y_cu (by decide) (by decide)
    have k30x : y_c f21 3 = y_c f4 3 := by rw [u29 3 (by omega), if_neg (by omega)]; exact h11
    have k30y : y_c f21 4 = y_c f4 4 := by rw [u29 4 (by omega), if_neg (by omega)]; exact h12
    have hz7 : ∀ j : Int, 72 ≤ j → j < 918 → y_c f21 j = 0 := fun j h0 h1 => by rw [u29 j (by omega), if_neg (by omega)]; exact h13 j (by omega) (by omega) (by omega)
    have h67 : (y_c f21 6).toInt = -1 ∧ (y_c f21 7).toInt = 0 := ⟨by rw [u29 6 (by omega), if_pos (by omega)]; decide, by rw [u29 7 (by omega), if_neg (by omega), h13 7 (by omega) (by omega) (by omega)]; decide⟩
    refine lv_iconst (v := 0) hx hb dX7_begins_40 (by decide) ?_
    refine lv_istore_n (lv' := [(2, .int 0), (0, .ref a0), (1, .int x1)]) hx hb dX7_begins_41 rfl hl (by decide) rfl (fun ls hl => ?_)
    have h32 : (0 : Int32).toInt = 0 := by decide
    refine th_loop (fun n g H locs => ∃ (G : Nat → va_E) (ls : Array Slot) (w31 : Int32), g = F0 m 42 ls [] ∧ lv_has ls 5 [(0, .ref a0), (1, .int x1), (2, .int w31)] ∧ va_P (dC, dI) vwCl (va_pl L G) H ∧ va_S (fun q => q ∈ L) s.heap H locs ∧ y_I K cs A G ∧ (∀ b, K b ∉ [70] → G b = F b) ∧ (∀ k, k ∈ ([1, 2, 3, 4, 5, 6, 7, 8, 11, 15, 16, 19, 25, 26, 27, 31, 32] : List Nat) → y_fi G a0 k = z0 k) ∧ (0 ≤ w31.toInt ∧ w31.toInt ≤ 64) ∧ (-1 ≤ x1.toInt ∧ x1.toInt ≤ 31) ∧ (y_c (y_at G (A 20)) 3 = y_c f4 3) ∧ (y_c (y_at G (A 20)) 4 = y_c f4 4) ∧ (∀ j : Int, 72 ≤ j → j < 918 → y_c (y_at G (A 20)) j = 0) ∧ ((y_c (y_at G (A 20)) 6).toInt = -1 ∧ (y_c (y_at G (A 20)) 7).toInt = 0) ∧ n = (65 - w31.toInt).toNat) _ ⟨F24, _, 0, rfl, lv_sub hl [1, 2, 0] rfl, hP, hS, hI, hfr, (fun k hk => (y_fiZ oY27 (s_sub (by decide) hk)).trans (hz0 k hk)), (by decide), ⟨by omega, by omega⟩, (by rw [y_atE o28]; exact k30x), (by rw [y_atE o28]; exact k30y), (by rw [y_atE o28]; exact hz7), (by rw [y_atE o28]; exact h67), rfl⟩ (fun n ih42 g H locs hq => ?_)
    obtain ⟨F39, ls, w31, rfl, hl, hP, hS, hI, hfr, hz0, h33, h34, h35, h36, h37, h38, hn⟩ := hq
    have o40 : F39 (A 13) = .inl (cs 0, 400, .inl f1) := (hfr _ (by rw [(y_k13 hA)]; decide)).trans o2
    have oY41 : F39 a0 = .inr (7, y_fl A z0 q0) := (hfr _ (by rw [ha0]; decide)).trans oY0
    have hz0 : ∀ k, k ∈ ([1, 2, 3, 4, 5, 6, 7, 8, 11, 15, 16, 19, 25, 26, 27, 31, 32] : List Nat) → z0 k = z0 k := fun _ _ => rfl
    obtain ⟨f42, o43, b44⟩ := y_op20 hI
    have h35 : (y_c f42 3 = y_c f4 3) := by have q9 := h35; rw [y_atE o43] at q9; exact q9
    have h36 : (y_c f42 4 = y_c f4 4) := by have q9 := h36; rw [y_atE o43] at q9; exact q9
    have h37 : (∀ j : Int, 72 ≤ j → j < 918 → y_c f42 j = 0) := by have q9 := h37; rw [y_atE o43] at q9; exact q9
    have h38 : ((y_c f42 6).toInt = -1 ∧ (y_c f42 7).toInt = 0) := by have q9 := h38; rw [y_atE o43] at q9; exact q9
    have hn_44 := hn
    refine lv_iload_n hx hb dX7_begins_42 rfl (lv_at hl 2 rfl) ?_
    refine lv_bipush (v := 64) hx hb dX7_begins_43 (by decide) ?_
    refine lv_icmp_ge (tgt := 73) hx hb dX7_begins_45 (by decide) (fun c45 => ?_) (fun c45 => ?_)
    · have c45 := (ax_ge (n := 64) (by decide)).mp c45
      refine lv_iconst (v := 0) hx hb dX7_begins_73 (by decide) ?_
      refine lv_istore_n (lv' := [(2, .int 0), (0, .ref a0), (1, .int x1)]) hx hb dX7_begins_74 rfl hl (by decide) rfl (fun ls hl => ?_)
      have h47 : (0 : Int32).toInt = 0 := by decide
      refine th_loop (fun n g H locs => ∃ (G : Nat → va_E) (ls : Array Slot) (w46 : Int32), g = F0 m 75 ls [] ∧ lv_has ls 5 [(0, .ref a0), (1, .int x1), (2, .int w46)] ∧ va_P (dC, dI) vwCl (va_pl L G) H ∧ va_S (fun q => q ∈ L) s.heap H locs ∧ y_I K cs A G ∧ (∀ b, K b ∉ [70] → G b = F b) ∧ (∀ k, k ∈ ([1, 2, 3, 4, 5, 6, 7, 8, 11, 15, 16, 19, 25, 26, 27, 31, 32] : List Nat) → y_fi G a0 k = z0 k) ∧ (0 ≤ w46.toInt ∧ w46.toInt ≤ 4) ∧ (-1 ≤ x1.toInt ∧ x1.toInt ≤ 31) ∧ (y_c (y_at G (A 20)) 3 = y_c f4 3) ∧ (y_c (y_at G (A 20)) 4 = y_c f4 4) ∧ (y_BG f1 (y_at G (A 20)) w46.toInt) ∧ ((y_c (y_at G (A 20)) 6).toInt = -1 ∧ (y_c (y_at G (A 20)) 7).toInt = 0) ∧ n = (5 - w46.toInt).toNat) _ ⟨F39, _, 0, rfl, lv_sub hl [1, 2, 0] rfl, hP, hS, hI, hfr, (fun k hk => (y_fiZ oY41 (s_sub (by decide) hk)).trans (hz0 k hk)), (by decide), ⟨by omega, by omega⟩, (by rw [y_atE o43]; exact h35), (by rw [y_atE o43]; exact h36), (by rw [y_atE o43]; exact (by rw [show (0 : Int32).toInt = 0 by decide]; exact y_BG0 h37)), (by rw [y_atE o43]; exact h38), rfl⟩ (fun n ih75 g H locs hq => ?_)
      obtain ⟨F54, ls, w46, rfl, hl, hP, hS, hI, hfr, hz0, h48, h49, h50, h51, h52, h53, hn⟩ := hq
      have o55 : F54 (A 13) = .inl (cs 0, 400, .inl f1) := (hfr _ (by rw [(y_k13 hA)]; decide)).trans o2
      have oY56 : F54 a0 = .inr (7, y_fl A z0 q0) := (hfr _ (by rw [ha0]; decide)).trans oY0
      have hz0 : ∀ k, k ∈ ([1, 2, 3, 4, 5, 6, 7, 8, 11, 15, 16, 19, 25, 26, 27, 31, 32] : List Nat) → z0 k = z0 k := fun _ _ => rfl
      obtain ⟨f57, o58, b59⟩ := y_op20 hI
      have h50 : (y_c f57 3 = y_c f4 3) := by have q9 := h50; rw [y_atE o58] at q9; exact q9
      have h51 : (y_c f57 4 = y_c f4 4) := by have q9 := h51; rw [y_atE o58] at q9; exact q9
      have h52 : (y_BG f1 f57 w46.toInt) := by have q9 := h52; rw [y_atE o58] at q9; exact q9
      have h53 : ((y_c f57 6).toInt = -1 ∧ (y_c f57 7).toInt = 0) := by have q9 := h53; rw [y_atE o58] at q9; exact q9
      have hn_59 := hn
      refine th_join (fun g H locs => ∃ (G : Nat → va_E) (ls : Array Slot), g = F0 m 192 ls [] ∧ lv_has ls 5 [(0, .ref a0), (1, .int x1), (2, .int w46)] ∧ va_P (dC, dI) vwCl (va_pl L G) H ∧ va_S (fun q => q ∈ L) s.heap H locs ∧ y_I K cs A G ∧ (∀ b, K b ∉ [70] → G b = F b) ∧ (∀ k, k ∈ ([1, 2, 3, 4, 5, 6, 7, 8, 11, 15, 16, 19, 25, 26, 27, 31, 32] : List Nat) → y_fi G a0 k = z0 k) ∧ (-1 ≤ x1.toInt ∧ x1.toInt ≤ 31) ∧ (0 ≤ w46.toInt ∧ w46.toInt ≤ 3) ∧ (y_BG f1 (y_at G (A 20)) (w46.toInt + 1)) ∧ (y_fw w46.toInt f57 (y_at G (A 20)))) (fun K192 => ?_) ?_
      refine th_join (fun g H locs => ∃ (G : Nat → va_E) (ls : Array Slot) (w60 : Int32), g = F0 m 112 ls [.int w60] ∧ lv_has ls 5 [(0, .ref a0), (1, .int x1), (2, .int w46)] ∧ va_P (dC, dI) vwCl (va_pl L G) H ∧ va_S (fun q => q ∈ L) s.heap H locs ∧ y_I K cs A G ∧ (∀ b, K b ∉ [70] → G b = F b) ∧ (∀ k, k ∈ ([1, 2, 3, 4, 5, 6, 7, 8, 11, 15, 16, 19, 25, 26, 27, 31, 32] : List Nat) → y_fi G a0 k = z0 k) ∧ True ∧ (-1 ≤ x1.toInt ∧ x1.toInt ≤ 31) ∧ (0 ≤ w46.toInt ∧ w46.toInt ≤ 3) ∧ (y_8 w60) ∧ ((y_at G (A 20)) = f57)) (fun K112 => ?_) ?_
      · refine lv_iload_n hx hb dX7_begins_75 rfl (lv_at hl 2 rfl) ?_
        refine lv_aload_n hx hb dX7_begins_76 rfl (lv_at hl 0 rfl) ?_
        refine va_calli (va_runV (As := []) (rest := [.int w46]) ⟨hx, hb, hml, hown, hts⟩ (y_X7_warps l dC dI H.size hLK A hA F54 a0 ha0 hI) (cwV 0 hts (ax_gV T_993 T_995 T_996 T_265 T_994) rfl rfl rfl (by decide +kernel) ⟨Nat.le_of_ble_eq_true rfl, Nat.le_of_ble_eq_true rfl⟩) ⟨fun a U g mk q => ⟨q.1, s_pc rfl rfl q.2⟩, s_recv hK hP (hLK _ ha0 (by decide)) (ci := 7) rfl oY56, fun U hU hW => ⟨rfl, s_pw hU hW hP hK hD hN⟩⟩ rfl rfl hl.1 rfl (lv_room (Nat.le_of_ble_eq_true rfl)) dX7_begins_77 ⟨Nat.zero_le _, Nat.zero_le _⟩) hS (fun q _ h => h) (fun q h => h) (fun r62 F63 t H1 locs ht hvm hw hB hz1 hk1 hS => ?_)
        obtain ⟨hP, hK1⟩ := hB
        rw [ht] at hP
        generalize H1 = H at hP hS ⊢
        obtain ⟨h64, h66, hI, hfr1, hzf, h65⟩ := hw
        have o67 : F63 (A 13) = .inl (cs 0, 400, .inl f1) := (hfr1 _ (by rw [(y_k13 hA)]; decide)).trans o55
        have o68 : F63 (A 20) = .inl (cs 0, 918, .inl f57) := (hfr1 _ (by rw [(y_k20 hA)]; decide)).trans o58
        have oY69 : F63 a0 = .inr (7, y_fl A z0 q0) := (hfr1 _ (by rw [ha0]; decide)).trans oY56
        have hfr : ∀ b, K b ∉ [70] → F63 b = F b := fun b hb9 => (hfr1 b (fun q => hb9 (s_sub (by decide) q))).trans (hfr b hb9)
        have h65 : (r62 = y_c f1 384) := by have q9 := h65; rw [y_atE o55] at q9; exact q9
        have h70 := congrArg Int32.toInt h65
        have h71 : 1 ≤ r62.toInt ∧ r62.toInt ≤ 4 := ⟨by omega, by omega⟩
        refine lv_icmp_ge (tgt := 198) hx hb dX7_begins_80 (by decide) (fun c72 => ?_) (fun c72 => ?_)
        · have c72 := Int32.le_iff_toInt_le.mp c72
          exact W.vret hx hb hr (fun t ht hW => ⟨⟨F63, rfl, ⟨trivial, trivial, hI, hfr, fun k hk => (y_fiZ oY69 (s_sub (by decide) hk)).trans ((hz0 k hk).trans (y_fiZ oY0 (s_sub (by decide) hk)).symm), (by rw [y_atE o2, y_atE o68]; exact ⟨by rw [h50]; exact hmo.1, by rw [h51]; exact hmo.2, by have q9 := h53; omega, by have q9 := h53; omega, fun w9 h0 h1 => h52.1 w9 h0 (by omega)⟩)⟩, by rw [ht]; exact hP, va_K.moved hW.alike hK⟩, hS.F ht⟩) hS.2.2 dX7_begins_198
        · have c72 := mt Int32.le_iff_toInt_le.mpr c72
          refine lv_iload_n hx hb dX7_begins_83 rfl (lv_at hl 1 rfl) ?_
          refine lv_iconst (v := (-1)) hx hb dX7_begins_84 (by decide) ?_
          refine lv_icmp_ne (tgt := 94) hx hb dX7_begins_85 (by decide) (fun c73 => ?_) (fun c73 => ?_)
          · have c73 := mt (ax_eq (n := (-1)) (by decide)).mpr c73
            refine lv_iload_n hx hb dX7_begins_94 rfl (lv_at hl 1 rfl) ?_
            refine lv_bipush (v := 8) hx hb dX7_begins_95 (by decide) ?_
            refine lv_idiv hx hb dX7_begins_97 (by decide) ?_
            refine lv_topi (fun v74 ev74 => ?_)
            have qv74 : v74.toInt = x1.toInt / 8 := by rw [ev74]; exact th_div rfl (by decide) (by omega) (by decide)
            have h75 : 0 ≤ v74.toInt ∧ v74.toInt ≤ 3 := ⟨by omega, by omega⟩
            refine lv_iload_n hx hb dX7_begins_98 rfl (lv_at hl 2 rfl) ?_
            refine lv_icmp_ne (tgt := 111) hx hb dX7_begins_99 (by decide) (fun c76 => ?_) (fun c76 => ?_)
            · have c76 := mt Int32.toInt_inj.symm.mpr c76
              refine lv_iconst (v := 0) hx hb dX7_begins_111 (by decide) ?_
              have h77 : (0 : Int32).toInt = 0 := by decide
              exact K112 _ _ _ ⟨F63, _, 0, rfl, lv_sub hl [0, 1, 2] rfl, hP, hS, hI, hfr, (fun k hk => (y_fiZ oY69 (s_sub (by decide) hk)).trans (hz0 k hk)), trivial, ⟨by omega, by omega⟩, ⟨by omega, by omega⟩, (show (y_8 0) from (fun i _ => b_0 i)), (by first | (rw [y_atE o68]; exact rfl) | rw [y_atE o68])⟩
            · have c76 := Int32.toInt_inj.symm.mp c76
              refine lv_iconst (v := 1) hx hb dX7_begins_102 (by decide) ?_
              refine lv_iload_n hx hb dX7_begins_103 rfl (lv_at hl 1 rfl) ?_
              refine lv_bipush (v := 8) hx hb dX7_begins_104 (by decide) ?_
              refine lv_irem hx hb dX7_begins_106 (by decide) ?_
              refine lv_topi (fun v78 ev78 => ?_)
              have qv78 : v78.toInt = x1.toInt % 8 := by rw [ev78]; exact th_rem rfl (by decide) (by omega) (by decide)
              have h79 : 0 ≤ v78.toInt ∧ v78.toInt ≤ 7 := ⟨by omega, by omega⟩
              refine lv_ishl hx hb dX7_begins_107 ?_
              refine lv_topi (fun v80 ev80 => ?_)
              refine lv_goto (tgt := 112) hx hb dX7_begins_108 (by decide) ?_
              exact K112 _ _ _ ⟨F63, _, v80, rfl, lv_sub hl [0, 1, 2] rfl, hP, hS, hI, hfr, (fun k hk => (y_fiZ oY69 (s_sub (by decide) hk)).trans (hz0 k hk)), trivial, ⟨by omega, by omega⟩, ⟨by omega, by omega⟩, (show (y_8 v80) from (by rw [ev80]; exact y_8b ⟨by omega, by omega⟩)), (by first | (rw [y_atE o68]; exact rfl) | rw [y_atE o68])⟩
          · have c73 := (ax_eq (n := (-1)) (by decide)).mp c73
            refine lv_sipush (v := 255) hx hb dX7_begins_88 (by decide) ?_
            refine lv_goto (tgt := 112) hx hb dX7_begins_91 (by decide) ?_
            have h81 : (255 : Int32).toInt = 255 := by decide
            exact K112 _ _ _ ⟨F63, _, 255, rfl, lv_sub hl [0, 1, 2] rfl, hP, hS, hI, hfr, (fun k hk => (y_fiZ oY69 (s_sub (by decide) hk)).trans (hz0 k hk)), trivial, ⟨by omega, by omega⟩, ⟨by omega, by omega⟩, (show (y_8 255) from y_255), (by first | (rw [y_atE o68]; exact rfl) | rw [y_atE o68])⟩
      · intro g H locs hq
        obtain ⟨F87, ls, w60, rfl, hl, hP, hS, hI, hfr, hz0, h82, h83, h84, h85, h86⟩ := hq
        have o88 : F87 (A 13) = .inl (cs 0, 400, .inl f1) := (hfr _ (by rw [(y_k13 hA)]; decide)).trans o2
        have oY89 : F87 a0 = .inr (7, y_fl A z0 q0) := (hfr _ (by rw [ha0]; decide)).trans oY0
        have hz0 : ∀ k, k ∈ ([1, 2, 3, 4, 5, 6, 7, 8, 11, 15, 16, 19, 25, 26, 27, 31, 32] : List Nat) → z0 k = z0 k := fun _ _ => rfl
        obtain ⟨f90, o91, b92⟩ := y_op20 hI
        have h86 : (f90 = f57) := by have q9 := h86; rw [y_atE o91] at q9; exact q9
        refine lv_istore_n (lv' := [(3, .int w60), (0, .ref a0), (1, .int x1), (2, .int w46)]) hx hb dX7_begins_112 rfl hl (by decide) rfl (fun ls hl => ?_)
        refine lv_aload_n hx hb dX7_begins_113 rfl (lv_at hl 1 rfl) ?_
        refine th_get (D := (dC, dI)) (ci := 7) (v := .ref (A 20)) (C := RX7) (T := TX7) (N := 34) hx hb hts inX7 hown hK hP (hLK _ ha0 (by decide)) oY89 rfl 20 (by decide) (hts _ T_251) (fun _ h9 => h9) rfl dX7_begins_114 ?_
        refine lv_iload_n hx hb dX7_begins_117 rfl (lv_at hl 3 rfl) ?_
        refine lv_iconst (v := 3) hx hb dX7_begins_118 (by decide) ?_
        refine va_calli (va_runS (As := [.int w46, .int 3]) (rest := [.ref (A 20)]) ⟨hx, hb, hml, hown, hts⟩ (y_X7_warpAt l dC dI H.size F87 w46 3 (⟨by omega, by omega⟩) (by decide)) (cwS 2 hts (ax_gS T_1021 T_1023 T_265 T_1022) rfl rfl rfl (by decide +kernel) ⟨Nat.le_of_ble_eq_true rfl, Nat.le_of_ble_eq_true rfl⟩) ⟨fun a U g mk q => ⟨q.1, s_pc rfl rfl q.2⟩, fun U hU hW => ⟨rfl, s_pw hU hW hP hK hD hN⟩⟩ rfl rfl hl.1 rfl (lv_room (Nat.le_of_ble_eq_true rfl)) dX7_begins_119 ⟨Nat.zero_le _, Nat.zero_le _⟩) hS (fun q _ h => h) (fun q h => h) (fun r94 F95 t H1 locs ht hvm hw hB hz1 hk1 hS => ?_)
        obtain ⟨hP, hK1⟩ := hB
        rw [ht] at hP
        generalize H1 = H at hP hS ⊢
        obtain ⟨h96, h98, hG9, h97⟩ := hw
        rw [hG9] at hP
        have h97 : (r94.toInt = 104 + 6 * w46.toInt + 3) := by have q9 := h97; exact q9
        refine lv_iload_n hx hb dX7_begins_122 rfl (lv_at hl 0 rfl) ?_
        refine th_iast hx hb hK hP hD hS (hLK _ (y_k20 hA) (by decide)) 0 o91 rfl (th_in ⟨by omega, by omega⟩) dX7_begins_123 (fun H locs hP hS => ?_)
        obtain ⟨f99, u100⟩ : ∃ g : Nat → Int32, g = upd f90 (r94 : Int32).toNatClampNeg w60 := ⟨_, rfl⟩
        rw [← u100] at hP
        have b101 : y_bd 20 f99 := trivial
        have hP : va_P (dC, dI) vwCl (va_pl L (va_up F87 (A 20) (.inl (cs 0, 918, .inl f99)))) H := hP
        obtain ⟨F102, hF103⟩ : ∃ G : Nat → va_E, G = va_up F87 (A 20) (.inl (cs 0, 918, .inl f99)) := ⟨_, rfl⟩
        rw [← hF103] at hP
        have hI : y_I K cs A F102 := by rw [hF103]; exact y_clA (i := 20) hA hI (by decide) b101
        have hfr : ∀ b, K b ∉ [70] → F102 b = F b := by rw [hF103]; exact s_fr hfr (y_k20 hA) (by decide)
        have o104 : F102 (A 13) = .inl (cs 0, 400, .inl f1) := by rw [hF103]; exact th_ne (th_kd (y_k13 hA) (y_k20 hA) (by decide)) o88
        have oY105 : F102 a0 = .inr (7, y_fl A z0 q0) := by rw [hF103]; exact th_ne (th_kd ha0 (y_k20 hA) (by decide)) oY89
        have o106 : F102 (A 20) = .inl (cs 0, 918, .inl f99) := by rw [hF103]; exact th_up
        have u107 : ∀ j : Int, 0 ≤ j → y_c f99 j = if j = r94.toInt then w60 else y_c f90 j := by rw [u100]; exact y_cu rfl (by omega)
        rw [h86] at u107
        obtain ⟨hbn, hbf⟩ := y_BN0 (L := (y_c f1 387).toInt) ⟨by omega, by omega⟩ h52 u107 (by omega)
        refine lv_iconst (v := 0) hx hb dX7_begins_124 (by decide) ?_
        refine lv_istore (lv' := [(4, .int 0), (3, .int w60), (0, .ref a0), (1, .int x1), (2, .int w46)]) hx hb dX7_begins_125 hl (by decide) rfl (fun ls hl => ?_)
        have h109 : (0 : Int32).toInt = 0 := by decide
        refine th_loop (fun n g H locs => ∃ (G : Nat → va_E) (ls : Array Slot) (w108 : Int32), g = F0 m 127 ls [] ∧ lv_has ls 5 [(0, .ref a0), (1, .int x1), (2, .int w46), (3, .int w60), (4, .int w108)] ∧ va_P (dC, dI) vwCl (va_pl L G) H ∧ va_S (fun q => q ∈ L) s.heap H locs ∧ y_I K cs A G ∧ (∀ b, K b ∉ [70] → G b = F b) ∧ (∀ k, k ∈ ([1, 2, 3, 4, 5, 6, 7, 8, 11, 15, 16, 19, 25, 26, 27, 31, 32] : List Nat) → y_fi G a0 k = z0 k) ∧ (0 ≤ w108.toInt ∧ w108.toInt ≤ 8) ∧ (-1 ≤ x1.toInt ∧ x1.toInt ≤ 31) ∧ (0 ≤ w46.toInt ∧ w46.toInt ≤ 3) ∧ (y_BN (y_at G (A 20)) w46.toInt w108.toInt (y_c f1 387).toInt w60) ∧ (y_fw w46.toInt f57 (y_at G (A 20))) ∧ n = (9 - w108.toInt).toNat) _ ⟨F102, _, 0, rfl, lv_sub hl [2, 3, 4, 1, 0] rfl, hP, hS, hI, hfr, (fun k hk => (y_fiZ oY105 (s_sub (by decide) hk)).trans (hz0 k hk)), (by decide), ⟨by omega, by omega⟩, ⟨by omega, by omega⟩, (by rw [y_atE o106]; exact (by rw [show (0 : Int32).toInt = 0 by decide]; exact hbn)), (by rw [y_atE o106]; exact hbf), rfl⟩ (fun n ih127 g H locs hq => ?_)
        obtain ⟨F115, ls, w108, rfl, hl, hP, hS, hI, hfr, hz0, h110, h111, h112, h113, h114, hn⟩ := hq
        have o116 : F115 (A 13) = .inl (cs 0, 400, .inl f1) := (hfr _ (by rw [(y_k13 hA)]; decide)).trans o2
        have oY117 : F115 a0 = .inr (7, y_fl A z0 q0) := (hfr _ (by rw [ha0]; decide)).trans oY0
        have hz0 : ∀ k, k ∈ ([1, 2, 3, 4, 5, 6, 7, 8, 11, 15, 16, 19, 25, 26, 27, 31, 32] : List Nat) → z0 k = z0 k := fun _ _ => rfl
        obtain ⟨f118, o119, b120⟩ := y_op20 hI
        have h113 : (y_BN f118 w46.toInt w108.toInt (y_c f1 387).toInt w60) := by have q9 := h113; rw [y_atE o119] at q9; exact q9
        have h114 : (y_fw w46.toInt f57 f118) := by have q9 := h114; rw [y_atE o119] at q9; exact q9
        have hn_120 := hn
        refine lv_iload hx hb dX7_begins_127 (lv_at hl 4 rfl) ?_
        refine lv_bipush (v := 8) hx hb dX7_begins_129 (by decide) ?_
        refine lv_icmp_ge (tgt := 168) hx hb dX7_begins_131 (by decide) (fun c121 => ?_) (fun c121 => ?_)
        · have c121 := (ax_ge (n := 8) (by decide)).mp c121
          have hb8 : y_BN f118 w46.toInt 8 (y_c f1 387).toInt w60 := by have q9 := h113; rw [show w108.toInt = 8 by omega] at q9; exact q9
          have hf8 := h114
          have h83 := congrArg Int32.toInt ((y_fw3 (by omega) hf8).trans h50)
          refine lv_aload_n hx hb dX7_begins_168 rfl (lv_at hl 0 rfl) ?_
          refine th_get (D := (dC, dI)) (ci := 7) (v := .ref (A 20)) (C := RX7) (T := TX7) (N := 34) hx hb hts inX7 hown hK hP (hLK _ ha0 (by decide)) oY117 rfl 20 (by decide) (hts _ T_251) (fun _ h9 => h9) rfl dX7_begins_169 ?_
          refine lv_iconst (v := 3) hx hb dX7_begins_172 (by decide) ?_
          refine th_iald hx hb hK hP (hLK _ (y_k20 hA) (by decide)) 0 o119 rfl (ax_in (by decide)) dX7_begins_173 ?_
          refine lv_topi (fun v122 ev122 => ?_)
          have Ev122 : v122 = y_c f118 (3) := ev122.trans (y_ci (by decide))
          have tEv122 := congrArg Int32.toInt Ev122
          refine lv_if_ne (tgt := 192) hx hb dX7_begins_174 (by decide) (fun c123 => ?_) (fun c123 => ?_)
          · have c123 := mt (ax_eq (n := 0) (by decide)).mpr c123
            have hnw9 := y_BNf h85 (by omega) hb8
            exact K192 _ _ _ ⟨F115, _, rfl, lv_sub hl [0, 1, 2] rfl, hP, hS, hI, hfr, (fun k hk => (y_fiZ oY117 (s_sub (by decide) hk)).trans (hz0 k hk)), ⟨by omega, by omega⟩, ⟨by omega, by omega⟩, (by rw [y_atE o119]; exact y_BGs ⟨by omega, by omega⟩ h52 hf8 hnw9), (by rw [y_atE o119]; exact hf8)⟩
          · have c123 := (ax_eq (n := 0) (by decide)).mp c123
            refine lv_iload_n hx hb dX7_begins_177 rfl (lv_at hl 3 rfl) ?_
            refine lv_if_eq (tgt := 192) hx hb dX7_begins_178 (by decide) (fun c124 => ?_) (fun c124 => ?_)
            · have c124 := (ax_eq (n := 0) (by decide)).mp c124
              have hnw9 := y_BNz (L := (y_c f1 387).toInt) (by omega) (by have q9 := hb8; rw [y_z32 c124] at q9; exact q9)
              exact K192 _ _ _ ⟨F115, _, rfl, lv_sub hl [0, 1, 2] rfl, hP, hS, hI, hfr, (fun k hk => (y_fiZ oY117 (s_sub (by decide) hk)).trans (hz0 k hk)), ⟨by omega, by omega⟩, ⟨by omega, by omega⟩, (by rw [y_atE o119]; exact y_BGs ⟨by omega, by omega⟩ h52 hf8 hnw9), (by rw [y_atE o119]; exact hf8)⟩
            · have c124 := mt (ax_eq (n := 0) (by decide)).mpr c124
              refine lv_aload_n hx hb dX7_begins_181 rfl (lv_at hl 0 rfl) ?_
              refine lv_iload_n hx hb dX7_begins_182 rfl (lv_at hl 2 rfl) ?_
              refine lv_iconst (v := 0) hx hb dX7_begins_183 (by decide) ?_
              refine lv_aload_n hx hb dX7_begins_184 rfl (lv_at hl 0 rfl) ?_
              refine va_calli (va_runV (As := []) (rest := [.int 0, .int w46, .ref a0]) ⟨hx, hb, hml, hown, hts⟩ (y_X7_lines l dC dI H.size hLK A hA F115 a0 ha0 hI) (cwV 0 hts (ax_gV T_1030 T_1032 T_1033 T_265 T_1031) rfl rfl rfl (by decide +kernel) ⟨Nat.le_of_ble_eq_true rfl, Nat.le_of_ble_eq_true rfl⟩) ⟨fun a U g mk q => ⟨q.1, s_pc rfl rfl q.2⟩, s_recv hK hP (hLK _ ha0 (by decide)) (ci := 7) rfl oY117, fun U hU hW => ⟨rfl, s_pw hU hW hP hK hD hN⟩⟩ rfl rfl hl.1 rfl (lv_room (Nat.le_of_ble_eq_true rfl)) dX7_begins_185 ⟨Nat.zero_le _, Nat.zero_le _⟩) hS (fun q _ h => h) (fun q h => h) (fun r126 F127 t H1 locs ht hvm hw hB hz1 hk1 hS => ?_)
              obtain ⟨hP, hK1⟩ := hB
              rw [ht] at hP
              generalize H1 = H at hP hS ⊢
              obtain ⟨h128, h130, hI, hfr1, hzf, h129⟩ := hw
              have o131 : F127 (A 13) = .inl (cs 0, 400, .inl f1) := (hfr1 _ (by rw [(y_k13 hA)]; decide)).trans o116
              have o132 : F127 (A 20) = .inl (cs 0, 918, .inl f118) := (hfr1 _ (by rw [(y_k20 hA)]; decide)).trans o119
              have oY133 : F127 a0 = .inr (7, y_fl A z0 q0) := (hfr1 _ (by rw [ha0]; decide)).trans oY117
              have hfr : ∀ b, K b ∉ [70] → F127 b = F b := fun b hb9 => (hfr1 b (fun q => hb9 (s_sub (by decide) q))).trans (hfr b hb9)
              have h129 : (r126 = y_c f1 387) := by have q9 := h129; rw [y_atE o116] at q9; exact q9
              have h134 := congrArg Int32.toInt h129
              have h135 : 1 ≤ r126.toInt ∧ r126.toInt ≤ 40 := ⟨by omega, by omega⟩
              refine lv_iload_n hx hb dX7_begins_188 rfl (lv_at hl 3 rfl) ?_
              refine va_callv (va_runV (As := [.int w46, .int 0, .int r126, .int w60]) (rest := []) ⟨hx, hb, hml, hown, hts⟩ (y_X7_pushes l dC dI H.size hLK A hA F127 a0 w46 0 r126 w60 ha0 (⟨by omega, by omega⟩) hI (by rw [y_atE o132]; rw [hb8.2.2.2.1]; decide)) (cwV 4 hts (ax_gV T_1034 T_1036 T_1037 T_265 T_1035) rfl rfl rfl (by decide +kernel) ⟨Nat.le_of_ble_eq_true rfl, Nat.le_of_ble_eq_true rfl⟩) ⟨fun a U g mk q => ⟨q.1, s_pc rfl rfl q.2⟩, s_recv hK hP (hLK _ ha0 (by decide)) (ci := 7) rfl oY133, fun U hU hW => ⟨rfl, s_pw hU hW hP hK hD hN⟩⟩ rfl rfl hl.1 rfl (lv_room (Nat.le_of_ble_eq_true rfl)) dX7_begins_189 ⟨Nat.zero_le _, Nat.zero_le _⟩) hS (fun q _ h => h) (fun q h => h) (fun F137 t H1 locs ht hvm hw hB hz1 hk1 hS => ?_)
              obtain ⟨hP, hK1⟩ := hB
              rw [ht] at hP
              generalize H1 = H at hP hS ⊢
              obtain ⟨h138, h140, hI, hfr1, hzf, h139⟩ := hw
              have o141 : F137 (A 13) = .inl (cs 0, 400, .inl f1) := (hfr1 _ (by rw [(y_k13 hA)]; decide)).trans o131
              have oY142 : F137 a0 = .inr (7, y_fl A z0 q0) := (hfr1 _ (by rw [ha0]; decide)).trans oY133
              have hfr : ∀ b, K b ∉ [70] → F137 b = F b := fun b hb9 => (hfr1 b (fun q => hb9 (s_sub (by decide) q))).trans (hfr b hb9)
              obtain ⟨f143, o144, b145⟩ := y_op20 hI
              have h139 : (∀ j : Int, 0 ≤ j → y_c f143 j = y_psh f118 w46.toInt 0 r126 w60 j) := by have q9 := h139; rw [y_atE o144, y_atE o132] at q9; exact q9
              have h00 : (0 : Int32).toInt = 0 := by decide
              obtain ⟨hnw9, hfp9⟩ := y_BNp (L := (y_c f1 387).toInt) ⟨by omega, by omega⟩ h85 (by omega) hb8 (by omega) (by decide) h139
              exact K192 _ _ _ ⟨F137, _, rfl, lv_sub hl [0, 1, 2] rfl, hP, hS, hI, hfr, (fun k hk => (y_fiZ oY142 (s_sub (by decide) hk)).trans (hz0 k hk)), ⟨by omega, by omega⟩, ⟨by omega, by omega⟩, (by rw [y_atE o144]; exact y_BGs ⟨by omega, by omega⟩ h52 (y_fw_t hf8 hfp9) hnw9), (by rw [y_atE o144]; exact (y_fw_t hf8 hfp9))⟩
        · have c121 := mt (ax_ge (n := 8) (by decide)).mpr c121
          refine lv_aload_n hx hb dX7_begins_134 rfl (lv_at hl 0 rfl) ?_
          refine th_get (D := (dC, dI)) (ci := 7) (v := .ref (A 20)) (C := RX7) (T := TX7) (N := 34) hx hb hts inX7 hown hK hP (hLK _ ha0 (by decide)) oY117 rfl 20 (by decide) (hts _ T_251) (fun _ h9 => h9) rfl dX7_begins_135 ?_
          refine lv_iload_n hx hb dX7_begins_138 rfl (lv_at hl 2 rfl) ?_
          refine lv_iload hx hb dX7_begins_139 (lv_at hl 4 rfl) ?_
          refine va_calli (va_runS (As := [.int w46, .int w108]) (rest := [.ref (A 20)]) ⟨hx, hb, hml, hown, hts⟩ (y_X7_nextAt l dC dI H.size F115 w46 w108 (⟨by omega, by omega⟩) (⟨by omega, by omega⟩)) (cwS 2 hts (ax_gS T_1024 T_1026 T_265 T_1025) rfl rfl rfl (by decide +kernel) ⟨Nat.le_of_ble_eq_true rfl, Nat.le_of_ble_eq_true rfl⟩) ⟨fun a U g mk q => ⟨q.1, s_pc rfl rfl q.2⟩, fun U hU hW => ⟨rfl, s_pw hU hW hP hK hD hN⟩⟩ rfl rfl hl.1 rfl (lv_room (Nat.le_of_ble_eq_true rfl)) dX7_begins_141 ⟨Nat.zero_le _, Nat.zero_le _⟩) hS (fun q _ h => h) (fun q h => h) (fun r147 F148 t H1 locs ht hvm hw hB hz1 hk1 hS => ?_)
          obtain ⟨hP, hK1⟩ := hB
          rw [ht] at hP
          generalize H1 = H at hP hS ⊢
          obtain ⟨h149, h151, hG9, h150⟩ := hw
          rw [hG9] at hP
          have h150 : (r147.toInt = 256 + 8 * w46.toInt + w108.toInt) := by have q9 := h150; exact q9
          refine lv_iload_n hx hb dX7_begins_144 rfl (lv_at hl 3 rfl) ?_
          refine lv_iload hx hb dX7_begins_145 (lv_at hl 4 rfl) ?_
          refine va_calli (va_runS (As := [.int w60, .int w108]) (rest := [.int r147, .ref (A 20)]) ⟨hx, hb, hml, hown, hts⟩ (y_X7_isOf l dC dI H.size F115 w60 w108 (⟨by omega, by omega⟩)) (cwS 2 hts (ax_gS T_1027 T_1029 T_265 T_1028) rfl rfl rfl (by decide +kernel) ⟨Nat.le_of_ble_eq_true rfl, Nat.le_of_ble_eq_true rfl⟩) ⟨fun a U g mk q => ⟨q.1, s_pc rfl rfl q.2⟩, fun U hU hW => ⟨rfl, s_pw hU hW hP hK hD hN⟩⟩ rfl rfl hl.1 rfl (lv_room (Nat.le_of_ble_eq_true rfl)) dX7_begins_147 ⟨Nat.zero_le _, Nat.zero_le _⟩) hS (fun q _ h => h) (fun q h => h) (fun r153 F154 t H1 locs ht hvm hw hB hz1 hk1 hS => ?_)
          obtain ⟨hP, hK1⟩ := hB
          rw [ht] at hP
          generalize H1 = H at hP hS ⊢
          obtain ⟨h155, h157, hG9, h156⟩ := hw
          rw [hG9] at hP
          have h156 : ((r153.toInt = 1 ∧ bt w60 w108.toInt.toNat = true) ∨ (r153.toInt = 0 ∧ bt w60 w108.toInt.toNat = false)) := by have q9 := h156; exact q9
          refine lv_if_eq (tgt := 157) hx hb dX7_begins_150 (by decide) (fun c158 => ?_) (fun c158 => ?_)
          · have c158 := (ax_eq (n := 0) (by decide)).mp c158
            have hbk := y_bF h156 c158
            refine lv_aload_n hx hb dX7_begins_157 rfl (lv_at hl 0 rfl) ?_
            refine va_calli (va_runV (As := []) (rest := [.int r147, .ref (A 20)]) ⟨hx, hb, hml, hown, hts⟩ (y_X7_lines l dC dI H.size hLK A hA F115 a0 ha0 hI) (cwV 0 hts (ax_gV T_1030 T_1032 T_1033 T_265 T_1031) rfl rfl rfl (by decide +kernel) ⟨Nat.le_of_ble_eq_true rfl, Nat.le_of_ble_eq_true rfl⟩) ⟨fun a U g mk q => ⟨q.1, s_pc rfl rfl q.2⟩, s_recv hK hP (hLK _ ha0 (by decide)) (ci := 7) rfl oY117, fun U hU hW => ⟨rfl, s_pw hU hW hP hK hD hN⟩⟩ rfl rfl hl.1 rfl (lv_room (Nat.le_of_ble_eq_true rfl)) dX7_begins_158 ⟨Nat.zero_le _, Nat.zero_le _⟩) hS (fun q _ h => h) (fun q h => h) (fun r160 F161 t H1 locs ht hvm hw hB hz1 hk1 hS => ?_)
            obtain ⟨hP, hK1⟩ := hB
            rw [ht] at hP
            generalize H1 = H at hP hS ⊢
            obtain ⟨h162, h164, hI, hfr1, hzf, h163⟩ := hw
            have o165 : F161 (A 13) = .inl (cs 0, 400, .inl f1) := (hfr1 _ (by rw [(y_k13 hA)]; decide)).trans o116
            have o166 : F161 (A 20) = .inl (cs 0, 918, .inl f118) := (hfr1 _ (by rw [(y_k20 hA)]; decide)).trans o119
            have oY167 : F161 a0 = .inr (7, y_fl A z0 q0) := (hfr1 _ (by rw [ha0]; decide)).trans oY117
            have hfr : ∀ b, K b ∉ [70] → F161 b = F b := fun b hb9 => (hfr1 b (fun q => hb9 (s_sub (by decide) q))).trans (hfr b hb9)
            have h163 : (r160 = y_c f1 387) := by have q9 := h163; rw [y_atE o116] at q9; exact q9
            have h168 := congrArg Int32.toInt h163
            have h169 : 1 ≤ r160.toInt ∧ r160.toInt ≤ 40 := ⟨by omega, by omega⟩
            refine th_iast hx hb hK hP hD hS (hLK _ (y_k20 hA) (by decide)) 0 o166 rfl (th_in ⟨by omega, by omega⟩) dX7_begins_161 (fun H locs hP hS => ?_)
            obtain ⟨f170, u171⟩ : ∃ g : Nat → Int32, g = upd f118 (r147 : Int32).toNatClampNeg r160 := ⟨_, rfl⟩
            rw [← u171] at hP
            have b172 : y_bd 20 f170 := trivial
            have hP : va_P (dC, dI) vwCl (va_pl L (va_up F161 (A 20) (.inl (cs 0, 918, .inl f170)))) H := hP
            obtain ⟨F173, hF174⟩ : ∃ G : Nat → va_E, G = va_up F161 (A 20) (.inl (cs 0, 918, .inl f170)) := ⟨_, rfl⟩
            rw [← hF174] at hP
            have hI : y_I K cs A F173 := by rw [hF174]; exact y_clA (i := 20) hA hI (by decide) b172
            have hfr : ∀ b, K b ∉ [70] → F173 b = F b := by rw [hF174]; exact s_fr hfr (y_k20 hA) (by decide)
            have o175 : F173 (A 13) = .inl (cs 0, 400, .inl f1) := by rw [hF174]; exact th_ne (th_kd (y_k13 hA) (y_k20 hA) (by decide)) o165
            have oY176 : F173 a0 = .inr (7, y_fl A z0 q0) := by rw [hF174]; exact th_ne (th_kd ha0 (y_k20 hA) (by decide)) oY167
            have o177 : F173 (A 20) = .inl (cs 0, 918, .inl f170) := by rw [hF174]; exact th_up
            have u178 : ∀ j : Int, 0 ≤ j → y_c f170 j = if j = r147.toInt then r160 else y_c f118 j := by rw [u171]; exact y_cu rfl (by omega)
            obtain ⟨k179a, k179b⟩ := y_BNs ⟨by omega, by omega⟩ ⟨by omega, by omega⟩ h113 u178 (by omega) ⟨⟨by omega, by omega⟩, fun q => by rw [hbk] at q; cases q⟩
            obtain ⟨v180, ev180⟩ : ∃ y : Int32, w108 + 1 = y := ⟨_, rfl⟩
            have qv180 : v180.toInt = w108.toInt + 1 := by rw [← ev180]; exact th_add rfl (by decide) ⟨by omega, by omega⟩
            refine lv_iinc (v := v180) (lv' := [(4, .int v180), (0, .ref a0), (1, .int x1), (2, .int w46), (3, .int w60)]) hx hb dX7_begins_162 hl (k := 4) rfl ev180 (by decide) rfl (fun ls hl => ?_)
            refine lv_goto (tgt := 127) hx hb dX7_begins_165 (by decide) ?_
            exact ih127 _ _ _ _ (by omega) ⟨F173, _, v180, rfl, lv_sub hl [1, 2, 3, 4, 0] rfl, hP, hS, hI, hfr, (fun k hk => (y_fiZ oY176 (s_sub (by decide) hk)).trans (hz0 k hk)), ⟨by omega, by omega⟩, ⟨by omega, by omega⟩, ⟨by omega, by omega⟩, (by rw [y_atE o177]; exact (by rw [show v180.toInt = w108.toInt + 1 by omega]; exact k179a)), (by rw [y_atE o177]; exact (y_fw_t h114 k179b)), rfl⟩
          · have c158 := mt (ax_eq (n := 0) (by decide)).mpr c158
            have hbk := y_bT h156 c158
            refine lv_iconst (v := 0) hx hb dX7_begins_153 (by decide) ?_
            refine lv_goto (tgt := 161) hx hb dX7_begins_154 (by decide) ?_
            refine th_iast hx hb hK hP hD hS (hLK _ (y_k20 hA) (by decide)) 0 o119 rfl (th_in ⟨by omega, by omega⟩) dX7_begins_161 (fun H locs hP hS => ?_)
            obtain ⟨f181, u182⟩ : ∃ g : Nat → Int32, g = upd f118 (r147 : Int32).toNatClampNeg 0 := ⟨_, rfl⟩
            rw [← u182] at hP
            have b183 : y_bd 20 f181 := trivial
            have hP : va_P (dC, dI) vwCl (va_pl L (va_up F115 (A 20) (.inl (cs 0, 918, .inl f181)))) H := hP
            obtain ⟨F184, hF185⟩ : ∃ G : Nat → va_E, G = va_up F115 (A 20) (.inl (cs 0, 918, .inl f181)) := ⟨_, rfl⟩
            rw [← hF185] at hP
            have hI : y_I K cs A F184 := by rw [hF185]; exact y_clA (i := 20) hA hI (by decide) b183
            have hfr : ∀ b, K b ∉ [70] → F184 b = F b := by rw [hF185]; exact s_fr hfr (y_k20 hA) (by decide)
            have o186 : F184 (A 13) = .inl (cs 0, 400, .inl f1) := by rw [hF185]; exact th_ne (th_kd (y_k13 hA) (y_k20 hA) (by decide)) o116
            have oY187 : F184 a0 = .inr (7, y_fl A z0 q0) := by rw [hF185]; exact th_ne (th_kd ha0 (y_k20 hA) (by decide)) oY117
            have o188 : F184 (A 20) = .inl (cs 0, 918, .inl f181) := by rw [hF185]; exact th_up
            have u189 : ∀ j : Int, 0 ≤ j → y_c f181 j = if j = r147.toInt then 0 else y_c f118 j := by rw [u182]; exact y_cu rfl (by omega)
            have h00 : (0 : Int32).toInt = 0 := by decide
            obtain ⟨k190a, k190b⟩ := y_BNs ⟨by omega, by omega⟩ ⟨by omega, by omega⟩ h113 u189 (by omega) ⟨⟨by omega, by omega⟩, fun _ => by omega⟩
            obtain ⟨v191, ev191⟩ : ∃ y : Int32, w108 + 1 = y := ⟨_, rfl⟩
            have qv191 : v191.toInt = w108.toInt + 1 := by rw [← ev191]; exact th_add rfl (by decide) ⟨by omega, by omega⟩
            refine lv_iinc (v := v191) (lv' := [(4, .int v191), (0, .ref a0), (1, .int x1), (2, .int w46), (3, .int w60)]) hx hb dX7_begins_162 hl (k := 4) rfl ev191 (by decide) rfl (fun ls hl => ?_)
            refine lv_goto (tgt := 127) hx hb dX7_begins_165 (by decide) ?_
            exact ih127 _ _ _ _ (by omega) ⟨F184, _, v191, rfl, lv_sub hl [1, 2, 3, 4, 0] rfl, hP, hS, hI, hfr, (fun k hk => (y_fiZ oY187 (s_sub (by decide) hk)).trans (hz0 k hk)), ⟨by omega, by omega⟩, ⟨by omega, by omega⟩, ⟨by omega, by omega⟩, (by rw [y_atE o188]; exact (by rw [show v191.toInt = w108.toInt + 1 by omega]; exact k190a)), (by rw [y_atE o188]; exact (y_fw_t h114 k190b)), rfl⟩
      · intro g H locs hq
        obtain ⟨F196, ls, rfl, hl, hP, hS, hI, hfr, hz0, h192, h193, h194, h195⟩ := hq
        have o197 : F196 (A 13) = .inl (cs 0, 400, .inl f1) := (hfr _ (by rw [(y_k13 hA)]; decide)).trans o2
        have oY198 : F196 a0 = .inr (7, y_fl A z0 q0) := (hfr _ (by rw [ha0]; decide)).trans oY0
        have hz0 : ∀ k, k ∈ ([1, 2, 3, 4, 5, 6, 7, 8, 11, 15, 16, 19, 25, 26, 27, 31, 32] : List Nat) → z0 k = z0 k := fun _ _ => rfl
        obtain ⟨f199, o200, b201⟩ := y_op20 hI
        have h194 : (y_BG f1 f199 (w46.toInt + 1)) := by have q9 := h194; rw [y_atE o200] at q9; exact q9
        have h195 : (y_fw w46.toInt f57 f199) := by have q9 := h195; rw [y_atE o200] at q9; exact q9
        obtain ⟨v202, ev202⟩ : ∃ y : Int32, w46 + 1 = y := ⟨_, rfl⟩
        have qv202 : v202.toInt = w46.toInt + 1 := by rw [← ev202]; exact th_add rfl (by decide) ⟨by omega, by omega⟩
        refine lv_iinc (v := v202) (lv' := [(2, .int v202), (0, .ref a0), (1, .int x1)]) hx hb dX7_begins_192 hl (k := 2) rfl ev202 (by decide) rfl (fun ls hl => ?_)
        refine lv_goto (tgt := 75) hx hb dX7_begins_195 (by decide) ?_
        exact ih75 _ _ _ _ (by omega) ⟨F196, _, v202, rfl, lv_sub hl [1, 2, 0] rfl, hP, hS, hI, hfr, (fun k hk => (y_fiZ oY198 (s_sub (by decide) hk)).trans (hz0 k hk)), ⟨by omega, by omega⟩, ⟨by omega, by omega⟩, (by rw [y_atE o200]; exact ((y_fw3 (by omega) h195).trans h50)), (by rw [y_atE o200]; exact ((h195 4 (by omega) (by omega) (by omega) (by omega)).trans h51)), (by rw [y_atE o200]; exact (by rw [show v202.toInt = w46.toInt + 1 by omega]; exact h194)), (by rw [y_atE o200]; exact (by rw [h195 6 (by omega) (by omega) (by omega) (by omega), h195 7 (by omega) (by omega) (by omega) (by omega)]; exact h53)), rfl⟩
    · have c45 := mt (ax_ge (n := 64) (by decide)).mpr c45
      refine lv_aload_n hx hb dX7_begins_48 rfl (lv_at hl 0 rfl) ?_
      refine th_get (D := (dC, dI)) (ci := 7) (v := .ref (A 20)) (C := RX7) (T := TX7) (N := 34) hx hb hts inX7 hown hK hP (hLK _ ha0 (by decide)) oY41 rfl 20 (by decide) (hts _ T_251) (fun _ h9 => h9) rfl dX7_begins_49 ?_
      refine lv_bipush (v := 8) hx hb dX7_begins_52 (by decide) ?_
      refine lv_iload_n hx hb dX7_begins_54 rfl (lv_at hl 2 rfl) ?_
      refine lv_iadd hx hb dX7_begins_55 ?_
      refine lv_topi (fun v203 ev203 => ?_)
      have qv203 : v203.toInt = 8 + w31.toInt := by rw [ev203]; exact th_add (by decide) rfl ⟨by omega, by omega⟩
      refine lv_aload_n hx hb dX7_begins_56 rfl (lv_at hl 0 rfl) ?_
      refine th_get (D := (dC, dI)) (ci := 7) (v := .ref (A 13)) (C := RX7) (T := TX7) (N := 34) hx hb hts inX7 hown hK hP (hLK _ ha0 (by decide)) oY41 rfl 13 (by decide) (hts _ T_246) (fun _ h9 => h9) rfl dX7_begins_57 ?_
      refine lv_sipush (v := 320) hx hb dX7_begins_60 (by decide) ?_
      refine lv_iload_n hx hb dX7_begins_63 rfl (lv_at hl 2 rfl) ?_
      refine lv_iadd hx hb dX7_begins_64 ?_
      refine lv_topi (fun v204 ev204 => ?_)
      have qv204 : v204.toInt = 320 + w31.toInt := by rw [ev204]; exact th_add (by decide) rfl ⟨by omega, by omega⟩
      refine th_iald hx hb hK hP (hLK _ (y_k13 hA) (by decide)) 0 o40 rfl (th_in ⟨by omega, by omega⟩) dX7_begins_65 ?_
      refine lv_topi (fun v205 ev205 => ?_)
      refine th_iast hx hb hK hP hD hS (hLK _ (y_k20 hA) (by decide)) 0 o43 rfl (th_in ⟨by omega, by omega⟩) dX7_begins_66 (fun H locs hP hS => ?_)
      obtain ⟨f206, u207⟩ : ∃ g : Nat → Int32, g = upd f42 (v203 : Int32).toNatClampNeg v205 := ⟨_, rfl⟩
      rw [← u207] at hP
      have b208 : y_bd 20 f206 := trivial
      have hP : va_P (dC, dI) vwCl (va_pl L (va_up F39 (A 20) (.inl (cs 0, 918, .inl f206)))) H := hP
      obtain ⟨F209, hF210⟩ : ∃ G : Nat → va_E, G = va_up F39 (A 20) (.inl (cs 0, 918, .inl f206)) := ⟨_, rfl⟩
      rw [← hF210] at hP
      have hI : y_I K cs A F209 := by rw [hF210]; exact y_clA (i := 20) hA hI (by decide) b208
      have hfr : ∀ b, K b ∉ [70] → F209 b = F b := by rw [hF210]; exact s_fr hfr (y_k20 hA) (by decide)
      have o211 : F209 (A 13) = .inl (cs 0, 400, .inl f1) := by rw [hF210]; exact th_ne (th_kd (y_k13 hA) (y_k20 hA) (by decide)) o40
      have oY212 : F209 a0 = .inr (7, y_fl A z0 q0) := by rw [hF210]; exact th_ne (th_kd ha0 (y_k20 hA) (by decide)) oY41
      have o213 : F209 (A 20) = .inl (cs 0, 918, .inl f206) := by rw [hF210]; exact th_up
      have u214 : ∀ j : Int, 0 ≤ j → y_c f206 j = if j = v203.toInt then v205 else y_c f42 j := by rw [u207]; exact y_cu rfl (by omega)
      have k215x : y_c f206 3 = y_c f4 3 := by rw [u214 3 (by omega), if_neg (by omega)]; exact h35
      have k215y : y_c f206 4 = y_c f4 4 := by rw [u214 4 (by omega), if_neg (by omega)]; exact h36
      have k216a : ∀ j : Int, 72 ≤ j → j < 918 → y_c f206 j = 0 := fun j h0 h1 => by rw [u214 j (by omega), if_neg (by omega)]; exact h37 j h0 h1
      have k216b : (y_c f206 6).toInt = -1 ∧ (y_c f206 7).toInt = 0 := ⟨by rw [u214 6 (by omega), if_neg (by omega)]; exact h38.1, by rw [u214 7 (by omega), if_neg (by omega)]; exact h38.2⟩
      obtain ⟨v217, ev217⟩ : ∃ y : Int32, w31 + 1 = y := ⟨_, rfl⟩
      have qv217 : v217.toInt = w31.toInt + 1 := by rw [← ev217]; exact th_add rfl (by decide) ⟨by omega, by omega⟩
      refine lv_iinc (v := v217) (lv' := [(2, .int v217), (0, .ref a0), (1, .int x1)]) hx hb dX7_begins_67 hl (k := 2) rfl ev217 (by decide) rfl (fun ls hl => ?_)
      refine lv_goto (tgt := 42) hx hb dX7_begins_70 (by decide) ?_
      exact ih42 _ _ _ _ (by omega) ⟨F209, _, v217, rfl, lv_sub hl [1, 2, 0] rfl, hP, hS, hI, hfr, (fun k hk => (y_fiZ oY212 (s_sub (by decide) hk)).trans (hz0 k hk)), ⟨by omega, by omega⟩, ⟨by omega, by omega⟩, (by rw [y_atE o213]; exact k215x), (by rw [y_atE o213]; exact k215y), (by rw [y_atE o213]; exact k216a), (by rw [y_atE o213]; exact k216b), rfl⟩
  · have c20 := mt (ax_ge (n := 918) (by decide)).mpr c20
    refine lv_iload_n hx hb dX7_begins_9 rfl (lv_at hl 2 rfl) ?_
    refine lv_iconst (v := 3) hx hb dX7_begins_10 (by decide) ?_
    refine lv_icmp_lt (tgt := 19) hx hb dX7_begins_11 (by decide) (fun c218 => ?_) (fun c218 => ?_)
    · have c218 := (ax_lt (n := 3) (by decide)).mp c218
      refine lv_aload_n hx hb dX7_begins_19 rfl (lv_at hl 0 rfl) ?_
      refine th_get (D := (dC, dI)) (ci := 7) (v := .ref (A 20)) (C := RX7) (T := TX7) (N := 34) hx hb hts inX7 hown hK hP (hLK _ ha0 (by decide)) oY16 rfl 20 (by decide) (hts _ T_251) (fun _ h9 => h9) rfl dX7_begins_20 ?_
      refine lv_iload_n hx hb dX7_begins_23 rfl (lv_at hl 2 rfl) ?_
      refine lv_iconst (v := 0) hx hb dX7_begins_24 (by decide) ?_
      refine th_iast hx hb hK hP hD hS (hLK _ (y_k20 hA) (by decide)) 0 o18 rfl (th_in ⟨by omega, by omega⟩) dX7_begins_25 (fun H locs hP hS => ?_)
      obtain ⟨f219, u220⟩ : ∃ g : Nat → Int32, g = upd f17 (w7 : Int32).toNatClampNeg 0 := ⟨_, rfl⟩
      rw [← u220] at hP
      have b221 : y_bd 20 f219 := trivial
      have hP : va_P (dC, dI) vwCl (va_pl L (va_up F14 (A 20) (.inl (cs 0, 918, .inl f219)))) H := hP
      obtain ⟨F222, hF223⟩ : ∃ G : Nat → va_E, G = va_up F14 (A 20) (.inl (cs 0, 918, .inl f219)) := ⟨_, rfl⟩
      rw [← hF223] at hP
      have hI : y_I K cs A F222 := by rw [hF223]; exact y_clA (i := 20) hA hI (by decide) b221
      have hfr : ∀ b, K b ∉ [70] → F222 b = F b := by rw [hF223]; exact s_fr hfr (y_k20 hA) (by decide)
      have o224 : F222 (A 13) = .inl (cs 0, 400, .inl f1) := by rw [hF223]; exact th_ne (th_kd (y_k13 hA) (y_k20 hA) (by decide)) o15
      have oY225 : F222 a0 = .inr (7, y_fl A z0 q0) := by rw [hF223]; exact th_ne (th_kd ha0 (y_k20 hA) (by decide)) oY16
      have o226 : F222 (A 20) = .inl (cs 0, 918, .inl f219) := by rw [hF223]; exact th_up
      have u227 : ∀ j : Int, 0 ≤ j → y_c f219 j = if j = w7.toInt then 0 else y_c f17 j := by rw [u220]; exact y_cu rfl (by omega)
      have k228x : y_c f219 3 = y_c f4 3 := by rw [u227 3 (by omega), if_neg (by omega)]; exact h11
      have k228y : y_c f219 4 = y_c f4 4 := by rw [u227 4 (by omega), if_neg (by omega)]; exact h12
      obtain ⟨v229, ev229⟩ : ∃ y : Int32, w7 + 1 = y := ⟨_, rfl⟩
      have qv229 : v229.toInt = w7.toInt + 1 := by rw [← ev229]; exact th_add rfl (by decide) ⟨by omega, by omega⟩
      refine lv_iinc (v := v229) (lv' := [(2, .int v229), (0, .ref a0), (1, .int x1)]) hx hb dX7_begins_26 hl (k := 2) rfl ev229 (by decide) rfl (fun ls hl => ?_)
      refine lv_goto (tgt := 2) hx hb dX7_begins_29 (by decide) ?_
      exact ih2 _ _ _ _ (by omega) ⟨F222, _, v229, rfl, lv_sub hl [1, 2, 0] rfl, hP, hS, hI, hfr, (fun k hk => (y_fiZ oY225 (s_sub (by decide) hk)).trans (hz0 k hk)), ⟨by omega, by omega⟩, ⟨by omega, by omega⟩, (by rw [y_atE o226]; exact k228x), (by rw [y_atE o226]; exact k228y), (by rw [y_atE o226]; exact (fun j h0 h1 h2 => by rw [u227 j h0]; split; exact rfl; exact h13 j h0 (by omega) h2)), rfl⟩
    · have c218 := mt (ax_lt (n := 3) (by decide)).mpr c218
      refine lv_iload_n hx hb dX7_begins_14 rfl (lv_at hl 2 rfl) ?_
      refine lv_iconst (v := 5) hx hb dX7_begins_15 (by decide) ?_
      refine lv_icmp_le (tgt := 26) hx hb dX7_begins_16 (by decide) (fun c230 => ?_) (fun c230 => ?_)
      · have c230 := (ax_le (n := 5) (by decide)).mp c230
        obtain ⟨v231, ev231⟩ : ∃ y : Int32, w7 + 1 = y := ⟨_, rfl⟩
        have qv231 : v231.toInt = w7.toInt + 1 := by rw [← ev231]; exact th_add rfl (by decide) ⟨by omega, by omega⟩
        refine lv_iinc (v := v231) (lv' := [(2, .int v231), (0, .ref a0), (1, .int x1)]) hx hb dX7_begins_26 hl (k := 2) rfl ev231 (by decide) rfl (fun ls hl => ?_)
        refine lv_goto (tgt := 2) hx hb dX7_begins_29 (by decide) ?_
        exact ih2 _ _ _ _ (by omega) ⟨F14, _, v231, rfl, lv_sub hl [1, 2, 0] rfl, hP, hS, hI, hfr, (fun k hk => (y_fiZ oY16 (s_sub (by decide) hk)).trans (hz0 k hk)), ⟨by omega, by omega⟩, ⟨by omega, by omega⟩, (by rw [y_atE o18]; exact h11), (by rw [y_atE o18]; exact h12), (by rw [y_atE o18]; exact (fun j h0 h1 h2 => h13 j h0 (by omega) h2)), rfl⟩
      · have c230 := mt (ax_le (n := 5) (by decide)).mpr c230
        refine lv_aload_n hx hb dX7_begins_19 rfl (lv_at hl 0 rfl) ?_
        refine th_get (D := (dC, dI)) (ci := 7) (v := .ref (A 20)) (C := RX7) (T := TX7) (N := 34) hx hb hts inX7 hown hK hP (hLK _ ha0 (by decide)) oY16 rfl 20 (by decide) (hts _ T_251) (fun _ h9 => h9) rfl dX7_begins_20 ?_
        refine lv_iload_n hx hb dX7_begins_23 rfl (lv_at hl 2 rfl) ?_
        refine lv_iconst (v := 0) hx hb dX7_begins_24 (by decide) ?_
        refine th_iast hx hb hK hP hD hS (hLK _ (y_k20 hA) (by decide)) 0 o18 rfl (th_in ⟨by omega, by omega⟩) dX7_begins_25 (fun H locs hP hS => ?_)
        obtain ⟨f232, u233⟩ : ∃ g : Nat → Int32, g = upd f17 (w7 : Int32).toNatClampNeg 0 := ⟨_, rfl⟩
        rw [← u233] at hP
        have b234 : y_bd 20 f232 := trivial
        have hP : va_P (dC, dI) vwCl (va_pl L (va_up F14 (A 20) (.inl (cs 0, 918, .inl f232)))) H := hP
        obtain ⟨F235, hF236⟩ : ∃ G : Nat → va_E, G = va_up F14 (A 20) (.inl (cs 0, 918, .inl f232)) := ⟨_, rfl⟩
        rw [← hF236] at hP
        have hI : y_I K cs A F235 := by rw [hF236]; exact y_clA (i := 20) hA hI (by decide) b234
        have hfr : ∀ b, K b ∉ [70] → F235 b = F b := by rw [hF236]; exact s_fr hfr (y_k20 hA) (by decide)
        have o237 : F235 (A 13) = .inl (cs 0, 400, .inl f1) := by rw [hF236]; exact th_ne (th_kd (y_k13 hA) (y_k20 hA) (by decide)) o15
        have oY238 : F235 a0 = .inr (7, y_fl A z0 q0) := by rw [hF236]; exact th_ne (th_kd ha0 (y_k20 hA) (by decide)) oY16
        have o239 : F235 (A 20) = .inl (cs 0, 918, .inl f232) := by rw [hF236]; exact th_up
        have u240 : ∀ j : Int, 0 ≤ j → y_c f232 j = if j = w7.toInt then 0 else y_c f17 j := by rw [u233]; exact y_cu rfl (by omega)
        have k241x : y_c f232 3 = y_c f4 3 := by rw [u240 3 (by omega), if_neg (by omega)]; exact h11
        have k241y : y_c f232 4 = y_c f4 4 := by rw [u240 4 (by omega), if_neg (by omega)]; exact h12
        obtain ⟨v242, ev242⟩ : ∃ y : Int32, w7 + 1 = y := ⟨_, rfl⟩
        have qv242 : v242.toInt = w7.toInt + 1 := by rw [← ev242]; exact th_add rfl (by decide) ⟨by omega, by omega⟩
        refine lv_iinc (v := v242) (lv' := [(2, .int v242), (0, .ref a0), (1, .int x1)]) hx hb dX7_begins_26 hl (k := 2) rfl ev242 (by decide) rfl (fun ls hl => ?_)
        refine lv_goto (tgt := 2) hx hb dX7_begins_29 (by decide) ?_
        exact ih2 _ _ _ _ (by omega) ⟨F235, _, v242, rfl, lv_sub hl [1, 2, 0] rfl, hP, hS, hI, hfr, (fun k hk => (y_fiZ oY238 (s_sub (by decide) hk)).trans (hz0 k hk)), ⟨by omega, by omega⟩, ⟨by omega, by omega⟩, (by rw [y_atE o239]; exact k241x), (by rw [y_atE o239]; exact k241y), (by rw [y_atE o239]; exact (fun j h0 h1 h2 => by rw [u240 j h0]; split; exact rfl; exact h13 j h0 (by omega) h2)), rfl⟩
