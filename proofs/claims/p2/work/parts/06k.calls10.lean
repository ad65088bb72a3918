set_option maxHeartbeats 4000000 in
set_option maxRecDepth 100000 in
theorem y_X7_unlike (l : Launch) (dC : Nat → ClassId) (dI : Nat → Nat → Nat) (sz : Nat) {L : List Nat} {K : Nat → Nat} {cs : Nat → ClassId} (hLK : ∀ a {k : Nat}, K a = k → k ≠ 0 → a ∈ L) (A : Nat → Nat) (hA : y_A K A) (F : Nat → va_E) (a0 : Nat) (ha0 : K a0 = 9) (hI : y_I K cs A F) : Met l yX7_unlike (Cond.code yX7_unlike cX7_unlike 5 (some .int) :: T0) ({ frames := 1, cells := 0, slots := 0, locals := 20 }) (va_Pc [.ref a0] (s_W dC dI sz L F [(cs 0, .int), (cs 1, .byte), (cs 2, .long), (cs 3, .object RX5), (cs 4, .object RX4), (cs 5, .array .int), (cs 6, .char), (cs 7, .boolean)])) (va_Qi (fun (r : Int32) (G : Nat → va_E) => True ∧ True ∧ y_I K cs A G ∧ (∀ b, K b ∉ ([] : List Nat) → G b = F b) ∧ (∀ k, k ∈ ([1, 2, 3, 4, 5, 6, 7, 8, 11, 15, 16, 19, 25, 26, 27, 31, 32] : List Nat) → y_fi G a0 k = y_fi F a0 k) ∧ True) (fun (G : Nat → va_E) (t : State) => va_P (dC, dI) vwCl (va_pl L G) t.heap ∧ va_K (dC, dI) vwCl [(cs 0, .int), (cs 1, .byte), (cs 2, .long), (cs 3, .object RX5), (cs 4, .object RX4), (cs 5, .array .int), (cs 6, .char), (cs 7, .boolean)] t) (fun q => q ∈ L)) 0 0 (fun q => q ∈ L) := by
  refine Met.ofW (cc := cX7_unlike) (maxL := 5) (ret := (some .int)) (by decide) rfl ?_
  intro p e s m args below meth c s₁ B hml hv
  obtain ⟨rfl, hsz, hP, hK, hD, hN⟩ := hv
  have hx := B.exec
  have hb := B.bytes
  have hr := B.returns
  have hts : ∀ w ∈ T0, w.before _ s = true := fun w h => atoms_spec (ws := Cond.code yX7_unlike cX7_unlike 5 (some .int) :: T0) B.pre w (List.mem_cons_of_mem _ h)
  have hown : s.vm.findClass RX7 = some m.cls := findClass_of_methodNamed B.named
  have hlocks := B.notSynchronized
  have hS : va_S (fun q => q ∈ L) s.heap s.heap [] := va_S.rf
  have hfr : ∀ b, K b ∉ ([] : List Nat) → F b = F b := fun _ _ => rfl
  have hl := lv_entry ([.ref a0]) (n := 5) (Nat.le_of_ble_eq_true rfl)
  rw [lg_entry_eq]
  generalize (lg_sl ([.ref a0]) ++ List.replicate (5 - (lg_sl ([.ref a0])).length) Slot.unset).toArray = ls at hl ⊢
  have hl : lv_has ls 5 [(0, .ref a0)] := hl
  refine s_gen hP hS (fun H locs hP hS => ?_)
  obtain ⟨z0, q0, oY0, bz0, bq0⟩ := y_opY hI ha0
  have hz0 : ∀ k, k ∈ ([1, 2, 3, 4, 5, 6, 7, 8, 11, 15, 16, 19, 25, 26, 27, 31, 32] : List Nat) → z0 k = z0 k := fun _ _ => rfl
  refine lv_iconst (v := 0) hx hb dX7_unlike_0 (by decide) ?_
  refine lv_istore_n (lv' := [(1, .int 0), (0, .ref a0)]) hx hb dX7_unlike_1 rfl hl (by decide) rfl (fun ls hl => ?_)
  refine lv_iconst (v := 0) hx hb dX7_unlike_2 (by decide) ?_
  refine lv_istore_n (lv' := [(2, .int 0), (1, .int 0), (0, .ref a0)]) hx hb dX7_unlike_3 rfl hl (by decide) rfl (fun ls hl => ?_)
  have h3 : (0 : Int32).toInt = 0 := by decide
  have h4 : (0 : Int32).toInt = 0 := by decide
  refine th_loop (fun n g H locs => ∃ (G : Nat → va_E) (ls : Array Slot) (w1 : Int32) (w2 : Int32), g = F0 m 4 ls [] ∧ lv_has ls 5 [(0, .ref a0), (1, .int w1), (2, .int w2)] ∧ va_P (dC, dI) vwCl (va_pl L G) H ∧ va_S (fun q => q ∈ L) s.heap H locs ∧ y_I K cs A G ∧ (∀ b, K b ∉ ([] : List Nat) → G b = F b) ∧ (∀ k, k ∈ ([1, 2, 3, 4, 5, 6, 7, 8, 11, 15, 16, 19, 25, 26, 27, 31, 32] : List Nat) → y_fi G a0 k = z0 k) ∧ True ∧ (0 ≤ w2.toInt ∧ w2.toInt ≤ 16) ∧ n = (17 - w2.toInt).toNat) _ ⟨F, _, 0, 0, rfl, lv_sub hl [2, 1, 0] rfl, hP, hS, hI, hfr, (fun k hk => (y_fiZ oY0 (s_sub (by decide) hk)).trans (hz0 k hk)), trivial, (by decide), rfl⟩ (fun n ih4 g H locs hq => ?_)
  obtain ⟨F7, ls, w1, w2, rfl, hl, hP, hS, hI, hfr, hz0, h5, h6, hn⟩ := hq
  have oY8 : F7 a0 = .inr (7, y_fl A z0 q0) := (hfr _ (by rw [ha0]; decide)).trans oY0
  have hz0 : ∀ k, k ∈ ([1, 2, 3, 4, 5, 6, 7, 8, 11, 15, 16, 19, 25, 26, 27, 31, 32] : List Nat) → z0 k = z0 k := fun _ _ => rfl
  have hn_8 := hn
  refine lv_iload_n hx hb dX7_unlike_4 rfl (lv_at hl 2 rfl) ?_
  refine lv_bipush (v := 16) hx hb dX7_unlike_5 (by decide) ?_
  refine lv_icmp_ge (tgt := 58) hx hb dX7_unlike_7 (by decide) (fun c9 => ?_) (fun c9 => ?_)
  · have c9 := (ax_ge (n := 16) (by decide)).mp c9
    refine lv_iload_n hx hb dX7_unlike_58 rfl (lv_at hl 1 rfl) ?_
    exact W.iret (v := w1) hx hb hr (fun t ht hW => ⟨⟨w1, F7, rfl, ⟨trivial, trivial, hI, hfr, fun k hk => (y_fiZ oY8 (s_sub (by decide) hk)).trans ((hz0 k hk).trans (y_fiZ oY0 (s_sub (by decide) hk)).symm), trivial⟩, by rw [ht]; exact hP, va_K.moved hW.alike hK⟩, hS.F ht⟩) hS.2.2 dX7_unlike_59
  · have c9 := mt (ax_ge (n := 16) (by decide)).mpr c9
    refine lv_iconst (v := 1) hx hb dX7_unlike_10 (by decide) ?_
    refine lv_istore_n (lv' := [(3, .int 1), (0, .ref a0), (1, .int w1), (2, .int w2)]) hx hb dX7_unlike_11 rfl hl (by decide) rfl (fun ls hl => ?_)
    refine lv_iconst (v := 0) hx hb dX7_unlike_12 (by decide) ?_
    refine lv_istore (lv' := [(4, .int 0), (3, .int 1), (0, .ref a0), (1, .int w1), (2, .int w2)]) hx hb dX7_unlike_13 hl (by decide) rfl (fun ls hl => ?_)
    have h12 : (1 : Int32).toInt = 1 := by decide
    have h13 : (0 : Int32).toInt = 0 := by decide
    refine th_loop (fun n g H locs => ∃ (G : Nat → va_E) (ls : Array Slot) (w10 : Int32) (w11 : Int32), g = F0 m 15 ls [] ∧ lv_has ls 5 [(0, .ref a0), (1, .int w1), (2, .int w2), (3, .int w10), (4, .int w11)] ∧ va_P (dC, dI) vwCl (va_pl L G) H ∧ va_S (fun q => q ∈ L) s.heap H locs ∧ y_I K cs A G ∧ (∀ b, K b ∉ ([] : List Nat) → G b = F b) ∧ (∀ k, k ∈ ([1, 2, 3, 4, 5, 6, 7, 8, 11, 15, 16, 19, 25, 26, 27, 31, 32] : List Nat) → y_fi G a0 k = z0 k) ∧ (0 ≤ w10.toInt ∧ w10.toInt ≤ 1) ∧ (0 ≤ w11.toInt ∧ w11.toInt ≤ 15) ∧ (0 ≤ w2.toInt ∧ w2.toInt ≤ 15) ∧ n = (16 - w11.toInt).toNat) _ ⟨F7, _, 1, 0, rfl, lv_sub hl [2, 3, 4, 1, 0] rfl, hP, hS, hI, hfr, (fun k hk => (y_fiZ oY8 (s_sub (by decide) hk)).trans (hz0 k hk)), (by decide), (by decide), ⟨by omega, by omega⟩, rfl⟩ (fun n ih15 g H locs hq => ?_)
    obtain ⟨F17, ls, w10, w11, rfl, hl, hP, hS, hI, hfr, hz0, h14, h15, h16, hn⟩ := hq
    have oY18 : F17 a0 = .inr (7, y_fl A z0 q0) := (hfr _ (by rw [ha0]; decide)).trans oY0
    have hz0 : ∀ k, k ∈ ([1, 2, 3, 4, 5, 6, 7, 8, 11, 15, 16, 19, 25, 26, 27, 31, 32] : List Nat) → z0 k = z0 k := fun _ _ => rfl
    have hn_18 := hn
    refine th_join (fun g H locs => ∃ (G : Nat → va_E) (ls : Array Slot) (w19 : Int32), g = F0 m 39 ls [] ∧ lv_has ls 5 [(0, .ref a0), (1, .int w1), (2, .int w2), (3, .int w19), (4, .int w11)] ∧ va_P (dC, dI) vwCl (va_pl L G) H ∧ va_S (fun q => q ∈ L) s.heap H locs ∧ y_I K cs A G ∧ (∀ b, K b ∉ ([] : List Nat) → G b = F b) ∧ (∀ k, k ∈ ([1, 2, 3, 4, 5, 6, 7, 8, 11, 15, 16, 19, 25, 26, 27, 31, 32] : List Nat) → y_fi G a0 k = z0 k) ∧ (0 ≤ w19.toInt ∧ w19.toInt ≤ 1) ∧ (1 ≤ w2.toInt ∧ w2.toInt ≤ 15) ∧ (0 ≤ w11.toInt ∧ w11.toInt ≤ 14)) (fun K39 => ?_) ?_
    · refine lv_iload hx hb dX7_unlike_15 (lv_at hl 4 rfl) ?_
      refine lv_iload_n hx hb dX7_unlike_17 rfl (lv_at hl 2 rfl) ?_
      refine lv_icmp_ge (tgt := 45) hx hb dX7_unlike_18 (by decide) (fun c20 => ?_) (fun c20 => ?_)
      · have c20 := Int32.le_iff_toInt_le.mp c20
        refine lv_iload_n hx hb dX7_unlike_45 rfl (lv_at hl 1 rfl) ?_
        refine lv_iload_n hx hb dX7_unlike_46 rfl (lv_at hl 3 rfl) ?_
        have rg21 : 0 ≤ w10.toInt ∧ w10.toInt ≤ 1 := ⟨by omega, by omega⟩
        refine va_calli (va_runS (As := [.int w10]) (rest := [.int w1]) ⟨hx, hb, hml, hown, hts⟩ (y_X7_flag l dC dI H.size F17 w10 rg21) (cwS 1 hts (ax_gS T_1001 T_1003 T_265 T_1002) rfl rfl rfl (by decide +kernel) ⟨Nat.le_of_ble_eq_true rfl, Nat.le_of_ble_eq_true rfl⟩) ⟨fun a U g mk q => ⟨q.1, s_pc (U := U) rfl rfl q.2⟩, fun U hU hW => ⟨rfl, s_pw hU hW hP hK hD hN⟩⟩ rfl rfl hl.1 rfl (lv_room (Nat.le_of_ble_eq_true rfl)) dX7_unlike_47 ⟨Nat.zero_le _, Nat.zero_le _⟩) hS (fun q _ h => h) (fun q h => h) (fun r23 F24 t H1 locs ht hvm hw hB hz1 hk1 hS => ?_)
        obtain ⟨hP, hK1⟩ := hB
        rw [ht] at hP
        generalize H1 = H at hP hS ⊢
        clear hz1 hk1 hvm hK1
        obtain ⟨h25, h27, hG9, h26⟩ := hw
        rw [hG9] at hP
        refine lv_iadd hx hb dX7_unlike_50 ?_
        refine lv_topi (fun v28 ev28 => ?_)
        refine lv_istore_n (lv' := [(1, .int v28), (0, .ref a0), (2, .int w2), (3, .int w10), (4, .int w11)]) hx hb dX7_unlike_51 rfl hl (by decide) rfl (fun ls hl => ?_)
        obtain ⟨v29, ev29⟩ : ∃ y : Int32, w2 + 1 = y := ⟨_, rfl⟩
        have qv29 : v29.toInt = w2.toInt + 1 := by rw [← ev29]; exact th_add rfl (by decide) ⟨by omega, by omega⟩
        refine lv_iinc (v := v29) (lv' := [(2, .int v29), (1, .int v28), (0, .ref a0), (3, .int w10), (4, .int w11)]) hx hb dX7_unlike_52 hl (k := 2) rfl ev29 (by decide) rfl (fun ls hl => ?_)
        refine lv_goto (tgt := 4) hx hb dX7_unlike_55 (by decide) ?_
        exact ih4 _ _ _ _ (by omega) ⟨F17, _, v28, v29, rfl, lv_sub hl [2, 1, 0] rfl, hP, hS, hI, hfr, (fun k hk => (y_fiZ oY18 (s_sub (by decide) hk)).trans (hz0 k hk)), trivial, ⟨by omega, by omega⟩, rfl⟩
      · have c20 := mt Int32.le_iff_toInt_le.mpr c20
        refine lv_aload_n hx hb dX7_unlike_21 rfl (lv_at hl 0 rfl) ?_
        refine th_get (D := (dC, dI)) (ci := 7) (v := .ref (A 29)) (C := RX7) (T := TX7) (N := 34) hx hb hts inX7 hown hK hP (hLK _ ha0 (by decide)) oY18 rfl 29 (by decide) (hts _ T_258) (fun _ h9 => h9) rfl dX7_unlike_22 ?_
        refine lv_iload hx hb dX7_unlike_25 (lv_at hl 4 rfl) ?_
        obtain ⟨f30, o31, b32⟩ := y_op29 hI
        refine th_iald hx hb hK hP (hLK _ (y_k29 hA) (by decide)) 0 o31 rfl (th_in ⟨by omega, by omega⟩) dX7_unlike_27 ?_
        refine lv_topi (fun v33 ev33 => ?_)
        refine lv_aload_n hx hb dX7_unlike_28 rfl (lv_at hl 0 rfl) ?_
        refine th_get (D := (dC, dI)) (ci := 7) (v := .ref (A 29)) (C := RX7) (T := TX7) (N := 34) hx hb hts inX7 hown hK hP (hLK _ ha0 (by decide)) oY18 rfl 29 (by decide) (hts _ T_258) (fun _ h9 => h9) rfl dX7_unlike_29 ?_
        refine lv_iload_n hx hb dX7_unlike_32 rfl (lv_at hl 2 rfl) ?_
        refine th_iald hx hb hK hP (hLK _ (y_k29 hA) (by decide)) 0 o31 rfl (th_in ⟨by omega, by omega⟩) dX7_unlike_33 ?_
        refine lv_topi (fun v34 ev34 => ?_)
        refine lv_icmp_ne (tgt := 39) hx hb dX7_unlike_34 (by decide) (fun c35 => ?_) (fun c35 => ?_)
        · have c35 := mt Int32.toInt_inj.symm.mpr c35
          exact K39 _ _ _ ⟨F17, _, w10, rfl, lv_sub hl [0, 1, 2, 3, 4] rfl, hP, hS, hI, hfr, (fun k hk => (y_fiZ oY18 (s_sub (by decide) hk)).trans (hz0 k hk)), ⟨by omega, by omega⟩, ⟨by omega, by omega⟩, ⟨by omega, by omega⟩⟩
        · have c35 := Int32.toInt_inj.symm.mp c35
          refine lv_iconst (v := 0) hx hb dX7_unlike_37 (by decide) ?_
          refine lv_istore_n (lv' := [(3, .int 0), (0, .ref a0), (1, .int w1), (2, .int w2), (4, .int w11)]) hx hb dX7_unlike_38 rfl hl (by decide) rfl (fun ls hl => ?_)
          have h36 : (0 : Int32).toInt = 0 := by decide
          exact K39 _ _ _ ⟨F17, _, 0, rfl, lv_sub hl [1, 2, 3, 0, 4] rfl, hP, hS, hI, hfr, (fun k hk => (y_fiZ oY18 (s_sub (by decide) hk)).trans (hz0 k hk)), (by decide), ⟨by omega, by omega⟩, ⟨by omega, by omega⟩⟩
    · intro g H locs hq
      obtain ⟨F40, ls, w19, rfl, hl, hP, hS, hI, hfr, hz0, h37, h38, h39⟩ := hq
      have oY41 : F40 a0 = .inr (7, y_fl A z0 q0) := (hfr _ (by rw [ha0]; decide)).trans oY0
      have hz0 : ∀ k, k ∈ ([1, 2, 3, 4, 5, 6, 7, 8, 11, 15, 16, 19, 25, 26, 27, 31, 32] : List Nat) → z0 k = z0 k := fun _ _ => rfl
      obtain ⟨v42, ev42⟩ : ∃ y : Int32, w11 + 1 = y := ⟨_, rfl⟩
      have qv42 : v42.toInt = w11.toInt + 1 := by rw [← ev42]; exact th_add rfl (by decide) ⟨by omega, by omega⟩
      refine lv_iinc (v := v42) (lv' := [(4, .int v42), (0, .ref a0), (1, .int w1), (2, .int w2), (3, .int w19)]) hx hb dX7_unlike_39 hl (k := 4) rfl ev42 (by decide) rfl (fun ls hl => ?_)
      refine lv_goto (tgt := 15) hx hb dX7_unlike_42 (by decide) ?_
      exact ih15 _ _ _ _ (by omega) ⟨F40, _, w19, v42, rfl, lv_sub hl [1, 2, 3, 4, 0] rfl, hP, hS, hI, hfr, (fun k hk => (y_fiZ oY41 (s_sub (by decide) hk)).trans (hz0 k hk)), ⟨by omega, by omega⟩, ⟨by omega, by omega⟩, ⟨by omega, by omega⟩, rfl⟩

set_option maxHeartbeats 4000000 in
set_option maxRecDepth 100000 in
theorem y_X7_tells (l : Launch) (dC : Nat → ClassId) (dI : Nat → Nat → Nat) (sz : Nat) {L : List Nat} {K : Nat → Nat} {cs : Nat → ClassId} (hLK : ∀ a {k : Nat}, K a = k → k ≠ 0 → a ∈ L) (A : Nat → Nat) (hA : y_A K A) (F : Nat → va_E) (a0 : Nat) (x1 : Int32) (ha0 : K a0 = 9) (hI : y_I K cs A F) (hT : y_T (y_fi F a0 15) (y_at F (A 13)) (y_at F (A 20)) (y_at F (A 30)) (y_fi F a0 31) (y_fi F a0 32)) : Met l yX7_tells (Cond.code yX7_tells cX7_tells 5 (some .int) :: T0) ({ frames := 10, cells := 0, slots := 0, locals := 231 }) (va_Pc [.ref a0, .int x1] (s_W dC dI sz L F [(cs 0, .int), (cs 1, .byte), (cs 2, .long), (cs 3, .object RX5), (cs 4, .object RX4), (cs 5, .array .int), (cs 6, .char), (cs 7, .boolean)])) (va_Qi (fun (r : Int32) (G : Nat → va_E) => True ∧ True ∧ y_I K cs A G ∧ (∀ b, K b ∉ [70, 71, 72, 73, 79] → G b = F b) ∧ (∀ k, k ∈ ([1, 2, 3, 4, 5, 6, 7, 8, 11, 15, 16, 19, 25, 26, 27, 31, 32] : List Nat) → y_fi G a0 k = y_fi F a0 k) ∧ (y_T (y_fi G a0 15) (y_at G (A 13)) (y_at G (A 20)) (y_at G (A 30)) (y_fi G a0 31) (y_fi G a0 32))) (fun (G : Nat → va_E) (t : State) => va_P (dC, dI) vwCl (va_pl L G) t.heap ∧ va_K (dC, dI) vwCl [(cs 0, .int), (cs 1, .byte), (cs 2, .long), (cs 3, .object RX5), (cs 4, .object RX4), (cs 5, .array .int), (cs 6, .char), (cs 7, .boolean)] t) (fun q => q ∈ L)) 0 0 (fun q => q ∈ L) := by
  refine Met.ofW (cc := cX7_tells) (maxL := 5) (ret := (some .int)) (by decide) rfl ?_
  intro p e s m args below meth c s₁ B hml hv
  obtain ⟨rfl, hsz, hP, hK, hD, hN⟩ := hv
  have hx := B.exec
  have hb := B.bytes
  have hr := B.returns
  have hts : ∀ w ∈ T0, w.before _ s = true := fun w h => atoms_spec (ws := Cond.code yX7_tells cX7_tells 5 (some .int) :: T0) B.pre w (List.mem_cons_of_mem _ h)
  have hown : s.vm.findClass RX7 = some m.cls := findClass_of_methodNamed B.named
  have hlocks := B.notSynchronized
  have hS : va_S (fun q => q ∈ L) s.heap s.heap [] := va_S.rf
  have hfr : ∀ b, K b ∉ [70, 71, 72, 73, 79] → F b = F b := fun _ _ => rfl
  have hl := lv_entry ([.ref a0, .int x1]) (n := 5) (Nat.le_of_ble_eq_true rfl)
  rw [lg_entry_eq]
  generalize (lg_sl ([.ref a0, .int x1]) ++ List.replicate (5 - (lg_sl ([.ref a0, .int x1])).length) Slot.unset).toArray = ls at hl ⊢
  have hl : lv_has ls 5 [(0, .ref a0), (1, .int x1)] := hl
  refine s_gen hP hS (fun H locs hP hS => ?_)
  obtain ⟨z0, q0, oY0, bz0, bq0⟩ := y_opY hI ha0
  have hz0 : ∀ k, k ∈ ([1, 2, 3, 4, 5, 6, 7, 8, 11, 15, 16, 19, 25, 26, 27, 31, 32] : List Nat) → z0 k = z0 k := fun _ _ => rfl
  obtain ⟨f1, o2, b3⟩ := y_op13 hI
  obtain ⟨f4, o5, b6⟩ := y_op20 hI
  obtain ⟨f7, o8, b9⟩ := y_op30 hI
  obtain ⟨v10, ev10⟩ : ∃ y : Int32, y = z0 15 := ⟨_, rfl⟩
  have qv10 : 0 ≤ v10.toInt ∧ v10.toInt ≤ 1 := by rw [ev10]; exact y_bY15 bz0
  have eF_15 := ev10
  obtain ⟨v11, ev11⟩ : ∃ y : Int32, y = z0 31 := ⟨_, rfl⟩
  have qv11 : 0 ≤ v11.toInt ∧ v11.toInt ≤ 20 := by rw [ev11]; exact y_bY31 bz0
  have eF_31 := ev11
  obtain ⟨v12, ev12⟩ : ∃ y : Int32, y = z0 32 := ⟨_, rfl⟩
  have qv12 : 0 ≤ v12.toInt ∧ v12.toInt ≤ 19 := by rw [ev12]; exact y_bY32 bz0
  have eF_32 := ev12
  replace hT : y_T v10 f1 f4 f7 v11 v12 := by have q9 := hT; rw [y_fiZ oY0 (k := 15) (by decide), ← ev10, y_atE o2, y_atE o5, y_atE o8, y_fiZ oY0 (k := 31) (by decide), ← ev11, y_fiZ oY0 (k := 32) (by decide), ← ev12] at q9; exact q9
  have e0_v10 := ev10
  have e0_v11 := ev11
  have e0_v12 := ev12
  refine lv_aload_n hx hb dX7_tells_0 rfl (lv_at hl 0 rfl) ?_
  refine th_get (D := (dC, dI)) (ci := 7) (v := .int (z0 15)) (C := RX7) (T := TX7) (N := 34) hx hb hts inX7 hown hK hP (hLK _ ha0 (by decide)) oY0 rfl 15 (by decide) (hts _ T_271) (fun _ h9 => h9) rfl dX7_tells_1 ?_
  refine ax_eqi (y := v10) ev10.symm ?_
  refine lv_if_eq (tgt := 17) hx hb dX7_tells_4 (by decide) (fun c13 => ?_) (fun c13 => ?_)
  · have c13 := (ax_eq (n := 0) (by decide)).mp c13
    refine lv_iconst (v := (-1)) hx hb dX7_tells_17 (by decide) ?_
    have h14 : ((-1) : Int32).toInt = (-1) := by decide
    exact W.iret (v := (-1)) hx hb hr (fun t ht hW => ⟨⟨(-1), F, rfl, ⟨trivial, trivial, hI, hfr, fun k hk => (y_fiZ oY0 (s_sub (by decide) hk)).trans ((hz0 k hk).trans (y_fiZ oY0 (s_sub (by decide) hk)).symm), (by rw [y_fiZ oY0 (k := 15) (by decide), ← ev10, y_atE o2, y_atE o5, y_atE o8, y_fiZ oY0 (k := 31) (by decide), ← ev11, y_fiZ oY0 (k := 32) (by decide), ← ev12]; exact (y_Tc (y_CP_r _) hT))⟩, by rw [ht]; exact hP, va_K.moved hW.alike hK⟩, hS.F ht⟩) hS.2.2 dX7_tells_18
  · have c13 := mt (ax_eq (n := 0) (by decide)).mpr c13
    obtain ⟨htd, hPG, hNG, hUG⟩ := y_TT hT (by omega)
    have hL := y_P0L hPG.1
    have hW := y_P0W hPG.1
    have hnn := And.intro hNG.1 (And.intro hNG.2.1 (And.intro hNG.2.2.1 hNG.2.2.2.1))
    refine lv_iload_n hx hb dX7_tells_7 rfl (lv_at hl 1 rfl) ?_
    refine lv_i2l hx hb dX7_tells_8 rfl ?_
    refine lv_topl (fun v15 ev15 => ?_)
    have qv15 : v15.toInt = x1.toInt := y_i2l ev15
    refine lv_lconst (v := 0) hx hb dX7_tells_9 (by decide) ?_
    refine lv_lconst (v := 1) hx hb dX7_tells_10 (by decide) ?_
    refine va_calli (va_runS (As := [.long v15, .long 0, .long 1]) (rest := []) ⟨hx, hb, hml, hown, hts⟩ (y_X7_isIn l dC dI H.size F v15 0 1) (cwS 3 hts (ax_gS T_267 T_268 T_265 T_21) rfl rfl rfl (by decide +kernel) ⟨Nat.le_of_ble_eq_true rfl, Nat.le_of_ble_eq_true rfl⟩) ⟨fun a U g mk q => ⟨q.1, s_pc (U := U) rfl rfl q.2⟩, fun U hU hW => ⟨rfl, s_pw hU hW hP hK hD hN⟩⟩ rfl rfl hl.1 rfl (lv_room (Nat.le_of_ble_eq_true rfl)) dX7_tells_11 ⟨Nat.zero_le _, Nat.zero_le _⟩) hS (fun q _ h => h) (fun q h => h) (fun r17 F18 t H1 locs ht hvm hw hB hz1 hk1 hS => ?_)
    obtain ⟨hP, hK1⟩ := hB
    rw [ht] at hP
    generalize H1 = H at hP hS ⊢
    clear hz1 hk1 hvm hK1
    obtain ⟨h19, h21, hG9, h20⟩ := hw
    rw [hG9] at hP
    replace h20 : ((r17.toInt = 0 ∧ (v15.toInt < 0 ∨ 1 < v15.toInt)) ∨ (r17.toInt = 1 ∧ 0 ≤ v15.toInt ∧ v15.toInt ≤ 1)) := by have q9 := h20; exact q9
    refine lv_if_ne (tgt := 19) hx hb dX7_tells_14 (by decide) (fun c22 => ?_) (fun c22 => ?_)
    · have c22 := mt (ax_eq (n := 0) (by decide)).mpr c22
      refine lv_iconst (v := (-1)) hx hb dX7_tells_19 (by decide) ?_
      refine lv_istore_n (lv' := [(2, .int (-1)), (0, .ref a0), (1, .int x1)]) hx hb dX7_tells_20 rfl hl (by decide) rfl (fun ls hl => ?_)
      refine lv_iconst (v := 0) hx hb dX7_tells_21 (by decide) ?_
      refine lv_istore_n (lv' := [(3, .int 0), (2, .int (-1)), (0, .ref a0), (1, .int x1)]) hx hb dX7_tells_22 rfl hl (by decide) rfl (fun ls hl => ?_)
      refine lv_iconst (v := 0) hx hb dX7_tells_23 (by decide) ?_
      refine lv_istore (lv' := [(4, .int 0), (3, .int 0), (2, .int (-1)), (0, .ref a0), (1, .int x1)]) hx hb dX7_tells_24 hl (by decide) rfl (fun ls hl => ?_)
      have h26 : ((-1) : Int32).toInt = (-1) := by decide
      have h27 : (0 : Int32).toInt = 0 := by decide
      have h28 : (0 : Int32).toInt = 0 := by decide
      refine th_loop (fun n g H locs => ∃ (G : Nat → va_E) (ls : Array Slot) (w23 : Int32) (w24 : Int32) (w25 : Int32), g = F0 m 26 ls [] ∧ lv_has ls 5 [(0, .ref a0), (1, .int x1), (2, .int w23), (3, .int w24), (4, .int w25)] ∧ va_P (dC, dI) vwCl (va_pl L G) H ∧ va_S (fun q => q ∈ L) s.heap H locs ∧ y_I K cs A G ∧ (∀ b, K b ∉ [70, 71, 72, 73, 79] → G b = F b) ∧ (∀ k, k ∈ ([1, 2, 3, 4, 5, 6, 7, 8, 11, 15, 16, 19, 25, 26, 27, 31, 32] : List Nat) → y_fi G a0 k = z0 k) ∧ (-1 ≤ w23.toInt ∧ w23.toInt ≤ 7) ∧ True ∧ (0 ≤ w25.toInt ∧ w25.toInt ≤ 8) ∧ (y_CP f4 (y_at G (A 20))) ∧ n = (9 - w25.toInt).toNat) _ ⟨F, _, (-1), 0, 0, rfl, lv_sub hl [3, 4, 2, 1, 0] rfl, hP, hS, hI, hfr, (fun k hk => (y_fiZ oY0 (s_sub (by decide) hk)).trans (hz0 k hk)), (by decide), trivial, (by decide), (by rw [y_atE o5]; exact (y_CP_r _)), rfl⟩ (fun n ih26 g H locs hq => ?_)
      obtain ⟨F33, ls, w23, w24, w25, rfl, hl, hP, hS, hI, hfr, hz0, h29, h30, h31, h32, hn⟩ := hq
      have o34 : F33 (A 13) = .inl (cs 0, 400, .inl f1) := (hfr _ (by rw [(y_k13 hA)]; decide)).trans o2
      have o35 : F33 (A 30) = .inl (cs 0, 18360, .inl f7) := (hfr _ (by rw [(y_k30 hA)]; decide)).trans o8
      have oY36 : F33 a0 = .inr (7, y_fl A z0 q0) := (hfr _ (by rw [ha0]; decide)).trans oY0
      have hz0 : ∀ k, k ∈ ([1, 2, 3, 4, 5, 6, 7, 8, 11, 15, 16, 19, 25, 26, 27, 31, 32] : List Nat) → z0 k = z0 k := fun _ _ => rfl
      obtain ⟨f37, o38, b39⟩ := y_op20 hI
      replace h32 : (y_CP f4 f37) := by have q9 := h32; rw [y_atE o38] at q9; exact q9
      have hNGk := y_NGcp h32 (by omega) hNG
      have hn_39 := hn
      refine th_join (fun g H locs => ∃ (G : Nat → va_E) (ls : Array Slot) (w40 : Int32) (w41 : Int32), g = F0 m 63 ls [] ∧ lv_has ls 5 [(0, .ref a0), (1, .int x1), (2, .int w40), (3, .int w41), (4, .int w25)] ∧ va_P (dC, dI) vwCl (va_pl L G) H ∧ va_S (fun q => q ∈ L) s.heap H locs ∧ y_I K cs A G ∧ (∀ b, K b ∉ [70, 71, 72, 73, 79] → G b = F b) ∧ (∀ k, k ∈ ([1, 2, 3, 4, 5, 6, 7, 8, 11, 15, 16, 19, 25, 26, 27, 31, 32] : List Nat) → y_fi G a0 k = z0 k) ∧ (0 ≤ w40.toInt ∧ w40.toInt ≤ 7) ∧ True ∧ (0 ≤ w25.toInt ∧ w25.toInt ≤ 7) ∧ (y_CP f4 (y_at G (A 20)))) (fun K63 => ?_) ?_
      · refine lv_iload hx hb dX7_tells_26 (lv_at hl 4 rfl) ?_
        refine lv_bipush (v := 8) hx hb dX7_tells_28 (by decide) ?_
        refine lv_icmp_ge (tgt := 69) hx hb dX7_tells_30 (by decide) (fun c42 => ?_) (fun c42 => ?_)
        · have c42 := (ax_ge (n := 8) (by decide)).mp c42
          refine lv_iload_n hx hb dX7_tells_69 rfl (lv_at hl 1 rfl) ?_
          refine lv_if_ne (tgt := 77) hx hb dX7_tells_70 (by decide) (fun c43 => ?_) (fun c43 => ?_)
          · have c43 := mt (ax_eq (n := 0) (by decide)).mpr c43
            refine lv_iload_n hx hb dX7_tells_77 rfl (lv_at hl 3 rfl) ?_
            exact W.iret (v := w24) hx hb hr (fun t ht hW => ⟨⟨w24, F33, rfl, ⟨trivial, trivial, hI, hfr, fun k hk => (y_fiZ oY36 (s_sub (by decide) hk)).trans ((hz0 k hk).trans (y_fiZ oY0 (s_sub (by decide) hk)).symm), (by rw [y_fiZ oY36 (k := 15) (by decide), ← ev10, y_atE o34, y_atE o38, y_atE o35, y_fiZ oY36 (k := 31) (by decide), ← ev11, y_fiZ oY36 (k := 32) (by decide), ← ev12]; exact (y_Tc h32 hT))⟩, by rw [ht]; exact hP, va_K.moved hW.alike hK⟩, hS.F ht⟩) hS.2.2 dX7_tells_78
          · have c43 := (ax_eq (n := 0) (by decide)).mp c43
            refine lv_iload_n hx hb dX7_tells_73 rfl (lv_at hl 2 rfl) ?_
            refine lv_goto (tgt := 78) hx hb dX7_tells_74 (by decide) ?_
            exact W.iret (v := w23) hx hb hr (fun t ht hW => ⟨⟨w23, F33, rfl, ⟨trivial, trivial, hI, hfr, fun k hk => (y_fiZ oY36 (s_sub (by decide) hk)).trans ((hz0 k hk).trans (y_fiZ oY0 (s_sub (by decide) hk)).symm), (by rw [y_fiZ oY36 (k := 15) (by decide), ← ev10, y_atE o34, y_atE o38, y_atE o35, y_fiZ oY36 (k := 31) (by decide), ← ev11, y_fiZ oY36 (k := 32) (by decide), ← ev12]; exact (y_Tc h32 hT))⟩, by rw [ht]; exact hP, va_K.moved hW.alike hK⟩, hS.F ht⟩) hS.2.2 dX7_tells_78
        · have c42 := mt (ax_ge (n := 8) (by decide)).mpr c42
          refine lv_aload_n hx hb dX7_tells_33 rfl (lv_at hl 0 rfl) ?_
          refine lv_iload hx hb dX7_tells_34 (lv_at hl 4 rfl) ?_
          have rg44 : 0 ≤ w25.toInt ∧ w25.toInt ≤ 63 := ⟨by omega, by omega⟩
          refine va_callv (va_runV (As := [.int w25]) (rest := []) ⟨hx, hb, hml, hown, hts⟩ (y_X7_laysEnds l dC dI H.size hLK A hA F33 a0 w25 ha0 rg44 hI (by rw [y_atE o34]; exact hPG) (by rw [y_atE o34, y_atE o38]; exact hNGk)) (cwV 1 hts (ax_gV T_1244 T_1246 T_1247 T_265 T_1245) rfl rfl rfl (by decide +kernel) ⟨Nat.le_of_ble_eq_true rfl, Nat.le_of_ble_eq_true rfl⟩) ⟨fun a U g mk q => ⟨q.1, s_pc (U := U) rfl rfl q.2⟩, s_recv hK hP (hLK _ ha0 (by decide)) (ci := 7) rfl oY36, fun U hU hW => ⟨rfl, s_pw hU hW hP hK hD hN⟩⟩ rfl rfl hl.1 rfl (lv_room (Nat.le_of_ble_eq_true rfl)) dX7_tells_36 ⟨Nat.zero_le _, Nat.zero_le _⟩) hS (fun q _ h => h) (fun q h => h) (fun F46 t H1 locs ht hvm hw hB hz1 hk1 hS => ?_)
          obtain ⟨hP, hK1⟩ := hB
          rw [ht] at hP
          generalize H1 = H at hP hS ⊢
          clear hz1 hk1 hvm hK1
          obtain ⟨h47, h49, hI, hfr1, hzf, h48⟩ := hw
          have o50 : F46 (A 13) = .inl (cs 0, 400, .inl f1) := (hfr1 _ (by rw [(y_k13 hA)]; decide)).trans o34
          have o51 : F46 (A 30) = .inl (cs 0, 18360, .inl f7) := (hfr1 _ (by rw [(y_k30 hA)]; decide)).trans o35
          have oY52 : F46 a0 = .inr (7, y_fl A z0 q0) := (hfr1 _ (by rw [ha0]; decide)).trans oY36
          have hfr : ∀ b, K b ∉ [70, 71, 72, 73, 79] → F46 b = F b := fun b hb9 => (hfr1 b (fun q => hb9 (s_sub (by decide) q))).trans (hfr b hb9)
          obtain ⟨f53, o54, b55⟩ := y_op20 hI
          replace h48 : (y_CP f37 f53) := by have q9 := h48; rw [y_atE o38, y_atE o54] at q9; exact q9
          refine lv_iload_n hx hb dX7_tells_39 rfl (lv_at hl 2 rfl) ?_
          refine lv_iconst (v := (-1)) hx hb dX7_tells_40 (by decide) ?_
          refine lv_icmp_eq (tgt := 55) hx hb dX7_tells_41 (by decide) (fun c56 => ?_) (fun c56 => ?_)
          · have c56 := (ax_eq (n := (-1)) (by decide)).mp c56
            refine lv_iload hx hb dX7_tells_55 (lv_at hl 4 rfl) ?_
            refine lv_istore_n (lv' := [(2, .int w25), (0, .ref a0), (1, .int x1), (3, .int w24), (4, .int w25)]) hx hb dX7_tells_57 rfl hl (by decide) rfl (fun ls hl => ?_)
            refine lv_aload_n hx hb dX7_tells_58 rfl (lv_at hl 1 rfl) ?_
            refine va_calli (va_runV (As := []) (rest := []) ⟨hx, hb, hml, hown, hts⟩ (y_X7_unlike l dC dI H.size hLK A hA F46 a0 ha0 hI) (cwV 0 hts (ax_gV T_1330 T_1332 T_1333 T_265 T_1331) rfl rfl rfl (by decide +kernel) ⟨Nat.le_of_ble_eq_true rfl, Nat.le_of_ble_eq_true rfl⟩) ⟨fun a U g mk q => ⟨q.1, s_pc (U := U) rfl rfl q.2⟩, s_recv hK hP (hLK _ ha0 (by decide)) (ci := 7) rfl oY52, fun U hU hW => ⟨rfl, s_pw hU hW hP hK hD hN⟩⟩ rfl rfl hl.1 rfl (lv_room (Nat.le_of_ble_eq_true rfl)) dX7_tells_59 ⟨Nat.zero_le _, Nat.zero_le _⟩) hS (fun q _ h => h) (fun q h => h) (fun r58 F59 t H1 locs ht hvm hw hB hz1 hk1 hS => ?_)
            obtain ⟨hP, hK1⟩ := hB
            rw [ht] at hP
            generalize H1 = H at hP hS ⊢
            clear hz1 hk1 hvm hK1
            obtain ⟨h60, h62, hI, hfr1, hzf, h61⟩ := hw
            have o63 : F59 (A 13) = .inl (cs 0, 400, .inl f1) := (hfr1 _ (by rw [(y_k13 hA)]; decide)).trans o50
            have o64 : F59 (A 30) = .inl (cs 0, 18360, .inl f7) := (hfr1 _ (by rw [(y_k30 hA)]; decide)).trans o51
            have o65 : F59 (A 20) = .inl (cs 0, 918, .inl f53) := (hfr1 _ (by rw [(y_k20 hA)]; decide)).trans o54
            have oY66 : F59 a0 = .inr (7, y_fl A z0 q0) := (hfr1 _ (by rw [ha0]; decide)).trans oY52
            have hfr : ∀ b, K b ∉ [70, 71, 72, 73, 79] → F59 b = F b := fun b hb9 => (hfr1 b (fun q => hb9 (s_sub (by decide) q))).trans (hfr b hb9)
            refine lv_istore_n (lv' := [(3, .int r58), (2, .int w25), (0, .ref a0), (1, .int x1), (4, .int w25)]) hx hb dX7_tells_62 rfl hl (by decide) rfl (fun ls hl => ?_)
            exact K63 _ _ _ ⟨F59, _, w25, r58, rfl, lv_sub hl [2, 3, 1, 0, 4] rfl, hP, hS, hI, hfr, (fun k hk => (y_fiZ oY66 (s_sub (by decide) hk)).trans (hz0 k hk)), ⟨by omega, by omega⟩, trivial, ⟨by omega, by omega⟩, (by rw [y_atE o65]; exact (y_CP_t h32 h48))⟩
          · have c56 := mt (ax_eq (n := (-1)) (by decide)).mpr c56
            refine lv_aload_n hx hb dX7_tells_44 rfl (lv_at hl 0 rfl) ?_
            refine va_calli (va_runV (As := []) (rest := []) ⟨hx, hb, hml, hown, hts⟩ (y_X7_unlike l dC dI H.size hLK A hA F46 a0 ha0 hI) (cwV 0 hts (ax_gV T_1330 T_1332 T_1333 T_265 T_1331) rfl rfl rfl (by decide +kernel) ⟨Nat.le_of_ble_eq_true rfl, Nat.le_of_ble_eq_true rfl⟩) ⟨fun a U g mk q => ⟨q.1, s_pc (U := U) rfl rfl q.2⟩, s_recv hK hP (hLK _ ha0 (by decide)) (ci := 7) rfl oY52, fun U hU hW => ⟨rfl, s_pw hU hW hP hK hD hN⟩⟩ rfl rfl hl.1 rfl (lv_room (Nat.le_of_ble_eq_true rfl)) dX7_tells_45 ⟨Nat.zero_le _, Nat.zero_le _⟩) hS (fun q _ h => h) (fun q h => h) (fun r68 F69 t H1 locs ht hvm hw hB hz1 hk1 hS => ?_)
            obtain ⟨hP, hK1⟩ := hB
            rw [ht] at hP
            generalize H1 = H at hP hS ⊢
            clear hz1 hk1 hvm hK1
            obtain ⟨h70, h72, hI, hfr1, hzf, h71⟩ := hw
            have o73 : F69 (A 13) = .inl (cs 0, 400, .inl f1) := (hfr1 _ (by rw [(y_k13 hA)]; decide)).trans o50
            have o74 : F69 (A 30) = .inl (cs 0, 18360, .inl f7) := (hfr1 _ (by rw [(y_k30 hA)]; decide)).trans o51
            have o75 : F69 (A 20) = .inl (cs 0, 918, .inl f53) := (hfr1 _ (by rw [(y_k20 hA)]; decide)).trans o54
            have oY76 : F69 a0 = .inr (7, y_fl A z0 q0) := (hfr1 _ (by rw [ha0]; decide)).trans oY52
            have hfr : ∀ b, K b ∉ [70, 71, 72, 73, 79] → F69 b = F b := fun b hb9 => (hfr1 b (fun q => hb9 (s_sub (by decide) q))).trans (hfr b hb9)
            refine lv_iload_n hx hb dX7_tells_48 rfl (lv_at hl 3 rfl) ?_
            refine lv_icmp_gt (tgt := 55) hx hb dX7_tells_49 (by decide) (fun c77 => ?_) (fun c77 => ?_)
            · have c77 := Int32.lt_iff_toInt_lt.mp c77
              refine lv_iload hx hb dX7_tells_55 (lv_at hl 4 rfl) ?_
              refine lv_istore_n (lv' := [(2, .int w25), (0, .ref a0), (1, .int x1), (3, .int w24), (4, .int w25)]) hx hb dX7_tells_57 rfl hl (by decide) rfl (fun ls hl => ?_)
              refine lv_aload_n hx hb dX7_tells_58 rfl (lv_at hl 1 rfl) ?_
              refine va_calli (va_runV (As := []) (rest := []) ⟨hx, hb, hml, hown, hts⟩ (y_X7_unlike l dC dI H.size hLK A hA F69 a0 ha0 hI) (cwV 0 hts (ax_gV T_1330 T_1332 T_1333 T_265 T_1331) rfl rfl rfl (by decide +kernel) ⟨Nat.le_of_ble_eq_true rfl, Nat.le_of_ble_eq_true rfl⟩) ⟨fun a U g mk q => ⟨q.1, s_pc (U := U) rfl rfl q.2⟩, s_recv hK hP (hLK _ ha0 (by decide)) (ci := 7) rfl oY76, fun U hU hW => ⟨rfl, s_pw hU hW hP hK hD hN⟩⟩ rfl rfl hl.1 rfl (lv_room (Nat.le_of_ble_eq_true rfl)) dX7_tells_59 ⟨Nat.zero_le _, Nat.zero_le _⟩) hS (fun q _ h => h) (fun q h => h) (fun r79 F80 t H1 locs ht hvm hw hB hz1 hk1 hS => ?_)
              obtain ⟨hP, hK1⟩ := hB
              rw [ht] at hP
              generalize H1 = H at hP hS ⊢
              clear hz1 hk1 hvm hK1
              obtain ⟨h81, h83, hI, hfr1, hzf, h82⟩ := hw
              have o84 : F80 (A 13) = .inl (cs 0, 400, .inl f1) := (hfr1 _ (by rw [(y_k13 hA)]; decide)).trans o73
              have o85 : F80 (A 30) = .inl (cs 0, 18360, .inl f7) := (hfr1 _ (by rw [(y_k30 hA)]; decide)).trans o74
              have o86 : F80 (A 20) = .inl (cs 0, 918, .inl f53) := (hfr1 _ (by rw [(y_k20 hA)]; decide)).trans o75
              have oY87 : F80 a0 = .inr (7, y_fl A z0 q0) := (hfr1 _ (by rw [ha0]; decide)).trans oY76
              have hfr : ∀ b, K b ∉ [70, 71, 72, 73, 79] → F80 b = F b := fun b hb9 => (hfr1 b (fun q => hb9 (s_sub (by decide) q))).trans (hfr b hb9)
              refine lv_istore_n (lv' := [(3, .int r79), (2, .int w25), (0, .ref a0), (1, .int x1), (4, .int w25)]) hx hb dX7_tells_62 rfl hl (by decide) rfl (fun ls hl => ?_)
              exact K63 _ _ _ ⟨F80, _, w25, r79, rfl, lv_sub hl [2, 3, 1, 0, 4] rfl, hP, hS, hI, hfr, (fun k hk => (y_fiZ oY87 (s_sub (by decide) hk)).trans (hz0 k hk)), ⟨by omega, by omega⟩, trivial, ⟨by omega, by omega⟩, (by rw [y_atE o86]; exact (y_CP_t h32 h48))⟩
            · have c77 := mt Int32.lt_iff_toInt_lt.mpr c77
              refine lv_goto (tgt := 63) hx hb dX7_tells_52 (by decide) ?_
              exact K63 _ _ _ ⟨F69, _, w23, w24, rfl, lv_sub hl [0, 1, 2, 3, 4] rfl, hP, hS, hI, hfr, (fun k hk => (y_fiZ oY76 (s_sub (by decide) hk)).trans (hz0 k hk)), ⟨by omega, by omega⟩, trivial, ⟨by omega, by omega⟩, (by rw [y_atE o75]; exact (y_CP_t h32 h48))⟩
      · intro g H locs hq
        obtain ⟨F92, ls, w40, w41, rfl, hl, hP, hS, hI, hfr, hz0, h88, h89, h90, h91⟩ := hq
        have o93 : F92 (A 13) = .inl (cs 0, 400, .inl f1) := (hfr _ (by rw [(y_k13 hA)]; decide)).trans o2
        have o94 : F92 (A 30) = .inl (cs 0, 18360, .inl f7) := (hfr _ (by rw [(y_k30 hA)]; decide)).trans o8
        have oY95 : F92 a0 = .inr (7, y_fl A z0 q0) := (hfr _ (by rw [ha0]; decide)).trans oY0
        have hz0 : ∀ k, k ∈ ([1, 2, 3, 4, 5, 6, 7, 8, 11, 15, 16, 19, 25, 26, 27, 31, 32] : List Nat) → z0 k = z0 k := fun _ _ => rfl
        obtain ⟨f96, o97, b98⟩ := y_op20 hI
        replace h91 : (y_CP f4 f96) := by have q9 := h91; rw [y_atE o97] at q9; exact q9
        have hNGk := y_NGcp h91 (by omega) hNG
        obtain ⟨v99, ev99⟩ : ∃ y : Int32, w25 + 1 = y := ⟨_, rfl⟩
        have qv99 : v99.toInt = w25.toInt + 1 := by rw [← ev99]; exact th_add rfl (by decide) ⟨by omega, by omega⟩
        refine lv_iinc (v := v99) (lv' := [(4, .int v99), (0, .ref a0), (1, .int x1), (2, .int w40), (3, .int w41)]) hx hb dX7_tells_63 hl (k := 4) rfl ev99 (by decide) rfl (fun ls hl => ?_)
        refine lv_goto (tgt := 26) hx hb dX7_tells_66 (by decide) ?_
        exact ih26 _ _ _ _ (by omega) ⟨F92, _, w40, w41, v99, rfl, lv_sub hl [1, 2, 3, 4, 0] rfl, hP, hS, hI, hfr, (fun k hk => (y_fiZ oY95 (s_sub (by decide) hk)).trans (hz0 k hk)), ⟨by omega, by omega⟩, trivial, ⟨by omega, by omega⟩, (by rw [y_atE o97]; exact h91), rfl⟩
    · have c22 := (ax_eq (n := 0) (by decide)).mp c22
      refine lv_iconst (v := (-1)) hx hb dX7_tells_17 (by decide) ?_
      have h100 : ((-1) : Int32).toInt = (-1) := by decide
      exact W.iret (v := (-1)) hx hb hr (fun t ht hW => ⟨⟨(-1), F, rfl, ⟨trivial, trivial, hI, hfr, fun k hk => (y_fiZ oY0 (s_sub (by decide) hk)).trans ((hz0 k hk).trans (y_fiZ oY0 (s_sub (by decide) hk)).symm), (by rw [y_fiZ oY0 (k := 15) (by decide), ← ev10, y_atE o2, y_atE o5, y_atE o8, y_fiZ oY0 (k := 31) (by decide), ← ev11, y_fiZ oY0 (k := 32) (by decide), ← ev12]; exact (y_Tc (y_CP_r _) hT))⟩, by rw [ht]; exact hP, va_K.moved hW.alike hK⟩, hS.F ht⟩) hS.2.2 dX7_tells_18

set_option maxHeartbeats 4000000 in
set_option maxRecDepth 100000 in
theorem y_X7_keeps (l : Launch) (dC : Nat → ClassId) (dI : Nat → Nat → Nat) (sz : Nat) {L : List Nat} {K : Nat → Nat} {cs : Nat → ClassId} (hLK : ∀ a {k : Nat}, K a = k → k ≠ 0 → a ∈ L) (A : Nat → Nat) (hA : y_A K A) (F : Nat → va_E) (a0 : Nat) (ha0 : K a0 = 9) (hI : y_I K cs A F) (hPG : y_PG (y_at F (A 13))) (hNG : y_NG (y_at F (A 13)) (y_at F (A 20))) (hUG : y_UG (y_at F (A 13)) (y_at F (A 30)) (y_fi F a0 31).toInt (y_fi F a0 32).toInt) : Met l yX7_keeps (Cond.code yX7_keeps cX7_keeps 2 none :: T0) ({ frames := 0, cells := 0, slots := 0, locals := 0 }) (va_Pc [.ref a0] (s_W dC dI sz L F [(cs 0, .int), (cs 1, .byte), (cs 2, .long), (cs 3, .object RX5), (cs 4, .object RX4), (cs 5, .array .int), (cs 6, .char), (cs 7, .boolean)])) (va_Qv (fun (G : Nat → va_E) => True ∧ True ∧ y_I K cs A G ∧ (∀ b, K b ∉ [9, 80] → G b = F b) ∧ (∀ k, k ∈ ([1, 2, 3, 4, 5, 6, 7, 8, 11, 15, 16, 19, 25, 26, 27] : List Nat) → y_fi G a0 k = y_fi F a0 k) ∧ (y_UG (y_at F (A 13)) (y_at G (A 30)) (y_fi G a0 31).toInt (y_fi G a0 32).toInt)) (fun (G : Nat → va_E) (t : State) => va_P (dC, dI) vwCl (va_pl L G) t.heap ∧ va_K (dC, dI) vwCl [(cs 0, .int), (cs 1, .byte), (cs 2, .long), (cs 3, .object RX5), (cs 4, .object RX4), (cs 5, .array .int), (cs 6, .char), (cs 7, .boolean)] t) (fun q => q ∈ L)) 0 0 (fun q => q ∈ L) := by
  refine Met.ofW (cc := cX7_keeps) (maxL := 2) (ret := none) (by decide) rfl ?_
  intro p e s m args below meth c s₁ B hml hv
  obtain ⟨rfl, hsz, hP, hK, hD, hN⟩ := hv
  have hx := B.exec
  have hb := B.bytes
  have hr := B.returns
  have hts : ∀ w ∈ T0, w.before _ s = true := fun w h => atoms_spec (ws := Cond.code yX7_keeps cX7_keeps 2 none :: T0) B.pre w (List.mem_cons_of_mem _ h)
  have hown : s.vm.findClass RX7 = some m.cls := findClass_of_methodNamed B.named
  have hlocks := B.notSynchronized
  have hS : va_S (fun q => q ∈ L) s.heap s.heap [] := va_S.rf
  have hfr : ∀ b, K b ∉ [9, 80] → F b = F b := fun _ _ => rfl
  have hl := lv_entry ([.ref a0]) (n := 2) (Nat.le_of_ble_eq_true rfl)
  rw [lg_entry_eq]
  generalize (lg_sl ([.ref a0]) ++ List.replicate (2 - (lg_sl ([.ref a0])).length) Slot.unset).toArray = ls at hl ⊢
  have hl : lv_has ls 2 [(0, .ref a0)] := hl
  refine s_gen hP hS (fun H locs hP hS => ?_)
  obtain ⟨z0, q0, oY0, bz0, bq0⟩ := y_opY hI ha0
  have hz0 : ∀ k, k ∈ ([1, 2, 3, 4, 5, 6, 7, 8, 11, 15, 16, 19, 25, 26, 27] : List Nat) → z0 k = z0 k := fun _ _ => rfl
  obtain ⟨f1, o2, b3⟩ := y_op13 hI
  obtain ⟨f4, o5, b6⟩ := y_op20 hI
  obtain ⟨f7, o8, b9⟩ := y_op30 hI
  obtain ⟨v10, ev10⟩ : ∃ y : Int32, y = z0 31 := ⟨_, rfl⟩
  have qv10 : 0 ≤ v10.toInt ∧ v10.toInt ≤ 20 := by rw [ev10]; exact y_bY31 bz0
  have eF_31 := ev10
  obtain ⟨v11, ev11⟩ : ∃ y : Int32, y = z0 32 := ⟨_, rfl⟩
  have qv11 : 0 ≤ v11.toInt ∧ v11.toInt ≤ 19 := by rw [ev11]; exact y_bY32 bz0
  have eF_32 := ev11
  replace hPG : y_PG f1 := by have q9 := hPG; rw [y_atE o2] at q9; exact q9
  replace hNG : y_NG f1 f4 := by have q9 := hNG; rw [y_atE o2, y_atE o5] at q9; exact q9
  replace hUG : y_UG f1 f7 v10.toInt v11.toInt := by have q9 := hUG; rw [y_atE o2, y_atE o8, y_fiZ oY0 (k := 31) (by decide), ← ev10, y_fiZ oY0 (k := 32) (by decide), ← ev11] at q9; exact q9
  have hL := y_P0L hPG.1
  have hW := y_P0W hPG.1
  have hnn := And.intro hNG.1 (And.intro hNG.2.1 (And.intro hNG.2.2.1 hNG.2.2.2.1))
  have e0_v10 := ev10
  have e0_v11 := ev11
  refine lv_aload_n hx hb dX7_keeps_0 rfl (lv_at hl 0 rfl) ?_
  refine lv_aload_n hx hb dX7_keeps_1 rfl (lv_at hl 0 rfl) ?_
  refine th_get (D := (dC, dI)) (ci := 7) (v := .int (z0 32)) (C := RX7) (T := TX7) (N := 34) hx hb hts inX7 hown hK hP (hLK _ ha0 (by decide)) oY0 rfl 32 (by decide) (hts _ T_1232) (fun _ h9 => h9) rfl dX7_keeps_2 ?_
  refine ax_eqi (y := v11) ev11.symm ?_
  refine lv_iconst (v := 1) hx hb dX7_keeps_5 (by decide) ?_
  refine lv_iadd hx hb dX7_keeps_6 ?_
  refine lv_topi (fun v12 ev12 => ?_)
  have qv12 : v12.toInt = v11.toInt + 1 := by rw [ev12]; exact th_add rfl (by decide) ⟨by omega, by omega⟩
  refine lv_bipush (v := 20) hx hb dX7_keeps_7 (by decide) ?_
  refine lv_irem hx hb dX7_keeps_9 (by decide) ?_
  refine lv_topi (fun v13 ev13 => ?_)
  have qv13 : v13.toInt = v12.toInt % 20 := by rw [ev13]; exact th_rem rfl (by decide) (by omega) (by decide)
  refine th_put (D := (dC, dI)) (ci := 7) (v := .int v13) (ty := .int) (C := RX7) (T := TX7) (N := 34) hx hb hts inX7 tyX7 tyX7_ok nmX7 hown hK hP hD hS (hLK _ ha0 (by decide)) oY0 rfl 32 (by decide) (hts _ T_1232) (fun _ h9 => h9) rfl (by decide +kernel) rfl rfl (Nat.le_of_ble_eq_true rfl) dX7_keeps_10 (fun H locs hP hS => ?_)
  rw [y_fs32] at hP
  obtain ⟨z14, hz15⟩ : ∃ g : Nat → Int32, g = upd z0 32 v13 := ⟨_, rfl⟩
  rw [← hz15] at hP
  have bz16 : y_bY z14 := by rw [hz15]; exact y_bp32 bz0 ⟨by omega, by omega⟩
  have hP : va_P (dC, dI) vwCl (va_pl L (va_up F a0 (.inr (7, y_fl A z14 q0)))) H := hP
  obtain ⟨F17, hF18⟩ : ∃ G : Nat → va_E, G = va_up F a0 (.inr (7, y_fl A z14 q0)) := ⟨_, rfl⟩
  rw [← hF18] at hP
  have hI : y_I K cs A F17 := by rw [hF18]; exact y_clY hA hI ha0 bz16 bq0
  have hfr : ∀ b, K b ∉ [9, 80] → F17 b = F b := by rw [hF18]; exact s_fr hfr ha0 (by decide)
  have o19 : F17 (A 13) = .inl (cs 0, 400, .inl f1) := by rw [hF18]; exact th_ne (th_kd (y_k13 hA) ha0 (by decide)) o2
  have o20 : F17 (A 20) = .inl (cs 0, 918, .inl f4) := by rw [hF18]; exact th_ne (th_kd (y_k20 hA) ha0 (by decide)) o5
  have o21 : F17 (A 30) = .inl (cs 0, 18360, .inl f7) := by rw [hF18]; exact th_ne (th_kd (y_k30 hA) ha0 (by decide)) o8
  have oY22 : F17 a0 = .inr (7, y_fl A z14 q0) := by rw [hF18]; exact th_up
  have hz0 : ∀ k, k ∈ ([1, 2, 3, 4, 5, 6, 7, 8, 11, 15, 16, 19, 25, 26, 27] : List Nat) → z14 k = z0 k := fun k hk => by rw [hz15]; exact (y_un (fun q => absurd hk (by rw [q]; decide))).trans (hz0 k hk)
  have ev10 : v10 = z14 31 := by rw [hz15]; exact ev10.trans (y_un (by decide)).symm
  obtain ⟨v23, ev23⟩ : ∃ y : Int32, y = z14 32 := ⟨_, rfl⟩
  have qv23 : v23.toInt = v13.toInt := by rw [ev23, hz15, y_ue]
  refine lv_iconst (v := 0) hx hb dX7_keeps_13 (by decide) ?_
  refine lv_istore_n (lv' := [(1, .int 0), (0, .ref a0)]) hx hb dX7_keeps_14 rfl hl (by decide) rfl (fun ls hl => ?_)
  have h25 : (0 : Int32).toInt = 0 := by decide
  refine th_loop (fun n g H locs => ∃ (G : Nat → va_E) (ls : Array Slot) (w24 : Int32), g = F0 m 15 ls [] ∧ lv_has ls 2 [(0, .ref a0), (1, .int w24)] ∧ va_P (dC, dI) vwCl (va_pl L G) H ∧ va_S (fun q => q ∈ L) s.heap H locs ∧ y_I K cs A G ∧ (∀ b, K b ∉ [9, 80] → G b = F b) ∧ (∀ k, k ∈ ([1, 2, 3, 4, 5, 6, 7, 8, 11, 15, 16, 19, 25, 26, 27] : List Nat) → y_fi G a0 k = z0 k) ∧ (0 ≤ w24.toInt ∧ w24.toInt ≤ 918) ∧ (∀ j : Int, 0 ≤ j → j < w24.toInt → y_c (y_at G (A 30)) (918 * (y_fi G a0 32).toInt + j) = y_c f4 j) ∧ (∀ j : Int, 0 ≤ j → (j < 918 * (y_fi G a0 32).toInt ∨ 918 * (y_fi G a0 32).toInt + 918 ≤ j) → y_c (y_at G (A 30)) j = y_c f7 j) ∧ ((y_fi G a0 32).toInt = (v11.toInt + 1) % 20 ∧ (y_fi G a0 31).toInt = v10.toInt) ∧ n = (919 - w24.toInt).toNat) _ ⟨F17, _, 0, rfl, lv_sub hl [1, 0] rfl, hP, hS, hI, hfr, (fun k hk => (y_fiZ oY22 (s_sub (by decide) hk)).trans (hz0 k hk)), (by decide), (by rw [y_atE o21, y_fiZ oY22 (k := 32) (by decide), ← ev23]; exact (fun j h0 h1 => absurd h1 (by omega))), (by rw [y_fiZ oY22 (k := 32) (by decide), ← ev23, y_atE o21]; exact (fun j h0 h1 => rfl)), (by first | (rw [y_fiZ oY22 (k := 32) (by decide), ← ev23, y_fiZ oY22 (k := 31) (by decide), ← ev10]; omega) | rw [y_fiZ oY22 (k := 32) (by decide), ← ev23, y_fiZ oY22 (k := 31) (by decide), ← ev10]), rfl⟩ (fun n ih15 g H locs hq => ?_)
  obtain ⟨F30, ls, w24, rfl, hl, hP, hS, hI, hfr, hz0, h26, h27, h28, h29, hn⟩ := hq
  have o31 : F30 (A 13) = .inl (cs 0, 400, .inl f1) := (hfr _ (by rw [(y_k13 hA)]; decide)).trans o2
  have o32 : F30 (A 20) = .inl (cs 0, 918, .inl f4) := (hfr _ (by rw [(y_k20 hA)]; decide)).trans o5
  obtain ⟨z33, q34, oY35, bz36, bq37⟩ := y_opY hI ha0
  have hz0 : ∀ k, k ∈ ([1, 2, 3, 4, 5, 6, 7, 8, 11, 15, 16, 19, 25, 26, 27] : List Nat) → z33 k = z0 k := fun k hk => (y_fiZ oY35 (s_sub (by decide) hk)).symm.trans (hz0 k hk)
  obtain ⟨f38, o39, b40⟩ := y_op30 hI
  obtain ⟨v41, ev41⟩ : ∃ y : Int32, y = z33 32 := ⟨_, rfl⟩
  have qv41 : 0 ≤ v41.toInt ∧ v41.toInt ≤ 19 := by rw [ev41]; exact y_bY32 bz36
  replace h27 : (∀ j : Int, 0 ≤ j → j < w24.toInt → y_c f38 (918 * v41.toInt + j) = y_c f4 j) := by have q9 := h27; rw [y_atE o39, y_fiZ oY35 (k := 32) (by decide), ← ev41] at q9; exact q9
  replace h28 : (∀ j : Int, 0 ≤ j → (j < 918 * v41.toInt ∨ 918 * v41.toInt + 918 ≤ j) → y_c f38 j = y_c f7 j) := by have q9 := h28; rw [y_fiZ oY35 (k := 32) (by decide), ← ev41, y_atE o39] at q9; exact q9
  obtain ⟨v42, ev42⟩ : ∃ y : Int32, y = z33 31 := ⟨_, rfl⟩
  have qv42 : 0 ≤ v42.toInt ∧ v42.toInt ≤ 20 := by rw [ev42]; exact y_bY31 bz36
  replace h29 : (v41.toInt = (v11.toInt + 1) % 20 ∧ v42.toInt = v10.toInt) := by have q9 := h29; rw [y_fiZ oY35 (k := 32) (by decide), ← ev41, y_fiZ oY35 (k := 31) (by decide), ← ev42] at q9; exact q9
  have hn_42 := hn
  refine lv_iload_n hx hb dX7_keeps_15 rfl (lv_at hl 1 rfl) ?_
  refine lv_sipush (v := 918) hx hb dX7_keeps_16 (by decide) ?_
  refine lv_icmp_ge (tgt := 49) hx hb dX7_keeps_19 (by decide) (fun c43 => ?_) (fun c43 => ?_)
  · have c43 := (ax_ge (n := 918) (by decide)).mp c43
    refine lv_aload_n hx hb dX7_keeps_49 rfl (lv_at hl 0 rfl) ?_
    refine th_get (D := (dC, dI)) (ci := 7) (v := .int (z33 31)) (C := RX7) (T := TX7) (N := 34) hx hb hts inX7 hown hK hP (hLK _ ha0 (by decide)) oY35 rfl 31 (by decide) (hts _ T_323) (fun _ h9 => h9) rfl dX7_keeps_50 ?_
    refine ax_eqi (y := v42) ev42.symm ?_
    refine lv_bipush (v := 20) hx hb dX7_keeps_53 (by decide) ?_
    refine lv_icmp_ge (tgt := 68) hx hb dX7_keeps_55 (by decide) (fun c44 => ?_) (fun c44 => ?_)
    · have c44 := (ax_ge (n := 20) (by decide)).mp c44
      exact W.vret hx hb hr (fun t ht hW => ⟨⟨F30, rfl, ⟨trivial, trivial, hI, hfr, fun k hk => (y_fiZ oY35 (s_sub (by decide) hk)).trans ((hz0 k hk).trans (y_fiZ oY0 (s_sub (by decide) hk)).symm), (by rw [y_atE o2, y_atE o39, y_fiZ oY35 (k := 31) (by decide), ← ev42, y_fiZ oY35 (k := 32) (by decide), ← ev41]; exact y_UGk (by omega) ⟨by omega, by omega⟩ (by omega) (by omega) ⟨by omega, by omega⟩ (fun j h0 h1 => h27 j h0 (by omega)) h28 hNG hUG)⟩, by rw [ht]; exact hP, va_K.moved hW.alike hK⟩, hS.F ht⟩) hS.2.2 dX7_keeps_68
    · have c44 := mt (ax_ge (n := 20) (by decide)).mpr c44
      refine lv_aload_n hx hb dX7_keeps_58 rfl (lv_at hl 0 rfl) ?_
      refine lv_dup hx hb dX7_keeps_59 rfl ?_
      refine th_get (D := (dC, dI)) (ci := 7) (v := .int (z33 31)) (C := RX7) (T := TX7) (N := 34) hx hb hts inX7 hown hK hP (hLK _ ha0 (by decide)) oY35 rfl 31 (by decide) (hts _ T_323) (fun _ h9 => h9) rfl dX7_keeps_60 ?_
      refine ax_eqi (y := v42) ev42.symm ?_
      refine lv_iconst (v := 1) hx hb dX7_keeps_63 (by decide) ?_
      refine lv_iadd hx hb dX7_keeps_64 ?_
      refine lv_topi (fun v45 ev45 => ?_)
      have qv45 : v45.toInt = v42.toInt + 1 := by rw [ev45]; exact th_add rfl (by decide) ⟨by omega, by omega⟩
      refine th_put (D := (dC, dI)) (ci := 7) (v := .int v45) (ty := .int) (C := RX7) (T := TX7) (N := 34) hx hb hts inX7 tyX7 tyX7_ok nmX7 hown hK hP hD hS (hLK _ ha0 (by decide)) oY35 rfl 31 (by decide) (hts _ T_323) (fun _ h9 => h9) rfl (by decide +kernel) rfl rfl (Nat.le_of_ble_eq_true rfl) dX7_keeps_65 (fun H locs hP hS => ?_)
      rw [y_fs31] at hP
      obtain ⟨z46, hz47⟩ : ∃ g : Nat → Int32, g = upd z33 31 v45 := ⟨_, rfl⟩
      rw [← hz47] at hP
      have bz48 : y_bY z46 := by rw [hz47]; exact y_bp31 bz36 ⟨by omega, by omega⟩
      have hP : va_P (dC, dI) vwCl (va_pl L (va_up F30 a0 (.inr (7, y_fl A z46 q34)))) H := hP
      obtain ⟨F49, hF50⟩ : ∃ G : Nat → va_E, G = va_up F30 a0 (.inr (7, y_fl A z46 q34)) := ⟨_, rfl⟩
      rw [← hF50] at hP
      have hI : y_I K cs A F49 := by rw [hF50]; exact y_clY hA hI ha0 bz48 bq37
      have hfr : ∀ b, K b ∉ [9, 80] → F49 b = F b := by rw [hF50]; exact s_fr hfr ha0 (by decide)
      have o51 : F49 (A 13) = .inl (cs 0, 400, .inl f1) := by rw [hF50]; exact th_ne (th_kd (y_k13 hA) ha0 (by decide)) o31
      have o52 : F49 (A 20) = .inl (cs 0, 918, .inl f4) := by rw [hF50]; exact th_ne (th_kd (y_k20 hA) ha0 (by decide)) o32
      have o53 : F49 (A 30) = .inl (cs 0, 18360, .inl f38) := by rw [hF50]; exact th_ne (th_kd (y_k30 hA) ha0 (by decide)) o39
      have oY54 : F49 a0 = .inr (7, y_fl A z46 q34) := by rw [hF50]; exact th_up
      have hz0 : ∀ k, k ∈ ([1, 2, 3, 4, 5, 6, 7, 8, 11, 15, 16, 19, 25, 26, 27] : List Nat) → z46 k = z0 k := fun k hk => by rw [hz47]; exact (y_un (fun q => absurd hk (by rw [q]; decide))).trans (hz0 k hk)
      have ev41 : v41 = z46 32 := by rw [hz47]; exact ev41.trans (y_un (by decide)).symm
      obtain ⟨v55, ev55⟩ : ∃ y : Int32, y = z46 31 := ⟨_, rfl⟩
      have qv55 : v55.toInt = v45.toInt := by rw [ev55, hz47, y_ue]
      exact W.vret hx hb hr (fun t ht hW => ⟨⟨F49, rfl, ⟨trivial, trivial, hI, hfr, fun k hk => (y_fiZ oY54 (s_sub (by decide) hk)).trans ((hz0 k hk).trans (y_fiZ oY0 (s_sub (by decide) hk)).symm), (by rw [y_atE o2, y_atE o53, y_fiZ oY54 (k := 31) (by decide), ← ev55, y_fiZ oY54 (k := 32) (by decide), ← ev41]; exact y_UGk (by omega) ⟨by omega, by omega⟩ (by omega) (by omega) ⟨by omega, by omega⟩ (fun j h0 h1 => h27 j h0 (by omega)) h28 hNG hUG)⟩, by rw [ht]; exact hP, va_K.moved hW.alike hK⟩, hS.F ht⟩) hS.2.2 dX7_keeps_68
  · have c43 := mt (ax_ge (n := 918) (by decide)).mpr c43
    refine lv_aload_n hx hb dX7_keeps_22 rfl (lv_at hl 0 rfl) ?_
    refine th_get (D := (dC, dI)) (ci := 7) (v := .ref (A 30)) (C := RX7) (T := TX7) (N := 34) hx hb hts inX7 hown hK hP (hLK _ ha0 (by decide)) oY35 rfl 30 (by decide) (hts _ T_259) (fun _ h9 => h9) rfl dX7_keeps_23 ?_
    refine lv_sipush (v := 918) hx hb dX7_keeps_26 (by decide) ?_
    refine lv_aload_n hx hb dX7_keeps_29 rfl (lv_at hl 0 rfl) ?_
    refine th_get (D := (dC, dI)) (ci := 7) (v := .int (z33 32)) (C := RX7) (T := TX7) (N := 34) hx hb hts inX7 hown hK hP (hLK _ ha0 (by decide)) oY35 rfl 32 (by decide) (hts _ T_1232) (fun _ h9 => h9) rfl dX7_keeps_30 ?_
    refine ax_eqi (y := v41) ev41.symm ?_
    refine lv_imul hx hb dX7_keeps_33 ?_
    refine lv_topi (fun v56 ev56 => ?_)
    have qv56 : v56.toInt = 918 * v41.toInt := by rw [ev56]; exact th_mul (by decide) rfl ⟨by omega, by omega⟩
    refine lv_iload_n hx hb dX7_keeps_34 rfl (lv_at hl 1 rfl) ?_
    refine lv_iadd hx hb dX7_keeps_35 ?_
    refine lv_topi (fun v57 ev57 => ?_)
    have qv57 : v57.toInt = v56.toInt + w24.toInt := by rw [ev57]; exact th_add rfl rfl ⟨by omega, by omega⟩
    refine lv_aload_n hx hb dX7_keeps_36 rfl (lv_at hl 0 rfl) ?_
    refine th_get (D := (dC, dI)) (ci := 7) (v := .ref (A 20)) (C := RX7) (T := TX7) (N := 34) hx hb hts inX7 hown hK hP (hLK _ ha0 (by decide)) oY35 rfl 20 (by decide) (hts _ T_251) (fun _ h9 => h9) rfl dX7_keeps_37 ?_
    refine lv_iload_n hx hb dX7_keeps_40 rfl (lv_at hl 1 rfl) ?_
    refine th_iald hx hb hK hP (hLK _ (y_k20 hA) (by decide)) 0 o32 rfl (th_in ⟨by omega, by omega⟩) dX7_keeps_41 ?_
    refine lv_topi (fun v58 ev58 => ?_)
    have Ev58 : v58 = y_c f4 (w24.toInt) := ev58.trans (y_ci (by omega))
    have tEv58 := congrArg Int32.toInt Ev58
    refine th_iast hx hb hK hP hD hS (hLK _ (y_k30 hA) (by decide)) 0 o39 rfl (th_in ⟨by omega, by omega⟩) dX7_keeps_42 (fun H locs hP hS => ?_)
    obtain ⟨f59, u60⟩ : ∃ g : Nat → Int32, g = upd f38 (v57 : Int32).toNatClampNeg v58 := ⟨_, rfl⟩
    rw [← u60] at hP
    have b61 : y_bd 30 f59 := trivial
    have hP : va_P (dC, dI) vwCl (va_pl L (va_up F30 (A 30) (.inl (cs 0, 18360, .inl f59)))) H := hP
    obtain ⟨F62, hF63⟩ : ∃ G : Nat → va_E, G = va_up F30 (A 30) (.inl (cs 0, 18360, .inl f59)) := ⟨_, rfl⟩
    rw [← hF63] at hP
    have hI : y_I K cs A F62 := by rw [hF63]; exact y_clA (i := 30) hA hI (by decide) b61
    have hfr : ∀ b, K b ∉ [9, 80] → F62 b = F b := by rw [hF63]; exact s_fr hfr (y_k30 hA) (by decide)
    have o64 : F62 (A 13) = .inl (cs 0, 400, .inl f1) := by rw [hF63]; exact th_ne (th_kd (y_k13 hA) (y_k30 hA) (by decide)) o31
    have o65 : F62 (A 20) = .inl (cs 0, 918, .inl f4) := by rw [hF63]; exact th_ne (th_kd (y_k20 hA) (y_k30 hA) (by decide)) o32
    have oY66 : F62 a0 = .inr (7, y_fl A z33 q34) := by rw [hF63]; exact th_ne (th_kd ha0 (y_k30 hA) (by decide)) oY35
    have o67 : F62 (A 30) = .inl (cs 0, 18360, .inl f59) := by rw [hF63]; exact th_up
    have u68 : ∀ j : Int, 0 ≤ j → y_c f59 j = if j = v57.toInt then v58 else y_c f38 j := by rw [u60]; exact y_cu rfl (by omega)
    obtain ⟨v69, ev69⟩ : ∃ y : Int32, w24 + 1 = y := ⟨_, rfl⟩
    have qv69 : v69.toInt = w24.toInt + 1 := by rw [← ev69]; exact th_add rfl (by decide) ⟨by omega, by omega⟩
    refine lv_iinc (v := v69) (lv' := [(1, .int v69), (0, .ref a0)]) hx hb dX7_keeps_43 hl (k := 1) rfl ev69 (by decide) rfl (fun ls hl => ?_)
    refine lv_goto (tgt := 15) hx hb dX7_keeps_46 (by decide) ?_
    exact ih15 _ _ _ _ (by omega) ⟨F62, _, v69, rfl, lv_sub hl [1, 0] rfl, hP, hS, hI, hfr, (fun k hk => (y_fiZ oY66 (s_sub (by decide) hk)).trans (hz0 k hk)), ⟨by omega, by omega⟩, (by rw [y_atE o67, y_fiZ oY66 (k := 32) (by decide), ← ev41]; exact (fun j h0 h1 => by rw [u68 _ (by omega)]; split; rename_i q9; rw [show j = w24.toInt by omega]; exact Ev58; exact h27 j h0 (by omega))), (by rw [y_fiZ oY66 (k := 32) (by decide), ← ev41, y_atE o67]; exact (fun j h0 h1 => by rw [u68 j h0, if_neg (by omega)]; exact h28 j h0 (by omega))), (by first | (rw [y_fiZ oY66 (k := 32) (by decide), ← ev41, y_fiZ oY66 (k := 31) (by decide), ← ev42]; omega) | rw [y_fiZ oY66 (k := 32) (by decide), ← ev41, y_fiZ oY66 (k := 31) (by decide), ← ev42]), rfl⟩
