set_option maxHeartbeats 4000000 in
set_option maxRecDepth 100000 in
theorem y_X7_clashes (l : Launch) (dC : Nat → ClassId) (dI : Nat → Nat → Nat) (sz : Nat) {L : List Nat} {K : Nat → Nat} {cs : Nat → ClassId} (hLK : ∀ a {k : Nat}, K a = k → k ≠ 0 → a ∈ L) (A : Nat → Nat) (hA : y_A K A) (F : Nat → va_E) (a0 : Nat) (x1 : Int32) (ha0 : K a0 = 9) (hI : y_I K cs A F) : Met l yX7_clashes (Cond.code yX7_clashes cX7_clashes 6 (some .int) :: T0) ({ frames := 2, cells := 0, slots := 0, locals := 47 }) (va_Pc [.ref a0, .int x1] (s_W dC dI sz L F [(cs 0, .int), (cs 1, .byte), (cs 2, .long), (cs 3, .object RX5), (cs 4, .object RX4), (cs 5, .array .int), (cs 6, .char), (cs 7, .boolean)])) (va_Qi (fun (r : Int32) (G : Nat → va_E) => (0 ≤ r.toInt ∧ r.toInt ≤ 2147483647) ∧ True ∧ y_I K cs A G ∧ (∀ b, K b ∉ ([] : List Nat) → G b = F b) ∧ (∀ k, k ∈ ([1, 2, 3, 4, 5, 6, 7, 8, 11, 15, 16, 19, 25, 26, 27, 31, 32] : List Nat) → y_fi G a0 k = y_fi F a0 k) ∧ True) (fun (G : Nat → va_E) (t : State) => va_P (dC, dI) vwCl (va_pl L G) t.heap ∧ va_K (dC, dI) vwCl [(cs 0, .int), (cs 1, .byte), (cs 2, .long), (cs 3, .object RX5), (cs 4, .object RX4), (cs 5, .array .int), (cs 6, .char), (cs 7, .boolean)] t) (fun q => q ∈ L)) 0 0 (fun q => q ∈ L) := by
  refine Met.ofW (cc := cX7_clashes) (maxL := 6) (ret := (some .int)) (by decide) rfl ?_
  intro p e s m args below meth c s₁ B hml hv
  obtain ⟨rfl, hsz, hP, hK, hD, hN⟩ := hv
  have hx := B.exec
  have hb := B.bytes
  have hr := B.returns
  have hts : ∀ w ∈ T0, w.before _ s = true := fun w h => atoms_spec (ws := Cond.code yX7_clashes cX7_clashes 6 (some .int) :: T0) B.pre w (List.mem_cons_of_mem _ h)
  have hown : s.vm.findClass RX7 = some m.cls := findClass_of_methodNamed B.named
  have hlocks := B.notSynchronized
  have hS : va_S (fun q => q ∈ L) s.heap s.heap [] := va_S.rf
  have hfr : ∀ b, K b ∉ ([] : List Nat) → F b = F b := fun _ _ => rfl
  have hl := lv_entry ([.ref a0, .int x1]) (n := 6) (Nat.le_of_ble_eq_true rfl)
  rw [lg_entry_eq]
  generalize (lg_sl ([.ref a0, .int x1]) ++ List.replicate (6 - (lg_sl ([.ref a0, .int x1])).length) Slot.unset).toArray = ls at hl ⊢
  have hl : lv_has ls 6 [(0, .ref a0), (1, .int x1)] := hl
  refine s_gen hP hS (fun H locs hP hS => ?_)
  obtain ⟨z0, q0, oY0, bz0, bq0⟩ := y_opY hI ha0
  have hz0 : ∀ k, k ∈ ([1, 2, 3, 4, 5, 6, 7, 8, 11, 15, 16, 19, 25, 26, 27, 31, 32] : List Nat) → z0 k = z0 k := fun _ _ => rfl
  refine lv_iconst (v := 0) hx hb dX7_clashes_0 (by decide) ?_
  refine lv_istore_n (lv' := [(2, .int 0), (0, .ref a0), (1, .int x1)]) hx hb dX7_clashes_1 rfl hl (by decide) rfl (fun ls hl => ?_)
  refine lv_iconst (v := 0) hx hb dX7_clashes_2 (by decide) ?_
  refine lv_istore_n (lv' := [(3, .int 0), (2, .int 0), (0, .ref a0), (1, .int x1)]) hx hb dX7_clashes_3 rfl hl (by decide) rfl (fun ls hl => ?_)
  have h3 : (0 : Int32).toInt = 0 := by decide
  have h4 : (0 : Int32).toInt = 0 := by decide
  refine th_loop (fun n g H locs => ∃ (G : Nat → va_E) (ls : Array Slot) (w1 : Int32) (w2 : Int32), g = F0 m 4 ls [] ∧ lv_has ls 6 [(0, .ref a0), (1, .int x1), (2, .int w1), (3, .int w2)] ∧ va_P (dC, dI) vwCl (va_pl L G) H ∧ va_S (fun q => q ∈ L) s.heap H locs ∧ y_I K cs A G ∧ (∀ b, K b ∉ ([] : List Nat) → G b = F b) ∧ (∀ k, k ∈ ([1, 2, 3, 4, 5, 6, 7, 8, 11, 15, 16, 19, 25, 26, 27, 31, 32] : List Nat) → y_fi G a0 k = z0 k) ∧ (0 ≤ w1.toInt ∧ w1.toInt ≤ 2147483647) ∧ (0 ≤ w2.toInt ∧ w2.toInt ≤ 4) ∧ n = (5 - w2.toInt).toNat) _ ⟨F, _, 0, 0, rfl, lv_sub hl [2, 3, 1, 0] rfl, hP, hS, hI, hfr, (fun k hk => (y_fiZ oY0 (s_sub (by decide) hk)).trans (hz0 k hk)), (by decide), (by decide), rfl⟩ (fun n ih4 g H locs hq => ?_)
  obtain ⟨F7, ls, w1, w2, rfl, hl, hP, hS, hI, hfr, hz0, h5, h6, hn⟩ := hq
  have oY8 : F7 a0 = .inr (7, y_fl A z0 q0) := (hfr _ (by rw [ha0]; decide)).trans oY0
  have hz0 : ∀ k, k ∈ ([1, 2, 3, 4, 5, 6, 7, 8, 11, 15, 16, 19, 25, 26, 27, 31, 32] : List Nat) → z0 k = z0 k := fun _ _ => rfl
  have hn_8 := hn
  refine th_join (fun g H locs => ∃ (G : Nat → va_E) (ls : Array Slot) (w9 : Int32), g = F0 m 60 ls [] ∧ lv_has ls 6 [(0, .ref a0), (1, .int x1), (2, .int w9), (3, .int w2)] ∧ va_P (dC, dI) vwCl (va_pl L G) H ∧ va_S (fun q => q ∈ L) s.heap H locs ∧ y_I K cs A G ∧ (∀ b, K b ∉ ([] : List Nat) → G b = F b) ∧ (∀ k, k ∈ ([1, 2, 3, 4, 5, 6, 7, 8, 11, 15, 16, 19, 25, 26, 27, 31, 32] : List Nat) → y_fi G a0 k = z0 k) ∧ (0 ≤ w9.toInt ∧ w9.toInt ≤ 2147483647) ∧ (0 ≤ w2.toInt ∧ w2.toInt ≤ 3)) (fun K60 => ?_) ?_
  · refine lv_iload_n hx hb dX7_clashes_4 rfl (lv_at hl 3 rfl) ?_
    refine lv_iconst (v := 4) hx hb dX7_clashes_5 (by decide) ?_
    refine lv_icmp_ge (tgt := 66) hx hb dX7_clashes_6 (by decide) (fun c10 => ?_) (fun c10 => ?_)
    · have c10 := (ax_ge (n := 4) (by decide)).mp c10
      refine lv_iload_n hx hb dX7_clashes_66 rfl (lv_at hl 2 rfl) ?_
      exact W.iret (v := w1) hx hb hr (fun t ht hW => ⟨⟨w1, F7, rfl, ⟨⟨by omega, by have q9 := th_hi w1; omega⟩, trivial, hI, hfr, fun k hk => (y_fiZ oY8 (s_sub (by decide) hk)).trans ((hz0 k hk).trans (y_fiZ oY0 (s_sub (by decide) hk)).symm), trivial⟩, by rw [ht]; exact hP, va_K.moved hW.alike hK⟩, hS.F ht⟩) hS.2.2 dX7_clashes_67
    · have c10 := mt (ax_ge (n := 4) (by decide)).mpr c10
      refine lv_iconst (v := 0) hx hb dX7_clashes_9 (by decide) ?_
      refine lv_istore (lv' := [(4, .int 0), (0, .ref a0), (1, .int x1), (2, .int w1), (3, .int w2)]) hx hb dX7_clashes_10 hl (by decide) rfl (fun ls hl => ?_)
      refine lv_iconst (v := 0) hx hb dX7_clashes_12 (by decide) ?_
      refine lv_istore (lv' := [(5, .int 0), (4, .int 0), (0, .ref a0), (1, .int x1), (2, .int w1), (3, .int w2)]) hx hb dX7_clashes_13 hl (by decide) rfl (fun ls hl => ?_)
      have h13 : (0 : Int32).toInt = 0 := by decide
      have h14 : (0 : Int32).toInt = 0 := by decide
      refine th_loop (fun n g H locs => ∃ (G : Nat → va_E) (ls : Array Slot) (w11 : Int32) (w12 : Int32), g = F0 m 15 ls [] ∧ lv_has ls 6 [(0, .ref a0), (1, .int x1), (2, .int w1), (3, .int w2), (4, .int w11), (5, .int w12)] ∧ va_P (dC, dI) vwCl (va_pl L G) H ∧ va_S (fun q => q ∈ L) s.heap H locs ∧ y_I K cs A G ∧ (∀ b, K b ∉ ([] : List Nat) → G b = F b) ∧ (∀ k, k ∈ ([1, 2, 3, 4, 5, 6, 7, 8, 11, 15, 16, 19, 25, 26, 27, 31, 32] : List Nat) → y_fi G a0 k = z0 k) ∧ True ∧ (0 ≤ w12.toInt ∧ w12.toInt ≤ 32) ∧ (0 ≤ w1.toInt ∧ w1.toInt ≤ 2147483647) ∧ (0 ≤ w2.toInt ∧ w2.toInt ≤ 3) ∧ n = (33 - w12.toInt).toNat) _ ⟨F7, _, 0, 0, rfl, lv_sub hl [2, 3, 4, 5, 1, 0] rfl, hP, hS, hI, hfr, (fun k hk => (y_fiZ oY8 (s_sub (by decide) hk)).trans (hz0 k hk)), trivial, (by decide), ⟨by omega, by have q9 := th_hi w1; omega⟩, ⟨by omega, by omega⟩, rfl⟩ (fun n ih15 g H locs hq => ?_)
      obtain ⟨F19, ls, w11, w12, rfl, hl, hP, hS, hI, hfr, hz0, h15, h16, h17, h18, hn⟩ := hq
      have oY20 : F19 a0 = .inr (7, y_fl A z0 q0) := (hfr _ (by rw [ha0]; decide)).trans oY0
      have hz0 : ∀ k, k ∈ ([1, 2, 3, 4, 5, 6, 7, 8, 11, 15, 16, 19, 25, 26, 27, 31, 32] : List Nat) → z0 k = z0 k := fun _ _ => rfl
      have hn_20 := hn
      refine th_join (fun g H locs => ∃ (G : Nat → va_E) (ls : Array Slot) (w21 : Int32), g = F0 m 45 ls [] ∧ lv_has ls 6 [(0, .ref a0), (1, .int x1), (2, .int w1), (3, .int w2), (4, .int w21), (5, .int w12)] ∧ va_P (dC, dI) vwCl (va_pl L G) H ∧ va_S (fun q => q ∈ L) s.heap H locs ∧ y_I K cs A G ∧ (∀ b, K b ∉ ([] : List Nat) → G b = F b) ∧ (∀ k, k ∈ ([1, 2, 3, 4, 5, 6, 7, 8, 11, 15, 16, 19, 25, 26, 27, 31, 32] : List Nat) → y_fi G a0 k = z0 k) ∧ True ∧ (0 ≤ w1.toInt ∧ w1.toInt ≤ 2147483647) ∧ (0 ≤ w2.toInt ∧ w2.toInt ≤ 3) ∧ (0 ≤ w12.toInt ∧ w12.toInt ≤ 31)) (fun K45 => ?_) ?_
      · refine lv_iload hx hb dX7_clashes_15 (lv_at hl 5 rfl) ?_
        refine lv_bipush (v := 32) hx hb dX7_clashes_17 (by decide) ?_
        refine lv_icmp_ge (tgt := 51) hx hb dX7_clashes_19 (by decide) (fun c22 => ?_) (fun c22 => ?_)
        · have c22 := (ax_ge (n := 32) (by decide)).mp c22
          refine lv_iload hx hb dX7_clashes_51 (lv_at hl 4 rfl) ?_
          refine lv_iload_n hx hb dX7_clashes_53 rfl (lv_at hl 2 rfl) ?_
          refine lv_icmp_le (tgt := 60) hx hb dX7_clashes_54 (by decide) (fun c23 => ?_) (fun c23 => ?_)
          · have c23 := Int32.le_iff_toInt_le.mp c23
            exact K60 _ _ _ ⟨F19, _, w1, rfl, lv_sub hl [0, 1, 2, 3] rfl, hP, hS, hI, hfr, (fun k hk => (y_fiZ oY20 (s_sub (by decide) hk)).trans (hz0 k hk)), ⟨by omega, by have q9 := th_hi w1; omega⟩, ⟨by omega, by omega⟩⟩
          · have c23 := mt Int32.le_iff_toInt_le.mpr c23
            refine lv_iload hx hb dX7_clashes_57 (lv_at hl 4 rfl) ?_
            refine lv_istore_n (lv' := [(2, .int w11), (0, .ref a0), (1, .int x1), (3, .int w2), (4, .int w11), (5, .int w12)]) hx hb dX7_clashes_59 rfl hl (by decide) rfl (fun ls hl => ?_)
            exact K60 _ _ _ ⟨F19, _, w11, rfl, lv_sub hl [1, 2, 0, 3] rfl, hP, hS, hI, hfr, (fun k hk => (y_fiZ oY20 (s_sub (by decide) hk)).trans (hz0 k hk)), ⟨by omega, by have q9 := th_hi w11; omega⟩, ⟨by omega, by omega⟩⟩
        · have c22 := mt (ax_ge (n := 32) (by decide)).mpr c22
          refine lv_aload_n hx hb dX7_clashes_22 rfl (lv_at hl 0 rfl) ?_
          refine lv_iload hx hb dX7_clashes_23 (lv_at hl 5 rfl) ?_
          have rg24 : 0 ≤ w12.toInt ∧ w12.toInt ≤ 31 := ⟨by omega, by omega⟩
          refine va_calli (va_runV (As := [.int w12]) (rest := []) ⟨hx, hb, hml, hown, hts⟩ (y_X7_bankOf l dC dI H.size hLK A hA F19 a0 w12 ha0 rg24 hI) (cwV 1 hts (ax_gV T_1081 T_1083 T_1084 T_265 T_1082) rfl rfl rfl (by decide +kernel) ⟨Nat.le_of_ble_eq_true rfl, Nat.le_of_ble_eq_true rfl⟩) ⟨fun a U g mk q => ⟨q.1, s_pc (U := U) rfl rfl q.2⟩, s_recv hK hP (hLK _ ha0 (by decide)) (ci := 7) rfl oY20, fun U hU hW => ⟨rfl, s_pw hU hW hP hK hD hN⟩⟩ rfl rfl hl.1 rfl (lv_room (Nat.le_of_ble_eq_true rfl)) dX7_clashes_25 ⟨Nat.zero_le _, Nat.zero_le _⟩) hS (fun q _ h => h) (fun q h => h) (fun r26 F27 t H1 locs ht hvm hw hB hz1 hk1 hS => ?_)
          obtain ⟨hP, hK1⟩ := hB
          rw [ht] at hP
          generalize H1 = H at hP hS ⊢
          clear hz1 hk1 hvm hK1
          obtain ⟨h28, h30, hI, hfr1, hzf, h29⟩ := hw
          have oY31 : F27 a0 = .inr (7, y_fl A z0 q0) := (hfr1 _ (by rw [ha0]; decide)).trans oY20
          have hfr : ∀ b, K b ∉ ([] : List Nat) → F27 b = F b := fun b hb9 => (hfr1 b (fun q => hb9 (s_sub (by decide) q))).trans (hfr b hb9)
          refine lv_iload_n hx hb dX7_clashes_28 rfl (lv_at hl 3 rfl) ?_
          refine lv_icmp_ne (tgt := 45) hx hb dX7_clashes_29 (by decide) (fun c32 => ?_) (fun c32 => ?_)
          · have c32 := mt Int32.toInt_inj.symm.mpr c32
            exact K45 _ _ _ ⟨F27, _, w11, rfl, lv_sub hl [0, 1, 2, 3, 4, 5] rfl, hP, hS, hI, hfr, (fun k hk => (y_fiZ oY31 (s_sub (by decide) hk)).trans (hz0 k hk)), trivial, ⟨by omega, by have q9 := th_hi w1; omega⟩, ⟨by omega, by omega⟩, ⟨by omega, by omega⟩⟩
          · have c32 := Int32.toInt_inj.symm.mp c32
            refine lv_aload_n hx hb dX7_clashes_32 rfl (lv_at hl 0 rfl) ?_
            refine lv_iload_n hx hb dX7_clashes_33 rfl (lv_at hl 1 rfl) ?_
            refine lv_iload hx hb dX7_clashes_34 (lv_at hl 5 rfl) ?_
            refine va_calli (va_runV (As := [.int x1, .int w12]) (rest := []) ⟨hx, hb, hml, hown, hts⟩ (y_X7_isAsked l dC dI H.size hLK A hA F27 a0 x1 w12 ha0 rg24 hI) (cwV 2 hts (ax_gV T_1085 T_1087 T_1088 T_265 T_1086) rfl rfl rfl (by decide +kernel) ⟨Nat.le_of_ble_eq_true rfl, Nat.le_of_ble_eq_true rfl⟩) ⟨fun a U g mk q => ⟨q.1, s_pc (U := U) rfl rfl q.2⟩, s_recv hK hP (hLK _ ha0 (by decide)) (ci := 7) rfl oY31, fun U hU hW => ⟨rfl, s_pw hU hW hP hK hD hN⟩⟩ rfl rfl hl.1 rfl (lv_room (Nat.le_of_ble_eq_true rfl)) dX7_clashes_36 ⟨Nat.zero_le _, Nat.zero_le _⟩) hS (fun q _ h => h) (fun q h => h) (fun r34 F35 t H1 locs ht hvm hw hB hz1 hk1 hS => ?_)
            obtain ⟨hP, hK1⟩ := hB
            rw [ht] at hP
            generalize H1 = H at hP hS ⊢
            clear hz1 hk1 hvm hK1
            obtain ⟨h36, h38, hI, hfr1, hzf, h37⟩ := hw
            have oY39 : F35 a0 = .inr (7, y_fl A z0 q0) := (hfr1 _ (by rw [ha0]; decide)).trans oY31
            have hfr : ∀ b, K b ∉ ([] : List Nat) → F35 b = F b := fun b hb9 => (hfr1 b (fun q => hb9 (s_sub (by decide) q))).trans (hfr b hb9)
            refine lv_if_eq (tgt := 45) hx hb dX7_clashes_39 (by decide) (fun c40 => ?_) (fun c40 => ?_)
            · have c40 := (ax_eq (n := 0) (by decide)).mp c40
              exact K45 _ _ _ ⟨F35, _, w11, rfl, lv_sub hl [0, 1, 2, 3, 4, 5] rfl, hP, hS, hI, hfr, (fun k hk => (y_fiZ oY39 (s_sub (by decide) hk)).trans (hz0 k hk)), trivial, ⟨by omega, by have q9 := th_hi w1; omega⟩, ⟨by omega, by omega⟩, ⟨by omega, by omega⟩⟩
            · have c40 := mt (ax_eq (n := 0) (by decide)).mpr c40
              obtain ⟨v41, ev41⟩ : ∃ y : Int32, w11 + 1 = y := ⟨_, rfl⟩
              refine lv_iinc (v := v41) (lv' := [(4, .int v41), (0, .ref a0), (1, .int x1), (2, .int w1), (3, .int w2), (5, .int w12)]) hx hb dX7_clashes_42 hl (k := 4) rfl ev41 (by decide) rfl (fun ls hl => ?_)
              exact K45 _ _ _ ⟨F35, _, v41, rfl, lv_sub hl [1, 2, 3, 4, 0, 5] rfl, hP, hS, hI, hfr, (fun k hk => (y_fiZ oY39 (s_sub (by decide) hk)).trans (hz0 k hk)), trivial, ⟨by omega, by have q9 := th_hi w1; omega⟩, ⟨by omega, by omega⟩, ⟨by omega, by omega⟩⟩
      · intro g H locs hq
        obtain ⟨F46, ls, w21, rfl, hl, hP, hS, hI, hfr, hz0, h42, h43, h44, h45⟩ := hq
        have oY47 : F46 a0 = .inr (7, y_fl A z0 q0) := (hfr _ (by rw [ha0]; decide)).trans oY0
        have hz0 : ∀ k, k ∈ ([1, 2, 3, 4, 5, 6, 7, 8, 11, 15, 16, 19, 25, 26, 27, 31, 32] : List Nat) → z0 k = z0 k := fun _ _ => rfl
        obtain ⟨v48, ev48⟩ : ∃ y : Int32, w12 + 1 = y := ⟨_, rfl⟩
        have qv48 : v48.toInt = w12.toInt + 1 := by rw [← ev48]; exact th_add rfl (by decide) ⟨by omega, by omega⟩
        refine lv_iinc (v := v48) (lv' := [(5, .int v48), (0, .ref a0), (1, .int x1), (2, .int w1), (3, .int w2), (4, .int w21)]) hx hb dX7_clashes_45 hl (k := 5) rfl ev48 (by decide) rfl (fun ls hl => ?_)
        refine lv_goto (tgt := 15) hx hb dX7_clashes_48 (by decide) ?_
        exact ih15 _ _ _ _ (by omega) ⟨F46, _, w21, v48, rfl, lv_sub hl [1, 2, 3, 4, 5, 0] rfl, hP, hS, hI, hfr, (fun k hk => (y_fiZ oY47 (s_sub (by decide) hk)).trans (hz0 k hk)), trivial, ⟨by omega, by omega⟩, ⟨by omega, by have q9 := th_hi w1; omega⟩, ⟨by omega, by omega⟩, rfl⟩
  · intro g H locs hq
    obtain ⟨F51, ls, w9, rfl, hl, hP, hS, hI, hfr, hz0, h49, h50⟩ := hq
    have oY52 : F51 a0 = .inr (7, y_fl A z0 q0) := (hfr _ (by rw [ha0]; decide)).trans oY0
    have hz0 : ∀ k, k ∈ ([1, 2, 3, 4, 5, 6, 7, 8, 11, 15, 16, 19, 25, 26, 27, 31, 32] : List Nat) → z0 k = z0 k := fun _ _ => rfl
    obtain ⟨v53, ev53⟩ : ∃ y : Int32, w2 + 1 = y := ⟨_, rfl⟩
    have qv53 : v53.toInt = w2.toInt + 1 := by rw [← ev53]; exact th_add rfl (by decide) ⟨by omega, by omega⟩
    refine lv_iinc (v := v53) (lv' := [(3, .int v53), (0, .ref a0), (1, .int x1), (2, .int w9)]) hx hb dX7_clashes_60 hl (k := 3) rfl ev53 (by decide) rfl (fun ls hl => ?_)
    refine lv_goto (tgt := 4) hx hb dX7_clashes_63 (by decide) ?_
    exact ih4 _ _ _ _ (by omega) ⟨F51, _, w9, v53, rfl, lv_sub hl [1, 2, 3, 0] rfl, hP, hS, hI, hfr, (fun k hk => (y_fiZ oY52 (s_sub (by decide) hk)).trans (hz0 k hk)), ⟨by omega, by have q9 := th_hi w9; omega⟩, ⟨by omega, by omega⟩, rfl⟩

set_option maxHeartbeats 4000000 in
set_option maxRecDepth 100000 in
theorem y_X7_takes0 (l : Launch) (dC : Nat → ClassId) (dI : Nat → Nat → Nat) (sz : Nat) {L : List Nat} {K : Nat → Nat} {cs : Nat → ClassId} (hLK : ∀ a {k : Nat}, K a = k → k ≠ 0 → a ∈ L) (A : Nat → Nat) (hA : y_A K A) (F : Nat → va_E) (a0 : Nat) (x1 : Int32) (x2 : Int32) (x3 : Int32) (ha0 : K a0 = 9) (hx1 : 0 ≤ x1.toInt ∧ x1.toInt ≤ 3) (hx2 : 0 ≤ x2.toInt ∧ x2.toInt ≤ 39) (hI : y_I K cs A F) (hPG : y_PG (y_at F (A 13))) (hln : (x2.toInt < (y_c (y_at F (A 13)) 387).toInt)) : Met l yX7_takes0 (Cond.code yX7_takes0 cX7_takes0 7 (some .int) :: T0) ({ frames := 4, cells := 0, slots := 0, locals := 89 }) (va_Pc [.ref a0, .int x1, .int x2, .int x3] (s_W dC dI sz L F [(cs 0, .int), (cs 1, .byte), (cs 2, .long), (cs 3, .object RX5), (cs 4, .object RX4), (cs 5, .array .int), (cs 6, .char), (cs 7, .boolean)])) (va_Qi (fun (r : Int32) (G : Nat → va_E) => True ∧ True ∧ y_I K cs A G ∧ (∀ b, K b ∉ [71, 72] → G b = F b) ∧ (∀ k, k ∈ ([1, 2, 3, 4, 5, 6, 7, 8, 11, 15, 16, 19, 25, 26, 27, 31, 32] : List Nat) → y_fi G a0 k = y_fi F a0 k) ∧ True) (fun (G : Nat → va_E) (t : State) => va_P (dC, dI) vwCl (va_pl L G) t.heap ∧ va_K (dC, dI) vwCl [(cs 0, .int), (cs 1, .byte), (cs 2, .long), (cs 3, .object RX5), (cs 4, .object RX4), (cs 5, .array .int), (cs 6, .char), (cs 7, .boolean)] t) (fun q => q ∈ L)) 0 0 (fun q => q ∈ L) := by
  refine Met.ofW (cc := cX7_takes0) (maxL := 7) (ret := (some .int)) (by decide) rfl ?_
  intro p e s m args below meth c s₁ B hml hv
  obtain ⟨rfl, hsz, hP, hK, hD, hN⟩ := hv
  have hx := B.exec
  have hb := B.bytes
  have hr := B.returns
  have hts : ∀ w ∈ T0, w.before _ s = true := fun w h => atoms_spec (ws := Cond.code yX7_takes0 cX7_takes0 7 (some .int) :: T0) B.pre w (List.mem_cons_of_mem _ h)
  have hown : s.vm.findClass RX7 = some m.cls := findClass_of_methodNamed B.named
  have hlocks := B.notSynchronized
  have hS : va_S (fun q => q ∈ L) s.heap s.heap [] := va_S.rf
  have hfr : ∀ b, K b ∉ [71, 72] → F b = F b := fun _ _ => rfl
  have hl := lv_entry ([.ref a0, .int x1, .int x2, .int x3]) (n := 7) (Nat.le_of_ble_eq_true rfl)
  rw [lg_entry_eq]
  generalize (lg_sl ([.ref a0, .int x1, .int x2, .int x3]) ++ List.replicate (7 - (lg_sl ([.ref a0, .int x1, .int x2, .int x3])).length) Slot.unset).toArray = ls at hl ⊢
  have hl : lv_has ls 7 [(0, .ref a0), (1, .int x1), (2, .int x2), (3, .int x3)] := hl
  refine s_gen hP hS (fun H locs hP hS => ?_)
  obtain ⟨z0, q0, oY0, bz0, bq0⟩ := y_opY hI ha0
  have hz0 : ∀ k, k ∈ ([1, 2, 3, 4, 5, 6, 7, 8, 11, 15, 16, 19, 25, 26, 27, 31, 32] : List Nat) → z0 k = z0 k := fun _ _ => rfl
  obtain ⟨f1, o2, b3⟩ := y_op13 hI
  replace hPG : y_PG f1 := by have q9 := hPG; rw [y_atE o2] at q9; exact q9
  replace hln : (x2.toInt < (y_c f1 387).toInt) := by have q9 := hln; rw [y_atE o2] at q9; exact q9
  have hL := y_P0L hPG.1
  have hW := y_P0W hPG.1
  refine th_join (fun g H locs => ∃ (G : Nat → va_E) (ls : Array Slot), g = F0 m 51 ls [] ∧ lv_has ls 7 [(0, .ref a0), (3, .int x3)] ∧ va_P (dC, dI) vwCl (va_pl L G) H ∧ va_S (fun q => q ∈ L) s.heap H locs ∧ y_I K cs A G ∧ (∀ b, K b ∉ [71, 72] → G b = F b) ∧ (∀ k, k ∈ ([1, 2, 3, 4, 5, 6, 7, 8, 11, 15, 16, 19, 25, 26, 27, 31, 32] : List Nat) → y_fi G a0 k = z0 k)) (fun K51 => ?_) ?_
  refine th_join (fun g H locs => ∃ (G : Nat → va_E) (ls : Array Slot), g = F0 m 29 ls [] ∧ lv_has ls 7 [(0, .ref a0), (3, .int x3)] ∧ va_P (dC, dI) vwCl (va_pl L G) H ∧ va_S (fun q => q ∈ L) s.heap H locs ∧ y_I K cs A G ∧ (∀ b, K b ∉ [71, 72] → G b = F b) ∧ (∀ k, k ∈ ([1, 2, 3, 4, 5, 6, 7, 8, 11, 15, 16, 19, 25, 26, 27, 31, 32] : List Nat) → y_fi G a0 k = z0 k)) (fun K29 => ?_) ?_
  · refine lv_aload_n hx hb dX7_takes0_0 rfl (lv_at hl 0 rfl) ?_
    refine lv_iload_n hx hb dX7_takes0_1 rfl (lv_at hl 2 rfl) ?_
    refine lv_iconst (v := 0) hx hb dX7_takes0_2 (by decide) ?_
    have rg4 : 0 ≤ x2.toInt ∧ x2.toInt ≤ 40 := ⟨by omega, by omega⟩
    refine va_calli (va_runV (As := [.int x2, .int 0]) (rest := []) ⟨hx, hb, hml, hown, hts⟩ (y_X7_of l dC dI H.size hLK A hA F a0 x2 0 ha0 rg4 (by decide) hI) (cwV 2 hts (ax_gV T_1131 T_1133 T_1134 T_265 T_1132) rfl rfl rfl (by decide +kernel) ⟨Nat.le_of_ble_eq_true rfl, Nat.le_of_ble_eq_true rfl⟩) ⟨fun a U g mk q => ⟨q.1, s_pc (U := U) rfl rfl q.2⟩, s_recv hK hP (hLK _ ha0 (by decide)) (ci := 7) rfl oY0, fun U hU hW => ⟨rfl, s_pw hU hW hP hK hD hN⟩⟩ rfl rfl hl.1 rfl (lv_room (Nat.le_of_ble_eq_true rfl)) dX7_takes0_3 ⟨Nat.zero_le _, Nat.zero_le _⟩) hS (fun q _ h => h) (fun q h => h) (fun r6 F7 t H1 locs ht hvm hw hB hz1 hk1 hS => ?_)
    obtain ⟨hP, hK1⟩ := hB
    rw [ht] at hP
    generalize H1 = H at hP hS ⊢
    clear hz1 hk1 hvm hK1
    obtain ⟨h8, h10, hI, hfr1, hzf, h9⟩ := hw
    have o11 : F7 (A 13) = .inl (cs 0, 400, .inl f1) := (hfr1 _ (by rw [(y_k13 hA)]; decide)).trans o2
    have oY12 : F7 a0 = .inr (7, y_fl A z0 q0) := (hfr1 _ (by rw [ha0]; decide)).trans oY0
    have hfr : ∀ b, K b ∉ [71, 72] → F7 b = F b := fun b hb9 => (hfr1 b (fun q => hb9 (s_sub (by decide) q))).trans (hfr b hb9)
    replace h9 : (r6 = y_c f1 (8 * x2.toInt + 0)) := by have q9 := h9; rw [y_atE o2] at q9; exact q9
    have h9 : r6 = y_c f1 (8 * x2.toInt) := h9.trans (congrArg (y_c f1) (by omega))
    have h13 := congrArg Int32.toInt h9
    refine lv_istore (lv' := [(4, .int r6), (0, .ref a0), (1, .int x1), (2, .int x2), (3, .int x3)]) hx hb dX7_takes0_6 hl (by decide) rfl (fun ls hl => ?_)
    refine lv_aload_n hx hb dX7_takes0_8 rfl (lv_at hl 1 rfl) ?_
    refine lv_iload_n hx hb dX7_takes0_9 rfl (lv_at hl 2 rfl) ?_
    refine lv_iload_n hx hb dX7_takes0_10 rfl (lv_at hl 3 rfl) ?_
    refine lv_iload_n hx hb dX7_takes0_11 rfl (lv_at hl 4 rfl) ?_
    have rg14 : 0 ≤ x1.toInt ∧ x1.toInt ≤ 3 := ⟨by omega, by omega⟩
    have rg15 : 0 ≤ x2.toInt ∧ x2.toInt ≤ 39 := ⟨by omega, by omega⟩
    refine va_callv (va_runV (As := [.int x1, .int x2, .int x3]) (rest := []) ⟨hx, hb, hml, hown, hts⟩ (y_X7_reads l dC dI H.size hLK A hA F7 a0 x1 x2 x3 ha0 rg14 rg15 hI (by rw [y_atE o11]; exact hPG) (by first | (rw [y_atE o11]; omega) | rw [y_atE o11])) (cwV 3 hts (ax_gV T_1318 T_1320 T_1321 T_265 T_1319) rfl rfl rfl (by decide +kernel) ⟨Nat.le_of_ble_eq_true rfl, Nat.le_of_ble_eq_true rfl⟩) ⟨fun a U g mk q => ⟨q.1, s_pc (U := U) rfl rfl q.2⟩, s_recv hK hP (hLK _ ha0 (by decide)) (ci := 7) rfl oY12, fun U hU hW => ⟨rfl, s_pw hU hW hP hK hD hN⟩⟩ rfl rfl hl.1 rfl (lv_room (Nat.le_of_ble_eq_true rfl)) dX7_takes0_12 ⟨Nat.zero_le _, Nat.zero_le _⟩) hS (fun q _ h => h) (fun q h => h) (fun F17 t H1 locs ht hvm hw hB hz1 hk1 hS => ?_)
    obtain ⟨hP, hK1⟩ := hB
    rw [ht] at hP
    generalize H1 = H at hP hS ⊢
    clear hz1 hk1 hvm hK1
    obtain ⟨h18, h20, hI, hfr1, hzf, h19⟩ := hw
    have o21 : F17 (A 13) = .inl (cs 0, 400, .inl f1) := (hfr1 _ (by rw [(y_k13 hA)]; decide)).trans o11
    have oY22 : F17 a0 = .inr (7, y_fl A z0 q0) := (hfr1 _ (by rw [ha0]; decide)).trans oY12
    have hfr : ∀ b, K b ∉ [71, 72] → F17 b = F b := fun b hb9 => (hfr1 b (fun q => hb9 (s_sub (by decide) q))).trans (hfr b hb9)
    refine lv_iload hx hb dX7_takes0_15 (lv_at hl 0 rfl) ?_
    refine lv_bipush (v := 7) hx hb dX7_takes0_17 (by decide) ?_
    refine lv_icmp_eq (tgt := 29) hx hb dX7_takes0_19 (by decide) (fun c23 => ?_) (fun c23 => ?_)
    · have c23 := (ax_eq (n := 7) (by decide)).mp c23
      exact K29 _ _ _ ⟨F17, _, rfl, lv_sub hl [1, 4] rfl, hP, hS, hI, hfr, (fun k hk => (y_fiZ oY22 (s_sub (by decide) hk)).trans (hz0 k hk))⟩
    · have c23 := mt (ax_eq (n := 7) (by decide)).mpr c23
      refine lv_iload hx hb dX7_takes0_22 (lv_at hl 0 rfl) ?_
      refine lv_bipush (v := 8) hx hb dX7_takes0_24 (by decide) ?_
      refine lv_icmp_ne (tgt := 37) hx hb dX7_takes0_26 (by decide) (fun c24 => ?_) (fun c24 => ?_)
      · have c24 := mt (ax_eq (n := 8) (by decide)).mpr c24
        refine lv_iload hx hb dX7_takes0_37 (lv_at hl 0 rfl) ?_
        refine lv_bipush (v := 9) hx hb dX7_takes0_39 (by decide) ?_
        refine lv_icmp_eq (tgt := 51) hx hb dX7_takes0_41 (by decide) (fun c25 => ?_) (fun c25 => ?_)
        · have c25 := (ax_eq (n := 9) (by decide)).mp c25
          exact K51 _ _ _ ⟨F17, _, rfl, lv_sub hl [1, 4] rfl, hP, hS, hI, hfr, (fun k hk => (y_fiZ oY22 (s_sub (by decide) hk)).trans (hz0 k hk))⟩
        · have c25 := mt (ax_eq (n := 9) (by decide)).mpr c25
          refine lv_iload hx hb dX7_takes0_44 (lv_at hl 0 rfl) ?_
          refine lv_bipush (v := 10) hx hb dX7_takes0_46 (by decide) ?_
          refine lv_icmp_ne (tgt := 57) hx hb dX7_takes0_48 (by decide) (fun c26 => ?_) (fun c26 => ?_)
          · have c26 := mt (ax_eq (n := 10) (by decide)).mpr c26
            refine lv_iload hx hb dX7_takes0_57 (lv_at hl 0 rfl) ?_
            refine lv_bipush (v := 11) hx hb dX7_takes0_59 (by decide) ?_
            refine lv_icmp_eq (tgt := 66) hx hb dX7_takes0_61 (by decide) (fun c27 => ?_) (fun c27 => ?_)
            · have c27 := (ax_eq (n := 11) (by decide)).mp c27
              refine lv_iconst (v := 0) hx hb dX7_takes0_66 (by decide) ?_
              refine lv_istore (lv' := [(5, .int 0), (4, .int r6), (0, .ref a0), (1, .int x1), (2, .int x2), (3, .int x3)]) hx hb dX7_takes0_67 hl (by decide) rfl (fun ls hl => ?_)
              refine lv_iconst (v := 0) hx hb dX7_takes0_69 (by decide) ?_
              refine lv_istore (lv' := [(6, .int 0), (5, .int 0), (4, .int r6), (0, .ref a0), (1, .int x1), (2, .int x2), (3, .int x3)]) hx hb dX7_takes0_70 hl (by decide) rfl (fun ls hl => ?_)
              have h30 : (0 : Int32).toInt = 0 := by decide
              have h31 : (0 : Int32).toInt = 0 := by decide
              refine th_loop (fun n g H locs => ∃ (G : Nat → va_E) (ls : Array Slot) (w28 : Int32) (w29 : Int32), g = F0 m 72 ls [] ∧ lv_has ls 7 [(3, .int x3), (5, .int w28), (6, .int w29)] ∧ va_P (dC, dI) vwCl (va_pl L G) H ∧ va_S (fun q => q ∈ L) s.heap H locs ∧ y_I K cs A G ∧ (∀ b, K b ∉ [71, 72] → G b = F b) ∧ (∀ k, k ∈ ([1, 2, 3, 4, 5, 6, 7, 8, 11, 15, 16, 19, 25, 26, 27, 31, 32] : List Nat) → y_fi G a0 k = z0 k) ∧ True ∧ (0 ≤ w29.toInt ∧ w29.toInt ≤ 8) ∧ n = (9 - w29.toInt).toNat) _ ⟨F17, _, 0, 0, rfl, lv_sub hl [6, 1, 0] rfl, hP, hS, hI, hfr, (fun k hk => (y_fiZ oY22 (s_sub (by decide) hk)).trans (hz0 k hk)), trivial, (by decide), rfl⟩ (fun n ih72 g H locs hq => ?_)
              obtain ⟨F34, ls, w28, w29, rfl, hl, hP, hS, hI, hfr, hz0, h32, h33, hn⟩ := hq
              have o35 : F34 (A 13) = .inl (cs 0, 400, .inl f1) := (hfr _ (by rw [(y_k13 hA)]; decide)).trans o2
              have oY36 : F34 a0 = .inr (7, y_fl A z0 q0) := (hfr _ (by rw [ha0]; decide)).trans oY0
              have hz0 : ∀ k, k ∈ ([1, 2, 3, 4, 5, 6, 7, 8, 11, 15, 16, 19, 25, 26, 27, 31, 32] : List Nat) → z0 k = z0 k := fun _ _ => rfl
              have hn_36 := hn
              refine lv_iload hx hb dX7_takes0_72 (lv_at hl 2 rfl) ?_
              refine lv_bipush (v := 8) hx hb dX7_takes0_74 (by decide) ?_
              refine lv_icmp_ge (tgt := 96) hx hb dX7_takes0_76 (by decide) (fun c37 => ?_) (fun c37 => ?_)
              · have c37 := (ax_ge (n := 8) (by decide)).mp c37
                refine lv_iload hx hb dX7_takes0_96 (lv_at hl 1 rfl) ?_
                exact W.iret (v := w28) hx hb hr (fun t ht hW => ⟨⟨w28, F34, rfl, ⟨trivial, trivial, hI, hfr, fun k hk => (y_fiZ oY36 (s_sub (by decide) hk)).trans ((hz0 k hk).trans (y_fiZ oY0 (s_sub (by decide) hk)).symm), trivial⟩, by rw [ht]; exact hP, va_K.moved hW.alike hK⟩, hS.F ht⟩) hS.2.2 dX7_takes0_98
              · have c37 := mt (ax_ge (n := 8) (by decide)).mpr c37
                refine lv_iload hx hb dX7_takes0_79 (lv_at hl 1 rfl) ?_
                refine lv_iload_n hx hb dX7_takes0_81 rfl (lv_at hl 0 rfl) ?_
                refine lv_iload hx hb dX7_takes0_82 (lv_at hl 2 rfl) ?_
                refine lv_ishr hx hb dX7_takes0_84 ?_
                refine lv_topi (fun v38 ev38 => ?_)
                refine lv_iconst (v := 1) hx hb dX7_takes0_85 (by decide) ?_
                refine lv_iand hx hb dX7_takes0_86 ?_
                refine lv_topi (fun v39 ev39 => ?_)
                have qv39 : 0 ≤ v39.toInt ∧ v39.toInt ≤ 1 := by rw [ev39]; exact th_and 1 (by decide) (by decide)
                refine lv_iadd hx hb dX7_takes0_87 ?_
                refine lv_topi (fun v40 ev40 => ?_)
                refine lv_istore (lv' := [(5, .int v40), (3, .int x3), (6, .int w29)]) hx hb dX7_takes0_88 hl (by decide) rfl (fun ls hl => ?_)
                obtain ⟨v41, ev41⟩ : ∃ y : Int32, w29 + 1 = y := ⟨_, rfl⟩
                have qv41 : v41.toInt = w29.toInt + 1 := by rw [← ev41]; exact th_add rfl (by decide) ⟨by omega, by omega⟩
                refine lv_iinc (v := v41) (lv' := [(6, .int v41), (5, .int v40), (3, .int x3)]) hx hb dX7_takes0_90 hl (k := 2) rfl ev41 (by decide) rfl (fun ls hl => ?_)
                refine lv_goto (tgt := 72) hx hb dX7_takes0_93 (by decide) ?_
                exact ih72 _ _ _ _ (by omega) ⟨F34, _, v40, v41, rfl, lv_sub hl [2, 1, 0] rfl, hP, hS, hI, hfr, (fun k hk => (y_fiZ oY36 (s_sub (by decide) hk)).trans (hz0 k hk)), trivial, ⟨by omega, by omega⟩, rfl⟩
            · have c27 := mt (ax_eq (n := 11) (by decide)).mpr c27
              refine lv_iconst (v := 1) hx hb dX7_takes0_64 (by decide) ?_
              have h42 : (1 : Int32).toInt = 1 := by decide
              exact W.iret (v := 1) hx hb hr (fun t ht hW => ⟨⟨1, F17, rfl, ⟨trivial, trivial, hI, hfr, fun k hk => (y_fiZ oY22 (s_sub (by decide) hk)).trans ((hz0 k hk).trans (y_fiZ oY0 (s_sub (by decide) hk)).symm), trivial⟩, by rw [ht]; exact hP, va_K.moved hW.alike hK⟩, hS.F ht⟩) hS.2.2 dX7_takes0_65
          · have c26 := (ax_eq (n := 10) (by decide)).mp c26
            exact K51 _ _ _ ⟨F17, _, rfl, lv_sub hl [1, 4] rfl, hP, hS, hI, hfr, (fun k hk => (y_fiZ oY22 (s_sub (by decide) hk)).trans (hz0 k hk))⟩
      · have c24 := (ax_eq (n := 8) (by decide)).mp c24
        exact K29 _ _ _ ⟨F17, _, rfl, lv_sub hl [1, 4] rfl, hP, hS, hI, hfr, (fun k hk => (y_fiZ oY22 (s_sub (by decide) hk)).trans (hz0 k hk))⟩
  · intro g H locs hq
    obtain ⟨F43, ls, rfl, hl, hP, hS, hI, hfr, hz0⟩ := hq
    have o44 : F43 (A 13) = .inl (cs 0, 400, .inl f1) := (hfr _ (by rw [(y_k13 hA)]; decide)).trans o2
    have oY45 : F43 a0 = .inr (7, y_fl A z0 q0) := (hfr _ (by rw [ha0]; decide)).trans oY0
    have hz0 : ∀ k, k ∈ ([1, 2, 3, 4, 5, 6, 7, 8, 11, 15, 16, 19, 25, 26, 27, 31, 32] : List Nat) → z0 k = z0 k := fun _ _ => rfl
    refine lv_iconst (v := 2) hx hb dX7_takes0_29 (by decide) ?_
    refine lv_aload_n hx hb dX7_takes0_30 rfl (lv_at hl 0 rfl) ?_
    refine lv_iload_n hx hb dX7_takes0_31 rfl (lv_at hl 1 rfl) ?_
    refine va_calli (va_runV (As := [.int x3]) (rest := [.int 2]) ⟨hx, hb, hml, hown, hts⟩ (y_X7_segments l dC dI H.size hLK A hA F43 a0 x3 ha0 hI) (cwV 1 hts (ax_gV T_1322 T_1324 T_1325 T_265 T_1323) rfl rfl rfl (by decide +kernel) ⟨Nat.le_of_ble_eq_true rfl, Nat.le_of_ble_eq_true rfl⟩) ⟨fun a U g mk q => ⟨q.1, s_pc (U := U) rfl rfl q.2⟩, s_recv hK hP (hLK _ ha0 (by decide)) (ci := 7) rfl oY45, fun U hU hW => ⟨rfl, s_pw hU hW hP hK hD hN⟩⟩ rfl rfl hl.1 rfl (lv_room (Nat.le_of_ble_eq_true rfl)) dX7_takes0_32 ⟨Nat.zero_le _, Nat.zero_le _⟩) hS (fun q _ h => h) (fun q h => h) (fun r47 F48 t H1 locs ht hvm hw hB hz1 hk1 hS => ?_)
    obtain ⟨hP, hK1⟩ := hB
    rw [ht] at hP
    generalize H1 = H at hP hS ⊢
    clear hz1 hk1 hvm hK1
    obtain ⟨h49, h51, hI, hfr1, hzf, h50⟩ := hw
    have o52 : F48 (A 13) = .inl (cs 0, 400, .inl f1) := (hfr1 _ (by rw [(y_k13 hA)]; decide)).trans o44
    have oY53 : F48 a0 = .inr (7, y_fl A z0 q0) := (hfr1 _ (by rw [ha0]; decide)).trans oY45
    have hfr : ∀ b, K b ∉ [71, 72] → F48 b = F b := fun b hb9 => (hfr1 b (fun q => hb9 (s_sub (by decide) q))).trans (hfr b hb9)
    refine lv_iadd hx hb dX7_takes0_35 ?_
    refine lv_topi (fun v54 ev54 => ?_)
    exact W.iret (v := v54) hx hb hr (fun t ht hW => ⟨⟨v54, F48, rfl, ⟨trivial, trivial, hI, hfr, fun k hk => (y_fiZ oY53 (s_sub (by decide) hk)).trans ((hz0 k hk).trans (y_fiZ oY0 (s_sub (by decide) hk)).symm), trivial⟩, by rw [ht]; exact hP, va_K.moved hW.alike hK⟩, hS.F ht⟩) hS.2.2 dX7_takes0_36
  · intro g H locs hq
    obtain ⟨F55, ls, rfl, hl, hP, hS, hI, hfr, hz0⟩ := hq
    have o56 : F55 (A 13) = .inl (cs 0, 400, .inl f1) := (hfr _ (by rw [(y_k13 hA)]; decide)).trans o2
    have oY57 : F55 a0 = .inr (7, y_fl A z0 q0) := (hfr _ (by rw [ha0]; decide)).trans oY0
    have hz0 : ∀ k, k ∈ ([1, 2, 3, 4, 5, 6, 7, 8, 11, 15, 16, 19, 25, 26, 27, 31, 32] : List Nat) → z0 k = z0 k := fun _ _ => rfl
    refine lv_aload_n hx hb dX7_takes0_51 rfl (lv_at hl 0 rfl) ?_
    refine lv_iload_n hx hb dX7_takes0_52 rfl (lv_at hl 1 rfl) ?_
    refine va_calli (va_runV (As := [.int x3]) (rest := []) ⟨hx, hb, hml, hown, hts⟩ (y_X7_clashes l dC dI H.size hLK A hA F55 a0 x3 ha0 hI) (cwV 1 hts (ax_gV T_1326 T_1328 T_1329 T_265 T_1327) rfl rfl rfl (by decide +kernel) ⟨Nat.le_of_ble_eq_true rfl, Nat.le_of_ble_eq_true rfl⟩) ⟨fun a U g mk q => ⟨q.1, s_pc (U := U) rfl rfl q.2⟩, s_recv hK hP (hLK _ ha0 (by decide)) (ci := 7) rfl oY57, fun U hU hW => ⟨rfl, s_pw hU hW hP hK hD hN⟩⟩ rfl rfl hl.1 rfl (lv_room (Nat.le_of_ble_eq_true rfl)) dX7_takes0_53 ⟨Nat.zero_le _, Nat.zero_le _⟩) hS (fun q _ h => h) (fun q h => h) (fun r59 F60 t H1 locs ht hvm hw hB hz1 hk1 hS => ?_)
    obtain ⟨hP, hK1⟩ := hB
    rw [ht] at hP
    generalize H1 = H at hP hS ⊢
    clear hz1 hk1 hvm hK1
    obtain ⟨h61, h63, hI, hfr1, hzf, h62⟩ := hw
    have o64 : F60 (A 13) = .inl (cs 0, 400, .inl f1) := (hfr1 _ (by rw [(y_k13 hA)]; decide)).trans o56
    have oY65 : F60 a0 = .inr (7, y_fl A z0 q0) := (hfr1 _ (by rw [ha0]; decide)).trans oY57
    have hfr : ∀ b, K b ∉ [71, 72] → F60 b = F b := fun b hb9 => (hfr1 b (fun q => hb9 (s_sub (by decide) q))).trans (hfr b hb9)
    exact W.iret (v := r59) hx hb hr (fun t ht hW => ⟨⟨r59, F60, rfl, ⟨trivial, trivial, hI, hfr, fun k hk => (y_fiZ oY65 (s_sub (by decide) hk)).trans ((hz0 k hk).trans (y_fiZ oY0 (s_sub (by decide) hk)).symm), trivial⟩, by rw [ht]; exact hP, va_K.moved hW.alike hK⟩, hS.F ht⟩) hS.2.2 dX7_takes0_56

set_option maxHeartbeats 4000000 in
set_option maxRecDepth 100000 in
theorem y_X7_made (l : Launch) (dC : Nat → ClassId) (dI : Nat → Nat → Nat) (sz : Nat) {L : List Nat} {cs : Nat → ClassId} (F : Nat → va_E) (x0 : Int32) (x1 : Int32) (x2 : Int32) (hx0 : 0 ≤ x0.toInt ∧ x0.toInt ≤ 15) : Met l yX7_made (Cond.code yX7_made cX7_made 3 (some .int) :: T0) ({ frames := 1, cells := 0, slots := 0, locals := 24 }) (va_Pc [.int x0, .int x1, .int x2] (s_W dC dI sz L F [(cs 0, .int), (cs 1, .byte), (cs 2, .long), (cs 3, .object RX5), (cs 4, .object RX4), (cs 5, .array .int), (cs 6, .char), (cs 7, .boolean)])) (va_Qi (fun (r : Int32) (G : Nat → va_E) => True ∧ True ∧ G = F ∧ True) (fun (G : Nat → va_E) (t : State) => va_P (dC, dI) vwCl (va_pl L G) t.heap ∧ va_K (dC, dI) vwCl [(cs 0, .int), (cs 1, .byte), (cs 2, .long), (cs 3, .object RX5), (cs 4, .object RX4), (cs 5, .array .int), (cs 6, .char), (cs 7, .boolean)] t) (fun q => q ∈ L)) 0 0 (fun q => q ∈ L) := by
  refine Met.ofW (cc := cX7_made) (maxL := 3) (ret := (some .int)) (by decide) rfl ?_
  intro p e s m args below meth c s₁ B hml hv
  obtain ⟨rfl, hsz, hP, hK, hD, hN⟩ := hv
  have hx := B.exec
  have hb := B.bytes
  have hr := B.returns
  have hts : ∀ w ∈ T0, w.before _ s = true := fun w h => atoms_spec (ws := Cond.code yX7_made cX7_made 3 (some .int) :: T0) B.pre w (List.mem_cons_of_mem _ h)
  have hown : s.vm.findClass RX7 = some m.cls := findClass_of_methodNamed B.named
  have hlocks := B.notSynchronized
  have hS : va_S (fun q => q ∈ L) s.heap s.heap [] := va_S.rf
  have hl := lv_entry ([.int x0, .int x1, .int x2]) (n := 3) (Nat.le_of_ble_eq_true rfl)
  rw [lg_entry_eq]
  generalize (lg_sl ([.int x0, .int x1, .int x2]) ++ List.replicate (3 - (lg_sl ([.int x0, .int x1, .int x2])).length) Slot.unset).toArray = ls at hl ⊢
  have hl : lv_has ls 3 [(0, .int x0), (1, .int x1), (2, .int x2)] := hl
  refine s_gen hP hS (fun H locs hP hS => ?_)
  refine lv_iload_n hx hb dX7_made_0 rfl (lv_at hl 0 rfl) ?_
  by_cases c1 : x0 = 1
  · refine ax_eqi c1 ?_
    refine lv_tableIn (off := 31) (tgt := 32) hx hb dX7_made_1 (by decide) (by decide) (by decide) (by decide) ?_
    have c1 := (ax_eq (n := 1) (by decide)).mp c1
    refine lv_iload_n hx hb dX7_made_32 rfl (lv_at hl 1 rfl) ?_
    refine lv_i2l hx hb dX7_made_33 rfl ?_
    refine lv_topl (fun v2 ev2 => ?_)
    have qv2 : v2.toInt = x1.toInt := y_i2l ev2
    refine lv_iload_n hx hb dX7_made_34 rfl (lv_at hl 2 rfl) ?_
    refine lv_i2l hx hb dX7_made_35 rfl ?_
    refine lv_topl (fun v3 ev3 => ?_)
    have qv3 : v3.toInt = x2.toInt := y_i2l ev3
    refine lv_ladd hx hb dX7_made_36 ?_
    refine lv_topl (fun v4 ev4 => ?_)
    refine va_calli (va_runS (As := [.long v4]) (rest := []) ⟨hx, hb, hml, hown, hts⟩ (y_X7_bounded l dC dI H.size F v4) (cwS 1 hts (ax_gS T_1272 T_1274 T_265 T_1273) rfl rfl rfl (by decide +kernel) ⟨Nat.le_of_ble_eq_true rfl, Nat.le_of_ble_eq_true rfl⟩) ⟨fun a U g mk q => ⟨q.1, s_pc (U := U) rfl rfl q.2⟩, fun U hU hW => ⟨rfl, s_pw hU hW hP hK hD hN⟩⟩ rfl rfl hl.1 rfl (lv_room (Nat.le_of_ble_eq_true rfl)) dX7_made_37 ⟨Nat.zero_le _, Nat.zero_le _⟩) hS (fun q _ h => h) (fun q h => h) (fun r6 F7 t H1 locs ht hvm hw hB hz1 hk1 hS => ?_)
    obtain ⟨hP, hK1⟩ := hB
    rw [ht] at hP
    generalize H1 = H at hP hS ⊢
    clear hz1 hk1 hvm hK1
    obtain ⟨h8, h10, hG9, h9⟩ := hw
    rw [hG9] at hP
    exact W.iret (v := r6) hx hb hr (fun t ht hW => ⟨⟨r6, F, rfl, ⟨trivial, trivial, rfl, trivial⟩, by rw [ht]; exact hP, va_K.moved hW.alike hK⟩, hS.F ht⟩) hS.2.2 dX7_made_40
  · have c1 := mt (ax_eq (n := 1) (by decide)).mpr c1
    by_cases c11 : x0 = 2
    · refine ax_eqi c11 ?_
      refine lv_tableIn (off := 40) (tgt := 41) hx hb dX7_made_1 (by decide) (by decide) (by decide) (by decide) ?_
      have c11 := (ax_eq (n := 2) (by decide)).mp c11
      refine lv_iload_n hx hb dX7_made_41 rfl (lv_at hl 1 rfl) ?_
      refine lv_i2l hx hb dX7_made_42 rfl ?_
      refine lv_topl (fun v12 ev12 => ?_)
      have qv12 : v12.toInt = x1.toInt := y_i2l ev12
      refine lv_iload_n hx hb dX7_made_43 rfl (lv_at hl 2 rfl) ?_
      refine lv_i2l hx hb dX7_made_44 rfl ?_
      refine lv_topl (fun v13 ev13 => ?_)
      have qv13 : v13.toInt = x2.toInt := y_i2l ev13
      refine lv_lsub hx hb dX7_made_45 ?_
      refine lv_topl (fun v14 ev14 => ?_)
      refine va_calli (va_runS (As := [.long v14]) (rest := []) ⟨hx, hb, hml, hown, hts⟩ (y_X7_bounded l dC dI H.size F v14) (cwS 1 hts (ax_gS T_1272 T_1274 T_265 T_1273) rfl rfl rfl (by decide +kernel) ⟨Nat.le_of_ble_eq_true rfl, Nat.le_of_ble_eq_true rfl⟩) ⟨fun a U g mk q => ⟨q.1, s_pc (U := U) rfl rfl q.2⟩, fun U hU hW => ⟨rfl, s_pw hU hW hP hK hD hN⟩⟩ rfl rfl hl.1 rfl (lv_room (Nat.le_of_ble_eq_true rfl)) dX7_made_46 ⟨Nat.zero_le _, Nat.zero_le _⟩) hS (fun q _ h => h) (fun q h => h) (fun r16 F17 t H1 locs ht hvm hw hB hz1 hk1 hS => ?_)
      obtain ⟨hP, hK1⟩ := hB
      rw [ht] at hP
      generalize H1 = H at hP hS ⊢
      clear hz1 hk1 hvm hK1
      obtain ⟨h18, h20, hG9, h19⟩ := hw
      rw [hG9] at hP
      exact W.iret (v := r16) hx hb hr (fun t ht hW => ⟨⟨r16, F, rfl, ⟨trivial, trivial, rfl, trivial⟩, by rw [ht]; exact hP, va_K.moved hW.alike hK⟩, hS.F ht⟩) hS.2.2 dX7_made_49
    · have c11 := mt (ax_eq (n := 2) (by decide)).mpr c11
      by_cases c21 : x0 = 3
      · refine ax_eqi c21 ?_
        refine lv_tableIn (off := 49) (tgt := 50) hx hb dX7_made_1 (by decide) (by decide) (by decide) (by decide) ?_
        have c21 := (ax_eq (n := 3) (by decide)).mp c21
        refine lv_iload_n hx hb dX7_made_50 rfl (lv_at hl 1 rfl) ?_
        refine lv_i2l hx hb dX7_made_51 rfl ?_
        refine lv_topl (fun v22 ev22 => ?_)
        have qv22 : v22.toInt = x1.toInt := y_i2l ev22
        refine lv_iload_n hx hb dX7_made_52 rfl (lv_at hl 2 rfl) ?_
        refine lv_i2l hx hb dX7_made_53 rfl ?_
        refine lv_topl (fun v23 ev23 => ?_)
        have qv23 : v23.toInt = x2.toInt := y_i2l ev23
        refine lv_lmul hx hb dX7_made_54 ?_
        refine lv_topl (fun v24 ev24 => ?_)
        refine va_calli (va_runS (As := [.long v24]) (rest := []) ⟨hx, hb, hml, hown, hts⟩ (y_X7_bounded l dC dI H.size F v24) (cwS 1 hts (ax_gS T_1272 T_1274 T_265 T_1273) rfl rfl rfl (by decide +kernel) ⟨Nat.le_of_ble_eq_true rfl, Nat.le_of_ble_eq_true rfl⟩) ⟨fun a U g mk q => ⟨q.1, s_pc (U := U) rfl rfl q.2⟩, fun U hU hW => ⟨rfl, s_pw hU hW hP hK hD hN⟩⟩ rfl rfl hl.1 rfl (lv_room (Nat.le_of_ble_eq_true rfl)) dX7_made_55 ⟨Nat.zero_le _, Nat.zero_le _⟩) hS (fun q _ h => h) (fun q h => h) (fun r26 F27 t H1 locs ht hvm hw hB hz1 hk1 hS => ?_)
        obtain ⟨hP, hK1⟩ := hB
        rw [ht] at hP
        generalize H1 = H at hP hS ⊢
        clear hz1 hk1 hvm hK1
        obtain ⟨h28, h30, hG9, h29⟩ := hw
        rw [hG9] at hP
        exact W.iret (v := r26) hx hb hr (fun t ht hW => ⟨⟨r26, F, rfl, ⟨trivial, trivial, rfl, trivial⟩, by rw [ht]; exact hP, va_K.moved hW.alike hK⟩, hS.F ht⟩) hS.2.2 dX7_made_58
      · have c21 := mt (ax_eq (n := 3) (by decide)).mpr c21
        by_cases c31 : x0 = 4
        · refine ax_eqi c31 ?_
          refine lv_tableIn (off := 58) (tgt := 59) hx hb dX7_made_1 (by decide) (by decide) (by decide) (by decide) ?_
          have c31 := (ax_eq (n := 4) (by decide)).mp c31
          refine lv_iload_n hx hb dX7_made_59 rfl (lv_at hl 2 rfl) ?_
          refine lv_if_gt (tgt := 67) hx hb dX7_made_60 (by decide) (fun c32 => ?_) (fun c32 => ?_)
          · have c32 := (ax_gt (n := 0) (by decide)).mp c32
            refine lv_iload_n hx hb dX7_made_67 rfl (lv_at hl 1 rfl) ?_
            refine lv_i2l hx hb dX7_made_68 rfl ?_
            refine lv_topl (fun v33 ev33 => ?_)
            have qv33 : v33.toInt = x1.toInt := y_i2l ev33
            refine lv_iload_n hx hb dX7_made_69 rfl (lv_at hl 2 rfl) ?_
            refine va_calli (va_runS (As := [.long v33, .int x2]) (rest := []) ⟨hx, hb, hml, hown, hts⟩ (y_X7_modulo l dC dI H.size F v33 x2 (⟨by omega, by have q9 := th_hi x2; omega⟩)) (cwS 2 hts (ax_gS T_1204 T_1206 T_265 T_1205) rfl rfl rfl (by decide +kernel) ⟨Nat.le_of_ble_eq_true rfl, Nat.le_of_ble_eq_true rfl⟩) ⟨fun a U g mk q => ⟨q.1, s_pc (U := U) rfl rfl q.2⟩, fun U hU hW => ⟨rfl, s_pw hU hW hP hK hD hN⟩⟩ rfl rfl hl.1 rfl (lv_room (Nat.le_of_ble_eq_true rfl)) dX7_made_70 ⟨Nat.zero_le _, Nat.zero_le _⟩) hS (fun q _ h => h) (fun q h => h) (fun r35 F36 t H1 locs ht hvm hw hB hz1 hk1 hS => ?_)
            obtain ⟨hP, hK1⟩ := hB
            rw [ht] at hP
            generalize H1 = H at hP hS ⊢
            clear hz1 hk1 hvm hK1
            obtain ⟨h37, h39, hG9, h38⟩ := hw
            rw [hG9] at hP
            replace h38 : (0 ≤ r35.toInt ∧ r35.toInt < x2.toInt) := by have q9 := h38; exact q9
            exact W.iret (v := r35) hx hb hr (fun t ht hW => ⟨⟨r35, F, rfl, ⟨trivial, trivial, rfl, trivial⟩, by rw [ht]; exact hP, va_K.moved hW.alike hK⟩, hS.F ht⟩) hS.2.2 dX7_made_73
          · have c32 := mt (ax_gt (n := 0) (by decide)).mpr c32
            refine lv_iconst (v := 0) hx hb dX7_made_63 (by decide) ?_
            refine lv_goto (tgt := 73) hx hb dX7_made_64 (by decide) ?_
            have h40 : (0 : Int32).toInt = 0 := by decide
            exact W.iret (v := 0) hx hb hr (fun t ht hW => ⟨⟨0, F, rfl, ⟨trivial, trivial, rfl, trivial⟩, by rw [ht]; exact hP, va_K.moved hW.alike hK⟩, hS.F ht⟩) hS.2.2 dX7_made_73
        · have c31 := mt (ax_eq (n := 4) (by decide)).mpr c31
          refine lv_tableOut (tgt := 74) hx hb dX7_made_1 (by omega) (by decide) ?_
          refine lv_iload_n hx hb dX7_made_74 rfl (lv_at hl 1 rfl) ?_
          exact W.iret (v := x1) hx hb hr (fun t ht hW => ⟨⟨x1, F, rfl, ⟨trivial, trivial, rfl, trivial⟩, by rw [ht]; exact hP, va_K.moved hW.alike hK⟩, hS.F ht⟩) hS.2.2 dX7_made_75

set_option maxHeartbeats 4000000 in
set_option maxRecDepth 100000 in
theorem y_X7_touches (l : Launch) (dC : Nat → ClassId) (dI : Nat → Nat → Nat) (sz : Nat) {L : List Nat} {K : Nat → Nat} {cs : Nat → ClassId} (hLK : ∀ a {k : Nat}, K a = k → k ≠ 0 → a ∈ L) (A : Nat → Nat) (hA : y_A K A) (F : Nat → va_E) (a0 : Nat) (x1 : Int32) (x2 : Int32) (x3 : Int32) (ha0 : K a0 = 9) (hx1 : 0 ≤ x1.toInt ∧ x1.toInt ≤ 95) (hx2 : 0 ≤ x2.toInt ∧ x2.toInt ≤ 31) (hx3 : 0 ≤ x3.toInt ∧ x3.toInt ≤ 1) (hI : y_I K cs A F) : Met l yX7_touches (Cond.code yX7_touches cX7_touches 6 none :: T0) ({ frames := 0, cells := 0, slots := 0, locals := 0 }) (va_Pc [.ref a0, .int x1, .int x2, .int x3] (s_W dC dI sz L F [(cs 0, .int), (cs 1, .byte), (cs 2, .long), (cs 3, .object RX5), (cs 4, .object RX4), (cs 5, .array .int), (cs 6, .char), (cs 7, .boolean)])) (va_Qv (fun (G : Nat → va_E) => True ∧ True ∧ y_I K cs A G ∧ (∀ b, K b ∉ [70] → G b = F b) ∧ (∀ k, k ∈ ([1, 2, 3, 4, 5, 6, 7, 8, 11, 15, 16, 19, 25, 26, 27, 31, 32] : List Nat) → y_fi G a0 k = y_fi F a0 k) ∧ (y_E6 (y_at F (A 20)) (y_at G (A 20)))) (fun (G : Nat → va_E) (t : State) => va_P (dC, dI) vwCl (va_pl L G) t.heap ∧ va_K (dC, dI) vwCl [(cs 0, .int), (cs 1, .byte), (cs 2, .long), (cs 3, .object RX5), (cs 4, .object RX4), (cs 5, .array .int), (cs 6, .char), (cs 7, .boolean)] t) (fun q => q ∈ L)) 0 0 (fun q => q ∈ L) := by
  refine Met.ofW (cc := cX7_touches) (maxL := 6) (ret := none) (by decide) rfl ?_
  intro p e s m args below meth c s₁ B hml hv
  obtain ⟨rfl, hsz, hP, hK, hD, hN⟩ := hv
  have hx := B.exec
  have hb := B.bytes
  have hr := B.returns
  have hts : ∀ w ∈ T0, w.before _ s = true := fun w h => atoms_spec (ws := Cond.code yX7_touches cX7_touches 6 none :: T0) B.pre w (List.mem_cons_of_mem _ h)
  have hown : s.vm.findClass RX7 = some m.cls := findClass_of_methodNamed B.named
  have hlocks := B.notSynchronized
  have hS : va_S (fun q => q ∈ L) s.heap s.heap [] := va_S.rf
  have hfr : ∀ b, K b ∉ [70] → F b = F b := fun _ _ => rfl
  have hl := lv_entry ([.ref a0, .int x1, .int x2, .int x3]) (n := 6) (Nat.le_of_ble_eq_true rfl)
  rw [lg_entry_eq]
  generalize (lg_sl ([.ref a0, .int x1, .int x2, .int x3]) ++ List.replicate (6 - (lg_sl ([.ref a0, .int x1, .int x2, .int x3])).length) Slot.unset).toArray = ls at hl ⊢
  have hl : lv_has ls 6 [(0, .ref a0), (1, .int x1), (2, .int x2), (3, .int x3)] := hl
  refine s_gen hP hS (fun H locs hP hS => ?_)
  obtain ⟨z0, q0, oY0, bz0, bq0⟩ := y_opY hI ha0
  have hz0 : ∀ k, k ∈ ([1, 2, 3, 4, 5, 6, 7, 8, 11, 15, 16, 19, 25, 26, 27, 31, 32] : List Nat) → z0 k = z0 k := fun _ _ => rfl
  obtain ⟨f1, o2, b3⟩ := y_op20 hI
  refine th_join (fun g H locs => ∃ (G : Nat → va_E) (ls : Array Slot), g = F0 m 39 ls [] ∧ lv_has ls 6 [(0, .ref a0), (1, .int x1)] ∧ va_P (dC, dI) vwCl (va_pl L G) H ∧ va_S (fun q => q ∈ L) s.heap H locs ∧ y_I K cs A G ∧ (∀ b, K b ∉ [70] → G b = F b) ∧ (∀ k, k ∈ ([1, 2, 3, 4, 5, 6, 7, 8, 11, 15, 16, 19, 25, 26, 27, 31, 32] : List Nat) → y_fi G a0 k = z0 k) ∧ (0 ≤ x1.toInt ∧ x1.toInt ≤ 95) ∧ (y_E6 f1 (y_at G (A 20)))) (fun K39 => ?_) ?_
  · refine lv_iload_n hx hb dX7_touches_0 rfl (lv_at hl 3 rfl) ?_
    refine lv_if_eq (tgt := 23) hx hb dX7_touches_1 (by decide) (fun c4 => ?_) (fun c4 => ?_)
    · have c4 := (ax_eq (n := 0) (by decide)).mp c4
      refine lv_aload_n hx hb dX7_touches_23 rfl (lv_at hl 0 rfl) ?_
      refine th_get (D := (dC, dI)) (ci := 7) (v := .ref (A 20)) (C := RX7) (T := TX7) (N := 34) hx hb hts inX7 hown hK hP (hLK _ ha0 (by decide)) oY0 rfl 20 (by decide) (hts _ T_251) (fun _ h9 => h9) rfl dX7_touches_24 ?_
      refine lv_sipush (v := 480) hx hb dX7_touches_27 (by decide) ?_
      refine lv_iload_n hx hb dX7_touches_30 rfl (lv_at hl 1 rfl) ?_
      refine lv_iadd hx hb dX7_touches_31 ?_
      refine lv_topi (fun v5 ev5 => ?_)
      have qv5 : v5.toInt = 480 + x1.toInt := by rw [ev5]; exact th_add (by decide) rfl ⟨by omega, by omega⟩
      refine lv_dup2_11 hx hb dX7_touches_32 rfl rfl ?_
      refine th_iald hx hb hK hP (hLK _ (y_k20 hA) (by decide)) 0 o2 rfl (th_in ⟨by omega, by omega⟩) dX7_touches_33 ?_
      refine lv_topi (fun v6 ev6 => ?_)
      refine lv_iconst (v := 1) hx hb dX7_touches_34 (by decide) ?_
      refine lv_iload_n hx hb dX7_touches_35 rfl (lv_at hl 2 rfl) ?_
      refine lv_ishl hx hb dX7_touches_36 ?_
      refine lv_topi (fun v7 ev7 => ?_)
      refine lv_ior hx hb dX7_touches_37 ?_
      refine lv_topi (fun v8 ev8 => ?_)
      refine th_iast hx hb hK hP hD hS (hLK _ (y_k20 hA) (by decide)) 0 o2 rfl (th_in ⟨by omega, by omega⟩) dX7_touches_38 (fun H locs hP hS => ?_)
      obtain ⟨f9, u10⟩ : ∃ g : Nat → Int32, g = upd f1 (v5 : Int32).toNatClampNeg v8 := ⟨_, rfl⟩
      rw [← u10] at hP
      have b11 : y_bd 20 f9 := trivial
      have hP : va_P (dC, dI) vwCl (va_pl L (va_up F (A 20) (.inl (cs 0, 918, .inl f9)))) H := hP
      obtain ⟨F12, hF13⟩ : ∃ G : Nat → va_E, G = va_up F (A 20) (.inl (cs 0, 918, .inl f9)) := ⟨_, rfl⟩
      rw [← hF13] at hP
      have hI : y_I K cs A F12 := by rw [hF13]; exact y_clA (i := 20) hA hI (by decide) b11
      have hfr : ∀ b, K b ∉ [70] → F12 b = F b := by rw [hF13]; exact s_fr hfr (y_k20 hA) (by decide)
      have oY14 : F12 a0 = .inr (7, y_fl A z0 q0) := by rw [hF13]; exact th_ne (th_kd ha0 (y_k20 hA) (by decide)) oY0
      have o15 : F12 (A 20) = .inl (cs 0, 918, .inl f9) := by rw [hF13]; exact th_up
      have u16 : ∀ j : Int, 0 ≤ j → y_c f9 j = if j = v5.toInt then v8 else y_c f1 j := by rw [u10]; exact y_cu rfl (by omega)
      exact K39 _ _ _ ⟨F12, _, rfl, lv_sub hl [0, 1] rfl, hP, hS, hI, hfr, (fun k hk => (y_fiZ oY14 (s_sub (by decide) hk)).trans (hz0 k hk)), ⟨by omega, by omega⟩, (by rw [y_atE o15]; exact (y_E6_t (y_E6_r _) (y_E6_u u16 (by omega))))⟩
    · have c4 := mt (ax_eq (n := 0) (by decide)).mpr c4
      refine lv_aload_n hx hb dX7_touches_4 rfl (lv_at hl 0 rfl) ?_
      refine th_get (D := (dC, dI)) (ci := 7) (v := .ref (A 20)) (C := RX7) (T := TX7) (N := 34) hx hb hts inX7 hown hK hP (hLK _ ha0 (by decide)) oY0 rfl 20 (by decide) (hts _ T_251) (fun _ h9 => h9) rfl dX7_touches_5 ?_
      refine lv_sipush (v := 576) hx hb dX7_touches_8 (by decide) ?_
      refine lv_iload_n hx hb dX7_touches_11 rfl (lv_at hl 1 rfl) ?_
      refine lv_iadd hx hb dX7_touches_12 ?_
      refine lv_topi (fun v17 ev17 => ?_)
      have qv17 : v17.toInt = 576 + x1.toInt := by rw [ev17]; exact th_add (by decide) rfl ⟨by omega, by omega⟩
      refine lv_dup2_11 hx hb dX7_touches_13 rfl rfl ?_
      refine th_iald hx hb hK hP (hLK _ (y_k20 hA) (by decide)) 0 o2 rfl (th_in ⟨by omega, by omega⟩) dX7_touches_14 ?_
      refine lv_topi (fun v18 ev18 => ?_)
      refine lv_iconst (v := 1) hx hb dX7_touches_15 (by decide) ?_
      refine lv_iload_n hx hb dX7_touches_16 rfl (lv_at hl 2 rfl) ?_
      refine lv_ishl hx hb dX7_touches_17 ?_
      refine lv_topi (fun v19 ev19 => ?_)
      refine lv_ior hx hb dX7_touches_18 ?_
      refine lv_topi (fun v20 ev20 => ?_)
      refine th_iast hx hb hK hP hD hS (hLK _ (y_k20 hA) (by decide)) 0 o2 rfl (th_in ⟨by omega, by omega⟩) dX7_touches_19 (fun H locs hP hS => ?_)
      obtain ⟨f21, u22⟩ : ∃ g : Nat → Int32, g = upd f1 (v17 : Int32).toNatClampNeg v20 := ⟨_, rfl⟩
      rw [← u22] at hP
      have b23 : y_bd 20 f21 := trivial
      have hP : va_P (dC, dI) vwCl (va_pl L (va_up F (A 20) (.inl (cs 0, 918, .inl f21)))) H := hP
      obtain ⟨F24, hF25⟩ : ∃ G : Nat → va_E, G = va_up F (A 20) (.inl (cs 0, 918, .inl f21)) := ⟨_, rfl⟩
      rw [← hF25] at hP
      have hI : y_I K cs A F24 := by rw [hF25]; exact y_clA (i := 20) hA hI (by decide) b23
      have hfr : ∀ b, K b ∉ [70] → F24 b = F b := by rw [hF25]; exact s_fr hfr (y_k20 hA) (by decide)
      have oY26 : F24 a0 = .inr (7, y_fl A z0 q0) := by rw [hF25]; exact th_ne (th_kd ha0 (y_k20 hA) (by decide)) oY0
      have o27 : F24 (A 20) = .inl (cs 0, 918, .inl f21) := by rw [hF25]; exact th_up
      have u28 : ∀ j : Int, 0 ≤ j → y_c f21 j = if j = v17.toInt then v20 else y_c f1 j := by rw [u22]; exact y_cu rfl (by omega)
      refine lv_goto (tgt := 39) hx hb dX7_touches_20 (by decide) ?_
      exact K39 _ _ _ ⟨F24, _, rfl, lv_sub hl [0, 1] rfl, hP, hS, hI, hfr, (fun k hk => (y_fiZ oY26 (s_sub (by decide) hk)).trans (hz0 k hk)), ⟨by omega, by omega⟩, (by rw [y_atE o27]; exact (y_E6_t (y_E6_r _) (y_E6_u u28 (by omega))))⟩
  · intro g H locs hq
    obtain ⟨F31, ls, rfl, hl, hP, hS, hI, hfr, hz0, h29, h30⟩ := hq
    have oY32 : F31 a0 = .inr (7, y_fl A z0 q0) := (hfr _ (by rw [ha0]; decide)).trans oY0
    have hz0 : ∀ k, k ∈ ([1, 2, 3, 4, 5, 6, 7, 8, 11, 15, 16, 19, 25, 26, 27, 31, 32] : List Nat) → z0 k = z0 k := fun _ _ => rfl
    obtain ⟨f33, o34, b35⟩ := y_op20 hI
    replace h30 : (y_E6 f1 f33) := by have q9 := h30; rw [y_atE o34] at q9; exact q9
    refine lv_aload_n hx hb dX7_touches_39 rfl (lv_at hl 0 rfl) ?_
    refine th_get (D := (dC, dI)) (ci := 7) (v := .ref (A 20)) (C := RX7) (T := TX7) (N := 34) hx hb hts inX7 hown hK hP (hLK _ ha0 (by decide)) oY32 rfl 20 (by decide) (hts _ T_251) (fun _ h9 => h9) rfl dX7_touches_40 ?_
    refine lv_sipush (v := 576) hx hb dX7_touches_43 (by decide) ?_
    refine lv_iload_n hx hb dX7_touches_46 rfl (lv_at hl 1 rfl) ?_
    refine lv_iadd hx hb dX7_touches_47 ?_
    refine lv_topi (fun v36 ev36 => ?_)
    have qv36 : v36.toInt = 576 + x1.toInt := by rw [ev36]; exact th_add (by decide) rfl ⟨by omega, by omega⟩
    refine th_iald hx hb hK hP (hLK _ (y_k20 hA) (by decide)) 0 o34 rfl (th_in ⟨by omega, by omega⟩) dX7_touches_48 ?_
    refine lv_topi (fun v37 ev37 => ?_)
    refine lv_istore (lv' := [(4, .int v37), (0, .ref a0), (1, .int x1)]) hx hb dX7_touches_49 hl (by decide) rfl (fun ls hl => ?_)
    refine lv_iload hx hb dX7_touches_51 (lv_at hl 0 rfl) ?_
    refine lv_aload_n hx hb dX7_touches_53 rfl (lv_at hl 1 rfl) ?_
    refine th_get (D := (dC, dI)) (ci := 7) (v := .ref (A 20)) (C := RX7) (T := TX7) (N := 34) hx hb hts inX7 hown hK hP (hLK _ ha0 (by decide)) oY32 rfl 20 (by decide) (hts _ T_251) (fun _ h9 => h9) rfl dX7_touches_54 ?_
    refine lv_sipush (v := 480) hx hb dX7_touches_57 (by decide) ?_
    refine lv_iload_n hx hb dX7_touches_60 rfl (lv_at hl 2 rfl) ?_
    refine lv_iadd hx hb dX7_touches_61 ?_
    refine lv_topi (fun v38 ev38 => ?_)
    have qv38 : v38.toInt = 480 + x1.toInt := by rw [ev38]; exact th_add (by decide) rfl ⟨by omega, by omega⟩
    refine th_iald hx hb hK hP (hLK _ (y_k20 hA) (by decide)) 0 o34 rfl (th_in ⟨by omega, by omega⟩) dX7_touches_62 ?_
    refine lv_topi (fun v39 ev39 => ?_)
    refine lv_ior hx hb dX7_touches_63 ?_
    refine lv_topi (fun v40 ev40 => ?_)
    refine lv_istore (lv' := [(5, .int v40), (4, .int v37), (0, .ref a0), (1, .int x1)]) hx hb dX7_touches_64 hl (by decide) rfl (fun ls hl => ?_)
    refine lv_iload hx hb dX7_touches_66 (lv_at hl 1 rfl) ?_
    refine lv_if_eq (tgt := 92) hx hb dX7_touches_68 (by decide) (fun c41 => ?_) (fun c41 => ?_)
    · have c41 := (ax_eq (n := 0) (by decide)).mp c41
      exact W.vret hx hb hr (fun t ht hW => ⟨⟨F31, rfl, ⟨trivial, trivial, hI, hfr, fun k hk => (y_fiZ oY32 (s_sub (by decide) hk)).trans ((hz0 k hk).trans (y_fiZ oY0 (s_sub (by decide) hk)).symm), (by rw [y_atE o2, y_atE o34]; exact h30)⟩, by rw [ht]; exact hP, va_K.moved hW.alike hK⟩, hS.F ht⟩) hS.2.2 dX7_touches_92
    · have c41 := mt (ax_eq (n := 0) (by decide)).mpr c41
      refine lv_iload hx hb dX7_touches_71 (lv_at hl 0 rfl) ?_
      refine lv_iload hx hb dX7_touches_73 (lv_at hl 0 rfl) ?_
      refine lv_iconst (v := 1) hx hb dX7_touches_75 (by decide) ?_
      refine lv_isub hx hb dX7_touches_76 ?_
      refine lv_topi (fun v42 ev42 => ?_)
      refine lv_iand hx hb dX7_touches_77 ?_
      refine lv_topi (fun v43 ev43 => ?_)
      refine lv_if_eq (tgt := 92) hx hb dX7_touches_78 (by decide) (fun c44 => ?_) (fun c44 => ?_)
      · have c44 := (ax_eq (n := 0) (by decide)).mp c44
        exact W.vret hx hb hr (fun t ht hW => ⟨⟨F31, rfl, ⟨trivial, trivial, hI, hfr, fun k hk => (y_fiZ oY32 (s_sub (by decide) hk)).trans ((hz0 k hk).trans (y_fiZ oY0 (s_sub (by decide) hk)).symm), (by rw [y_atE o2, y_atE o34]; exact h30)⟩, by rw [ht]; exact hP, va_K.moved hW.alike hK⟩, hS.F ht⟩) hS.2.2 dX7_touches_92
      · have c44 := mt (ax_eq (n := 0) (by decide)).mpr c44
        refine lv_aload_n hx hb dX7_touches_81 rfl (lv_at hl 2 rfl) ?_
        refine th_get (D := (dC, dI)) (ci := 7) (v := .ref (A 20)) (C := RX7) (T := TX7) (N := 34) hx hb hts inX7 hown hK hP (hLK _ ha0 (by decide)) oY32 rfl 20 (by decide) (hts _ T_251) (fun _ h9 => h9) rfl dX7_touches_82 ?_
        refine lv_sipush (v := 672) hx hb dX7_touches_85 (by decide) ?_
        refine lv_iload_n hx hb dX7_touches_88 rfl (lv_at hl 3 rfl) ?_
        refine lv_iadd hx hb dX7_touches_89 ?_
        refine lv_topi (fun v45 ev45 => ?_)
        have qv45 : v45.toInt = 672 + x1.toInt := by rw [ev45]; exact th_add (by decide) rfl ⟨by omega, by omega⟩
        refine lv_iconst (v := 1) hx hb dX7_touches_90 (by decide) ?_
        refine th_iast hx hb hK hP hD hS (hLK _ (y_k20 hA) (by decide)) 0 o34 rfl (th_in ⟨by omega, by omega⟩) dX7_touches_91 (fun H locs hP hS => ?_)
        obtain ⟨f46, u47⟩ : ∃ g : Nat → Int32, g = upd f33 (v45 : Int32).toNatClampNeg 1 := ⟨_, rfl⟩
        rw [← u47] at hP
        have b48 : y_bd 20 f46 := trivial
        have hP : va_P (dC, dI) vwCl (va_pl L (va_up F31 (A 20) (.inl (cs 0, 918, .inl f46)))) H := hP
        obtain ⟨F49, hF50⟩ : ∃ G : Nat → va_E, G = va_up F31 (A 20) (.inl (cs 0, 918, .inl f46)) := ⟨_, rfl⟩
        rw [← hF50] at hP
        have hI : y_I K cs A F49 := by rw [hF50]; exact y_clA (i := 20) hA hI (by decide) b48
        have hfr : ∀ b, K b ∉ [70] → F49 b = F b := by rw [hF50]; exact s_fr hfr (y_k20 hA) (by decide)
        have oY51 : F49 a0 = .inr (7, y_fl A z0 q0) := by rw [hF50]; exact th_ne (th_kd ha0 (y_k20 hA) (by decide)) oY32
        have o52 : F49 (A 20) = .inl (cs 0, 918, .inl f46) := by rw [hF50]; exact th_up
        have u53 : ∀ j : Int, 0 ≤ j → y_c f46 j = if j = v45.toInt then 1 else y_c f33 j := by rw [u47]; exact y_cu rfl (by omega)
        exact W.vret hx hb hr (fun t ht hW => ⟨⟨F49, rfl, ⟨trivial, trivial, hI, hfr, fun k hk => (y_fiZ oY51 (s_sub (by decide) hk)).trans ((hz0 k hk).trans (y_fiZ oY0 (s_sub (by decide) hk)).symm), (by rw [y_atE o2, y_atE o52]; exact (y_E6_t h30 (y_E6_u u53 (by omega))))⟩, by rw [ht]; exact hP, va_K.moved hW.alike hK⟩, hS.F ht⟩) hS.2.2 dX7_touches_92
