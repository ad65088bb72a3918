set_option maxHeartbeats 4000000 in
set_option maxRecDepth 100000 in
theorem s_X3_readNumber (l : Launch) (dC : Nat → ClassId) (dI : Nat → Nat → Nat) (sz : Nat) {L : List Nat} {K : Nat → Nat} {cs : Nat → ClassId} (hLK : ∀ a {k : Nat}, K a = k → k ≠ 0 → a ∈ L) (D : Nat) (adK adV : Nat → Nat) (tf : Option Nat) (F : Nat → va_E) (a0 : Nat) (x1 : Int32) (x2 : Int32) (ha0 : K a0 = 4) (hx1 : 0 ≤ x1.toInt ∧ x1.toInt ≤ 1) (hx2 : 0 ≤ x2.toInt ∧ x2.toInt ≤ 999) (hI : s_I K cs D F) (tt qq : Nat) (hR : s_rd4 K F a0 tt qq) : Met l yX3_readNumber (Cond.code yX3_readNumber cX3_readNumber 4 (some .int) :: T0) ({ frames := 6, cells := 0, slots := 0, locals := 132 }) (va_Pc [.ref a0, .int x1, .int x2] (s_WZ dC dI sz L F [(cs 0, .int), (cs 1, .byte), (cs 2, .long), (cs 3, .object RX5), (cs 4, .object RX4), (cs 5, .array .int), (cs 6, .char), (cs 7, .boolean)] adK adV tf)) (va_Qi (fun (r : Int32) (G : Nat → va_E) => (-1 ≤ r.toInt ∧ r.toInt ≤ 999) ∧ (True ∧ (r.toInt = -1 ∨ (x1.toInt ≤ r.toInt ∧ r.toInt ≤ x2.toInt))) ∧ s_I K cs D G ∧ (∀ b, K b ∉ [4] → G b = F b) ∧ s_rd4 K G a0 tt qq) (fun (G : Nat → va_E) (t : State) => va_P (dC, dI) vwCl (va_pl L G) t.heap ∧ va_K (dC, dI) vwCl [(cs 0, .int), (cs 1, .byte), (cs 2, .long), (cs 3, .object RX5), (cs 4, .object RX4), (cs 5, .array .int), (cs 6, .char), (cs 7, .boolean)] t) (fun q => q ∈ L)) 0 0 (fun q => q ∈ L) := by
  refine Met.ofW (cc := cX3_readNumber) (maxL := 4) (ret := (some .int)) (by decide) rfl ?_
  intro p e s m args below meth c s₁ B hml hv
  obtain ⟨rfl, ⟨hsz, hP, hK, hD, hN⟩, hZ⟩ := hv
  have hx := B.exec
  have hb := B.bytes
  have hr := B.returns
  have hts : ∀ w ∈ T0, w.before _ s = true := fun w h => atoms_spec (ws := Cond.code yX3_readNumber cX3_readNumber 4 (some .int) :: T0) B.pre w (List.mem_cons_of_mem _ h)
  have hown : s.vm.findClass RX3 = some m.cls := findClass_of_methodNamed B.named
  have hlocks := B.notSynchronized
  have hS : va_S (fun q => q ∈ L) s.heap s.heap [] := va_S.rf
  have hfr : ∀ b, K b ∉ [4] → F b = F b := fun _ _ => rfl
  have hl := lv_entry ([.ref a0, .int x1, .int x2]) (n := 4) (Nat.le_of_ble_eq_true rfl)
  rw [lg_entry_eq]
  generalize (lg_sl ([.ref a0, .int x1, .int x2]) ++ List.replicate (4 - (lg_sl ([.ref a0, .int x1, .int x2])).length) Slot.unset).toArray = ls at hl ⊢
  have hl : lv_has ls 4 [(0, .ref a0), (1, .int x1), (2, .int x2)] := hl
  refine s_gen hP hS (fun H locs hP hS => ?_)
  obtain ⟨z1, z3, z5, z7, z10, z13, z14, z16, z18, z19, z20, z22, z23, o25, h2, h4, h6, h8, h9, h11, h12, h15, h17, h21, h24, -⟩ := hR
  refine th_join (fun g H locs => ∃ (G : Nat → va_E) (ls : Array Slot), g = F0 m 64 ls [] ∧ lv_has ls 4 [(0, .ref a0)] ∧ s_I K cs D G ∧ va_P (dC, dI) vwCl (va_pl L G) H ∧ va_S (fun q => q ∈ L) s.heap H locs ∧ (∀ b, K b ∉ [4] → G b = F b) ∧ s_rd4 K G a0 tt qq) (fun K64 => ?_) ?_
  · refine lv_aload_n hx hb dX3_readNumber_0 rfl (lv_at hl 0 rfl) ?_
    refine th_get (D := (dC, dI)) (ci := 3) (v := .int z19) (C := RX3) (T := TX3) (N := 15) hx hb hts inX3 hown hK hP (hLK _ ha0 (by decide)) o25 rfl 11 (by decide) (hts _ T_785) (fun _ h9 => h9) rfl dX3_readNumber_1 ?_
    refine lv_istore_n (lv' := [(3, .int z19), (0, .ref a0), (1, .int x1), (2, .int x2)]) hx hb dX3_readNumber_4 rfl hl (by decide) rfl (fun ls hl => ?_)
    refine lv_aload_n hx hb dX3_readNumber_5 rfl (lv_at hl 1 rfl) ?_
    refine th_get (D := (dC, dI)) (ci := 3) (v := .int z13) (C := RX3) (T := TX3) (N := 15) hx hb hts inX3 hown hK hP (hLK _ ha0 (by decide)) o25 rfl 7 (by decide) (hts _ T_204) (fun _ h9 => h9) rfl dX3_readNumber_6 ?_
    refine lv_iconst (v := 2) hx hb dX3_readNumber_9 (by decide) ?_
    refine lv_icmp_eq (tgt := 26) hx hb dX3_readNumber_10 (by decide) (fun c26 => ?_) (fun c26 => ?_)
    · have c26 := (ax_eq (n := 2) (by decide)).mp c26
      refine lv_aload_n hx hb dX3_readNumber_26 rfl (lv_at hl 1 rfl) ?_
      refine th_get (D := (dC, dI)) (ci := 3) (v := .int z16) (C := RX3) (T := TX3) (N := 15) hx hb hts inX3 hown hK hP (hLK _ ha0 (by decide)) o25 rfl 9 (by decide) (hts _ T_205) (fun _ h9 => h9) rfl dX3_readNumber_27 ?_
      refine lv_aload_n hx hb dX3_readNumber_30 rfl (lv_at hl 1 rfl) ?_
      refine th_get (D := (dC, dI)) (ci := 3) (v := .int z14) (C := RX3) (T := TX3) (N := 15) hx hb hts inX3 hown hK hP (hLK _ ha0 (by decide)) o25 rfl 8 (by decide) (hts _ T_206) (fun _ h9 => h9) rfl dX3_readNumber_31 ?_
      refine lv_isub hx hb dX3_readNumber_34 ?_
      refine lv_topi (fun v27 ev27 => ?_)
      have qv27 : v27.toInt = z16.toInt - z14.toInt := by rw [ev27]; exact th_sub rfl rfl ⟨by omega, by omega⟩
      refine lv_iconst (v := 3) hx hb dX3_readNumber_35 (by decide) ?_
      refine lv_icmp_le (tgt := 54) hx hb dX3_readNumber_36 (by decide) (fun c28 => ?_) (fun c28 => ?_)
      · have c28 := (ax_le (n := 3) (by decide)).mp c28
        refine lv_iload_n hx hb dX3_readNumber_54 rfl (lv_at hl 0 rfl) ?_
        refine lv_iload_n hx hb dX3_readNumber_55 rfl (lv_at hl 2 rfl) ?_
        refine lv_icmp_lt (tgt := 64) hx hb dX3_readNumber_56 (by decide) (fun c29 => ?_) (fun c29 => ?_)
        · have c29 := Int32.lt_iff_toInt_lt.mp c29
          exact K64 _ _ _ ⟨F, _, rfl, lv_sub hl [1] rfl, hI, hP, hS, hfr, ⟨z1, z3, z5, z7, z10, z13, z14, z16, z18, z19, z20, z22, z23, o25, h2, h4, h6, h8, h9, ⟨by omega, by omega⟩, h12, ⟨by omega, by omega⟩, ⟨by omega, by omega⟩, ⟨by omega, by omega⟩, (fun q => by first | omega | exact absurd q (by decide)), trivial⟩⟩
        · have c29 := mt Int32.lt_iff_toInt_lt.mpr c29
          refine lv_iload_n hx hb dX3_readNumber_59 rfl (lv_at hl 0 rfl) ?_
          refine lv_iload_n hx hb dX3_readNumber_60 rfl (lv_at hl 3 rfl) ?_
          refine lv_icmp_le (tgt := 77) hx hb dX3_readNumber_61 (by decide) (fun c30 => ?_) (fun c30 => ?_)
          · have c30 := Int32.le_iff_toInt_le.mp c30
            refine lv_aload_n hx hb dX3_readNumber_77 rfl (lv_at hl 1 rfl) ?_
            refine va_callv (va_runV (As := []) (rest := []) ⟨hx, hb, hml, hown, hts⟩ (s_X3_scan l dC dI H.size hLK D adK adV tf F a0 ha0 hI tt qq ⟨z1, z3, z5, z7, z10, z13, z14, z16, z18, z19, z20, z22, z23, o25, h2, h4, h6, h8, h9, ⟨by omega, by omega⟩, h12, ⟨by omega, by omega⟩, ⟨by omega, by omega⟩, ⟨by omega, by omega⟩, trivial⟩) (cwV 0 hts (ax_gV T_215 T_216 T_217 T_163 T_13) rfl rfl rfl (by decide +kernel) ⟨Nat.le_of_ble_eq_true rfl, Nat.le_of_ble_eq_true rfl⟩) ⟨fun a U g mk q => ⟨q.1, s_pc (U := U) rfl rfl q.2.1, s_pcZ (U := U) rfl rfl q.2.2⟩, s_recv hK hP (hLK _ ha0 (by decide)) (ci := 3) rfl o25, fun U hU hW => ⟨rfl, s_pw hU hW hP hK hD hN, s_pwZ hU hW hS hZ⟩⟩ rfl rfl hl.1 rfl (lv_room (Nat.le_of_ble_eq_true rfl)) dX3_readNumber_78 ⟨Nat.zero_le _, Nat.zero_le _⟩) hS (fun q _ h => h) (fun q h => h) (fun F31 t H1 locs ht hvm hw hB hz1 hk1 hS => ?_)
            obtain ⟨hP, hK1⟩ := hB
            rw [ht] at hP
            generalize H1 = H at hP hS ⊢
            clear hz1 hk1
            obtain ⟨h32, h33, hI, hfr1, h34⟩ := hw
            have hfr : ∀ b, K b ∉ [4] → F31 b = F b := fun b hb9 => (hfr1 b (fun q => hb9 (s_sub (by decide) q))).trans (hfr b hb9)
            obtain ⟨z35, z37, z39, z41, z44, z47, z48, z50, z52, z53, z54, z56, z57, o59, h36, h38, h40, h42, h43, h45, h46, h49, h51, h55, h58, -⟩ := h34
            refine lv_iload_n hx hb dX3_readNumber_81 rfl (lv_at hl 0 rfl) ?_
            exact W.iret (v := z19) hx hb hr (fun t ht hW => ⟨⟨z19, F31, rfl, ⟨⟨by omega, by omega⟩, ⟨trivial, (by omega)⟩, hI, hfr, ⟨z35, z37, z39, z41, z44, z47, z48, z50, z52, z53, z54, z56, z57, o59, h36, h38, h40, h42, h43, ⟨by omega, by omega⟩, h46, ⟨by omega, by omega⟩, ⟨by omega, by omega⟩, ⟨by omega, by omega⟩, (fun q => by first | omega | exact absurd q (by decide)), trivial⟩⟩, by rw [ht]; exact hP, va_K.moved hW.alike hK⟩, hS.F ht⟩) hS.2.2 dX3_readNumber_82
          · have c30 := mt Int32.le_iff_toInt_le.mpr c30
            exact K64 _ _ _ ⟨F, _, rfl, lv_sub hl [1] rfl, hI, hP, hS, hfr, ⟨z1, z3, z5, z7, z10, z13, z14, z16, z18, z19, z20, z22, z23, o25, h2, h4, h6, h8, h9, ⟨by omega, by omega⟩, h12, ⟨by omega, by omega⟩, ⟨by omega, by omega⟩, ⟨by omega, by omega⟩, (fun q => by first | omega | exact absurd q (by decide)), trivial⟩⟩
      · have c28 := mt (ax_le (n := 3) (by decide)).mpr c28
        refine lv_aload_n hx hb dX3_readNumber_39 rfl (lv_at hl 1 rfl) ?_
        refine lv_iconst (v := 1) hx hb dX3_readNumber_40 (by decide) ?_
        refine lv_aload_n hx hb dX3_readNumber_41 rfl (lv_at hl 1 rfl) ?_
        refine th_get (D := (dC, dI)) (ci := 3) (v := .int z14) (C := RX3) (T := TX3) (N := 15) hx hb hts inX3 hown hK hP (hLK _ ha0 (by decide)) o25 rfl 8 (by decide) (hts _ T_206) (fun _ h9 => h9) rfl dX3_readNumber_42 ?_
        refine lv_iconst (v := 3) hx hb dX3_readNumber_45 (by decide) ?_
        refine lv_iadd hx hb dX3_readNumber_46 ?_
        refine lv_topi (fun v60 ev60 => ?_)
        have qv60 : v60.toInt = z14.toInt + 3 := by rw [ev60]; exact th_add rfl (by decide) ⟨by omega, by omega⟩
        refine va_calli (va_runV (As := [.int 1, .int v60]) (rest := []) ⟨hx, hb, hml, hown, hts⟩ (s_X3_fail l dC dI H.size hLK D F a0 1 v60 ha0 hI tt qq ⟨z1, z3, z5, z7, z10, z13, z14, z16, z18, z19, z20, z22, z23, o25, h2, h4, h6, h8, h9, ⟨by omega, by omega⟩, h12, ⟨by omega, by omega⟩, ⟨by omega, by omega⟩, ⟨by omega, by omega⟩, (fun q => by first | omega | exact absurd q (by decide)), trivial⟩) (cwV 2 hts (ax_gV T_218 T_219 T_220 T_163 T_14) rfl rfl rfl (by decide +kernel) ⟨Nat.le_of_ble_eq_true rfl, Nat.le_of_ble_eq_true rfl⟩) ⟨fun a U g mk q => ⟨q.1, s_pc (U := U) rfl rfl q.2⟩, s_recv hK hP (hLK _ ha0 (by decide)) (ci := 3) rfl o25, fun U hU hW => ⟨rfl, s_pw hU hW hP hK hD hN⟩⟩ rfl rfl hl.1 rfl (lv_room (Nat.le_of_ble_eq_true rfl)) dX3_readNumber_47 ⟨Nat.zero_le _, Nat.zero_le _⟩) hS (fun q _ h => h) (fun q h => h) (fun r61 F62 t H1 locs ht hvm hw hB hz1 hk1 hS => ?_)
        obtain ⟨hP, hK1⟩ := hB
        rw [ht] at hP
        generalize H1 = H at hP hS ⊢
        clear hz1 hk1
        obtain ⟨h63, h64, hI, hfr1, h65⟩ := hw
        have hfr : ∀ b, K b ∉ [4] → F62 b = F b := fun b hb9 => (hfr1 b (fun q => hb9 (s_sub (by decide) q))).trans (hfr b hb9)
        obtain ⟨h64, h66⟩ := h64
        have h66 : (∀ vs z, F62 a0 = .inr (3, vs) → vs[13]? = some (.int z) → z = 1) := h66
        obtain ⟨z67, z69, z71, z73, z76, z79, z80, z82, z84, z85, z86, z88, z89, o91, h68, h70, h72, h74, h75, h77, h78, h81, h83, h87, h90, -⟩ := h65
        refine lv_pop hx hb dX3_readNumber_50 rfl ?_
        refine lv_goto (tgt := 83) hx hb dX3_readNumber_51 (by decide) ?_
        refine lv_iconst (v := (-1)) hx hb dX3_readNumber_83 (by decide) ?_
        exact W.iret (v := (-1)) hx hb hr (fun t ht hW => ⟨⟨(-1), F62, rfl, ⟨(by decide), ⟨trivial, (Or.inl (by decide))⟩, hI, hfr, ⟨z67, z69, z71, z73, z76, z79, z80, z82, z84, z85, z86, z88, z89, o91, h68, h70, h72, h74, h75, ⟨by omega, by omega⟩, h78, ⟨by omega, by omega⟩, ⟨by omega, by omega⟩, ⟨by omega, by omega⟩, (fun q => by first | omega | exact absurd q (by decide)), trivial⟩⟩, by rw [ht]; exact hP, va_K.moved hW.alike hK⟩, hS.F ht⟩) hS.2.2 dX3_readNumber_84
    · have c26 := mt (ax_eq (n := 2) (by decide)).mpr c26
      refine lv_aload_n hx hb dX3_readNumber_13 rfl (lv_at hl 1 rfl) ?_
      refine lv_iconst (v := 1) hx hb dX3_readNumber_14 (by decide) ?_
      refine lv_aload_n hx hb dX3_readNumber_15 rfl (lv_at hl 1 rfl) ?_
      refine th_get (D := (dC, dI)) (ci := 3) (v := .int z14) (C := RX3) (T := TX3) (N := 15) hx hb hts inX3 hown hK hP (hLK _ ha0 (by decide)) o25 rfl 8 (by decide) (hts _ T_206) (fun _ h9 => h9) rfl dX3_readNumber_16 ?_
      refine va_calli (va_runV (As := [.int 1, .int z14]) (rest := []) ⟨hx, hb, hml, hown, hts⟩ (s_X3_fail l dC dI H.size hLK D F a0 1 z14 ha0 hI tt qq ⟨z1, z3, z5, z7, z10, z13, z14, z16, z18, z19, z20, z22, z23, o25, h2, h4, h6, h8, h9, ⟨by omega, by omega⟩, h12, ⟨by omega, by omega⟩, ⟨by omega, by omega⟩, ⟨by omega, by omega⟩, (fun q => by first | omega | exact absurd q (by decide)), trivial⟩) (cwV 2 hts (ax_gV T_218 T_219 T_220 T_163 T_14) rfl rfl rfl (by decide +kernel) ⟨Nat.le_of_ble_eq_true rfl, Nat.le_of_ble_eq_true rfl⟩) ⟨fun a U g mk q => ⟨q.1, s_pc (U := U) rfl rfl q.2⟩, s_recv hK hP (hLK _ ha0 (by decide)) (ci := 3) rfl o25, fun U hU hW => ⟨rfl, s_pw hU hW hP hK hD hN⟩⟩ rfl rfl hl.1 rfl (lv_room (Nat.le_of_ble_eq_true rfl)) dX3_readNumber_19 ⟨Nat.zero_le _, Nat.zero_le _⟩) hS (fun q _ h => h) (fun q h => h) (fun r92 F93 t H1 locs ht hvm hw hB hz1 hk1 hS => ?_)
      obtain ⟨hP, hK1⟩ := hB
      rw [ht] at hP
      generalize H1 = H at hP hS ⊢
      clear hz1 hk1
      obtain ⟨h94, h95, hI, hfr1, h96⟩ := hw
      have hfr : ∀ b, K b ∉ [4] → F93 b = F b := fun b hb9 => (hfr1 b (fun q => hb9 (s_sub (by decide) q))).trans (hfr b hb9)
      obtain ⟨h95, h97⟩ := h95
      have h97 : (∀ vs z, F93 a0 = .inr (3, vs) → vs[13]? = some (.int z) → z = 1) := h97
      obtain ⟨z98, z100, z102, z104, z107, z110, z111, z113, z115, z116, z117, z119, z120, o122, h99, h101, h103, h105, h106, h108, h109, h112, h114, h118, h121, -⟩ := h96
      refine lv_pop hx hb dX3_readNumber_22 rfl ?_
      refine lv_goto (tgt := 83) hx hb dX3_readNumber_23 (by decide) ?_
      refine lv_iconst (v := (-1)) hx hb dX3_readNumber_83 (by decide) ?_
      exact W.iret (v := (-1)) hx hb hr (fun t ht hW => ⟨⟨(-1), F93, rfl, ⟨(by decide), ⟨trivial, (Or.inl (by decide))⟩, hI, hfr, ⟨z98, z100, z102, z104, z107, z110, z111, z113, z115, z116, z117, z119, z120, o122, h99, h101, h103, h105, h106, ⟨by omega, by omega⟩, h109, ⟨by omega, by omega⟩, ⟨by omega, by omega⟩, ⟨by omega, by omega⟩, (fun q => by first | omega | exact absurd q (by decide)), trivial⟩⟩, by rw [ht]; exact hP, va_K.moved hW.alike hK⟩, hS.F ht⟩) hS.2.2 dX3_readNumber_84
  · intro g H locs hq
    obtain ⟨F9, ls, rfl, hl, hI, hP, hS, hfr, h123⟩ := hq
    obtain ⟨z124, z126, z128, z130, z133, z136, z137, z139, z141, z142, z143, z145, z146, o148, h125, h127, h129, h131, h132, h134, h135, h138, h140, h144, h147, -⟩ := h123
    refine lv_aload_n hx hb dX3_readNumber_64 rfl (lv_at hl 0 rfl) ?_
    refine lv_iconst (v := 2) hx hb dX3_readNumber_65 (by decide) ?_
    refine lv_aload_n hx hb dX3_readNumber_66 rfl (lv_at hl 0 rfl) ?_
    refine th_get (D := (dC, dI)) (ci := 3) (v := .int z137) (C := RX3) (T := TX3) (N := 15) hx hb hts inX3 hown hK hP (hLK _ ha0 (by decide)) o148 rfl 8 (by decide) (hts _ T_206) (fun _ h9 => h9) rfl dX3_readNumber_67 ?_
    refine va_calli (va_runV (As := [.int 2, .int z137]) (rest := []) ⟨hx, hb, hml, hown, hts⟩ (s_X3_fail l dC dI H.size hLK D F9 a0 2 z137 ha0 hI tt qq ⟨z124, z126, z128, z130, z133, z136, z137, z139, z141, z142, z143, z145, z146, o148, h125, h127, h129, h131, h132, ⟨by omega, by omega⟩, h135, ⟨by omega, by omega⟩, ⟨by omega, by omega⟩, ⟨by omega, by omega⟩, (fun q => by first | omega | exact absurd q (by decide)), trivial⟩) (cwV 2 hts (ax_gV T_218 T_219 T_220 T_163 T_14) rfl rfl rfl (by decide +kernel) ⟨Nat.le_of_ble_eq_true rfl, Nat.le_of_ble_eq_true rfl⟩) ⟨fun a U g mk q => ⟨q.1, s_pc (U := U) rfl rfl q.2⟩, s_recv hK hP (hLK _ ha0 (by decide)) (ci := 3) rfl o148, fun U hU hW => ⟨rfl, s_pw hU hW hP hK hD hN⟩⟩ rfl rfl hl.1 rfl (lv_room (Nat.le_of_ble_eq_true rfl)) dX3_readNumber_70 ⟨Nat.zero_le _, Nat.zero_le _⟩) hS (fun q _ h => h) (fun q h => h) (fun r149 F150 t H1 locs ht hvm hw hB hz1 hk1 hS => ?_)
    obtain ⟨hP, hK1⟩ := hB
    rw [ht] at hP
    generalize H1 = H at hP hS ⊢
    clear hz1 hk1
    obtain ⟨h151, h152, hI, hfr1, h153⟩ := hw
    have hfr : ∀ b, K b ∉ [4] → F150 b = F b := fun b hb9 => (hfr1 b (fun q => hb9 (s_sub (by decide) q))).trans (hfr b hb9)
    obtain ⟨h152, h154⟩ := h152
    have h154 : (∀ vs z, F150 a0 = .inr (3, vs) → vs[13]? = some (.int z) → z = 2) := h154
    obtain ⟨z155, z157, z159, z161, z164, z167, z168, z170, z172, z173, z174, z176, z177, o179, h156, h158, h160, h162, h163, h165, h166, h169, h171, h175, h178, -⟩ := h153
    refine lv_pop hx hb dX3_readNumber_73 rfl ?_
    refine lv_goto (tgt := 83) hx hb dX3_readNumber_74 (by decide) ?_
    refine lv_iconst (v := (-1)) hx hb dX3_readNumber_83 (by decide) ?_
    exact W.iret (v := (-1)) hx hb hr (fun t ht hW => ⟨⟨(-1), F150, rfl, ⟨(by decide), ⟨trivial, (Or.inl (by decide))⟩, hI, hfr, ⟨z155, z157, z159, z161, z164, z167, z168, z170, z172, z173, z174, z176, z177, o179, h156, h158, h160, h162, h163, ⟨by omega, by omega⟩, h166, ⟨by omega, by omega⟩, ⟨by omega, by omega⟩, ⟨by omega, by omega⟩, (fun q => by first | omega | exact absurd q (by decide)), trivial⟩⟩, by rw [ht]; exact hP, va_K.moved hW.alike hK⟩, hS.F ht⟩) hS.2.2 dX3_readNumber_84

set_option maxHeartbeats 4000000 in
set_option maxRecDepth 100000 in
theorem s_X3_readOwn (l : Launch) (dC : Nat → ClassId) (dI : Nat → Nat → Nat) (sz : Nat) {L : List Nat} {K : Nat → Nat} {cs : Nat → ClassId} (hLK : ∀ a {k : Nat}, K a = k → k ≠ 0 → a ∈ L) (D : Nat) (adK adV : Nat → Nat) (tf : Option Nat) (F : Nat → va_E) (a0 : Nat) (x1 : Int32) (x2 : Int32) (ha0 : K a0 = 4) (hx1 : 0 ≤ x1.toInt ∧ x1.toInt ≤ 28) (hx2 : 0 ≤ x2.toInt ∧ x2.toInt ≤ 28) (hI : s_I K cs D F) (tt qq : Nat) (hR : s_rd4 K F a0 tt qq) : Met l yX3_readOwn (Cond.code yX3_readOwn cX3_readOwn 4 (some .int) :: T0) ({ frames := 6, cells := 0, slots := 0, locals := 132 }) (va_Pc [.ref a0, .int x1, .int x2] (s_WZ dC dI sz L F [(cs 0, .int), (cs 1, .byte), (cs 2, .long), (cs 3, .object RX5), (cs 4, .object RX4), (cs 5, .array .int), (cs 6, .char), (cs 7, .boolean)] adK adV tf)) (va_Qi (fun (r : Int32) (G : Nat → va_E) => (-1 ≤ r.toInt ∧ r.toInt ≤ 28) ∧ (True ∧ ((r.toInt = -1 ∧ ∀ vs z, G a0 = .inr (3, vs) → vs[13]? = some (.int z) → ¬ z.toInt = 0) ∨ (x1.toInt ≤ r.toInt ∧ r.toInt ≤ x2.toInt))) ∧ s_I K cs D G ∧ (∀ b, K b ∉ [4] → G b = F b) ∧ s_rd4 K G a0 tt qq) (fun (G : Nat → va_E) (t : State) => va_P (dC, dI) vwCl (va_pl L G) t.heap ∧ va_K (dC, dI) vwCl [(cs 0, .int), (cs 1, .byte), (cs 2, .long), (cs 3, .object RX5), (cs 4, .object RX4), (cs 5, .array .int), (cs 6, .char), (cs 7, .boolean)] t) (fun q => q ∈ L)) 0 0 (fun q => q ∈ L) := by
  refine Met.ofW (cc := cX3_readOwn) (maxL := 4) (ret := (some .int)) (by decide) rfl ?_
  intro p e s m args below meth c s₁ B hml hv
  obtain ⟨rfl, ⟨hsz, hP, hK, hD, hN⟩, hZ⟩ := hv
  have hx := B.exec
  have hb := B.bytes
  have hr := B.returns
  have hts : ∀ w ∈ T0, w.before _ s = true := fun w h => atoms_spec (ws := Cond.code yX3_readOwn cX3_readOwn 4 (some .int) :: T0) B.pre w (List.mem_cons_of_mem _ h)
  have hown : s.vm.findClass RX3 = some m.cls := findClass_of_methodNamed B.named
  have hlocks := B.notSynchronized
  have hS : va_S (fun q => q ∈ L) s.heap s.heap [] := va_S.rf
  have hfr : ∀ b, K b ∉ [4] → F b = F b := fun _ _ => rfl
  have hl := lv_entry ([.ref a0, .int x1, .int x2]) (n := 4) (Nat.le_of_ble_eq_true rfl)
  rw [lg_entry_eq]
  generalize (lg_sl ([.ref a0, .int x1, .int x2]) ++ List.replicate (4 - (lg_sl ([.ref a0, .int x1, .int x2])).length) Slot.unset).toArray = ls at hl ⊢
  have hl : lv_has ls 4 [(0, .ref a0), (1, .int x1), (2, .int x2)] := hl
  refine s_gen hP hS (fun H locs hP hS => ?_)
  obtain ⟨z1, z3, z5, z7, z10, z13, z14, z16, z18, z19, z20, z22, z23, o25, h2, h4, h6, h8, h9, h11, h12, h15, h17, h21, h24, -⟩ := hR
  refine th_join (fun g H locs => ∃ (G : Nat → va_E) (ls : Array Slot), g = F0 m 15 ls [] ∧ lv_has ls 4 [(0, .ref a0)] ∧ s_I K cs D G ∧ va_P (dC, dI) vwCl (va_pl L G) H ∧ va_S (fun q => q ∈ L) s.heap H locs ∧ (∀ b, K b ∉ [4] → G b = F b) ∧ s_rd4 K G a0 tt qq) (fun K15 => ?_) ?_
  · refine lv_aload_n hx hb dX3_readOwn_0 rfl (lv_at hl 0 rfl) ?_
    refine th_get (D := (dC, dI)) (ci := 3) (v := .int z18) (C := RX3) (T := TX3) (N := 15) hx hb hts inX3 hown hK hP (hLK _ ha0 (by decide)) o25 rfl 10 (by decide) (hts _ T_208) (fun _ h9 => h9) rfl dX3_readOwn_1 ?_
    refine lv_istore_n (lv' := [(3, .int z18), (0, .ref a0), (1, .int x1), (2, .int x2)]) hx hb dX3_readOwn_4 rfl hl (by decide) rfl (fun ls hl => ?_)
    refine lv_iload_n hx hb dX3_readOwn_5 rfl (lv_at hl 0 rfl) ?_
    refine lv_iload_n hx hb dX3_readOwn_6 rfl (lv_at hl 2 rfl) ?_
    refine lv_icmp_lt (tgt := 15) hx hb dX3_readOwn_7 (by decide) (fun c26 => ?_) (fun c26 => ?_)
    · have c26 := Int32.lt_iff_toInt_lt.mp c26
      exact K15 _ _ _ ⟨F, _, rfl, lv_sub hl [1] rfl, hI, hP, hS, hfr, ⟨z1, z3, z5, z7, z10, z13, z14, z16, z18, z19, z20, z22, z23, o25, h2, h4, h6, h8, h9, ⟨by omega, by omega⟩, h12, ⟨by omega, by omega⟩, ⟨by omega, by omega⟩, ⟨by omega, by omega⟩, (fun q => by first | omega | exact absurd q (by decide)), trivial⟩⟩
    · have c26 := mt Int32.lt_iff_toInt_lt.mpr c26
      refine lv_iload_n hx hb dX3_readOwn_10 rfl (lv_at hl 0 rfl) ?_
      refine lv_iload_n hx hb dX3_readOwn_11 rfl (lv_at hl 3 rfl) ?_
      refine lv_icmp_le (tgt := 27) hx hb dX3_readOwn_12 (by decide) (fun c27 => ?_) (fun c27 => ?_)
      · have c27 := Int32.le_iff_toInt_le.mp c27
        refine lv_aload_n hx hb dX3_readOwn_27 rfl (lv_at hl 1 rfl) ?_
        refine va_callv (va_runV (As := []) (rest := []) ⟨hx, hb, hml, hown, hts⟩ (s_X3_scan l dC dI H.size hLK D adK adV tf F a0 ha0 hI tt qq ⟨z1, z3, z5, z7, z10, z13, z14, z16, z18, z19, z20, z22, z23, o25, h2, h4, h6, h8, h9, ⟨by omega, by omega⟩, h12, ⟨by omega, by omega⟩, ⟨by omega, by omega⟩, ⟨by omega, by omega⟩, trivial⟩) (cwV 0 hts (ax_gV T_215 T_216 T_217 T_163 T_13) rfl rfl rfl (by decide +kernel) ⟨Nat.le_of_ble_eq_true rfl, Nat.le_of_ble_eq_true rfl⟩) ⟨fun a U g mk q => ⟨q.1, s_pc (U := U) rfl rfl q.2.1, s_pcZ (U := U) rfl rfl q.2.2⟩, s_recv hK hP (hLK _ ha0 (by decide)) (ci := 3) rfl o25, fun U hU hW => ⟨rfl, s_pw hU hW hP hK hD hN, s_pwZ hU hW hS hZ⟩⟩ rfl rfl hl.1 rfl (lv_room (Nat.le_of_ble_eq_true rfl)) dX3_readOwn_28 ⟨Nat.zero_le _, Nat.zero_le _⟩) hS (fun q _ h => h) (fun q h => h) (fun F28 t H1 locs ht hvm hw hB hz1 hk1 hS => ?_)
        obtain ⟨hP, hK1⟩ := hB
        rw [ht] at hP
        generalize H1 = H at hP hS ⊢
        clear hz1 hk1
        obtain ⟨h29, h30, hI, hfr1, h31⟩ := hw
        have hfr : ∀ b, K b ∉ [4] → F28 b = F b := fun b hb9 => (hfr1 b (fun q => hb9 (s_sub (by decide) q))).trans (hfr b hb9)
        obtain ⟨z32, z34, z36, z38, z41, z44, z45, z47, z49, z50, z51, z53, z54, o56, h33, h35, h37, h39, h40, h42, h43, h46, h48, h52, h55, -⟩ := h31
        refine lv_iload_n hx hb dX3_readOwn_31 rfl (lv_at hl 0 rfl) ?_
        exact W.iret (v := z18) hx hb hr (fun t ht hW => ⟨⟨z18, F28, rfl, ⟨⟨by omega, by omega⟩, ⟨trivial, (Or.inr ⟨by omega, by omega⟩)⟩, hI, hfr, ⟨z32, z34, z36, z38, z41, z44, z45, z47, z49, z50, z51, z53, z54, o56, h33, h35, h37, h39, h40, ⟨by omega, by omega⟩, h43, ⟨by omega, by omega⟩, ⟨by omega, by omega⟩, ⟨by omega, by omega⟩, (fun q => by first | omega | exact absurd q (by decide)), trivial⟩⟩, by rw [ht]; exact hP, va_K.moved hW.alike hK⟩, hS.F ht⟩) hS.2.2 dX3_readOwn_32
      · have c27 := mt Int32.le_iff_toInt_le.mpr c27
        exact K15 _ _ _ ⟨F, _, rfl, lv_sub hl [1] rfl, hI, hP, hS, hfr, ⟨z1, z3, z5, z7, z10, z13, z14, z16, z18, z19, z20, z22, z23, o25, h2, h4, h6, h8, h9, ⟨by omega, by omega⟩, h12, ⟨by omega, by omega⟩, ⟨by omega, by omega⟩, ⟨by omega, by omega⟩, (fun q => by first | omega | exact absurd q (by decide)), trivial⟩⟩
  · intro g H locs hq
    obtain ⟨F9, ls, rfl, hl, hI, hP, hS, hfr, h57⟩ := hq
    obtain ⟨z58, z60, z62, z64, z67, z70, z71, z73, z75, z76, z77, z79, z80, o82, h59, h61, h63, h65, h66, h68, h69, h72, h74, h78, h81, -⟩ := h57
    refine lv_aload_n hx hb dX3_readOwn_15 rfl (lv_at hl 0 rfl) ?_
    refine lv_iconst (v := 1) hx hb dX3_readOwn_16 (by decide) ?_
    refine lv_aload_n hx hb dX3_readOwn_17 rfl (lv_at hl 0 rfl) ?_
    refine th_get (D := (dC, dI)) (ci := 3) (v := .int z71) (C := RX3) (T := TX3) (N := 15) hx hb hts inX3 hown hK hP (hLK _ ha0 (by decide)) o82 rfl 8 (by decide) (hts _ T_206) (fun _ h9 => h9) rfl dX3_readOwn_18 ?_
    refine va_calli (va_runV (As := [.int 1, .int z71]) (rest := []) ⟨hx, hb, hml, hown, hts⟩ (s_X3_fail l dC dI H.size hLK D F9 a0 1 z71 ha0 hI tt qq ⟨z58, z60, z62, z64, z67, z70, z71, z73, z75, z76, z77, z79, z80, o82, h59, h61, h63, h65, h66, ⟨by omega, by omega⟩, h69, ⟨by omega, by omega⟩, ⟨by omega, by omega⟩, ⟨by omega, by omega⟩, (fun q => by first | omega | exact absurd q (by decide)), trivial⟩) (cwV 2 hts (ax_gV T_218 T_219 T_220 T_163 T_14) rfl rfl rfl (by decide +kernel) ⟨Nat.le_of_ble_eq_true rfl, Nat.le_of_ble_eq_true rfl⟩) ⟨fun a U g mk q => ⟨q.1, s_pc (U := U) rfl rfl q.2⟩, s_recv hK hP (hLK _ ha0 (by decide)) (ci := 3) rfl o82, fun U hU hW => ⟨rfl, s_pw hU hW hP hK hD hN⟩⟩ rfl rfl hl.1 rfl (lv_room (Nat.le_of_ble_eq_true rfl)) dX3_readOwn_21 ⟨Nat.zero_le _, Nat.zero_le _⟩) hS (fun q _ h => h) (fun q h => h) (fun r83 F84 t H1 locs ht hvm hw hB hz1 hk1 hS => ?_)
    obtain ⟨hP, hK1⟩ := hB
    rw [ht] at hP
    generalize H1 = H at hP hS ⊢
    clear hz1 hk1
    obtain ⟨h85, h86, hI, hfr1, h87⟩ := hw
    have hfr : ∀ b, K b ∉ [4] → F84 b = F b := fun b hb9 => (hfr1 b (fun q => hb9 (s_sub (by decide) q))).trans (hfr b hb9)
    obtain ⟨h86, h88⟩ := h86
    have h88 : (∀ vs z, F84 a0 = .inr (3, vs) → vs[13]? = some (.int z) → z = 1) := h88
    obtain ⟨z89, z91, z93, z95, z98, z101, z102, z104, z106, z107, z108, z110, z111, o113, h90, h92, h94, h96, h97, h99, h100, h103, h105, h109, h112, -⟩ := h87
    refine lv_pop hx hb dX3_readOwn_24 rfl ?_
    refine lv_iconst (v := (-1)) hx hb dX3_readOwn_25 (by decide) ?_
    exact W.iret (v := (-1)) hx hb hr (fun t ht hW => ⟨⟨(-1), F84, rfl, ⟨(by decide), ⟨trivial, (Or.inl ⟨by decide, fun vs z q q2 => by rw [h88 vs z q q2]; decide⟩)⟩, hI, hfr, ⟨z89, z91, z93, z95, z98, z101, z102, z104, z106, z107, z108, z110, z111, o113, h90, h92, h94, h96, h97, ⟨by omega, by omega⟩, h100, ⟨by omega, by omega⟩, ⟨by omega, by omega⟩, ⟨by omega, by omega⟩, (fun q => by first | omega | exact absurd q (by decide)), trivial⟩⟩, by rw [ht]; exact hP, va_K.moved hW.alike hK⟩, hS.F ht⟩) hS.2.2 dX3_readOwn_26

set_option maxHeartbeats 4000000 in
set_option maxRecDepth 100000 in
theorem s_X3_readName (l : Launch) (dC : Nat → ClassId) (dI : Nat → Nat → Nat) (sz : Nat) {L : List Nat} {K : Nat → Nat} {cs : Nat → ClassId} (hLK : ∀ a {k : Nat}, K a = k → k ≠ 0 → a ∈ L) (D : Nat) (adK adV : Nat → Nat) (tf : Option Nat) (F : Nat → va_E) (a0 : Nat) (ha0 : K a0 = 4) (hI : s_I K cs D F) (tt qq : Nat) (hR : s_rd4 K F a0 tt qq) : Met l yX3_readName (Cond.code yX3_readName cX3_readName 1 (some .boolean) :: T0) ({ frames := 6, cells := 0, slots := 0, locals := 132 }) (va_Pc [.ref a0] (s_WZ dC dI sz L F [(cs 0, .int), (cs 1, .byte), (cs 2, .long), (cs 3, .object RX5), (cs 4, .object RX4), (cs 5, .array .int), (cs 6, .char), (cs 7, .boolean)] adK adV tf)) (va_Qi (fun (r : Int32) (G : Nat → va_E) => (0 ≤ r.toInt ∧ r.toInt ≤ 1) ∧ True ∧ s_I K cs D G ∧ (∀ b, K b ∉ [4] → G b = F b) ∧ s_rd4 K G a0 tt qq) (fun (G : Nat → va_E) (t : State) => va_P (dC, dI) vwCl (va_pl L G) t.heap ∧ va_K (dC, dI) vwCl [(cs 0, .int), (cs 1, .byte), (cs 2, .long), (cs 3, .object RX5), (cs 4, .object RX4), (cs 5, .array .int), (cs 6, .char), (cs 7, .boolean)] t) (fun q => q ∈ L)) 0 0 (fun q => q ∈ L) := by
  refine Met.ofW (cc := cX3_readName) (maxL := 1) (ret := (some .boolean)) (by decide) rfl ?_
  intro p e s m args below meth c s₁ B hml hv
  obtain ⟨rfl, ⟨hsz, hP, hK, hD, hN⟩, hZ⟩ := hv
  have hx := B.exec
  have hb := B.bytes
  have hr := B.returns
  have hts : ∀ w ∈ T0, w.before _ s = true := fun w h => atoms_spec (ws := Cond.code yX3_readName cX3_readName 1 (some .boolean) :: T0) B.pre w (List.mem_cons_of_mem _ h)
  have hown : s.vm.findClass RX3 = some m.cls := findClass_of_methodNamed B.named
  have hlocks := B.notSynchronized
  have hS : va_S (fun q => q ∈ L) s.heap s.heap [] := va_S.rf
  have hfr : ∀ b, K b ∉ [4] → F b = F b := fun _ _ => rfl
  have hl := lv_entry ([.ref a0]) (n := 1) (Nat.le_of_ble_eq_true rfl)
  rw [lg_entry_eq]
  generalize (lg_sl ([.ref a0]) ++ List.replicate (1 - (lg_sl ([.ref a0])).length) Slot.unset).toArray = ls at hl ⊢
  have hl : lv_has ls 1 [(0, .ref a0)] := hl
  refine s_gen hP hS (fun H locs hP hS => ?_)
  obtain ⟨z1, z3, z5, z7, z10, z13, z14, z16, z18, z19, z20, z22, z23, o25, h2, h4, h6, h8, h9, h11, h12, h15, h17, h21, h24, -⟩ := hR
  refine th_join (fun g H locs => ∃ (G : Nat → va_E) (ls : Array Slot), g = F0 m 16 ls [] ∧ lv_has ls 1 [(0, .ref a0)] ∧ s_I K cs D G ∧ va_P (dC, dI) vwCl (va_pl L G) H ∧ va_S (fun q => q ∈ L) s.heap H locs ∧ (∀ b, K b ∉ [4] → G b = F b) ∧ s_rd4 K G a0 tt qq) (fun K16 => ?_) ?_
  · refine lv_aload_n hx hb dX3_readName_0 rfl (lv_at hl 0 rfl) ?_
    refine th_get (D := (dC, dI)) (ci := 3) (v := .int z13) (C := RX3) (T := TX3) (N := 15) hx hb hts inX3 hown hK hP (hLK _ ha0 (by decide)) o25 rfl 7 (by decide) (hts _ T_204) (fun _ h9 => h9) rfl dX3_readName_1 ?_
    refine lv_iconst (v := 1) hx hb dX3_readName_4 (by decide) ?_
    refine lv_icmp_ne (tgt := 16) hx hb dX3_readName_5 (by decide) (fun c26 => ?_) (fun c26 => ?_)
    · have c26 := mt (ax_eq (n := 1) (by decide)).mpr c26
      exact K16 _ _ _ ⟨F, _, rfl, lv_sub hl [0] rfl, hI, hP, hS, hfr, ⟨z1, z3, z5, z7, z10, z13, z14, z16, z18, z19, z20, z22, z23, o25, h2, h4, h6, h8, h9, ⟨by omega, by omega⟩, h12, ⟨by omega, by omega⟩, ⟨by omega, by omega⟩, ⟨by omega, by omega⟩, (fun q => by first | omega | exact absurd q (by decide)), trivial⟩⟩
    · have c26 := (ax_eq (n := 1) (by decide)).mp c26
      refine lv_aload_n hx hb dX3_readName_8 rfl (lv_at hl 0 rfl) ?_
      refine th_get (D := (dC, dI)) (ci := 3) (v := .int z18) (C := RX3) (T := TX3) (N := 15) hx hb hts inX3 hown hK hP (hLK _ ha0 (by decide)) o25 rfl 10 (by decide) (hts _ T_208) (fun _ h9 => h9) rfl dX3_readName_9 ?_
      refine lv_iconst (v := (-1)) hx hb dX3_readName_12 (by decide) ?_
      refine lv_icmp_eq (tgt := 26) hx hb dX3_readName_13 (by decide) (fun c27 => ?_) (fun c27 => ?_)
      · have c27 := (ax_eq (n := (-1)) (by decide)).mp c27
        refine lv_aload_n hx hb dX3_readName_26 rfl (lv_at hl 0 rfl) ?_
        refine th_get (D := (dC, dI)) (ci := 3) (v := .int z16) (C := RX3) (T := TX3) (N := 15) hx hb hts inX3 hown hK hP (hLK _ ha0 (by decide)) o25 rfl 9 (by decide) (hts _ T_205) (fun _ h9 => h9) rfl dX3_readName_27 ?_
        refine lv_aload_n hx hb dX3_readName_30 rfl (lv_at hl 0 rfl) ?_
        refine th_get (D := (dC, dI)) (ci := 3) (v := .int z14) (C := RX3) (T := TX3) (N := 15) hx hb hts inX3 hown hK hP (hLK _ ha0 (by decide)) o25 rfl 8 (by decide) (hts _ T_206) (fun _ h9 => h9) rfl dX3_readName_31 ?_
        refine lv_isub hx hb dX3_readName_34 ?_
        refine lv_topi (fun v28 ev28 => ?_)
        have qv28 : v28.toInt = z16.toInt - z14.toInt := by rw [ev28]; exact th_sub rfl rfl ⟨by omega, by omega⟩
        refine lv_bipush (v := 6) hx hb dX3_readName_35 (by decide) ?_
        refine lv_icmp_le (tgt := 53) hx hb dX3_readName_37 (by decide) (fun c29 => ?_) (fun c29 => ?_)
        · have c29 := (ax_le (n := 6) (by decide)).mp c29
          refine lv_aload_n hx hb dX3_readName_53 rfl (lv_at hl 0 rfl) ?_
          refine va_callv (va_runV (As := []) (rest := []) ⟨hx, hb, hml, hown, hts⟩ (s_X3_scan l dC dI H.size hLK D adK adV tf F a0 ha0 hI tt qq ⟨z1, z3, z5, z7, z10, z13, z14, z16, z18, z19, z20, z22, z23, o25, h2, h4, h6, h8, h9, ⟨by omega, by omega⟩, h12, ⟨by omega, by omega⟩, ⟨by omega, by omega⟩, ⟨by omega, by omega⟩, trivial⟩) (cwV 0 hts (ax_gV T_215 T_216 T_217 T_163 T_13) rfl rfl rfl (by decide +kernel) ⟨Nat.le_of_ble_eq_true rfl, Nat.le_of_ble_eq_true rfl⟩) ⟨fun a U g mk q => ⟨q.1, s_pc (U := U) rfl rfl q.2.1, s_pcZ (U := U) rfl rfl q.2.2⟩, s_recv hK hP (hLK _ ha0 (by decide)) (ci := 3) rfl o25, fun U hU hW => ⟨rfl, s_pw hU hW hP hK hD hN, s_pwZ hU hW hS hZ⟩⟩ rfl rfl hl.1 rfl (lv_room (Nat.le_of_ble_eq_true rfl)) dX3_readName_54 ⟨Nat.zero_le _, Nat.zero_le _⟩) hS (fun q _ h => h) (fun q h => h) (fun F30 t H1 locs ht hvm hw hB hz1 hk1 hS => ?_)
          obtain ⟨hP, hK1⟩ := hB
          rw [ht] at hP
          generalize H1 = H at hP hS ⊢
          clear hz1 hk1
          obtain ⟨h31, h32, hI, hfr1, h33⟩ := hw
          have hfr : ∀ b, K b ∉ [4] → F30 b = F b := fun b hb9 => (hfr1 b (fun q => hb9 (s_sub (by decide) q))).trans (hfr b hb9)
          obtain ⟨z34, z36, z38, z40, z43, z46, z47, z49, z51, z52, z53, z55, z56, o58, h35, h37, h39, h41, h42, h44, h45, h48, h50, h54, h57, -⟩ := h33
          refine lv_iconst (v := 1) hx hb dX3_readName_57 (by decide) ?_
          exact W.zret (v := 1) (ty := .boolean) hx hb hr (by decide) (fun t ht hW => ⟨⟨1, F30, rfl, ⟨(by decide), trivial, hI, hfr, ⟨z34, z36, z38, z40, z43, z46, z47, z49, z51, z52, z53, z55, z56, o58, h35, h37, h39, h41, h42, ⟨by omega, by omega⟩, h45, ⟨by omega, by omega⟩, ⟨by omega, by omega⟩, ⟨by omega, by omega⟩, (fun q => by first | omega | exact absurd q (by decide)), trivial⟩⟩, by rw [ht]; exact hP, va_K.moved hW.alike hK⟩, hS.F ht⟩) hS.2.2 dX3_readName_58
        · have c29 := mt (ax_le (n := 6) (by decide)).mpr c29
          refine lv_aload_n hx hb dX3_readName_40 rfl (lv_at hl 0 rfl) ?_
          refine lv_iconst (v := 1) hx hb dX3_readName_41 (by decide) ?_
          refine lv_aload_n hx hb dX3_readName_42 rfl (lv_at hl 0 rfl) ?_
          refine th_get (D := (dC, dI)) (ci := 3) (v := .int z14) (C := RX3) (T := TX3) (N := 15) hx hb hts inX3 hown hK hP (hLK _ ha0 (by decide)) o25 rfl 8 (by decide) (hts _ T_206) (fun _ h9 => h9) rfl dX3_readName_43 ?_
          refine lv_bipush (v := 6) hx hb dX3_readName_46 (by decide) ?_
          refine lv_iadd hx hb dX3_readName_48 ?_
          refine lv_topi (fun v59 ev59 => ?_)
          have qv59 : v59.toInt = z14.toInt + 6 := by rw [ev59]; exact th_add rfl (by decide) ⟨by omega, by omega⟩
          refine va_calli (va_runV (As := [.int 1, .int v59]) (rest := []) ⟨hx, hb, hml, hown, hts⟩ (s_X3_fail l dC dI H.size hLK D F a0 1 v59 ha0 hI tt qq ⟨z1, z3, z5, z7, z10, z13, z14, z16, z18, z19, z20, z22, z23, o25, h2, h4, h6, h8, h9, ⟨by omega, by omega⟩, h12, ⟨by omega, by omega⟩, ⟨by omega, by omega⟩, ⟨by omega, by omega⟩, (fun q => by first | omega | exact absurd q (by decide)), trivial⟩) (cwV 2 hts (ax_gV T_218 T_219 T_220 T_163 T_14) rfl rfl rfl (by decide +kernel) ⟨Nat.le_of_ble_eq_true rfl, Nat.le_of_ble_eq_true rfl⟩) ⟨fun a U g mk q => ⟨q.1, s_pc (U := U) rfl rfl q.2⟩, s_recv hK hP (hLK _ ha0 (by decide)) (ci := 3) rfl o25, fun U hU hW => ⟨rfl, s_pw hU hW hP hK hD hN⟩⟩ rfl rfl hl.1 rfl (lv_room (Nat.le_of_ble_eq_true rfl)) dX3_readName_49 ⟨Nat.zero_le _, Nat.zero_le _⟩) hS (fun q _ h => h) (fun q h => h) (fun r60 F61 t H1 locs ht hvm hw hB hz1 hk1 hS => ?_)
          obtain ⟨hP, hK1⟩ := hB
          rw [ht] at hP
          generalize H1 = H at hP hS ⊢
          clear hz1 hk1
          obtain ⟨h62, h63, hI, hfr1, h64⟩ := hw
          have hfr : ∀ b, K b ∉ [4] → F61 b = F b := fun b hb9 => (hfr1 b (fun q => hb9 (s_sub (by decide) q))).trans (hfr b hb9)
          obtain ⟨h63, h65⟩ := h63
          have h65 : (∀ vs z, F61 a0 = .inr (3, vs) → vs[13]? = some (.int z) → z = 1) := h65
          obtain ⟨z66, z68, z70, z72, z75, z78, z79, z81, z83, z84, z85, z87, z88, o90, h67, h69, h71, h73, h74, h76, h77, h80, h82, h86, h89, -⟩ := h64
          exact W.zret (v := r60) (ty := .boolean) hx hb hr (th_nz ⟨by omega, by omega⟩) (fun t ht hW => ⟨⟨r60, F61, rfl, ⟨⟨by omega, by omega⟩, trivial, hI, hfr, ⟨z66, z68, z70, z72, z75, z78, z79, z81, z83, z84, z85, z87, z88, o90, h67, h69, h71, h73, h74, ⟨by omega, by omega⟩, h77, ⟨by omega, by omega⟩, ⟨by omega, by omega⟩, ⟨by omega, by omega⟩, (fun q => by first | omega | exact absurd q (by decide)), trivial⟩⟩, by rw [ht]; exact hP, va_K.moved hW.alike hK⟩, hS.F ht⟩) hS.2.2 dX3_readName_52
      · have c27 := mt (ax_eq (n := (-1)) (by decide)).mpr c27
        exact K16 _ _ _ ⟨F, _, rfl, lv_sub hl [0] rfl, hI, hP, hS, hfr, ⟨z1, z3, z5, z7, z10, z13, z14, z16, z18, z19, z20, z22, z23, o25, h2, h4, h6, h8, h9, ⟨by omega, by omega⟩, h12, ⟨by omega, by omega⟩, ⟨by omega, by omega⟩, ⟨by omega, by omega⟩, (fun q => by first | omega | exact absurd q (by decide)), trivial⟩⟩
  · intro g H locs hq
    obtain ⟨F9, ls, rfl, hl, hI, hP, hS, hfr, h91⟩ := hq
    obtain ⟨z92, z94, z96, z98, z101, z104, z105, z107, z109, z110, z111, z113, z114, o116, h93, h95, h97, h99, h100, h102, h103, h106, h108, h112, h115, -⟩ := h91
    refine lv_aload_n hx hb dX3_readName_16 rfl (lv_at hl 0 rfl) ?_
    refine lv_iconst (v := 1) hx hb dX3_readName_17 (by decide) ?_
    refine lv_aload_n hx hb dX3_readName_18 rfl (lv_at hl 0 rfl) ?_
    refine th_get (D := (dC, dI)) (ci := 3) (v := .int z105) (C := RX3) (T := TX3) (N := 15) hx hb hts inX3 hown hK hP (hLK _ ha0 (by decide)) o116 rfl 8 (by decide) (hts _ T_206) (fun _ h9 => h9) rfl dX3_readName_19 ?_
    refine va_calli (va_runV (As := [.int 1, .int z105]) (rest := []) ⟨hx, hb, hml, hown, hts⟩ (s_X3_fail l dC dI H.size hLK D F9 a0 1 z105 ha0 hI tt qq ⟨z92, z94, z96, z98, z101, z104, z105, z107, z109, z110, z111, z113, z114, o116, h93, h95, h97, h99, h100, ⟨by omega, by omega⟩, h103, ⟨by omega, by omega⟩, ⟨by omega, by omega⟩, ⟨by omega, by omega⟩, (fun q => by first | omega | exact absurd q (by decide)), trivial⟩) (cwV 2 hts (ax_gV T_218 T_219 T_220 T_163 T_14) rfl rfl rfl (by decide +kernel) ⟨Nat.le_of_ble_eq_true rfl, Nat.le_of_ble_eq_true rfl⟩) ⟨fun a U g mk q => ⟨q.1, s_pc (U := U) rfl rfl q.2⟩, s_recv hK hP (hLK _ ha0 (by decide)) (ci := 3) rfl o116, fun U hU hW => ⟨rfl, s_pw hU hW hP hK hD hN⟩⟩ rfl rfl hl.1 rfl (lv_room (Nat.le_of_ble_eq_true rfl)) dX3_readName_22 ⟨Nat.zero_le _, Nat.zero_le _⟩) hS (fun q _ h => h) (fun q h => h) (fun r117 F118 t H1 locs ht hvm hw hB hz1 hk1 hS => ?_)
    obtain ⟨hP, hK1⟩ := hB
    rw [ht] at hP
    generalize H1 = H at hP hS ⊢
    clear hz1 hk1
    obtain ⟨h119, h120, hI, hfr1, h121⟩ := hw
    have hfr : ∀ b, K b ∉ [4] → F118 b = F b := fun b hb9 => (hfr1 b (fun q => hb9 (s_sub (by decide) q))).trans (hfr b hb9)
    obtain ⟨h120, h122⟩ := h120
    have h122 : (∀ vs z, F118 a0 = .inr (3, vs) → vs[13]? = some (.int z) → z = 1) := h122
    obtain ⟨z123, z125, z127, z129, z132, z135, z136, z138, z140, z141, z142, z144, z145, o147, h124, h126, h128, h130, h131, h133, h134, h137, h139, h143, h146, -⟩ := h121
    exact W.zret (v := r117) (ty := .boolean) hx hb hr (th_nz ⟨by omega, by omega⟩) (fun t ht hW => ⟨⟨r117, F118, rfl, ⟨⟨by omega, by omega⟩, trivial, hI, hfr, ⟨z123, z125, z127, z129, z132, z135, z136, z138, z140, z141, z142, z144, z145, o147, h124, h126, h128, h130, h131, ⟨by omega, by omega⟩, h134, ⟨by omega, by omega⟩, ⟨by omega, by omega⟩, ⟨by omega, by omega⟩, (fun q => by first | omega | exact absurd q (by decide)), trivial⟩⟩, by rw [ht]; exact hP, va_K.moved hW.alike hK⟩, hS.F ht⟩) hS.2.2 dX3_readName_25

set_option maxHeartbeats 4000000 in
set_option maxRecDepth 100000 in
theorem s_X3_readComparison (l : Launch) (dC : Nat → ClassId) (dI : Nat → Nat → Nat) (sz : Nat) {L : List Nat} {K : Nat → Nat} {cs : Nat → ClassId} (hLK : ∀ a {k : Nat}, K a = k → k ≠ 0 → a ∈ L) (D : Nat) (adK adV : Nat → Nat) (tf : Option Nat) (F : Nat → va_E) (a0 : Nat) (ha0 : K a0 = 4) (hI : s_I K cs D F) (tt qq : Nat) (hR : s_rd4 K F a0 tt qq) : Met l yX3_readComparison (Cond.code yX3_readComparison cX3_readComparison 2 (some .int) :: T0) ({ frames := 6, cells := 0, slots := 0, locals := 132 }) (va_Pc [.ref a0] (s_WZ dC dI sz L F [(cs 0, .int), (cs 1, .byte), (cs 2, .long), (cs 3, .object RX5), (cs 4, .object RX4), (cs 5, .array .int), (cs 6, .char), (cs 7, .boolean)] adK adV tf)) (va_Qi (fun (r : Int32) (G : Nat → va_E) => (-1 ≤ r.toInt ∧ r.toInt ≤ 2) ∧ True ∧ s_I K cs D G ∧ (∀ b, K b ∉ [4] → G b = F b) ∧ s_rd4 K G a0 tt qq) (fun (G : Nat → va_E) (t : State) => va_P (dC, dI) vwCl (va_pl L G) t.heap ∧ va_K (dC, dI) vwCl [(cs 0, .int), (cs 1, .byte), (cs 2, .long), (cs 3, .object RX5), (cs 4, .object RX4), (cs 5, .array .int), (cs 6, .char), (cs 7, .boolean)] t) (fun q => q ∈ L)) 0 0 (fun q => q ∈ L) := by
  refine Met.ofW (cc := cX3_readComparison) (maxL := 2) (ret := (some .int)) (by decide) rfl ?_
  intro p e s m args below meth c s₁ B hml hv
  obtain ⟨rfl, ⟨hsz, hP, hK, hD, hN⟩, hZ⟩ := hv
  have hx := B.exec
  have hb := B.bytes
  have hr := B.returns
  have hts : ∀ w ∈ T0, w.before _ s = true := fun w h => atoms_spec (ws := Cond.code yX3_readComparison cX3_readComparison 2 (some .int) :: T0) B.pre w (List.mem_cons_of_mem _ h)
  have hown : s.vm.findClass RX3 = some m.cls := findClass_of_methodNamed B.named
  have hlocks := B.notSynchronized
  have hS : va_S (fun q => q ∈ L) s.heap s.heap [] := va_S.rf
  have hfr : ∀ b, K b ∉ [4] → F b = F b := fun _ _ => rfl
  have hl := lv_entry ([.ref a0]) (n := 2) (Nat.le_of_ble_eq_true rfl)
  rw [lg_entry_eq]
  generalize (lg_sl ([.ref a0]) ++ List.replicate (2 - (lg_sl ([.ref a0])).length) Slot.unset).toArray = ls at hl ⊢
  have hl : lv_has ls 2 [(0, .ref a0)] := hl
  refine s_gen hP hS (fun H locs hP hS => ?_)
  obtain ⟨z1, z3, z5, z7, z10, z13, z14, z16, z18, z19, z20, z22, z23, o25, h2, h4, h6, h8, h9, h11, h12, h15, h17, h21, h24, -⟩ := hR
  refine th_join (fun g H locs => ∃ (G : Nat → va_E) (ls : Array Slot), g = F0 m 34 ls [] ∧ lv_has ls 2 [(0, .ref a0)] ∧ s_I K cs D G ∧ va_P (dC, dI) vwCl (va_pl L G) H ∧ va_S (fun q => q ∈ L) s.heap H locs ∧ (∀ b, K b ∉ [4] → G b = F b) ∧ s_rd4 K G a0 tt qq) (fun K34 => ?_) ?_
  refine th_join (fun g H locs => ∃ (G : Nat → va_E) (ls : Array Slot) (w26 : Int32), g = F0 m 24 ls [.int w26] ∧ lv_has ls 2 [(0, .ref a0)] ∧ s_I K cs D G ∧ va_P (dC, dI) vwCl (va_pl L G) H ∧ va_S (fun q => q ∈ L) s.heap H locs ∧ (∀ b, K b ∉ [4] → G b = F b) ∧ True ∧ s_rd4 K G a0 tt qq) (fun K24 => ?_) ?_
  · refine lv_aload_n hx hb dX3_readComparison_0 rfl (lv_at hl 0 rfl) ?_
    refine th_get (D := (dC, dI)) (ci := 3) (v := .int z13) (C := RX3) (T := TX3) (N := 15) hx hb hts inX3 hown hK hP (hLK _ ha0 (by decide)) o25 rfl 7 (by decide) (hts _ T_204) (fun _ h9 => h9) rfl dX3_readComparison_1 ?_
    refine lv_iconst (v := 3) hx hb dX3_readComparison_4 (by decide) ?_
    refine lv_icmp_ne (tgt := 23) hx hb dX3_readComparison_5 (by decide) (fun c27 => ?_) (fun c27 => ?_)
    · have c27 := mt (ax_eq (n := 3) (by decide)).mpr c27
      refine lv_iconst (v := (-1)) hx hb dX3_readComparison_23 (by decide) ?_
      exact K24 _ _ _ ⟨F, _, (-1), rfl, lv_sub hl [0] rfl, hI, hP, hS, hfr, trivial, ⟨z1, z3, z5, z7, z10, z13, z14, z16, z18, z19, z20, z22, z23, o25, h2, h4, h6, h8, h9, ⟨by omega, by omega⟩, h12, ⟨by omega, by omega⟩, ⟨by omega, by omega⟩, ⟨by omega, by omega⟩, (fun q => by first | omega | exact absurd q (by decide)), trivial⟩⟩
    · have c27 := (ax_eq (n := 3) (by decide)).mp c27
      refine lv_aload_n hx hb dX3_readComparison_8 rfl (lv_at hl 0 rfl) ?_
      refine th_get (D := (dC, dI)) (ci := 3) (v := .ref tt) (C := RX3) (T := TX3) (N := 15) hx hb hts inX3 hown hK hP (hLK _ ha0 (by decide)) o25 rfl 4 (by decide) (hts _ T_210) (fun _ h9 => h9) rfl dX3_readComparison_9 ?_
      refine lv_aload_n hx hb dX3_readComparison_12 rfl (lv_at hl 0 rfl) ?_
      refine th_get (D := (dC, dI)) (ci := 3) (v := .int z14) (C := RX3) (T := TX3) (N := 15) hx hb hts inX3 hown hK hP (hLK _ ha0 (by decide)) o25 rfl 8 (by decide) (hts _ T_206) (fun _ h9 => h9) rfl dX3_readComparison_13 ?_
      obtain ⟨f28, o29, h30⟩ := s_op20 hI h9
      refine th_bald hx hb hK hP (hLK _ h9 (by decide)) 1 o29 rfl (th_in ⟨by omega, by omega⟩) dX3_readComparison_16 ?_
      refine lv_topi (fun v31 ev31 => ?_)
      refine lv_bipush (v := 60) hx hb dX3_readComparison_17 (by decide) ?_
      refine lv_isub hx hb dX3_readComparison_19 ?_
      refine lv_topi (fun v32 ev32 => ?_)
      refine lv_goto (tgt := 24) hx hb dX3_readComparison_20 (by decide) ?_
      exact K24 _ _ _ ⟨F, _, v32, rfl, lv_sub hl [0] rfl, hI, hP, hS, hfr, trivial, ⟨z1, z3, z5, z7, z10, z13, z14, z16, z18, z19, z20, z22, z23, o25, h2, h4, h6, h8, h9, ⟨by omega, by omega⟩, h12, ⟨by omega, by omega⟩, ⟨by omega, by omega⟩, ⟨by omega, by omega⟩, (fun q => by first | omega | exact absurd q (by decide)), trivial⟩⟩
  · intro g H locs hq
    obtain ⟨F9, ls, w26, rfl, hl, hI, hP, hS, hfr, h33, h34⟩ := hq
    obtain ⟨z35, z37, z39, z41, z44, z47, z48, z50, z52, z53, z54, z56, z57, o59, h36, h38, h40, h42, h43, h45, h46, h49, h51, h55, h58, -⟩ := h34
    refine lv_istore_n (lv' := [(1, .int w26), (0, .ref a0)]) hx hb dX3_readComparison_24 rfl hl (by decide) rfl (fun ls hl => ?_)
    refine lv_iload_n hx hb dX3_readComparison_25 rfl (lv_at hl 0 rfl) ?_
    refine lv_if_lt (tgt := 34) hx hb dX3_readComparison_26 (by decide) (fun c60 => ?_) (fun c60 => ?_)
    · have c60 := (ax_lt (n := 0) (by decide)).mp c60
      exact K34 _ _ _ ⟨F9, _, rfl, lv_sub hl [1] rfl, hI, hP, hS, hfr, ⟨z35, z37, z39, z41, z44, z47, z48, z50, z52, z53, z54, z56, z57, o59, h36, h38, h40, h42, h43, ⟨by omega, by omega⟩, h46, ⟨by omega, by omega⟩, ⟨by omega, by omega⟩, ⟨by omega, by omega⟩, (fun q => by first | omega | exact absurd q (by decide)), trivial⟩⟩
    · have c60 := mt (ax_lt (n := 0) (by decide)).mpr c60
      refine lv_iload_n hx hb dX3_readComparison_29 rfl (lv_at hl 0 rfl) ?_
      refine lv_iconst (v := 2) hx hb dX3_readComparison_30 (by decide) ?_
      refine lv_icmp_le (tgt := 46) hx hb dX3_readComparison_31 (by decide) (fun c61 => ?_) (fun c61 => ?_)
      · have c61 := (ax_le (n := 2) (by decide)).mp c61
        refine lv_aload_n hx hb dX3_readComparison_46 rfl (lv_at hl 1 rfl) ?_
        refine va_callv (va_runV (As := []) (rest := []) ⟨hx, hb, hml, hown, hts⟩ (s_X3_scan l dC dI H.size hLK D adK adV tf F9 a0 ha0 hI tt qq ⟨z35, z37, z39, z41, z44, z47, z48, z50, z52, z53, z54, z56, z57, o59, h36, h38, h40, h42, h43, ⟨by omega, by omega⟩, h46, ⟨by omega, by omega⟩, ⟨by omega, by omega⟩, ⟨by omega, by omega⟩, trivial⟩) (cwV 0 hts (ax_gV T_215 T_216 T_217 T_163 T_13) rfl rfl rfl (by decide +kernel) ⟨Nat.le_of_ble_eq_true rfl, Nat.le_of_ble_eq_true rfl⟩) ⟨fun a U g mk q => ⟨q.1, s_pc (U := U) rfl rfl q.2.1, s_pcZ (U := U) rfl rfl q.2.2⟩, s_recv hK hP (hLK _ ha0 (by decide)) (ci := 3) rfl o59, fun U hU hW => ⟨rfl, s_pw hU hW hP hK hD hN, s_pwZ hU hW hS hZ⟩⟩ rfl rfl hl.1 rfl (lv_room (Nat.le_of_ble_eq_true rfl)) dX3_readComparison_47 ⟨Nat.zero_le _, Nat.zero_le _⟩) hS (fun q _ h => h) (fun q h => h) (fun F62 t H1 locs ht hvm hw hB hz1 hk1 hS => ?_)
        obtain ⟨hP, hK1⟩ := hB
        rw [ht] at hP
        generalize H1 = H at hP hS ⊢
        clear hz1 hk1
        obtain ⟨h63, h64, hI, hfr1, h65⟩ := hw
        have hfr : ∀ b, K b ∉ [4] → F62 b = F b := fun b hb9 => (hfr1 b (fun q => hb9 (s_sub (by decide) q))).trans (hfr b hb9)
        obtain ⟨z66, z68, z70, z72, z75, z78, z79, z81, z83, z84, z85, z87, z88, o90, h67, h69, h71, h73, h74, h76, h77, h80, h82, h86, h89, -⟩ := h65
        refine lv_iload_n hx hb dX3_readComparison_50 rfl (lv_at hl 0 rfl) ?_
        exact W.iret (v := w26) hx hb hr (fun t ht hW => ⟨⟨w26, F62, rfl, ⟨⟨by omega, by omega⟩, trivial, hI, hfr, ⟨z66, z68, z70, z72, z75, z78, z79, z81, z83, z84, z85, z87, z88, o90, h67, h69, h71, h73, h74, ⟨by omega, by omega⟩, h77, ⟨by omega, by omega⟩, ⟨by omega, by omega⟩, ⟨by omega, by omega⟩, (fun q => by first | omega | exact absurd q (by decide)), trivial⟩⟩, by rw [ht]; exact hP, va_K.moved hW.alike hK⟩, hS.F ht⟩) hS.2.2 dX3_readComparison_51
      · have c61 := mt (ax_le (n := 2) (by decide)).mpr c61
        exact K34 _ _ _ ⟨F9, _, rfl, lv_sub hl [1] rfl, hI, hP, hS, hfr, ⟨z35, z37, z39, z41, z44, z47, z48, z50, z52, z53, z54, z56, z57, o59, h36, h38, h40, h42, h43, ⟨by omega, by omega⟩, h46, ⟨by omega, by omega⟩, ⟨by omega, by omega⟩, ⟨by omega, by omega⟩, (fun q => by first | omega | exact absurd q (by decide)), trivial⟩⟩
  · intro g H locs hq
    obtain ⟨F9, ls, rfl, hl, hI, hP, hS, hfr, h91⟩ := hq
    obtain ⟨z92, z94, z96, z98, z101, z104, z105, z107, z109, z110, z111, z113, z114, o116, h93, h95, h97, h99, h100, h102, h103, h106, h108, h112, h115, -⟩ := h91
    refine lv_aload_n hx hb dX3_readComparison_34 rfl (lv_at hl 0 rfl) ?_
    refine lv_iconst (v := 1) hx hb dX3_readComparison_35 (by decide) ?_
    refine lv_aload_n hx hb dX3_readComparison_36 rfl (lv_at hl 0 rfl) ?_
    refine th_get (D := (dC, dI)) (ci := 3) (v := .int z105) (C := RX3) (T := TX3) (N := 15) hx hb hts inX3 hown hK hP (hLK _ ha0 (by decide)) o116 rfl 8 (by decide) (hts _ T_206) (fun _ h9 => h9) rfl dX3_readComparison_37 ?_
    refine va_calli (va_runV (As := [.int 1, .int z105]) (rest := []) ⟨hx, hb, hml, hown, hts⟩ (s_X3_fail l dC dI H.size hLK D F9 a0 1 z105 ha0 hI tt qq ⟨z92, z94, z96, z98, z101, z104, z105, z107, z109, z110, z111, z113, z114, o116, h93, h95, h97, h99, h100, ⟨by omega, by omega⟩, h103, ⟨by omega, by omega⟩, ⟨by omega, by omega⟩, ⟨by omega, by omega⟩, (fun q => by first | omega | exact absurd q (by decide)), trivial⟩) (cwV 2 hts (ax_gV T_218 T_219 T_220 T_163 T_14) rfl rfl rfl (by decide +kernel) ⟨Nat.le_of_ble_eq_true rfl, Nat.le_of_ble_eq_true rfl⟩) ⟨fun a U g mk q => ⟨q.1, s_pc (U := U) rfl rfl q.2⟩, s_recv hK hP (hLK _ ha0 (by decide)) (ci := 3) rfl o116, fun U hU hW => ⟨rfl, s_pw hU hW hP hK hD hN⟩⟩ rfl rfl hl.1 rfl (lv_room (Nat.le_of_ble_eq_true rfl)) dX3_readComparison_40 ⟨Nat.zero_le _, Nat.zero_le _⟩) hS (fun q _ h => h) (fun q h => h) (fun r117 F118 t H1 locs ht hvm hw hB hz1 hk1 hS => ?_)
    obtain ⟨hP, hK1⟩ := hB
    rw [ht] at hP
    generalize H1 = H at hP hS ⊢
    clear hz1 hk1
    obtain ⟨h119, h120, hI, hfr1, h121⟩ := hw
    have hfr : ∀ b, K b ∉ [4] → F118 b = F b := fun b hb9 => (hfr1 b (fun q => hb9 (s_sub (by decide) q))).trans (hfr b hb9)
    obtain ⟨h120, h122⟩ := h120
    have h122 : (∀ vs z, F118 a0 = .inr (3, vs) → vs[13]? = some (.int z) → z = 1) := h122
    obtain ⟨z123, z125, z127, z129, z132, z135, z136, z138, z140, z141, z142, z144, z145, o147, h124, h126, h128, h130, h131, h133, h134, h137, h139, h143, h146, -⟩ := h121
    refine lv_pop hx hb dX3_readComparison_43 rfl ?_
    refine lv_iconst (v := (-1)) hx hb dX3_readComparison_44 (by decide) ?_
    exact W.iret (v := (-1)) hx hb hr (fun t ht hW => ⟨⟨(-1), F118, rfl, ⟨(by decide), trivial, hI, hfr, ⟨z123, z125, z127, z129, z132, z135, z136, z138, z140, z141, z142, z144, z145, o147, h124, h126, h128, h130, h131, ⟨by omega, by omega⟩, h134, ⟨by omega, by omega⟩, ⟨by omega, by omega⟩, ⟨by omega, by omega⟩, (fun q => by first | omega | exact absurd q (by decide)), trivial⟩⟩, by rw [ht]; exact hP, va_K.moved hW.alike hK⟩, hS.F ht⟩) hS.2.2 dX3_readComparison_45

set_option maxHeartbeats 4000000 in
set_option maxRecDepth 100000 in
theorem s_X3_readSign (l : Launch) (dC : Nat → ClassId) (dI : Nat → Nat → Nat) (sz : Nat) {L : List Nat} {K : Nat → Nat} {cs : Nat → ClassId} (hLK : ∀ a {k : Nat}, K a = k → k ≠ 0 → a ∈ L) (D : Nat) (adK adV : Nat → Nat) (tf : Option Nat) (F : Nat → va_E) (a0 : Nat) (x1 : Int32) (ha0 : K a0 = 4) (hI : s_I K cs D F) (tt qq : Nat) (hR : s_rd4 K F a0 tt qq) : Met l yX3_readSign (Cond.code yX3_readSign cX3_readSign 2 (some .boolean) :: T0) ({ frames := 6, cells := 0, slots := 0, locals := 132 }) (va_Pc [.ref a0, .int x1] (s_WZ dC dI sz L F [(cs 0, .int), (cs 1, .byte), (cs 2, .long), (cs 3, .object RX5), (cs 4, .object RX4), (cs 5, .array .int), (cs 6, .char), (cs 7, .boolean)] adK adV tf)) (va_Qi (fun (r : Int32) (G : Nat → va_E) => (0 ≤ r.toInt ∧ r.toInt ≤ 1) ∧ True ∧ s_I K cs D G ∧ (∀ b, K b ∉ [4] → G b = F b) ∧ s_rd4 K G a0 tt qq) (fun (G : Nat → va_E) (t : State) => va_P (dC, dI) vwCl (va_pl L G) t.heap ∧ va_K (dC, dI) vwCl [(cs 0, .int), (cs 1, .byte), (cs 2, .long), (cs 3, .object RX5), (cs 4, .object RX4), (cs 5, .array .int), (cs 6, .char), (cs 7, .boolean)] t) (fun q => q ∈ L)) 0 0 (fun q => q ∈ L) := by
  refine Met.ofW (cc := cX3_readSign) (maxL := 2) (ret := (some .boolean)) (by decide) rfl ?_
  intro p e s m args below meth c s₁ B hml hv
  obtain ⟨rfl, ⟨hsz, hP, hK, hD, hN⟩, hZ⟩ := hv
  have hx := B.exec
  have hb := B.bytes
  have hr := B.returns
  have hts : ∀ w ∈ T0, w.before _ s = true := fun w h => atoms_spec (ws := Cond.code yX3_readSign cX3_readSign 2 (some .boolean) :: T0) B.pre w (List.mem_cons_of_mem _ h)
  have hown : s.vm.findClass RX3 = some m.cls := findClass_of_methodNamed B.named
  have hlocks := B.notSynchronized
  have hS : va_S (fun q => q ∈ L) s.heap s.heap [] := va_S.rf
  have hfr : ∀ b, K b ∉ [4] → F b = F b := fun _ _ => rfl
  have hl := lv_entry ([.ref a0, .int x1]) (n := 2) (Nat.le_of_ble_eq_true rfl)
  rw [lg_entry_eq]
  generalize (lg_sl ([.ref a0, .int x1]) ++ List.replicate (2 - (lg_sl ([.ref a0, .int x1])).length) Slot.unset).toArray = ls at hl ⊢
  have hl : lv_has ls 2 [(0, .ref a0), (1, .int x1)] := hl
  refine s_gen hP hS (fun H locs hP hS => ?_)
  obtain ⟨z1, z3, z5, z7, z10, z13, z14, z16, z18, z19, z20, z22, z23, o25, h2, h4, h6, h8, h9, h11, h12, h15, h17, h21, h24, -⟩ := hR
  refine th_join (fun g H locs => ∃ (G : Nat → va_E) (ls : Array Slot), g = F0 m 21 ls [] ∧ lv_has ls 2 [(0, .ref a0)] ∧ s_I K cs D G ∧ va_P (dC, dI) vwCl (va_pl L G) H ∧ va_S (fun q => q ∈ L) s.heap H locs ∧ (∀ b, K b ∉ [4] → G b = F b) ∧ s_rd4 K G a0 tt qq) (fun K21 => ?_) ?_
  · refine lv_aload_n hx hb dX3_readSign_0 rfl (lv_at hl 0 rfl) ?_
    refine th_get (D := (dC, dI)) (ci := 3) (v := .int z13) (C := RX3) (T := TX3) (N := 15) hx hb hts inX3 hown hK hP (hLK _ ha0 (by decide)) o25 rfl 7 (by decide) (hts _ T_204) (fun _ h9 => h9) rfl dX3_readSign_1 ?_
    refine lv_iconst (v := 3) hx hb dX3_readSign_4 (by decide) ?_
    refine lv_icmp_ne (tgt := 21) hx hb dX3_readSign_5 (by decide) (fun c26 => ?_) (fun c26 => ?_)
    · have c26 := mt (ax_eq (n := 3) (by decide)).mpr c26
      exact K21 _ _ _ ⟨F, _, rfl, lv_sub hl [0] rfl, hI, hP, hS, hfr, ⟨z1, z3, z5, z7, z10, z13, z14, z16, z18, z19, z20, z22, z23, o25, h2, h4, h6, h8, h9, ⟨by omega, by omega⟩, h12, ⟨by omega, by omega⟩, ⟨by omega, by omega⟩, ⟨by omega, by omega⟩, (fun q => by first | omega | exact absurd q (by decide)), trivial⟩⟩
    · have c26 := (ax_eq (n := 3) (by decide)).mp c26
      refine lv_aload_n hx hb dX3_readSign_8 rfl (lv_at hl 0 rfl) ?_
      refine th_get (D := (dC, dI)) (ci := 3) (v := .ref tt) (C := RX3) (T := TX3) (N := 15) hx hb hts inX3 hown hK hP (hLK _ ha0 (by decide)) o25 rfl 4 (by decide) (hts _ T_210) (fun _ h9 => h9) rfl dX3_readSign_9 ?_
      refine lv_aload_n hx hb dX3_readSign_12 rfl (lv_at hl 0 rfl) ?_
      refine th_get (D := (dC, dI)) (ci := 3) (v := .int z14) (C := RX3) (T := TX3) (N := 15) hx hb hts inX3 hown hK hP (hLK _ ha0 (by decide)) o25 rfl 8 (by decide) (hts _ T_206) (fun _ h9 => h9) rfl dX3_readSign_13 ?_
      obtain ⟨f27, o28, h29⟩ := s_op20 hI h9
      refine th_bald hx hb hK hP (hLK _ h9 (by decide)) 1 o28 rfl (th_in ⟨by omega, by omega⟩) dX3_readSign_16 ?_
      refine lv_topi (fun v30 ev30 => ?_)
      refine lv_iload_n hx hb dX3_readSign_17 rfl (lv_at hl 1 rfl) ?_
      refine lv_icmp_eq (tgt := 31) hx hb dX3_readSign_18 (by decide) (fun c31 => ?_) (fun c31 => ?_)
      · have c31 := Int32.toInt_inj.symm.mp c31
        refine lv_aload_n hx hb dX3_readSign_31 rfl (lv_at hl 0 rfl) ?_
        refine va_callv (va_runV (As := []) (rest := []) ⟨hx, hb, hml, hown, hts⟩ (s_X3_scan l dC dI H.size hLK D adK adV tf F a0 ha0 hI tt qq ⟨z1, z3, z5, z7, z10, z13, z14, z16, z18, z19, z20, z22, z23, o25, h2, h4, h6, h8, h9, ⟨by omega, by omega⟩, h12, ⟨by omega, by omega⟩, ⟨by omega, by omega⟩, ⟨by omega, by omega⟩, trivial⟩) (cwV 0 hts (ax_gV T_215 T_216 T_217 T_163 T_13) rfl rfl rfl (by decide +kernel) ⟨Nat.le_of_ble_eq_true rfl, Nat.le_of_ble_eq_true rfl⟩) ⟨fun a U g mk q => ⟨q.1, s_pc (U := U) rfl rfl q.2.1, s_pcZ (U := U) rfl rfl q.2.2⟩, s_recv hK hP (hLK _ ha0 (by decide)) (ci := 3) rfl o25, fun U hU hW => ⟨rfl, s_pw hU hW hP hK hD hN, s_pwZ hU hW hS hZ⟩⟩ rfl rfl hl.1 rfl (lv_room (Nat.le_of_ble_eq_true rfl)) dX3_readSign_32 ⟨Nat.zero_le _, Nat.zero_le _⟩) hS (fun q _ h => h) (fun q h => h) (fun F32 t H1 locs ht hvm hw hB hz1 hk1 hS => ?_)
        obtain ⟨hP, hK1⟩ := hB
        rw [ht] at hP
        generalize H1 = H at hP hS ⊢
        clear hz1 hk1
        obtain ⟨h33, h34, hI, hfr1, h35⟩ := hw
        have hfr : ∀ b, K b ∉ [4] → F32 b = F b := fun b hb9 => (hfr1 b (fun q => hb9 (s_sub (by decide) q))).trans (hfr b hb9)
        obtain ⟨z36, z38, z40, z42, z45, z48, z49, z51, z53, z54, z55, z57, z58, o60, h37, h39, h41, h43, h44, h46, h47, h50, h52, h56, h59, -⟩ := h35
        refine lv_iconst (v := 1) hx hb dX3_readSign_35 (by decide) ?_
        exact W.zret (v := 1) (ty := .boolean) hx hb hr (by decide) (fun t ht hW => ⟨⟨1, F32, rfl, ⟨(by decide), trivial, hI, hfr, ⟨z36, z38, z40, z42, z45, z48, z49, z51, z53, z54, z55, z57, z58, o60, h37, h39, h41, h43, h44, ⟨by omega, by omega⟩, h47, ⟨by omega, by omega⟩, ⟨by omega, by omega⟩, ⟨by omega, by omega⟩, (fun q => by first | omega | exact absurd q (by decide)), trivial⟩⟩, by rw [ht]; exact hP, va_K.moved hW.alike hK⟩, hS.F ht⟩) hS.2.2 dX3_readSign_36
      · have c31 := mt Int32.toInt_inj.symm.mpr c31
        exact K21 _ _ _ ⟨F, _, rfl, lv_sub hl [0] rfl, hI, hP, hS, hfr, ⟨z1, z3, z5, z7, z10, z13, z14, z16, z18, z19, z20, z22, z23, o25, h2, h4, h6, h8, h9, ⟨by omega, by omega⟩, h12, ⟨by omega, by omega⟩, ⟨by omega, by omega⟩, ⟨by omega, by omega⟩, (fun q => by first | omega | exact absurd q (by decide)), trivial⟩⟩
  · intro g H locs hq
    obtain ⟨F9, ls, rfl, hl, hI, hP, hS, hfr, h61⟩ := hq
    obtain ⟨z62, z64, z66, z68, z71, z74, z75, z77, z79, z80, z81, z83, z84, o86, h63, h65, h67, h69, h70, h72, h73, h76, h78, h82, h85, -⟩ := h61
    refine lv_aload_n hx hb dX3_readSign_21 rfl (lv_at hl 0 rfl) ?_
    refine lv_iconst (v := 1) hx hb dX3_readSign_22 (by decide) ?_
    refine lv_aload_n hx hb dX3_readSign_23 rfl (lv_at hl 0 rfl) ?_
    refine th_get (D := (dC, dI)) (ci := 3) (v := .int z75) (C := RX3) (T := TX3) (N := 15) hx hb hts inX3 hown hK hP (hLK _ ha0 (by decide)) o86 rfl 8 (by decide) (hts _ T_206) (fun _ h9 => h9) rfl dX3_readSign_24 ?_
    refine va_calli (va_runV (As := [.int 1, .int z75]) (rest := []) ⟨hx, hb, hml, hown, hts⟩ (s_X3_fail l dC dI H.size hLK D F9 a0 1 z75 ha0 hI tt qq ⟨z62, z64, z66, z68, z71, z74, z75, z77, z79, z80, z81, z83, z84, o86, h63, h65, h67, h69, h70, ⟨by omega, by omega⟩, h73, ⟨by omega, by omega⟩, ⟨by omega, by omega⟩, ⟨by omega, by omega⟩, (fun q => by first | omega | exact absurd q (by decide)), trivial⟩) (cwV 2 hts (ax_gV T_218 T_219 T_220 T_163 T_14) rfl rfl rfl (by decide +kernel) ⟨Nat.le_of_ble_eq_true rfl, Nat.le_of_ble_eq_true rfl⟩) ⟨fun a U g mk q => ⟨q.1, s_pc (U := U) rfl rfl q.2⟩, s_recv hK hP (hLK _ ha0 (by decide)) (ci := 3) rfl o86, fun U hU hW => ⟨rfl, s_pw hU hW hP hK hD hN⟩⟩ rfl rfl hl.1 rfl (lv_room (Nat.le_of_ble_eq_true rfl)) dX3_readSign_27 ⟨Nat.zero_le _, Nat.zero_le _⟩) hS (fun q _ h => h) (fun q h => h) (fun r87 F88 t H1 locs ht hvm hw hB hz1 hk1 hS => ?_)
    obtain ⟨hP, hK1⟩ := hB
    rw [ht] at hP
    generalize H1 = H at hP hS ⊢
    clear hz1 hk1
    obtain ⟨h89, h90, hI, hfr1, h91⟩ := hw
    have hfr : ∀ b, K b ∉ [4] → F88 b = F b := fun b hb9 => (hfr1 b (fun q => hb9 (s_sub (by decide) q))).trans (hfr b hb9)
    obtain ⟨h90, h92⟩ := h90
    have h92 : (∀ vs z, F88 a0 = .inr (3, vs) → vs[13]? = some (.int z) → z = 1) := h92
    obtain ⟨z93, z95, z97, z99, z102, z105, z106, z108, z110, z111, z112, z114, z115, o117, h94, h96, h98, h100, h101, h103, h104, h107, h109, h113, h116, -⟩ := h91
    exact W.zret (v := r87) (ty := .boolean) hx hb hr (th_nz ⟨by omega, by omega⟩) (fun t ht hW => ⟨⟨r87, F88, rfl, ⟨⟨by omega, by omega⟩, trivial, hI, hfr, ⟨z93, z95, z97, z99, z102, z105, z106, z108, z110, z111, z112, z114, z115, o117, h94, h96, h98, h100, h101, ⟨by omega, by omega⟩, h104, ⟨by omega, by omega⟩, ⟨by omega, by omega⟩, ⟨by omega, by omega⟩, (fun q => by first | omega | exact absurd q (by decide)), trivial⟩⟩, by rw [ht]; exact hP, va_K.moved hW.alike hK⟩, hS.F ht⟩) hS.2.2 dX3_readSign_30

set_option maxHeartbeats 4000000 in
set_option maxRecDepth 100000 in
theorem s_X3_lineNamed (l : Launch) (dC : Nat → ClassId) (dI : Nat → Nat → Nat) (sz : Nat) {L : List Nat} {K : Nat → Nat} {cs : Nat → ClassId} (hLK : ∀ a {k : Nat}, K a = k → k ≠ 0 → a ∈ L) (D : Nat) (F : Nat → va_E) (a0 : Nat) (x1 : Int32) (x2 : Int32) (ha0 : K a0 = 4) (hx1 : 0 ≤ x1.toInt ∧ x1.toInt ≤ 1600) (hx2 : 0 ≤ x2.toInt ∧ x2.toInt ≤ 1600) (hI : s_I K cs D F) (tt qq : Nat) (hR : s_rd4 K F a0 tt qq) : Met l yX3_lineNamed (Cond.code yX3_lineNamed cX3_lineNamed 7 (some .int) :: T0) ({ frames := 0, cells := 0, slots := 0, locals := 0 }) (va_Pc [.ref a0, .int x1, .int x2] (s_W dC dI sz L F [(cs 0, .int), (cs 1, .byte), (cs 2, .long), (cs 3, .object RX5), (cs 4, .object RX4), (cs 5, .array .int), (cs 6, .char), (cs 7, .boolean)])) (va_Qi (fun (r : Int32) (G : Nat → va_E) => (-1 ≤ r.toInt ∧ r.toInt ≤ 39) ∧ True ∧ s_I K cs D G ∧ (∀ b, K b ∉ ([] : List Nat) → G b = F b) ∧ s_rd4 K G a0 tt qq) (fun (G : Nat → va_E) (t : State) => va_P (dC, dI) vwCl (va_pl L G) t.heap ∧ va_K (dC, dI) vwCl [(cs 0, .int), (cs 1, .byte), (cs 2, .long), (cs 3, .object RX5), (cs 4, .object RX4), (cs 5, .array .int), (cs 6, .char), (cs 7, .boolean)] t) (fun q => q ∈ L)) 0 0 (fun q => q ∈ L) := by
  refine Met.ofW (cc := cX3_lineNamed) (maxL := 7) (ret := (some .int)) (by decide) rfl ?_
  intro p e s m args below meth c s₁ B hml hv
  obtain ⟨rfl, hsz, hP, hK, hD, hN⟩ := hv
  have hx := B.exec
  have hb := B.bytes
  have hr := B.returns
  have hts : ∀ w ∈ T0, w.before _ s = true := fun w h => atoms_spec (ws := Cond.code yX3_lineNamed cX3_lineNamed 7 (some .int) :: T0) B.pre w (List.mem_cons_of_mem _ h)
  have hown : s.vm.findClass RX3 = some m.cls := findClass_of_methodNamed B.named
  have hlocks := B.notSynchronized
  have hS : va_S (fun q => q ∈ L) s.heap s.heap [] := va_S.rf
  have hfr : ∀ b, K b ∉ ([] : List Nat) → F b = F b := fun _ _ => rfl
  have hl := lv_entry ([.ref a0, .int x1, .int x2]) (n := 7) (Nat.le_of_ble_eq_true rfl)
  rw [lg_entry_eq]
  generalize (lg_sl ([.ref a0, .int x1, .int x2]) ++ List.replicate (7 - (lg_sl ([.ref a0, .int x1, .int x2])).length) Slot.unset).toArray = ls at hl ⊢
  have hl : lv_has ls 7 [(0, .ref a0), (1, .int x1), (2, .int x2)] := hl
  refine s_gen hP hS (fun H locs hP hS => ?_)
  obtain ⟨z1, z3, z5, z7, z10, z13, z14, z16, z18, z19, z20, z22, z23, o25, h2, h4, h6, h8, h9, h11, h12, h15, h17, h21, h24, -⟩ := hR
  refine lv_iconst (v := 0) hx hb dX3_lineNamed_0 (by decide) ?_
  refine lv_istore_n (lv' := [(3, .int 0), (0, .ref a0), (1, .int x1), (2, .int x2)]) hx hb dX3_lineNamed_1 rfl hl (by decide) rfl (fun ls hl => ?_)
  refine th_loop (fun n g H locs => ∃ (G : Nat → va_E) (ls : Array Slot) (w26 : Int32), g = F0 m 2 ls [] ∧ lv_has ls 7 [(0, .ref a0), (1, .int x1), (2, .int x2), (3, .int w26)] ∧ s_I K cs D G ∧ va_P (dC, dI) vwCl (va_pl L G) H ∧ va_S (fun q => q ∈ L) s.heap H locs ∧ (∀ b, K b ∉ ([] : List Nat) → G b = F b) ∧ (0 ≤ w26.toInt ∧ w26.toInt ≤ 40) ∧ (0 ≤ x1.toInt ∧ x1.toInt ≤ 1600) ∧ (0 ≤ x2.toInt ∧ x2.toInt ≤ 1600) ∧ s_rd4 K G a0 tt qq ∧ n = (41 - w26.toInt).toNat) _ ⟨F, _, 0, rfl, lv_sub hl [1, 2, 3, 0] rfl, hI, hP, hS, hfr, (by decide), ⟨by omega, by omega⟩, ⟨by omega, by omega⟩, ⟨z1, z3, z5, z7, z10, z13, z14, z16, z18, z19, z20, z22, z23, o25, h2, h4, h6, h8, h9, ⟨by omega, by omega⟩, h12, ⟨by omega, by omega⟩, ⟨by omega, by omega⟩, ⟨by omega, by omega⟩, (fun q => by first | omega | exact absurd q (by decide)), trivial⟩, rfl⟩ (fun n ih2 g H locs hq => ?_)
  obtain ⟨F9, ls, w26, rfl, hl, hI, hP, hS, hfr, h27, h28, h29, h30, hn⟩ := hq
  obtain ⟨z31, z33, z35, z37, z40, z43, z44, z46, z48, z49, z50, z52, z53, o55, h32, h34, h36, h38, h39, h41, h42, h45, h47, h51, h54, -⟩ := h30
  have hn_2 := hn
  obtain ⟨n_2, hn9_2⟩ : ∃ q, q = n := ⟨_, rfl⟩
  refine th_join (fun g H locs => ∃ (G : Nat → va_E) (ls : Array Slot) (w56 : Int32), g = F0 m 96 ls [] ∧ lv_has ls 7 [(0, .ref a0), (1, .int x1), (2, .int x2), (3, .int w26), (5, .int w56)] ∧ s_I K cs D G ∧ va_P (dC, dI) vwCl (va_pl L G) H ∧ va_S (fun q => q ∈ L) s.heap H locs ∧ (∀ b, K b ∉ ([] : List Nat) → G b = F b) ∧ (0 ≤ w56.toInt ∧ w56.toInt ≤ 1) ∧ (0 ≤ x1.toInt ∧ x1.toInt ≤ 1600) ∧ (0 ≤ x2.toInt ∧ x2.toInt ≤ 1600) ∧ (0 ≤ w26.toInt ∧ w26.toInt ≤ 39) ∧ s_rd4 K G a0 tt qq) (fun K96 => ?_) ?_
  refine th_join (fun g H locs => ∃ (G : Nat → va_E) (ls : Array Slot) (w57 : Int32) (w58 : Int32), g = F0 m 47 ls [.int w58] ∧ lv_has ls 7 [(0, .ref a0), (1, .int x1), (2, .int x2), (3, .int w26), (4, .int w57)] ∧ s_I K cs D G ∧ va_P (dC, dI) vwCl (va_pl L G) H ∧ va_S (fun q => q ∈ L) s.heap H locs ∧ (∀ b, K b ∉ ([] : List Nat) → G b = F b) ∧ (-1600 ≤ w57.toInt ∧ w57.toInt ≤ 1600) ∧ (0 ≤ w58.toInt ∧ w58.toInt ≤ 1) ∧ (0 ≤ x1.toInt ∧ x1.toInt ≤ 1600) ∧ (0 ≤ x2.toInt ∧ x2.toInt ≤ 1600) ∧ (0 ≤ w26.toInt ∧ w26.toInt ≤ 39) ∧ (w58.toInt = 0 ∨ w57.toInt + x2.toInt ≤ 1600) ∧ (0 ≤ w57.toInt + x1.toInt) ∧ s_rd4 K G a0 tt qq) (fun K47 => ?_) ?_
  · refine lv_iload_n hx hb dX3_lineNamed_2 rfl (lv_at hl 3 rfl) ?_
    refine lv_aload_n hx hb dX3_lineNamed_3 rfl (lv_at hl 0 rfl) ?_
    refine th_get (D := (dC, dI)) (ci := 3) (v := .ref qq) (C := RX3) (T := TX3) (N := 15) hx hb hts inX3 hown hK hP (hLK _ ha0 (by decide)) o55 rfl 6 (by decide) (hts _ T_211) (fun _ h9 => h9) rfl dX3_lineNamed_4 ?_
    obtain ⟨z59, z61, z63, z65, z67, z69, z70, o71, h60, h62, h64, h66, h68, -⟩ := s_op8 hI h42
    refine th_getN (D := (dC, dI)) (ci := 2) (v := .int z65) (C := RX2) (T := TX2) (N := 7) hx hb hts inX2 hown hK hP (hLK _ h42 (by decide)) o71 rfl 3 (by decide) (va_Nw.use rfl (ax_n9 hN)) (fun _ h9 => h9) rfl dX3_lineNamed_7 ?_
    refine lv_icmp_ge (tgt := 109) hx hb dX3_lineNamed_10 (by decide) (fun c72 => ?_) (fun c72 => ?_)
    · have c72 := Int32.le_iff_toInt_le.mp c72
      refine lv_iconst (v := (-1)) hx hb dX3_lineNamed_109 (by decide) ?_
      exact W.iret (v := (-1)) hx hb hr (fun t ht hW => ⟨⟨(-1), F9, rfl, ⟨(by decide), trivial, hI, hfr, ⟨z31, z33, z35, z37, z40, z43, z44, z46, z48, z49, z50, z52, z53, o55, h32, h34, h36, h38, h39, ⟨by omega, by omega⟩, h42, ⟨by omega, by omega⟩, ⟨by omega, by omega⟩, ⟨by omega, by omega⟩, (fun q => by first | omega | exact absurd q (by decide)), trivial⟩⟩, by rw [ht]; exact hP, va_K.moved hW.alike hK⟩, hS.F ht⟩) hS.2.2 dX3_lineNamed_110
    · have c72 := mt Int32.le_iff_toInt_le.mpr c72
      refine lv_aload_n hx hb dX3_lineNamed_13 rfl (lv_at hl 0 rfl) ?_
      refine th_get (D := (dC, dI)) (ci := 3) (v := .ref z31) (C := RX3) (T := TX3) (N := 15) hx hb hts inX3 hown hK hP (hLK _ ha0 (by decide)) o55 rfl 0 (by decide) (hts _ T_129) (fun _ h9 => h9) rfl dX3_lineNamed_14 ?_
      refine lv_iload_n hx hb dX3_lineNamed_17 rfl (lv_at hl 3 rfl) ?_
      obtain ⟨f73, o74, h75⟩ := s_op21 hI h32
      refine th_iald hx hb hK hP (hLK _ h32 (by decide)) 0 o74 rfl (th_in ⟨by omega, by omega⟩) dX3_lineNamed_18 ?_
      refine lv_topi (fun v76 ev76 => ?_)
      have qv76 : 0 ≤ v76.toInt ∧ v76.toInt ≤ 1600 := by rw [ev76]; exact h75 _ (th_cl ⟨by omega, by omega⟩)
      refine lv_iload_n hx hb dX3_lineNamed_19 rfl (lv_at hl 1 rfl) ?_
      refine lv_isub hx hb dX3_lineNamed_20 ?_
      refine lv_topi (fun v77 ev77 => ?_)
      have qv77 : v77.toInt = v76.toInt - x1.toInt := by rw [ev77]; exact th_sub rfl rfl ⟨by omega, by omega⟩
      refine lv_istore (lv' := [(4, .int v77), (0, .ref a0), (1, .int x1), (2, .int x2), (3, .int w26)]) hx hb dX3_lineNamed_21 hl (by decide) rfl (fun ls hl => ?_)
      refine lv_aload_n hx hb dX3_lineNamed_23 rfl (lv_at hl 1 rfl) ?_
      refine th_get (D := (dC, dI)) (ci := 3) (v := .ref z33) (C := RX3) (T := TX3) (N := 15) hx hb hts inX3 hown hK hP (hLK _ ha0 (by decide)) o55 rfl 1 (by decide) (hts _ T_130) (fun _ h9 => h9) rfl dX3_lineNamed_24 ?_
      refine lv_iload_n hx hb dX3_lineNamed_27 rfl (lv_at hl 4 rfl) ?_
      obtain ⟨f78, o79, h80⟩ := s_op21 hI h34
      refine th_iald hx hb hK hP (hLK _ h34 (by decide)) 0 o79 rfl (th_in ⟨by omega, by omega⟩) dX3_lineNamed_28 ?_
      refine lv_topi (fun v81 ev81 => ?_)
      have qv81 : 0 ≤ v81.toInt ∧ v81.toInt ≤ 1600 := by rw [ev81]; exact h80 _ (th_cl ⟨by omega, by omega⟩)
      refine lv_aload_n hx hb dX3_lineNamed_29 rfl (lv_at hl 1 rfl) ?_
      refine th_get (D := (dC, dI)) (ci := 3) (v := .ref z31) (C := RX3) (T := TX3) (N := 15) hx hb hts inX3 hown hK hP (hLK _ ha0 (by decide)) o55 rfl 0 (by decide) (hts _ T_129) (fun _ h9 => h9) rfl dX3_lineNamed_30 ?_
      refine lv_iload_n hx hb dX3_lineNamed_33 rfl (lv_at hl 4 rfl) ?_
      obtain ⟨f82, o83, h84⟩ := s_op21 hI h32
      refine th_iald hx hb hK hP (hLK _ h32 (by decide)) 0 o83 rfl (th_in ⟨by omega, by omega⟩) dX3_lineNamed_34 ?_
      refine lv_topi (fun v85 ev85 => ?_)
      have qv85 : 0 ≤ v85.toInt ∧ v85.toInt ≤ 1600 := by rw [ev85]; exact h84 _ (th_cl ⟨by omega, by omega⟩)
      have sm86 : v85.toInt = v76.toInt := by rw [ev85, ev76]; have q9 := o74.symm.trans o83; cases q9; rfl
      refine lv_isub hx hb dX3_lineNamed_35 ?_
      refine lv_topi (fun v87 ev87 => ?_)
      have qv87 : v87.toInt = v81.toInt - v85.toInt := by rw [ev87]; exact th_sub rfl rfl ⟨by omega, by omega⟩
      refine lv_iload_n hx hb dX3_lineNamed_36 rfl (lv_at hl 3 rfl) ?_
      refine lv_iload_n hx hb dX3_lineNamed_37 rfl (lv_at hl 2 rfl) ?_
      refine lv_isub hx hb dX3_lineNamed_38 ?_
      refine lv_topi (fun v88 ev88 => ?_)
      have qv88 : v88.toInt = x2.toInt - x1.toInt := by rw [ev88]; exact th_sub rfl rfl ⟨by omega, by omega⟩
      refine lv_icmp_ne (tgt := 46) hx hb dX3_lineNamed_39 (by decide) (fun c89 => ?_) (fun c89 => ?_)
      · have c89 := mt Int32.toInt_inj.symm.mpr c89
        refine lv_iconst (v := 0) hx hb dX3_lineNamed_46 (by decide) ?_
        exact K47 _ _ _ ⟨F9, _, v77, 0, rfl, lv_sub hl [1, 2, 3, 4, 0] rfl, hI, hP, hS, hfr, ⟨by omega, by omega⟩, (by decide), ⟨by omega, by omega⟩, ⟨by omega, by omega⟩, ⟨by omega, by omega⟩, (by first | omega | exact Or.inl (by decide) | exact Or.inr (by omega)), (by omega), ⟨z31, z33, z35, z37, z40, z43, z44, z46, z48, z49, z50, z52, z53, o55, h32, h34, h36, h38, h39, ⟨by omega, by omega⟩, h42, ⟨by omega, by omega⟩, ⟨by omega, by omega⟩, ⟨by omega, by omega⟩, (fun q => by first | omega | exact absurd q (by decide)), trivial⟩⟩
      · have c89 := Int32.toInt_inj.symm.mp c89
        refine lv_iconst (v := 1) hx hb dX3_lineNamed_42 (by decide) ?_
        refine lv_goto (tgt := 47) hx hb dX3_lineNamed_43 (by decide) ?_
        exact K47 _ _ _ ⟨F9, _, v77, 1, rfl, lv_sub hl [1, 2, 3, 4, 0] rfl, hI, hP, hS, hfr, ⟨by omega, by omega⟩, (by decide), ⟨by omega, by omega⟩, ⟨by omega, by omega⟩, ⟨by omega, by omega⟩, (by first | omega | exact Or.inl (by decide) | exact Or.inr (by omega)), (by omega), ⟨z31, z33, z35, z37, z40, z43, z44, z46, z48, z49, z50, z52, z53, o55, h32, h34, h36, h38, h39, ⟨by omega, by omega⟩, h42, ⟨by omega, by omega⟩, ⟨by omega, by omega⟩, ⟨by omega, by omega⟩, (fun q => by first | omega | exact absurd q (by decide)), trivial⟩⟩
  · intro g H locs hq
    obtain ⟨F9, ls, w57, w58, rfl, hl, hI, hP, hS, hfr, h90, h91, h92, h93, h94, h95, h96, h97⟩ := hq
    obtain ⟨z98, z100, z102, z104, z107, z110, z111, z113, z115, z116, z117, z119, z120, o122, h99, h101, h103, h105, h106, h108, h109, h112, h114, h118, h121, -⟩ := h97
    refine lv_istore (lv' := [(5, .int w58), (0, .ref a0), (1, .int x1), (2, .int x2), (3, .int w26), (4, .int w57)]) hx hb dX3_lineNamed_47 hl (by decide) rfl (fun ls hl => ?_)
    refine lv_iload_n hx hb dX3_lineNamed_49 rfl (lv_at hl 2 rfl) ?_
    refine lv_istore (lv' := [(6, .int x1), (5, .int w58), (0, .ref a0), (1, .int x1), (2, .int x2), (3, .int w26), (4, .int w57)]) hx hb dX3_lineNamed_50 hl (by decide) rfl (fun ls hl => ?_)
    refine th_loop (fun n g H locs => ∃ (G : Nat → va_E) (ls : Array Slot) (w123 : Int32) (w124 : Int32), g = F0 m 52 ls [] ∧ lv_has ls 7 [(0, .ref a0), (1, .int x1), (2, .int x2), (3, .int w26), (4, .int w57), (5, .int w123), (6, .int w124)] ∧ s_I K cs D G ∧ va_P (dC, dI) vwCl (va_pl L G) H ∧ va_S (fun q => q ∈ L) s.heap H locs ∧ (∀ b, K b ∉ ([] : List Nat) → G b = F b) ∧ (0 ≤ w123.toInt ∧ w123.toInt ≤ 1) ∧ (0 ≤ w124.toInt ∧ w124.toInt ≤ 1600) ∧ (0 ≤ x1.toInt ∧ x1.toInt ≤ 1600) ∧ (0 ≤ x2.toInt ∧ x2.toInt ≤ 1600) ∧ (0 ≤ w26.toInt ∧ w26.toInt ≤ 39) ∧ (-1600 ≤ w57.toInt ∧ w57.toInt ≤ 1600) ∧ (w123.toInt = 0 ∨ w57.toInt + x2.toInt ≤ 1600) ∧ (x1.toInt ≤ w124.toInt) ∧ s_rd4 K G a0 tt qq ∧ n = (1601 - w124.toInt).toNat) _ ⟨F9, _, w58, x1, rfl, lv_sub hl [2, 3, 4, 5, 6, 1, 0] rfl, hI, hP, hS, hfr, ⟨by omega, by omega⟩, ⟨by omega, by omega⟩, ⟨by omega, by omega⟩, ⟨by omega, by omega⟩, ⟨by omega, by omega⟩, ⟨by omega, by omega⟩, (by first | omega | exact Or.inl (by decide) | exact Or.inr (by omega)), (by omega), ⟨z98, z100, z102, z104, z107, z110, z111, z113, z115, z116, z117, z119, z120, o122, h99, h101, h103, h105, h106, ⟨by omega, by omega⟩, h109, ⟨by omega, by omega⟩, ⟨by omega, by omega⟩, ⟨by omega, by omega⟩, (fun q => by first | omega | exact absurd q (by decide)), trivial⟩, rfl⟩ (fun n ih52 g H locs hq => ?_)
    obtain ⟨F9, ls, w123, w124, rfl, hl, hI, hP, hS, hfr, h125, h126, h127, h128, h129, h130, h131, h132, h133, hn⟩ := hq
    obtain ⟨z134, z136, z138, z140, z143, z146, z147, z149, z151, z152, z153, z155, z156, o158, h135, h137, h139, h141, h142, h144, h145, h148, h150, h154, h157, -⟩ := h133
    have hn_52 := hn
    obtain ⟨n_52, hn9_52⟩ : ∃ q, q = n := ⟨_, rfl⟩
    refine lv_iload hx hb dX3_lineNamed_52 (lv_at hl 5 rfl) ?_
    refine lv_if_eq (tgt := 96) hx hb dX3_lineNamed_54 (by decide) (fun c159 => ?_) (fun c159 => ?_)
    · have c159 := (ax_eq (n := 0) (by decide)).mp c159
      exact K96 _ _ _ ⟨F9, _, w123, rfl, lv_sub hl [0, 1, 2, 3, 5] rfl, hI, hP, hS, hfr, ⟨by omega, by omega⟩, ⟨by omega, by omega⟩, ⟨by omega, by omega⟩, ⟨by omega, by omega⟩, ⟨z134, z136, z138, z140, z143, z146, z147, z149, z151, z152, z153, z155, z156, o158, h135, h137, h139, h141, h142, ⟨by omega, by omega⟩, h145, ⟨by omega, by omega⟩, ⟨by omega, by omega⟩, ⟨by omega, by omega⟩, (fun q => by first | omega | exact absurd q (by decide)), trivial⟩⟩
    · have c159 := mt (ax_eq (n := 0) (by decide)).mpr c159
      refine lv_iload hx hb dX3_lineNamed_57 (lv_at hl 6 rfl) ?_
      refine lv_iload_n hx hb dX3_lineNamed_59 rfl (lv_at hl 2 rfl) ?_
      refine lv_icmp_ge (tgt := 96) hx hb dX3_lineNamed_60 (by decide) (fun c160 => ?_) (fun c160 => ?_)
      · have c160 := Int32.le_iff_toInt_le.mp c160
        exact K96 _ _ _ ⟨F9, _, w123, rfl, lv_sub hl [0, 1, 2, 3, 5] rfl, hI, hP, hS, hfr, ⟨by omega, by omega⟩, ⟨by omega, by omega⟩, ⟨by omega, by omega⟩, ⟨by omega, by omega⟩, ⟨z134, z136, z138, z140, z143, z146, z147, z149, z151, z152, z153, z155, z156, o158, h135, h137, h139, h141, h142, ⟨by omega, by omega⟩, h145, ⟨by omega, by omega⟩, ⟨by omega, by omega⟩, ⟨by omega, by omega⟩, (fun q => by first | omega | exact absurd q (by decide)), trivial⟩⟩
      · have c160 := mt Int32.le_iff_toInt_le.mpr c160
        refine lv_aload_n hx hb dX3_lineNamed_63 rfl (lv_at hl 0 rfl) ?_
        refine th_get (D := (dC, dI)) (ci := 3) (v := .ref tt) (C := RX3) (T := TX3) (N := 15) hx hb hts inX3 hown hK hP (hLK _ ha0 (by decide)) o158 rfl 4 (by decide) (hts _ T_210) (fun _ h9 => h9) rfl dX3_lineNamed_64 ?_
        refine lv_iload hx hb dX3_lineNamed_67 (lv_at hl 6 rfl) ?_
        obtain ⟨f161, o162, h163⟩ := s_op20 hI h142
        refine th_bald hx hb hK hP (hLK _ h142 (by decide)) 1 o162 rfl (th_in ⟨by omega, by omega⟩) dX3_lineNamed_69 ?_
        refine lv_topi (fun v164 ev164 => ?_)
        refine lv_aload_n hx hb dX3_lineNamed_70 rfl (lv_at hl 0 rfl) ?_
        refine th_get (D := (dC, dI)) (ci := 3) (v := .ref tt) (C := RX3) (T := TX3) (N := 15) hx hb hts inX3 hown hK hP (hLK _ ha0 (by decide)) o158 rfl 4 (by decide) (hts _ T_210) (fun _ h9 => h9) rfl dX3_lineNamed_71 ?_
        refine lv_iload hx hb dX3_lineNamed_74 (lv_at hl 6 rfl) ?_
        refine lv_iload hx hb dX3_lineNamed_76 (lv_at hl 4 rfl) ?_
        refine lv_iadd hx hb dX3_lineNamed_78 ?_
        refine lv_topi (fun v165 ev165 => ?_)
        have qv165 : v165.toInt = w124.toInt + w57.toInt := by rw [ev165]; exact th_add rfl rfl ⟨by omega, by omega⟩
        obtain ⟨f166, o167, h168⟩ := s_op20 hI h142
        refine th_bald hx hb hK hP (hLK _ h142 (by decide)) 1 o167 rfl (th_in ⟨by omega, by omega⟩) dX3_lineNamed_79 ?_
        refine lv_topi (fun v169 ev169 => ?_)
        refine lv_icmp_ne (tgt := 87) hx hb dX3_lineNamed_80 (by decide) (fun c170 => ?_) (fun c170 => ?_)
        · have c170 := mt Int32.toInt_inj.symm.mpr c170
          refine lv_iconst (v := 0) hx hb dX3_lineNamed_87 (by decide) ?_
          refine lv_istore (lv' := [(5, .int 0), (0, .ref a0), (1, .int x1), (2, .int x2), (3, .int w26), (4, .int w57), (6, .int w124)]) hx hb dX3_lineNamed_88 hl (by decide) rfl (fun ls hl => ?_)
          obtain ⟨v171, ev171⟩ : ∃ y : Int32, w124 + 1 = y := ⟨_, rfl⟩
          have qv171 : v171.toInt = w124.toInt + 1 := by rw [← ev171]; exact th_add rfl (by decide) ⟨by omega, by omega⟩
          refine lv_iinc (v := v171) (lv' := [(6, .int v171), (5, .int 0), (0, .ref a0), (1, .int x1), (2, .int x2), (3, .int w26), (4, .int w57)]) hx hb dX3_lineNamed_90 hl (k := 6) rfl ev171 (by decide) rfl (fun ls hl => ?_)
          refine lv_goto (tgt := 52) hx hb dX3_lineNamed_93 (by decide) ?_
          exact ih52 _ _ _ _ (by omega) ⟨F9, _, 0, v171, rfl, lv_sub hl [2, 3, 4, 5, 6, 1, 0] rfl, hI, hP, hS, hfr, (by decide), ⟨by omega, by omega⟩, ⟨by omega, by omega⟩, ⟨by omega, by omega⟩, ⟨by omega, by omega⟩, ⟨by omega, by omega⟩, (by first | omega | exact Or.inl (by decide) | exact Or.inr (by omega)), (by omega), ⟨z134, z136, z138, z140, z143, z146, z147, z149, z151, z152, z153, z155, z156, o158, h135, h137, h139, h141, h142, ⟨by omega, by omega⟩, h145, ⟨by omega, by omega⟩, ⟨by omega, by omega⟩, ⟨by omega, by omega⟩, (fun q => by first | omega | exact absurd q (by decide)), trivial⟩, rfl⟩
        · have c170 := Int32.toInt_inj.symm.mp c170
          refine lv_iconst (v := 1) hx hb dX3_lineNamed_83 (by decide) ?_
          refine lv_goto (tgt := 88) hx hb dX3_lineNamed_84 (by decide) ?_
          refine lv_istore (lv' := [(5, .int 1), (0, .ref a0), (1, .int x1), (2, .int x2), (3, .int w26), (4, .int w57), (6, .int w124)]) hx hb dX3_lineNamed_88 hl (by decide) rfl (fun ls hl => ?_)
          obtain ⟨v172, ev172⟩ : ∃ y : Int32, w124 + 1 = y := ⟨_, rfl⟩
          have qv172 : v172.toInt = w124.toInt + 1 := by rw [← ev172]; exact th_add rfl (by decide) ⟨by omega, by omega⟩
          refine lv_iinc (v := v172) (lv' := [(6, .int v172), (5, .int 1), (0, .ref a0), (1, .int x1), (2, .int x2), (3, .int w26), (4, .int w57)]) hx hb dX3_lineNamed_90 hl (k := 6) rfl ev172 (by decide) rfl (fun ls hl => ?_)
          refine lv_goto (tgt := 52) hx hb dX3_lineNamed_93 (by decide) ?_
          exact ih52 _ _ _ _ (by omega) ⟨F9, _, 1, v172, rfl, lv_sub hl [2, 3, 4, 5, 6, 1, 0] rfl, hI, hP, hS, hfr, (by decide), ⟨by omega, by omega⟩, ⟨by omega, by omega⟩, ⟨by omega, by omega⟩, ⟨by omega, by omega⟩, ⟨by omega, by omega⟩, (by first | omega | exact Or.inl (by decide) | exact Or.inr (by omega)), (by omega), ⟨z134, z136, z138, z140, z143, z146, z147, z149, z151, z152, z153, z155, z156, o158, h135, h137, h139, h141, h142, ⟨by omega, by omega⟩, h145, ⟨by omega, by omega⟩, ⟨by omega, by omega⟩, ⟨by omega, by omega⟩, (fun q => by first | omega | exact absurd q (by decide)), trivial⟩, rfl⟩
  · intro g H locs hq
    obtain ⟨F9, ls, w56, rfl, hl, hI, hP, hS, hfr, h173, h174, h175, h176, h177⟩ := hq
    obtain ⟨z178, z180, z182, z184, z187, z190, z191, z193, z195, z196, z197, z199, z200, o202, h179, h181, h183, h185, h186, h188, h189, h192, h194, h198, h201, -⟩ := h177
    refine lv_iload hx hb dX3_lineNamed_96 (lv_at hl 4 rfl) ?_
    refine lv_if_eq (tgt := 103) hx hb dX3_lineNamed_98 (by decide) (fun c203 => ?_) (fun c203 => ?_)
    · have c203 := (ax_eq (n := 0) (by decide)).mp c203
      obtain ⟨v204, ev204⟩ : ∃ y : Int32, w26 + 1 = y := ⟨_, rfl⟩
      have qv204 : v204.toInt = w26.toInt + 1 := by rw [← ev204]; exact th_add rfl (by decide) ⟨by omega, by omega⟩
      refine lv_iinc (v := v204) (lv' := [(3, .int v204), (0, .ref a0), (1, .int x1), (2, .int x2), (5, .int w56)]) hx hb dX3_lineNamed_103 hl (k := 3) rfl ev204 (by decide) rfl (fun ls hl => ?_)
      refine lv_goto (tgt := 2) hx hb dX3_lineNamed_106 (by decide) ?_
      exact ih2 _ _ _ _ (by omega) ⟨F9, _, v204, rfl, lv_sub hl [1, 2, 3, 0] rfl, hI, hP, hS, hfr, ⟨by omega, by omega⟩, ⟨by omega, by omega⟩, ⟨by omega, by omega⟩, ⟨z178, z180, z182, z184, z187, z190, z191, z193, z195, z196, z197, z199, z200, o202, h179, h181, h183, h185, h186, ⟨by omega, by omega⟩, h189, ⟨by omega, by omega⟩, ⟨by omega, by omega⟩, ⟨by omega, by omega⟩, (fun q => by first | omega | exact absurd q (by decide)), trivial⟩, rfl⟩
    · have c203 := mt (ax_eq (n := 0) (by decide)).mpr c203
      refine lv_iload_n hx hb dX3_lineNamed_101 rfl (lv_at hl 3 rfl) ?_
      exact W.iret (v := w26) hx hb hr (fun t ht hW => ⟨⟨w26, F9, rfl, ⟨⟨by omega, by omega⟩, trivial, hI, hfr, ⟨z178, z180, z182, z184, z187, z190, z191, z193, z195, z196, z197, z199, z200, o202, h179, h181, h183, h185, h186, ⟨by omega, by omega⟩, h189, ⟨by omega, by omega⟩, ⟨by omega, by omega⟩, ⟨by omega, by omega⟩, (fun q => by first | omega | exact absurd q (by decide)), trivial⟩⟩, by rw [ht]; exact hP, va_K.moved hW.alike hK⟩, hS.F ht⟩) hS.2.2 dX3_lineNamed_102

