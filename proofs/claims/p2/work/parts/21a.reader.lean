set_option maxHeartbeats 4000000 in
set_option maxRecDepth 100000 in
theorem s_X3_fail (l : Launch) (dC : Nat → ClassId) (dI : Nat → Nat → Nat) (sz : Nat) {L : List Nat} {K : Nat → Nat} {cs : Nat → ClassId} (hLK : ∀ a {k : Nat}, K a = k → k ≠ 0 → a ∈ L) (D : Nat) (F : Nat → va_E) (a0 : Nat) (x1 : Int32) (x2 : Int32) (ha0 : K a0 = 4) (hI : s_I K cs D F) (tt qq : Nat) (hR : s_rd4 K F a0 tt qq) : Met l yX3_fail (Cond.code yX3_fail cX3_fail 3 (some .boolean) :: T0) ({ frames := 0, cells := 0, slots := 0, locals := 0 }) (va_Pc [.ref a0, .int x1, .int x2] (s_W dC dI sz L F [(cs 0, .int), (cs 1, .byte), (cs 2, .long), (cs 3, .object RX5), (cs 4, .object RX4), (cs 5, .array .int), (cs 6, .char), (cs 7, .boolean)])) (va_Qi (fun (r : Int32) (G : Nat → va_E) => (0 ≤ r.toInt ∧ r.toInt ≤ 0) ∧ (True ∧ (∀ vs z, G a0 = .inr (3, vs) → vs[13]? = some (.int z) → z = x1)) ∧ s_I K cs D G ∧ (∀ b, K b ∉ [4] → G b = F b) ∧ s_rd4 K G a0 tt qq) (fun (G : Nat → va_E) (t : State) => va_P (dC, dI) vwCl (va_pl L G) t.heap ∧ va_K (dC, dI) vwCl [(cs 0, .int), (cs 1, .byte), (cs 2, .long), (cs 3, .object RX5), (cs 4, .object RX4), (cs 5, .array .int), (cs 6, .char), (cs 7, .boolean)] t) (fun q => q ∈ L)) 0 0 (fun q => q ∈ L) := by
  refine Met.ofW (cc := cX3_fail) (maxL := 3) (ret := (some .boolean)) (by decide) rfl ?_
  intro p e s m args below meth c s₁ B hml hv
  obtain ⟨rfl, hsz, hP, hK, hD, hN⟩ := hv
  have hx := B.exec
  have hb := B.bytes
  have hr := B.returns
  have hts : ∀ w ∈ T0, w.before _ s = true := fun w h => atoms_spec (ws := Cond.code yX3_fail cX3_fail 3 (some .boolean) :: T0) B.pre w (List.mem_cons_of_mem _ h)
  have hown : s.vm.findClass RX3 = some m.cls := findClass_of_methodNamed B.named
  have hlocks := B.notSynchronized
  have hS : va_S (fun q => q ∈ L) s.heap s.heap [] := va_S.rf
  have hfr : ∀ b, K b ∉ [4] → F b = F b := fun _ _ => rfl
  have hl := lv_entry ([.ref a0, .int x1, .int x2]) (n := 3) (Nat.le_of_ble_eq_true rfl)
  rw [lg_entry_eq]
  generalize (lg_sl ([.ref a0, .int x1, .int x2]) ++ List.replicate (3 - (lg_sl ([.ref a0, .int x1, .int x2])).length) Slot.unset).toArray = ls at hl ⊢
  have hl : lv_has ls 3 [(0, .ref a0), (1, .int x1), (2, .int x2)] := hl
  refine s_gen hP hS (fun H locs hP hS => ?_)
  obtain ⟨z1, z3, z5, z7, z10, z13, z14, z16, z18, z19, z20, z22, z23, o25, h2, h4, h6, h8, h9, h11, h12, h15, h17, h21, h24, -⟩ := hR
  refine lv_aload_n hx hb dX3_fail_0 rfl (lv_at hl 0 rfl) ?_
  refine lv_iload_n hx hb dX3_fail_1 rfl (lv_at hl 1 rfl) ?_
  refine th_put (D := (dC, dI)) (ci := 3) (v := .int x1) (ty := .int) (C := RX3) (T := TX3) (N := 15) hx hb hts inX3 tyX3 tyX3_ok nmX3 hown hK hP hD hS (hLK _ ha0 (by decide)) o25 rfl 13 (by decide) (hts _ T_209) (fun _ h9 => h9) rfl (by decide +kernel) rfl rfl (Nat.le_of_ble_eq_true rfl) dX3_fail_2 (fun H locs hP hS => ?_)
  have hP : va_P (dC, dI) vwCl (va_pl L (va_up F a0 (.inr (3, [.ref z1, .ref z3, .ref z5, .ref z7, .ref tt, .int z10, .ref qq, .int z13, .int z14, .int z16, .int z18, .int z19, .int z20, .int x1, .int z23])))) H := hP
  obtain ⟨F26, hF27⟩ : ∃ G : Nat → va_E, G = va_up F a0 (.inr (3, [.ref z1, .ref z3, .ref z5, .ref z7, .ref tt, .int z10, .ref qq, .int z13, .int z14, .int z16, .int z18, .int z19, .int z20, .int x1, .int z23])) := ⟨_, rfl⟩
  rw [← hF27] at hP
  have hI : s_I K cs D F26 := by rw [hF27]; exact s_cl4 hI ha0 ⟨z1, z3, z5, z7, some tt, z10, some qq, z13, z14, z16, z18, z19, z20, x1, z23, rfl, h2, h4, h6, h8, (fun q e => by cases e; exact h9), ⟨by omega, by omega⟩, ⟨by omega, by omega⟩, ⟨by omega, by omega⟩, ⟨by omega, by omega⟩, trivial⟩
  have hfr : ∀ b, K b ∉ [4] → F26 b = F b := by rw [hF27]; exact s_fr hfr ha0 (by decide)
  have o28 : F26 a0 = .inr (3, [.ref z1, .ref z3, .ref z5, .ref z7, .ref tt, .int z10, .ref qq, .int z13, .int z14, .int z16, .int z18, .int z19, .int z20, .int x1, .int z23]) := by rw [hF27]; exact th_up
  refine lv_aload_n hx hb dX3_fail_5 rfl (lv_at hl 0 rfl) ?_
  refine lv_iload_n hx hb dX3_fail_6 rfl (lv_at hl 2 rfl) ?_
  refine th_put (D := (dC, dI)) (ci := 3) (v := .int x2) (ty := .int) (C := RX3) (T := TX3) (N := 15) hx hb hts inX3 tyX3 tyX3_ok nmX3 hown hK hP hD hS (hLK _ ha0 (by decide)) o28 rfl 14 (by decide) (hts _ T_133) (fun _ h9 => h9) rfl (by decide +kernel) rfl rfl (Nat.le_of_ble_eq_true rfl) dX3_fail_7 (fun H locs hP hS => ?_)
  have hP : va_P (dC, dI) vwCl (va_pl L (va_up F26 a0 (.inr (3, [.ref z1, .ref z3, .ref z5, .ref z7, .ref tt, .int z10, .ref qq, .int z13, .int z14, .int z16, .int z18, .int z19, .int z20, .int x1, .int x2])))) H := hP
  obtain ⟨F29, hF30⟩ : ∃ G : Nat → va_E, G = va_up F26 a0 (.inr (3, [.ref z1, .ref z3, .ref z5, .ref z7, .ref tt, .int z10, .ref qq, .int z13, .int z14, .int z16, .int z18, .int z19, .int z20, .int x1, .int x2])) := ⟨_, rfl⟩
  rw [← hF30] at hP
  have hI : s_I K cs D F29 := by rw [hF30]; exact s_cl4 hI ha0 ⟨z1, z3, z5, z7, some tt, z10, some qq, z13, z14, z16, z18, z19, z20, x1, x2, rfl, h2, h4, h6, h8, (fun q e => by cases e; exact h9), ⟨by omega, by omega⟩, ⟨by omega, by omega⟩, ⟨by omega, by omega⟩, ⟨by omega, by omega⟩, trivial⟩
  have hfr : ∀ b, K b ∉ [4] → F29 b = F b := by rw [hF30]; exact s_fr hfr ha0 (by decide)
  have o31 : F29 a0 = .inr (3, [.ref z1, .ref z3, .ref z5, .ref z7, .ref tt, .int z10, .ref qq, .int z13, .int z14, .int z16, .int z18, .int z19, .int z20, .int x1, .int x2]) := by rw [hF30]; exact th_up
  refine lv_iconst (v := 0) hx hb dX3_fail_10 (by decide) ?_
  exact W.zret (v := 0) (ty := .boolean) hx hb hr (by decide) (fun t ht hW => ⟨⟨0, F29, rfl, ⟨(by decide), ⟨trivial, (fun vs z q q2 => by rw [o31] at q; cases q; cases q2; rfl)⟩, hI, hfr, ⟨z1, z3, z5, z7, z10, z13, z14, z16, z18, z19, z20, x1, x2, o31, h2, h4, h6, h8, h9, ⟨by omega, by omega⟩, h12, ⟨by omega, by omega⟩, ⟨by omega, by omega⟩, ⟨by omega, by omega⟩, (fun q => by first | omega | exact absurd q (by decide)), trivial⟩⟩, by rw [ht]; exact hP, va_K.moved hW.alike hK⟩, hS.F ht⟩) hS.2.2 dX3_fail_11

set_option maxHeartbeats 4000000 in
set_option maxRecDepth 100000 in
theorem s_X3_isLetter (l : Launch) (dC : Nat → ClassId) (dI : Nat → Nat → Nat) (sz : Nat) {L : List Nat} {K : Nat → Nat} {cs : Nat → ClassId} (hLK : ∀ a {k : Nat}, K a = k → k ≠ 0 → a ∈ L) (D : Nat) (F : Nat → va_E) (x0 : Int32)  (hI : s_I K cs D F) : Met l yX3_isLetter (Cond.code yX3_isLetter cX3_isLetter 1 (some .boolean) :: T0) ({ frames := 0, cells := 0, slots := 0, locals := 0 }) (va_Pc [.int x0] (s_W dC dI sz L F [(cs 0, .int), (cs 1, .byte), (cs 2, .long), (cs 3, .object RX5), (cs 4, .object RX4), (cs 5, .array .int), (cs 6, .char), (cs 7, .boolean)])) (va_Qi (fun (r : Int32) (G : Nat → va_E) => (0 ≤ r.toInt ∧ r.toInt ≤ 1) ∧ (¬ r = 0 → 65 ≤ x0.toInt ∧ x0.toInt ≤ 122) ∧ s_I K cs D G ∧ ∀ b, K b ∉ ([] : List Nat) → G b = F b) (fun (G : Nat → va_E) (t : State) => va_P (dC, dI) vwCl (va_pl L G) t.heap ∧ va_K (dC, dI) vwCl [(cs 0, .int), (cs 1, .byte), (cs 2, .long), (cs 3, .object RX5), (cs 4, .object RX4), (cs 5, .array .int), (cs 6, .char), (cs 7, .boolean)] t) (fun q => q ∈ L)) 0 0 (fun q => q ∈ L) := by
  refine Met.ofW (cc := cX3_isLetter) (maxL := 1) (ret := (some .boolean)) (by decide) rfl ?_
  intro p e s m args below meth c s₁ B hml hv
  obtain ⟨rfl, hsz, hP, hK, hD, hN⟩ := hv
  have hx := B.exec
  have hb := B.bytes
  have hr := B.returns
  have hts : ∀ w ∈ T0, w.before _ s = true := fun w h => atoms_spec (ws := Cond.code yX3_isLetter cX3_isLetter 1 (some .boolean) :: T0) B.pre w (List.mem_cons_of_mem _ h)
  have hown : s.vm.findClass RX3 = some m.cls := findClass_of_methodNamed B.named
  have hlocks := B.notSynchronized
  have hS : va_S (fun q => q ∈ L) s.heap s.heap [] := va_S.rf
  have hfr : ∀ b, K b ∉ ([] : List Nat) → F b = F b := fun _ _ => rfl
  have hl := lv_entry ([.int x0]) (n := 1) (Nat.le_of_ble_eq_true rfl)
  rw [lg_entry_eq]
  generalize (lg_sl ([.int x0]) ++ List.replicate (1 - (lg_sl ([.int x0])).length) Slot.unset).toArray = ls at hl ⊢
  have hl : lv_has ls 1 [(0, .int x0)] := hl
  refine s_gen hP hS (fun H locs hP hS => ?_)
  refine lv_iload_n hx hb dX3_isLetter_0 rfl (lv_at hl 0 rfl) ?_
  refine lv_bipush (v := 97) hx hb dX3_isLetter_1 (by decide) ?_
  refine lv_icmp_lt (tgt := 12) hx hb dX3_isLetter_3 (by decide) (fun c1 => ?_) (fun c1 => ?_)
  · have c1 := (ax_lt (n := 97) (by decide)).mp c1
    refine lv_iload_n hx hb dX3_isLetter_12 rfl (lv_at hl 0 rfl) ?_
    refine lv_bipush (v := 65) hx hb dX3_isLetter_13 (by decide) ?_
    refine lv_icmp_lt (tgt := 28) hx hb dX3_isLetter_15 (by decide) (fun c2 => ?_) (fun c2 => ?_)
    · have c2 := (ax_lt (n := 65) (by decide)).mp c2
      refine lv_iconst (v := 0) hx hb dX3_isLetter_28 (by decide) ?_
      exact W.zret (v := 0) (ty := .boolean) hx hb hr (by decide) (fun t ht hW => ⟨⟨0, F, rfl, ⟨(by decide), (fun q => absurd (by decide) q), hI, hfr⟩, by rw [ht]; exact hP, va_K.moved hW.alike hK⟩, hS.F ht⟩) hS.2.2 dX3_isLetter_29
    · have c2 := mt (ax_lt (n := 65) (by decide)).mpr c2
      refine lv_iload_n hx hb dX3_isLetter_18 rfl (lv_at hl 0 rfl) ?_
      refine lv_bipush (v := 90) hx hb dX3_isLetter_19 (by decide) ?_
      refine lv_icmp_gt (tgt := 28) hx hb dX3_isLetter_21 (by decide) (fun c3 => ?_) (fun c3 => ?_)
      · have c3 := (ax_gt (n := 90) (by decide)).mp c3
        refine lv_iconst (v := 0) hx hb dX3_isLetter_28 (by decide) ?_
        exact W.zret (v := 0) (ty := .boolean) hx hb hr (by decide) (fun t ht hW => ⟨⟨0, F, rfl, ⟨(by decide), (fun q => absurd (by decide) q), hI, hfr⟩, by rw [ht]; exact hP, va_K.moved hW.alike hK⟩, hS.F ht⟩) hS.2.2 dX3_isLetter_29
      · have c3 := mt (ax_gt (n := 90) (by decide)).mpr c3
        refine lv_iconst (v := 1) hx hb dX3_isLetter_24 (by decide) ?_
        refine lv_goto (tgt := 29) hx hb dX3_isLetter_25 (by decide) ?_
        exact W.zret (v := 1) (ty := .boolean) hx hb hr (by decide) (fun t ht hW => ⟨⟨1, F, rfl, ⟨(by decide), (fun q => ⟨by omega, by omega⟩), hI, hfr⟩, by rw [ht]; exact hP, va_K.moved hW.alike hK⟩, hS.F ht⟩) hS.2.2 dX3_isLetter_29
  · have c1 := mt (ax_lt (n := 97) (by decide)).mpr c1
    refine lv_iload_n hx hb dX3_isLetter_6 rfl (lv_at hl 0 rfl) ?_
    refine lv_bipush (v := 122) hx hb dX3_isLetter_7 (by decide) ?_
    refine lv_icmp_le (tgt := 24) hx hb dX3_isLetter_9 (by decide) (fun c4 => ?_) (fun c4 => ?_)
    · have c4 := (ax_le (n := 122) (by decide)).mp c4
      refine lv_iconst (v := 1) hx hb dX3_isLetter_24 (by decide) ?_
      refine lv_goto (tgt := 29) hx hb dX3_isLetter_25 (by decide) ?_
      exact W.zret (v := 1) (ty := .boolean) hx hb hr (by decide) (fun t ht hW => ⟨⟨1, F, rfl, ⟨(by decide), (fun q => ⟨by omega, by omega⟩), hI, hfr⟩, by rw [ht]; exact hP, va_K.moved hW.alike hK⟩, hS.F ht⟩) hS.2.2 dX3_isLetter_29
    · have c4 := mt (ax_le (n := 122) (by decide)).mpr c4
      refine lv_iload_n hx hb dX3_isLetter_12 rfl (lv_at hl 0 rfl) ?_
      refine lv_bipush (v := 65) hx hb dX3_isLetter_13 (by decide) ?_
      refine lv_icmp_lt (tgt := 28) hx hb dX3_isLetter_15 (by decide) (fun c5 => ?_) (fun c5 => ?_)
      · have c5 := (ax_lt (n := 65) (by decide)).mp c5
        exact absurd c5 (by omega)
      · have c5 := mt (ax_lt (n := 65) (by decide)).mpr c5
        refine lv_iload_n hx hb dX3_isLetter_18 rfl (lv_at hl 0 rfl) ?_
        refine lv_bipush (v := 90) hx hb dX3_isLetter_19 (by decide) ?_
        refine lv_icmp_gt (tgt := 28) hx hb dX3_isLetter_21 (by decide) (fun c6 => ?_) (fun c6 => ?_)
        · have c6 := (ax_gt (n := 90) (by decide)).mp c6
          refine lv_iconst (v := 0) hx hb dX3_isLetter_28 (by decide) ?_
          exact W.zret (v := 0) (ty := .boolean) hx hb hr (by decide) (fun t ht hW => ⟨⟨0, F, rfl, ⟨(by decide), (fun q => absurd (by decide) q), hI, hfr⟩, by rw [ht]; exact hP, va_K.moved hW.alike hK⟩, hS.F ht⟩) hS.2.2 dX3_isLetter_29
        · have c6 := mt (ax_gt (n := 90) (by decide)).mpr c6
          exact absurd c6 (by omega)

set_option maxHeartbeats 4000000 in
set_option maxRecDepth 100000 in
theorem s_X3_isDigit (l : Launch) (dC : Nat → ClassId) (dI : Nat → Nat → Nat) (sz : Nat) {L : List Nat} {K : Nat → Nat} {cs : Nat → ClassId} (hLK : ∀ a {k : Nat}, K a = k → k ≠ 0 → a ∈ L) (D : Nat) (F : Nat → va_E) (x0 : Int32)  (hI : s_I K cs D F) : Met l yX3_isDigit (Cond.code yX3_isDigit cX3_isDigit 1 (some .boolean) :: T0) ({ frames := 0, cells := 0, slots := 0, locals := 0 }) (va_Pc [.int x0] (s_W dC dI sz L F [(cs 0, .int), (cs 1, .byte), (cs 2, .long), (cs 3, .object RX5), (cs 4, .object RX4), (cs 5, .array .int), (cs 6, .char), (cs 7, .boolean)])) (va_Qi (fun (r : Int32) (G : Nat → va_E) => (0 ≤ r.toInt ∧ r.toInt ≤ 1) ∧ (¬ r = 0 → 48 ≤ x0.toInt ∧ x0.toInt ≤ 57) ∧ s_I K cs D G ∧ ∀ b, K b ∉ ([] : List Nat) → G b = F b) (fun (G : Nat → va_E) (t : State) => va_P (dC, dI) vwCl (va_pl L G) t.heap ∧ va_K (dC, dI) vwCl [(cs 0, .int), (cs 1, .byte), (cs 2, .long), (cs 3, .object RX5), (cs 4, .object RX4), (cs 5, .array .int), (cs 6, .char), (cs 7, .boolean)] t) (fun q => q ∈ L)) 0 0 (fun q => q ∈ L) := by
  refine Met.ofW (cc := cX3_isDigit) (maxL := 1) (ret := (some .boolean)) (by decide) rfl ?_
  intro p e s m args below meth c s₁ B hml hv
  obtain ⟨rfl, hsz, hP, hK, hD, hN⟩ := hv
  have hx := B.exec
  have hb := B.bytes
  have hr := B.returns
  have hts : ∀ w ∈ T0, w.before _ s = true := fun w h => atoms_spec (ws := Cond.code yX3_isDigit cX3_isDigit 1 (some .boolean) :: T0) B.pre w (List.mem_cons_of_mem _ h)
  have hown : s.vm.findClass RX3 = some m.cls := findClass_of_methodNamed B.named
  have hlocks := B.notSynchronized
  have hS : va_S (fun q => q ∈ L) s.heap s.heap [] := va_S.rf
  have hfr : ∀ b, K b ∉ ([] : List Nat) → F b = F b := fun _ _ => rfl
  have hl := lv_entry ([.int x0]) (n := 1) (Nat.le_of_ble_eq_true rfl)
  rw [lg_entry_eq]
  generalize (lg_sl ([.int x0]) ++ List.replicate (1 - (lg_sl ([.int x0])).length) Slot.unset).toArray = ls at hl ⊢
  have hl : lv_has ls 1 [(0, .int x0)] := hl
  refine s_gen hP hS (fun H locs hP hS => ?_)
  refine lv_iload_n hx hb dX3_isDigit_0 rfl (lv_at hl 0 rfl) ?_
  refine lv_bipush (v := 48) hx hb dX3_isDigit_1 (by decide) ?_
  refine lv_icmp_lt (tgt := 16) hx hb dX3_isDigit_3 (by decide) (fun c1 => ?_) (fun c1 => ?_)
  · have c1 := (ax_lt (n := 48) (by decide)).mp c1
    refine lv_iconst (v := 0) hx hb dX3_isDigit_16 (by decide) ?_
    exact W.zret (v := 0) (ty := .boolean) hx hb hr (by decide) (fun t ht hW => ⟨⟨0, F, rfl, ⟨(by decide), (fun q => absurd (by decide) q), hI, hfr⟩, by rw [ht]; exact hP, va_K.moved hW.alike hK⟩, hS.F ht⟩) hS.2.2 dX3_isDigit_17
  · have c1 := mt (ax_lt (n := 48) (by decide)).mpr c1
    refine lv_iload_n hx hb dX3_isDigit_6 rfl (lv_at hl 0 rfl) ?_
    refine lv_bipush (v := 57) hx hb dX3_isDigit_7 (by decide) ?_
    refine lv_icmp_gt (tgt := 16) hx hb dX3_isDigit_9 (by decide) (fun c2 => ?_) (fun c2 => ?_)
    · have c2 := (ax_gt (n := 57) (by decide)).mp c2
      refine lv_iconst (v := 0) hx hb dX3_isDigit_16 (by decide) ?_
      exact W.zret (v := 0) (ty := .boolean) hx hb hr (by decide) (fun t ht hW => ⟨⟨0, F, rfl, ⟨(by decide), (fun q => absurd (by decide) q), hI, hfr⟩, by rw [ht]; exact hP, va_K.moved hW.alike hK⟩, hS.F ht⟩) hS.2.2 dX3_isDigit_17
    · have c2 := mt (ax_gt (n := 57) (by decide)).mpr c2
      refine lv_iconst (v := 1) hx hb dX3_isDigit_12 (by decide) ?_
      refine lv_goto (tgt := 17) hx hb dX3_isDigit_13 (by decide) ?_
      exact W.zret (v := 1) (ty := .boolean) hx hb hr (by decide) (fun t ht hW => ⟨⟨1, F, rfl, ⟨(by decide), (fun q => ⟨by omega, by omega⟩), hI, hfr⟩, by rw [ht]; exact hP, va_K.moved hW.alike hK⟩, hS.F ht⟩) hS.2.2 dX3_isDigit_17

set_option maxHeartbeats 4000000 in
set_option maxRecDepth 100000 in
theorem s_X3_scanWord (l : Launch) (dC : Nat → ClassId) (dI : Nat → Nat → Nat) (sz : Nat) {L : List Nat} {K : Nat → Nat} {cs : Nat → ClassId} (hLK : ∀ a {k : Nat}, K a = k → k ≠ 0 → a ∈ L) (D : Nat) (F : Nat → va_E) (a0 : Nat) (ha0 : K a0 = 4) (hI : s_I K cs D F) (tt qq : Nat) (hR : s_rd5 K F a0 tt qq) : Met l yX3_scanWord (Cond.code yX3_scanWord cX3_scanWord 1 none :: T0) ({ frames := 1, cells := 0, slots := 0, locals := 20 }) (va_Pc [.ref a0] (s_W dC dI sz L F [(cs 0, .int), (cs 1, .byte), (cs 2, .long), (cs 3, .object RX5), (cs 4, .object RX4), (cs 5, .array .int), (cs 6, .char), (cs 7, .boolean)])) (va_Qv (fun (G : Nat → va_E) => True ∧ True ∧ s_I K cs D G ∧ (∀ b, K b ∉ [4] → G b = F b) ∧ s_rd5 K G a0 tt qq) (fun (G : Nat → va_E) (t : State) => va_P (dC, dI) vwCl (va_pl L G) t.heap ∧ va_K (dC, dI) vwCl [(cs 0, .int), (cs 1, .byte), (cs 2, .long), (cs 3, .object RX5), (cs 4, .object RX4), (cs 5, .array .int), (cs 6, .char), (cs 7, .boolean)] t) (fun q => q ∈ L)) 0 0 (fun q => q ∈ L) := by
  refine Met.ofW (cc := cX3_scanWord) (maxL := 1) (ret := none) (by decide) rfl ?_
  intro p e s m args below meth c s₁ B hml hv
  obtain ⟨rfl, hsz, hP, hK, hD, hN⟩ := hv
  have hx := B.exec
  have hb := B.bytes
  have hr := B.returns
  have hts : ∀ w ∈ T0, w.before _ s = true := fun w h => atoms_spec (ws := Cond.code yX3_scanWord cX3_scanWord 1 none :: T0) B.pre w (List.mem_cons_of_mem _ h)
  have hown : s.vm.findClass RX3 = some m.cls := findClass_of_methodNamed B.named
  have hlocks := B.notSynchronized
  have hS : va_S (fun q => q ∈ L) s.heap s.heap [] := va_S.rf
  have hfr : ∀ b, K b ∉ [4] → F b = F b := fun _ _ => rfl
  have hl := lv_entry ([.ref a0]) (n := 1) (Nat.le_of_ble_eq_true rfl)
  rw [lg_entry_eq]
  generalize (lg_sl ([.ref a0]) ++ List.replicate (1 - (lg_sl ([.ref a0])).length) Slot.unset).toArray = ls at hl ⊢
  have hl : lv_has ls 1 [(0, .ref a0)] := hl
  refine s_gen hP hS (fun H locs hP hS => ?_)
  obtain ⟨z1, z3, z5, z7, z10, z13, z14, z16, z18, z19, z20, z22, z23, o24, h2, h4, h6, h8, h9, h11, h12, h15, h17, h21, -⟩ := hR
  refine th_loop (fun n g H locs => ∃ (G : Nat → va_E) (ls : Array Slot) (w25 : Int32), g = F0 m 0 ls [] ∧ lv_has ls 1 [(0, .ref a0)] ∧ s_I K cs D G ∧ va_P (dC, dI) vwCl (va_pl L G) H ∧ va_S (fun q => q ∈ L) s.heap H locs ∧ (∀ b, K b ∉ [4] → G b = F b) ∧ (∀ vs z, G a0 = .inr (3, vs) → vs[9]? = some (.int z) → z = w25) ∧ s_rd5 K G a0 tt qq ∧ n = (1600 - w25.toInt).toNat) _ ⟨F, _, z16, rfl, lv_sub hl [0] rfl, hI, hP, hS, hfr, (fun vs z q q2 => by rw [o24] at q; cases q; cases q2; rfl), ⟨z1, z3, z5, z7, z10, z13, z14, z16, z18, z19, z20, z22, z23, o24, h2, h4, h6, h8, h9, ⟨by omega, by omega⟩, h12, ⟨by omega, by omega⟩, ⟨by omega, by omega⟩, ⟨by omega, by omega⟩, trivial⟩, rfl⟩ (fun n ih0 g H locs hq => ?_)
  obtain ⟨F9, ls, w25, rfl, hl, hI, hP, hS, hfr, h26, h27, hn⟩ := hq
  obtain ⟨z28, z30, z32, z34, z37, z40, z41, z43, z45, z46, z47, z49, z50, o51, h29, h31, h33, h35, h36, h38, h39, h42, h44, h48, -⟩ := h27
  have h52 := congrArg Int32.toInt (h26 _ _ o51 rfl)
  have hn_0 := hn
  obtain ⟨n_0, hn9_0⟩ : ∃ q, q = n := ⟨_, rfl⟩
  refine lv_aload_n hx hb dX3_scanWord_0 rfl (lv_at hl 0 rfl) ?_
  refine th_get (D := (dC, dI)) (ci := 3) (v := .int z43) (C := RX3) (T := TX3) (N := 15) hx hb hts inX3 hown hK hP (hLK _ ha0 (by decide)) o51 rfl 9 (by decide) (hts _ T_205) (fun _ h9 => h9) rfl dX3_scanWord_1 ?_
  refine lv_aload_n hx hb dX3_scanWord_4 rfl (lv_at hl 0 rfl) ?_
  refine th_get (D := (dC, dI)) (ci := 3) (v := .int z37) (C := RX3) (T := TX3) (N := 15) hx hb hts inX3 hown hK hP (hLK _ ha0 (by decide)) o51 rfl 5 (by decide) (hts _ T_207) (fun _ h9 => h9) rfl dX3_scanWord_5 ?_
  refine lv_icmp_ge (tgt := 39) hx hb dX3_scanWord_8 (by decide) (fun c53 => ?_) (fun c53 => ?_)
  · have c53 := Int32.le_iff_toInt_le.mp c53
    exact W.vret hx hb hr (fun t ht hW => ⟨⟨F9, rfl, ⟨trivial, trivial, hI, hfr, ⟨z28, z30, z32, z34, z37, z40, z41, z43, z45, z46, z47, z49, z50, o51, h29, h31, h33, h35, h36, ⟨by omega, by omega⟩, h39, ⟨by omega, by omega⟩, ⟨by omega, by omega⟩, ⟨by omega, by omega⟩, trivial⟩⟩, by rw [ht]; exact hP, va_K.moved hW.alike hK⟩, hS.F ht⟩) hS.2.2 dX3_scanWord_39
  · have c53 := mt Int32.le_iff_toInt_le.mpr c53
    refine lv_aload_n hx hb dX3_scanWord_11 rfl (lv_at hl 0 rfl) ?_
    refine th_get (D := (dC, dI)) (ci := 3) (v := .ref tt) (C := RX3) (T := TX3) (N := 15) hx hb hts inX3 hown hK hP (hLK _ ha0 (by decide)) o51 rfl 4 (by decide) (hts _ T_210) (fun _ h9 => h9) rfl dX3_scanWord_12 ?_
    refine lv_aload_n hx hb dX3_scanWord_15 rfl (lv_at hl 0 rfl) ?_
    refine th_get (D := (dC, dI)) (ci := 3) (v := .int z43) (C := RX3) (T := TX3) (N := 15) hx hb hts inX3 hown hK hP (hLK _ ha0 (by decide)) o51 rfl 9 (by decide) (hts _ T_205) (fun _ h9 => h9) rfl dX3_scanWord_16 ?_
    obtain ⟨f54, o55, h56⟩ := s_op20 hI h36
    refine th_bald hx hb hK hP (hLK _ h36 (by decide)) 1 o55 rfl (th_in ⟨by omega, by omega⟩) dX3_scanWord_19 ?_
    refine lv_topi (fun v57 ev57 => ?_)
    refine va_calli (va_runS (As := [.int v57]) (rest := []) ⟨hx, hb, hml, hown, hts⟩ (s_X3_isLetter l dC dI H.size hLK D F9 v57 hI) (cwS 1 hts (ax_gS T_819 T_821 T_163 T_820) rfl rfl rfl (by decide +kernel) ⟨Nat.le_of_ble_eq_true rfl, Nat.le_of_ble_eq_true rfl⟩) ⟨fun a U g mk q => ⟨q.1, s_pc (U := U) rfl rfl q.2⟩, fun U hU hW => ⟨rfl, s_pw hU hW hP hK hD hN⟩⟩ rfl rfl hl.1 rfl (lv_room (Nat.le_of_ble_eq_true rfl)) dX3_scanWord_20 ⟨Nat.zero_le _, Nat.zero_le _⟩) hS (fun q _ h => h) (fun q h => h) (fun r58 F59 t H1 locs ht hvm hw hB hz1 hk1 hS => ?_)
    obtain ⟨hP, hK1⟩ := hB
    rw [ht] at hP
    generalize H1 = H at hP hS ⊢
    clear hz1 hk1
    obtain ⟨h60, h61, hI, hfr1⟩ := hw
    have o62 : F59 a0 = .inr (3, [.ref z28, .ref z30, .ref z32, .ref z34, .ref tt, .int z37, .ref qq, .int z40, .int z41, .int z43, .int z45, .int z46, .int z47, .int z49, .int z50]) := (hfr1 _ (by rw [ha0]; decide)).trans o51
    have hfr : ∀ b, K b ∉ [4] → F59 b = F b := fun b hb9 => (hfr1 b (fun q => hb9 (s_sub (by decide) q))).trans (hfr b hb9)
    refine lv_if_eq (tgt := 39) hx hb dX3_scanWord_23 (by decide) (fun c63 => ?_) (fun c63 => ?_)
    · have c63 := (ax_eq (n := 0) (by decide)).mp c63
      exact W.vret hx hb hr (fun t ht hW => ⟨⟨F59, rfl, ⟨trivial, trivial, hI, hfr, ⟨z28, z30, z32, z34, z37, z40, z41, z43, z45, z46, z47, z49, z50, o62, h29, h31, h33, h35, h36, ⟨by omega, by omega⟩, h39, ⟨by omega, by omega⟩, ⟨by omega, by omega⟩, ⟨by omega, by omega⟩, trivial⟩⟩, by rw [ht]; exact hP, va_K.moved hW.alike hK⟩, hS.F ht⟩) hS.2.2 dX3_scanWord_39
    · have c63 := mt (ax_eq (n := 0) (by decide)).mpr c63
      have h64 := h61 (fun q => c63 (by rw [q]; decide))
      refine lv_aload_n hx hb dX3_scanWord_26 rfl (lv_at hl 0 rfl) ?_
      refine lv_dup hx hb dX3_scanWord_27 rfl ?_
      refine th_get (D := (dC, dI)) (ci := 3) (v := .int z43) (C := RX3) (T := TX3) (N := 15) hx hb hts inX3 hown hK hP (hLK _ ha0 (by decide)) o62 rfl 9 (by decide) (hts _ T_205) (fun _ h9 => h9) rfl dX3_scanWord_28 ?_
      refine lv_iconst (v := 1) hx hb dX3_scanWord_31 (by decide) ?_
      refine lv_iadd hx hb dX3_scanWord_32 ?_
      refine lv_topi (fun v65 ev65 => ?_)
      have qv65 : v65.toInt = z43.toInt + 1 := by rw [ev65]; exact th_add rfl (by decide) ⟨by omega, by omega⟩
      refine th_put (D := (dC, dI)) (ci := 3) (v := .int v65) (ty := .int) (C := RX3) (T := TX3) (N := 15) hx hb hts inX3 tyX3 tyX3_ok nmX3 hown hK hP hD hS (hLK _ ha0 (by decide)) o62 rfl 9 (by decide) (hts _ T_205) (fun _ h9 => h9) rfl (by decide +kernel) rfl rfl (Nat.le_of_ble_eq_true rfl) dX3_scanWord_33 (fun H locs hP hS => ?_)
      have hP : va_P (dC, dI) vwCl (va_pl L (va_up F59 a0 (.inr (3, [.ref z28, .ref z30, .ref z32, .ref z34, .ref tt, .int z37, .ref qq, .int z40, .int z41, .int v65, .int z45, .int z46, .int z47, .int z49, .int z50])))) H := hP
      obtain ⟨F66, hF67⟩ : ∃ G : Nat → va_E, G = va_up F59 a0 (.inr (3, [.ref z28, .ref z30, .ref z32, .ref z34, .ref tt, .int z37, .ref qq, .int z40, .int z41, .int v65, .int z45, .int z46, .int z47, .int z49, .int z50])) := ⟨_, rfl⟩
      rw [← hF67] at hP
      have hI : s_I K cs D F66 := by rw [hF67]; exact s_cl4 hI ha0 ⟨z28, z30, z32, z34, some tt, z37, some qq, z40, z41, v65, z45, z46, z47, z49, z50, rfl, h29, h31, h33, h35, (fun q e => by cases e; exact h36), ⟨by omega, by omega⟩, ⟨by omega, by omega⟩, ⟨by omega, by omega⟩, ⟨by omega, by omega⟩, trivial⟩
      have hfr : ∀ b, K b ∉ [4] → F66 b = F b := by rw [hF67]; exact s_fr hfr ha0 (by decide)
      have o68 : F66 a0 = .inr (3, [.ref z28, .ref z30, .ref z32, .ref z34, .ref tt, .int z37, .ref qq, .int z40, .int z41, .int v65, .int z45, .int z46, .int z47, .int z49, .int z50]) := by rw [hF67]; exact th_up
      refine lv_goto (tgt := 0) hx hb dX3_scanWord_36 (by decide) ?_
      exact ih0 _ _ _ _ (by omega) ⟨F66, _, v65, rfl, lv_sub hl [0] rfl, hI, hP, hS, hfr, (fun vs z q q2 => by rw [o68] at q; cases q; cases q2; rfl), ⟨z28, z30, z32, z34, z37, z40, z41, v65, z45, z46, z47, z49, z50, o68, h29, h31, h33, h35, h36, ⟨by omega, by omega⟩, h39, ⟨by omega, by omega⟩, ⟨by omega, by omega⟩, ⟨by omega, by omega⟩, trivial⟩, rfl⟩

set_option maxHeartbeats 4000000 in
set_option maxRecDepth 100000 in
theorem s_X3_scanNumber (l : Launch) (dC : Nat → ClassId) (dI : Nat → Nat → Nat) (sz : Nat) {L : List Nat} {K : Nat → Nat} {cs : Nat → ClassId} (hLK : ∀ a {k : Nat}, K a = k → k ≠ 0 → a ∈ L) (D : Nat) (F : Nat → va_E) (a0 : Nat) (ha0 : K a0 = 4) (hI : s_I K cs D F) (tt qq : Nat) (hR : s_rd5 K F a0 tt qq) : Met l yX3_scanNumber (Cond.code yX3_scanNumber cX3_scanNumber 1 none :: T0) ({ frames := 1, cells := 0, slots := 0, locals := 20 }) (va_Pc [.ref a0] (s_W dC dI sz L F [(cs 0, .int), (cs 1, .byte), (cs 2, .long), (cs 3, .object RX5), (cs 4, .object RX4), (cs 5, .array .int), (cs 6, .char), (cs 7, .boolean)])) (va_Qv (fun (G : Nat → va_E) => True ∧ True ∧ s_I K cs D G ∧ (∀ b, K b ∉ [4] → G b = F b) ∧ s_rd5 K G a0 tt qq) (fun (G : Nat → va_E) (t : State) => va_P (dC, dI) vwCl (va_pl L G) t.heap ∧ va_K (dC, dI) vwCl [(cs 0, .int), (cs 1, .byte), (cs 2, .long), (cs 3, .object RX5), (cs 4, .object RX4), (cs 5, .array .int), (cs 6, .char), (cs 7, .boolean)] t) (fun q => q ∈ L)) 0 0 (fun q => q ∈ L) := by
  refine Met.ofW (cc := cX3_scanNumber) (maxL := 1) (ret := none) (by decide) rfl ?_
  intro p e s m args below meth c s₁ B hml hv
  obtain ⟨rfl, hsz, hP, hK, hD, hN⟩ := hv
  have hx := B.exec
  have hb := B.bytes
  have hr := B.returns
  have hts : ∀ w ∈ T0, w.before _ s = true := fun w h => atoms_spec (ws := Cond.code yX3_scanNumber cX3_scanNumber 1 none :: T0) B.pre w (List.mem_cons_of_mem _ h)
  have hown : s.vm.findClass RX3 = some m.cls := findClass_of_methodNamed B.named
  have hlocks := B.notSynchronized
  have hS : va_S (fun q => q ∈ L) s.heap s.heap [] := va_S.rf
  have hfr : ∀ b, K b ∉ [4] → F b = F b := fun _ _ => rfl
  have hl := lv_entry ([.ref a0]) (n := 1) (Nat.le_of_ble_eq_true rfl)
  rw [lg_entry_eq]
  generalize (lg_sl ([.ref a0]) ++ List.replicate (1 - (lg_sl ([.ref a0])).length) Slot.unset).toArray = ls at hl ⊢
  have hl : lv_has ls 1 [(0, .ref a0)] := hl
  refine s_gen hP hS (fun H locs hP hS => ?_)
  obtain ⟨z1, z3, z5, z7, z10, z13, z14, z16, z18, z19, z20, z22, z23, o24, h2, h4, h6, h8, h9, h11, h12, h15, h17, h21, -⟩ := hR
  refine lv_aload_n hx hb dX3_scanNumber_0 rfl (lv_at hl 0 rfl) ?_
  refine lv_iconst (v := 0) hx hb dX3_scanNumber_1 (by decide) ?_
  refine th_put (D := (dC, dI)) (ci := 3) (v := .int 0) (ty := .int) (C := RX3) (T := TX3) (N := 15) hx hb hts inX3 tyX3 tyX3_ok nmX3 hown hK hP hD hS (hLK _ ha0 (by decide)) o24 rfl 11 (by decide) (hts _ T_785) (fun _ h9 => h9) rfl (by decide +kernel) rfl rfl (Nat.le_of_ble_eq_true rfl) dX3_scanNumber_2 (fun H locs hP hS => ?_)
  have hP : va_P (dC, dI) vwCl (va_pl L (va_up F a0 (.inr (3, [.ref z1, .ref z3, .ref z5, .ref z7, .ref tt, .int z10, .ref qq, .int z13, .int z14, .int z16, .int z18, .int 0, .int z20, .int z22, .int z23])))) H := hP
  obtain ⟨F25, hF26⟩ : ∃ G : Nat → va_E, G = va_up F a0 (.inr (3, [.ref z1, .ref z3, .ref z5, .ref z7, .ref tt, .int z10, .ref qq, .int z13, .int z14, .int z16, .int z18, .int 0, .int z20, .int z22, .int z23])) := ⟨_, rfl⟩
  rw [← hF26] at hP
  have hI : s_I K cs D F25 := by rw [hF26]; exact s_cl4 hI ha0 ⟨z1, z3, z5, z7, some tt, z10, some qq, z13, z14, z16, z18, 0, z20, z22, z23, rfl, h2, h4, h6, h8, (fun q e => by cases e; exact h9), ⟨by omega, by omega⟩, ⟨by omega, by omega⟩, ⟨by omega, by omega⟩, ⟨by omega, by omega⟩, trivial⟩
  have hfr : ∀ b, K b ∉ [4] → F25 b = F b := by rw [hF26]; exact s_fr hfr ha0 (by decide)
  have o27 : F25 a0 = .inr (3, [.ref z1, .ref z3, .ref z5, .ref z7, .ref tt, .int z10, .ref qq, .int z13, .int z14, .int z16, .int z18, .int 0, .int z20, .int z22, .int z23]) := by rw [hF26]; exact th_up
  refine th_loop (fun n g H locs => ∃ (G : Nat → va_E) (ls : Array Slot) (w28 : Int32), g = F0 m 5 ls [] ∧ lv_has ls 1 [(0, .ref a0)] ∧ s_I K cs D G ∧ va_P (dC, dI) vwCl (va_pl L G) H ∧ va_S (fun q => q ∈ L) s.heap H locs ∧ (∀ b, K b ∉ [4] → G b = F b) ∧ (∀ vs z, G a0 = .inr (3, vs) → vs[9]? = some (.int z) → z = w28) ∧ s_rd5 K G a0 tt qq ∧ n = (1600 - w28.toInt).toNat) _ ⟨F25, _, z16, rfl, lv_sub hl [0] rfl, hI, hP, hS, hfr, (fun vs z q q2 => by rw [o27] at q; cases q; cases q2; rfl), ⟨z1, z3, z5, z7, z10, z13, z14, z16, z18, 0, z20, z22, z23, o27, h2, h4, h6, h8, h9, ⟨by omega, by omega⟩, h12, ⟨by omega, by omega⟩, ⟨by omega, by omega⟩, ⟨by omega, by omega⟩, trivial⟩, rfl⟩ (fun n ih5 g H locs hq => ?_)
  obtain ⟨F9, ls, w28, rfl, hl, hI, hP, hS, hfr, h29, h30, hn⟩ := hq
  obtain ⟨z31, z33, z35, z37, z40, z43, z44, z46, z48, z49, z50, z52, z53, o54, h32, h34, h36, h38, h39, h41, h42, h45, h47, h51, -⟩ := h30
  have h55 := congrArg Int32.toInt (h29 _ _ o54 rfl)
  have hn_5 := hn
  obtain ⟨n_5, hn9_5⟩ : ∃ q, q = n := ⟨_, rfl⟩
  refine lv_aload_n hx hb dX3_scanNumber_5 rfl (lv_at hl 0 rfl) ?_
  refine th_get (D := (dC, dI)) (ci := 3) (v := .int z46) (C := RX3) (T := TX3) (N := 15) hx hb hts inX3 hown hK hP (hLK _ ha0 (by decide)) o54 rfl 9 (by decide) (hts _ T_205) (fun _ h9 => h9) rfl dX3_scanNumber_6 ?_
  refine lv_aload_n hx hb dX3_scanNumber_9 rfl (lv_at hl 0 rfl) ?_
  refine th_get (D := (dC, dI)) (ci := 3) (v := .int z40) (C := RX3) (T := TX3) (N := 15) hx hb hts inX3 hown hK hP (hLK _ ha0 (by decide)) o54 rfl 5 (by decide) (hts _ T_207) (fun _ h9 => h9) rfl dX3_scanNumber_10 ?_
  refine lv_icmp_ge (tgt := 81) hx hb dX3_scanNumber_13 (by decide) (fun c56 => ?_) (fun c56 => ?_)
  · have c56 := Int32.le_iff_toInt_le.mp c56
    exact W.vret hx hb hr (fun t ht hW => ⟨⟨F9, rfl, ⟨trivial, trivial, hI, hfr, ⟨z31, z33, z35, z37, z40, z43, z44, z46, z48, z49, z50, z52, z53, o54, h32, h34, h36, h38, h39, ⟨by omega, by omega⟩, h42, ⟨by omega, by omega⟩, ⟨by omega, by omega⟩, ⟨by omega, by omega⟩, trivial⟩⟩, by rw [ht]; exact hP, va_K.moved hW.alike hK⟩, hS.F ht⟩) hS.2.2 dX3_scanNumber_81
  · have c56 := mt Int32.le_iff_toInt_le.mpr c56
    refine lv_aload_n hx hb dX3_scanNumber_16 rfl (lv_at hl 0 rfl) ?_
    refine th_get (D := (dC, dI)) (ci := 3) (v := .ref tt) (C := RX3) (T := TX3) (N := 15) hx hb hts inX3 hown hK hP (hLK _ ha0 (by decide)) o54 rfl 4 (by decide) (hts _ T_210) (fun _ h9 => h9) rfl dX3_scanNumber_17 ?_
    refine lv_aload_n hx hb dX3_scanNumber_20 rfl (lv_at hl 0 rfl) ?_
    refine th_get (D := (dC, dI)) (ci := 3) (v := .int z46) (C := RX3) (T := TX3) (N := 15) hx hb hts inX3 hown hK hP (hLK _ ha0 (by decide)) o54 rfl 9 (by decide) (hts _ T_205) (fun _ h9 => h9) rfl dX3_scanNumber_21 ?_
    obtain ⟨f57, o58, h59⟩ := s_op20 hI h39
    refine th_bald hx hb hK hP (hLK _ h39 (by decide)) 1 o58 rfl (th_in ⟨by omega, by omega⟩) dX3_scanNumber_24 ?_
    refine lv_topi (fun v60 ev60 => ?_)
    refine va_calli (va_runS (As := [.int v60]) (rest := []) ⟨hx, hb, hml, hown, hts⟩ (s_X3_isDigit l dC dI H.size hLK D F9 v60 hI) (cwS 1 hts (ax_gS T_830 T_832 T_163 T_831) rfl rfl rfl (by decide +kernel) ⟨Nat.le_of_ble_eq_true rfl, Nat.le_of_ble_eq_true rfl⟩) ⟨fun a U g mk q => ⟨q.1, s_pc (U := U) rfl rfl q.2⟩, fun U hU hW => ⟨rfl, s_pw hU hW hP hK hD hN⟩⟩ rfl rfl hl.1 rfl (lv_room (Nat.le_of_ble_eq_true rfl)) dX3_scanNumber_25 ⟨Nat.zero_le _, Nat.zero_le _⟩) hS (fun q _ h => h) (fun q h => h) (fun r61 F62 t H1 locs ht hvm hw hB hz1 hk1 hS => ?_)
    obtain ⟨hP, hK1⟩ := hB
    rw [ht] at hP
    generalize H1 = H at hP hS ⊢
    clear hz1 hk1
    obtain ⟨h63, h64, hI, hfr1⟩ := hw
    have o65 : F62 a0 = .inr (3, [.ref z31, .ref z33, .ref z35, .ref z37, .ref tt, .int z40, .ref qq, .int z43, .int z44, .int z46, .int z48, .int z49, .int z50, .int z52, .int z53]) := (hfr1 _ (by rw [ha0]; decide)).trans o54
    have hfr : ∀ b, K b ∉ [4] → F62 b = F b := fun b hb9 => (hfr1 b (fun q => hb9 (s_sub (by decide) q))).trans (hfr b hb9)
    refine lv_if_eq (tgt := 81) hx hb dX3_scanNumber_28 (by decide) (fun c66 => ?_) (fun c66 => ?_)
    · have c66 := (ax_eq (n := 0) (by decide)).mp c66
      exact W.vret hx hb hr (fun t ht hW => ⟨⟨F62, rfl, ⟨trivial, trivial, hI, hfr, ⟨z31, z33, z35, z37, z40, z43, z44, z46, z48, z49, z50, z52, z53, o65, h32, h34, h36, h38, h39, ⟨by omega, by omega⟩, h42, ⟨by omega, by omega⟩, ⟨by omega, by omega⟩, ⟨by omega, by omega⟩, trivial⟩⟩, by rw [ht]; exact hP, va_K.moved hW.alike hK⟩, hS.F ht⟩) hS.2.2 dX3_scanNumber_81
    · have c66 := mt (ax_eq (n := 0) (by decide)).mpr c66
      have h67 := h64 (fun q => c66 (by rw [q]; decide))
      refine lv_aload_n hx hb dX3_scanNumber_31 rfl (lv_at hl 0 rfl) ?_
      refine th_get (D := (dC, dI)) (ci := 3) (v := .int z46) (C := RX3) (T := TX3) (N := 15) hx hb hts inX3 hown hK hP (hLK _ ha0 (by decide)) o65 rfl 9 (by decide) (hts _ T_205) (fun _ h9 => h9) rfl dX3_scanNumber_32 ?_
      refine lv_aload_n hx hb dX3_scanNumber_35 rfl (lv_at hl 0 rfl) ?_
      refine th_get (D := (dC, dI)) (ci := 3) (v := .int z44) (C := RX3) (T := TX3) (N := 15) hx hb hts inX3 hown hK hP (hLK _ ha0 (by decide)) o65 rfl 8 (by decide) (hts _ T_206) (fun _ h9 => h9) rfl dX3_scanNumber_36 ?_
      refine lv_isub hx hb dX3_scanNumber_39 ?_
      refine lv_topi (fun v68 ev68 => ?_)
      have qv68 : v68.toInt = z46.toInt - z44.toInt := by rw [ev68]; exact th_sub rfl rfl ⟨by omega, by omega⟩
      refine lv_iconst (v := 3) hx hb dX3_scanNumber_40 (by decide) ?_
      refine lv_icmp_ge (tgt := 68) hx hb dX3_scanNumber_41 (by decide) (fun c69 => ?_) (fun c69 => ?_)
      · have c69 := (ax_ge (n := 3) (by decide)).mp c69
        refine lv_aload_n hx hb dX3_scanNumber_68 rfl (lv_at hl 0 rfl) ?_
        refine lv_dup hx hb dX3_scanNumber_69 rfl ?_
        refine th_get (D := (dC, dI)) (ci := 3) (v := .int z46) (C := RX3) (T := TX3) (N := 15) hx hb hts inX3 hown hK hP (hLK _ ha0 (by decide)) o65 rfl 9 (by decide) (hts _ T_205) (fun _ h9 => h9) rfl dX3_scanNumber_70 ?_
        refine lv_iconst (v := 1) hx hb dX3_scanNumber_73 (by decide) ?_
        refine lv_iadd hx hb dX3_scanNumber_74 ?_
        refine lv_topi (fun v70 ev70 => ?_)
        have qv70 : v70.toInt = z46.toInt + 1 := by rw [ev70]; exact th_add rfl (by decide) ⟨by omega, by omega⟩
        refine th_put (D := (dC, dI)) (ci := 3) (v := .int v70) (ty := .int) (C := RX3) (T := TX3) (N := 15) hx hb hts inX3 tyX3 tyX3_ok nmX3 hown hK hP hD hS (hLK _ ha0 (by decide)) o65 rfl 9 (by decide) (hts _ T_205) (fun _ h9 => h9) rfl (by decide +kernel) rfl rfl (Nat.le_of_ble_eq_true rfl) dX3_scanNumber_75 (fun H locs hP hS => ?_)
        have hP : va_P (dC, dI) vwCl (va_pl L (va_up F62 a0 (.inr (3, [.ref z31, .ref z33, .ref z35, .ref z37, .ref tt, .int z40, .ref qq, .int z43, .int z44, .int v70, .int z48, .int z49, .int z50, .int z52, .int z53])))) H := hP
        obtain ⟨F71, hF72⟩ : ∃ G : Nat → va_E, G = va_up F62 a0 (.inr (3, [.ref z31, .ref z33, .ref z35, .ref z37, .ref tt, .int z40, .ref qq, .int z43, .int z44, .int v70, .int z48, .int z49, .int z50, .int z52, .int z53])) := ⟨_, rfl⟩
        rw [← hF72] at hP
        have hI : s_I K cs D F71 := by rw [hF72]; exact s_cl4 hI ha0 ⟨z31, z33, z35, z37, some tt, z40, some qq, z43, z44, v70, z48, z49, z50, z52, z53, rfl, h32, h34, h36, h38, (fun q e => by cases e; exact h39), ⟨by omega, by omega⟩, ⟨by omega, by omega⟩, ⟨by omega, by omega⟩, ⟨by omega, by omega⟩, trivial⟩
        have hfr : ∀ b, K b ∉ [4] → F71 b = F b := by rw [hF72]; exact s_fr hfr ha0 (by decide)
        have o73 : F71 a0 = .inr (3, [.ref z31, .ref z33, .ref z35, .ref z37, .ref tt, .int z40, .ref qq, .int z43, .int z44, .int v70, .int z48, .int z49, .int z50, .int z52, .int z53]) := by rw [hF72]; exact th_up
        refine lv_goto (tgt := 5) hx hb dX3_scanNumber_78 (by decide) ?_
        exact ih5 _ _ _ _ (by omega) ⟨F71, _, v70, rfl, lv_sub hl [0] rfl, hI, hP, hS, hfr, (fun vs z q q2 => by rw [o73] at q; cases q; cases q2; rfl), ⟨z31, z33, z35, z37, z40, z43, z44, v70, z48, z49, z50, z52, z53, o73, h32, h34, h36, h38, h39, ⟨by omega, by omega⟩, h42, ⟨by omega, by omega⟩, ⟨by omega, by omega⟩, ⟨by omega, by omega⟩, trivial⟩, rfl⟩
      · have c69 := mt (ax_ge (n := 3) (by decide)).mpr c69
        refine lv_aload_n hx hb dX3_scanNumber_44 rfl (lv_at hl 0 rfl) ?_
        refine lv_aload_n hx hb dX3_scanNumber_45 rfl (lv_at hl 0 rfl) ?_
        refine th_get (D := (dC, dI)) (ci := 3) (v := .int z49) (C := RX3) (T := TX3) (N := 15) hx hb hts inX3 hown hK hP (hLK _ ha0 (by decide)) o65 rfl 11 (by decide) (hts _ T_785) (fun _ h9 => h9) rfl dX3_scanNumber_46 ?_
        refine lv_bipush (v := 10) hx hb dX3_scanNumber_49 (by decide) ?_
        refine lv_imul hx hb dX3_scanNumber_51 ?_
        refine lv_topi (fun v74 ev74 => ?_)
        refine lv_aload_n hx hb dX3_scanNumber_52 rfl (lv_at hl 0 rfl) ?_
        refine th_get (D := (dC, dI)) (ci := 3) (v := .ref tt) (C := RX3) (T := TX3) (N := 15) hx hb hts inX3 hown hK hP (hLK _ ha0 (by decide)) o65 rfl 4 (by decide) (hts _ T_210) (fun _ h9 => h9) rfl dX3_scanNumber_53 ?_
        refine lv_aload_n hx hb dX3_scanNumber_56 rfl (lv_at hl 0 rfl) ?_
        refine th_get (D := (dC, dI)) (ci := 3) (v := .int z46) (C := RX3) (T := TX3) (N := 15) hx hb hts inX3 hown hK hP (hLK _ ha0 (by decide)) o65 rfl 9 (by decide) (hts _ T_205) (fun _ h9 => h9) rfl dX3_scanNumber_57 ?_
        obtain ⟨f75, o76, h77⟩ := s_op20 hI h39
        refine th_bald hx hb hK hP (hLK _ h39 (by decide)) 1 o76 rfl (th_in ⟨by omega, by omega⟩) dX3_scanNumber_60 ?_
        refine lv_topi (fun v78 ev78 => ?_)
        refine lv_bipush (v := 48) hx hb dX3_scanNumber_61 (by decide) ?_
        refine lv_isub hx hb dX3_scanNumber_63 ?_
        refine lv_topi (fun v79 ev79 => ?_)
        refine lv_iadd hx hb dX3_scanNumber_64 ?_
        refine lv_topi (fun v80 ev80 => ?_)
        refine th_put (D := (dC, dI)) (ci := 3) (v := .int v80) (ty := .int) (C := RX3) (T := TX3) (N := 15) hx hb hts inX3 tyX3 tyX3_ok nmX3 hown hK hP hD hS (hLK _ ha0 (by decide)) o65 rfl 11 (by decide) (hts _ T_785) (fun _ h9 => h9) rfl (by decide +kernel) rfl rfl (Nat.le_of_ble_eq_true rfl) dX3_scanNumber_65 (fun H locs hP hS => ?_)
        have hP : va_P (dC, dI) vwCl (va_pl L (va_up F62 a0 (.inr (3, [.ref z31, .ref z33, .ref z35, .ref z37, .ref tt, .int z40, .ref qq, .int z43, .int z44, .int z46, .int z48, .int v80, .int z50, .int z52, .int z53])))) H := hP
        obtain ⟨F81, hF82⟩ : ∃ G : Nat → va_E, G = va_up F62 a0 (.inr (3, [.ref z31, .ref z33, .ref z35, .ref z37, .ref tt, .int z40, .ref qq, .int z43, .int z44, .int z46, .int z48, .int v80, .int z50, .int z52, .int z53])) := ⟨_, rfl⟩
        rw [← hF82] at hP
        have hI : s_I K cs D F81 := by rw [hF82]; exact s_cl4 hI ha0 ⟨z31, z33, z35, z37, some tt, z40, some qq, z43, z44, z46, z48, v80, z50, z52, z53, rfl, h32, h34, h36, h38, (fun q e => by cases e; exact h39), ⟨by omega, by omega⟩, ⟨by omega, by omega⟩, ⟨by omega, by omega⟩, ⟨by omega, by omega⟩, trivial⟩
        have hfr : ∀ b, K b ∉ [4] → F81 b = F b := by rw [hF82]; exact s_fr hfr ha0 (by decide)
        have o83 : F81 a0 = .inr (3, [.ref z31, .ref z33, .ref z35, .ref z37, .ref tt, .int z40, .ref qq, .int z43, .int z44, .int z46, .int z48, .int v80, .int z50, .int z52, .int z53]) := by rw [hF82]; exact th_up
        refine lv_aload_n hx hb dX3_scanNumber_68 rfl (lv_at hl 0 rfl) ?_
        refine lv_dup hx hb dX3_scanNumber_69 rfl ?_
        refine th_get (D := (dC, dI)) (ci := 3) (v := .int z46) (C := RX3) (T := TX3) (N := 15) hx hb hts inX3 hown hK hP (hLK _ ha0 (by decide)) o83 rfl 9 (by decide) (hts _ T_205) (fun _ h9 => h9) rfl dX3_scanNumber_70 ?_
        refine lv_iconst (v := 1) hx hb dX3_scanNumber_73 (by decide) ?_
        refine lv_iadd hx hb dX3_scanNumber_74 ?_
        refine lv_topi (fun v84 ev84 => ?_)
        have qv84 : v84.toInt = z46.toInt + 1 := by rw [ev84]; exact th_add rfl (by decide) ⟨by omega, by omega⟩
        refine th_put (D := (dC, dI)) (ci := 3) (v := .int v84) (ty := .int) (C := RX3) (T := TX3) (N := 15) hx hb hts inX3 tyX3 tyX3_ok nmX3 hown hK hP hD hS (hLK _ ha0 (by decide)) o83 rfl 9 (by decide) (hts _ T_205) (fun _ h9 => h9) rfl (by decide +kernel) rfl rfl (Nat.le_of_ble_eq_true rfl) dX3_scanNumber_75 (fun H locs hP hS => ?_)
        have hP : va_P (dC, dI) vwCl (va_pl L (va_up F81 a0 (.inr (3, [.ref z31, .ref z33, .ref z35, .ref z37, .ref tt, .int z40, .ref qq, .int z43, .int z44, .int v84, .int z48, .int v80, .int z50, .int z52, .int z53])))) H := hP
        obtain ⟨F85, hF86⟩ : ∃ G : Nat → va_E, G = va_up F81 a0 (.inr (3, [.ref z31, .ref z33, .ref z35, .ref z37, .ref tt, .int z40, .ref qq, .int z43, .int z44, .int v84, .int z48, .int v80, .int z50, .int z52, .int z53])) := ⟨_, rfl⟩
        rw [← hF86] at hP
        have hI : s_I K cs D F85 := by rw [hF86]; exact s_cl4 hI ha0 ⟨z31, z33, z35, z37, some tt, z40, some qq, z43, z44, v84, z48, v80, z50, z52, z53, rfl, h32, h34, h36, h38, (fun q e => by cases e; exact h39), ⟨by omega, by omega⟩, ⟨by omega, by omega⟩, ⟨by omega, by omega⟩, ⟨by omega, by omega⟩, trivial⟩
        have hfr : ∀ b, K b ∉ [4] → F85 b = F b := by rw [hF86]; exact s_fr hfr ha0 (by decide)
        have o87 : F85 a0 = .inr (3, [.ref z31, .ref z33, .ref z35, .ref z37, .ref tt, .int z40, .ref qq, .int z43, .int z44, .int v84, .int z48, .int v80, .int z50, .int z52, .int z53]) := by rw [hF86]; exact th_up
        refine lv_goto (tgt := 5) hx hb dX3_scanNumber_78 (by decide) ?_
        exact ih5 _ _ _ _ (by omega) ⟨F85, _, v84, rfl, lv_sub hl [0] rfl, hI, hP, hS, hfr, (fun vs z q q2 => by rw [o87] at q; cases q; cases q2; rfl), ⟨z31, z33, z35, z37, z40, z43, z44, v84, z48, v80, z50, z52, z53, o87, h32, h34, h36, h38, h39, ⟨by omega, by omega⟩, h42, ⟨by omega, by omega⟩, ⟨by omega, by omega⟩, ⟨by omega, by omega⟩, trivial⟩, rfl⟩

set_option maxHeartbeats 4000000 in
set_option maxRecDepth 100000 in
theorem s_X3_ownWord (l : Launch) (dC : Nat → ClassId) (dI : Nat → Nat → Nat) (sz : Nat) {L : List Nat} {K : Nat → Nat} {cs : Nat → ClassId} (hLK : ∀ a {k : Nat}, K a = k → k ≠ 0 → a ∈ L) (D : Nat) (adK adV : Nat → Nat) (tf : Option Nat) (F : Nat → va_E) (a0 : Nat) (ha0 : K a0 = 4) (hI : s_I K cs D F) (tt qq : Nat) (hR : s_rd5 K F a0 tt qq) : Met l yX3_ownWord (Cond.code yX3_ownWord cX3_ownWord 6 (some .int) :: T0) ({ frames := 4, cells := 0, slots := 0, locals := 85 }) (va_Pc [.ref a0] (s_WZ dC dI sz L F [(cs 0, .int), (cs 1, .byte), (cs 2, .long), (cs 3, .object RX5), (cs 4, .object RX4), (cs 5, .array .int), (cs 6, .char), (cs 7, .boolean)] adK adV tf)) (va_Qi (fun (r : Int32) (G : Nat → va_E) => True ∧ True ∧ s_I K cs D G ∧ ∀ b, K b ∉ ([] : List Nat) → G b = F b) (fun (G : Nat → va_E) (t : State) => va_P (dC, dI) vwCl (va_pl L G) t.heap ∧ va_K (dC, dI) vwCl [(cs 0, .int), (cs 1, .byte), (cs 2, .long), (cs 3, .object RX5), (cs 4, .object RX4), (cs 5, .array .int), (cs 6, .char), (cs 7, .boolean)] t) (fun q => q ∈ L)) 0 0 (fun q => q ∈ L) := by
  refine Met.ofW (cc := cX3_ownWord) (maxL := 6) (ret := (some .int)) (by decide) rfl ?_
  intro p e s m args below meth c s₁ B hml hv
  obtain ⟨rfl, ⟨hsz, hP, hK, hD, hN⟩, hZ⟩ := hv
  have hx := B.exec
  have hb := B.bytes
  have hr := B.returns
  have hts : ∀ w ∈ T0, w.before _ s = true := fun w h => atoms_spec (ws := Cond.code yX3_ownWord cX3_ownWord 6 (some .int) :: T0) B.pre w (List.mem_cons_of_mem _ h)
  have hown : s.vm.findClass RX3 = some m.cls := findClass_of_methodNamed B.named
  have hlocks := B.notSynchronized
  have hS : va_S (fun q => q ∈ L) s.heap s.heap [] := va_S.rf
  have hfr : ∀ b, K b ∉ ([] : List Nat) → F b = F b := fun _ _ => rfl
  have hl := lv_entry ([.ref a0]) (n := 6) (Nat.le_of_ble_eq_true rfl)
  rw [lg_entry_eq]
  generalize (lg_sl ([.ref a0]) ++ List.replicate (6 - (lg_sl ([.ref a0])).length) Slot.unset).toArray = ls at hl ⊢
  have hl : lv_has ls 6 [(0, .ref a0)] := hl
  refine s_gen hP hS (fun H locs hP hS => ?_)
  obtain ⟨z1, z3, z5, z7, z10, z13, z14, z16, z18, z19, z20, z22, z23, o24, h2, h4, h6, h8, h9, h11, h12, h15, h17, h21, -⟩ := hR
  refine lv_iconst (v := 0) hx hb dX3_ownWord_0 (by decide) ?_
  refine lv_istore_n (lv' := [(1, .int 0), (0, .ref a0)]) hx hb dX3_ownWord_1 rfl hl (by decide) rfl (fun ls hl => ?_)
  refine lv_aload_n hx hb dX3_ownWord_2 rfl (lv_at hl 1 rfl) ?_
  refine th_get (D := (dC, dI)) (ci := 3) (v := .int z14) (C := RX3) (T := TX3) (N := 15) hx hb hts inX3 hown hK hP (hLK _ ha0 (by decide)) o24 rfl 8 (by decide) (hts _ T_206) (fun _ h9 => h9) rfl dX3_ownWord_3 ?_
  refine lv_istore_n (lv' := [(2, .int z14), (1, .int 0), (0, .ref a0)]) hx hb dX3_ownWord_6 rfl hl (by decide) rfl (fun ls hl => ?_)
  refine lv_iconst (v := 1) hx hb dX3_ownWord_7 (by decide) ?_
  refine lv_istore_n (lv' := [(3, .int 1), (2, .int z14), (1, .int 0), (0, .ref a0)]) hx hb dX3_ownWord_8 rfl hl (by decide) rfl (fun ls hl => ?_)
  refine lv_iconst (v := 0) hx hb dX3_ownWord_9 (by decide) ?_
  refine lv_istore (lv' := [(4, .int 0), (3, .int 1), (2, .int z14), (1, .int 0), (0, .ref a0)]) hx hb dX3_ownWord_10 hl (by decide) rfl (fun ls hl => ?_)
  refine th_loop (fun n g H locs => ∃ (G : Nat → va_E) (ls : Array Slot) (w25 : Int32) (w26 : Int32) (w27 : Int32) (w28 : Int32), g = F0 m 12 ls [] ∧ lv_has ls 6 [(0, .ref a0), (1, .int w25), (2, .int w26), (3, .int w27), (4, .int w28)] ∧ s_I K cs D G ∧ va_P (dC, dI) vwCl (va_pl L G) H ∧ va_S (fun q => q ∈ L) s.heap H locs ∧ (∀ b, K b ∉ ([] : List Nat) → G b = F b) ∧ True ∧ (0 ≤ w26.toInt ∧ w26.toInt ≤ 1600) ∧ (0 ≤ w27.toInt ∧ w27.toInt ≤ 1) ∧ (0 ≤ w28.toInt ∧ w28.toInt ≤ 149) ∧ s_rd5 K G a0 tt qq ∧ n = (150 - w28.toInt).toNat) _ ⟨F, _, 0, z14, 1, 0, rfl, lv_sub hl [4, 3, 2, 1, 0] rfl, hI, hP, hS, hfr, trivial, ⟨by omega, by omega⟩, (by decide), (by decide), ⟨z1, z3, z5, z7, z10, z13, z14, z16, z18, z19, z20, z22, z23, o24, h2, h4, h6, h8, h9, ⟨by omega, by omega⟩, h12, ⟨by omega, by omega⟩, ⟨by omega, by omega⟩, ⟨by omega, by omega⟩, trivial⟩, rfl⟩ (fun n ih12 g H locs hq => ?_)
  obtain ⟨F9, ls, w25, w26, w27, w28, rfl, hl, hI, hP, hS, hfr, h29, h30, h31, h32, h33, hn⟩ := hq
  obtain ⟨z34, z36, z38, z40, z43, z46, z47, z49, z51, z52, z53, z55, z56, o57, h35, h37, h39, h41, h42, h44, h45, h48, h50, h54, -⟩ := h33
  have hn_12 := hn
  obtain ⟨n_12, hn9_12⟩ : ∃ q, q = n := ⟨_, rfl⟩
  refine th_join (fun g H locs => ∃ (G : Nat → va_E) (ls : Array Slot) (w58 : Int32) (w59 : Int32) (w60 : Int32), g = F0 m 96 ls [] ∧ lv_has ls 6 [(0, .ref a0), (1, .int w58), (2, .int w59), (3, .int w60), (4, .int w28)] ∧ s_I K cs D G ∧ va_P (dC, dI) vwCl (va_pl L G) H ∧ va_S (fun q => q ∈ L) s.heap H locs ∧ (∀ b, K b ∉ ([] : List Nat) → G b = F b) ∧ True ∧ (0 ≤ w59.toInt ∧ w59.toInt ≤ 1600) ∧ (0 ≤ w60.toInt ∧ w60.toInt ≤ 1) ∧ (0 ≤ w28.toInt ∧ w28.toInt ≤ 126) ∧ s_rd5 K G a0 tt qq) (fun K96 => ?_) ?_
  refine th_join (fun g H locs => ∃ (G : Nat → va_E) (ls : Array Slot) (w61 : Int32) (w62 : Int32), g = F0 m 94 ls [] ∧ lv_has ls 6 [(0, .ref a0), (1, .int w61), (2, .int w62), (4, .int w28)] ∧ s_I K cs D G ∧ va_P (dC, dI) vwCl (va_pl L G) H ∧ va_S (fun q => q ∈ L) s.heap H locs ∧ (∀ b, K b ∉ ([] : List Nat) → G b = F b) ∧ True ∧ (0 ≤ w62.toInt ∧ w62.toInt ≤ 1600) ∧ (0 ≤ w28.toInt ∧ w28.toInt ≤ 126) ∧ s_rd5 K G a0 tt qq) (fun K94 => ?_) ?_
  refine th_join (fun g H locs => ∃ (G : Nat → va_E) (ls : Array Slot), g = F0 m 52 ls [] ∧ lv_has ls 6 [(0, .ref a0), (1, .int w25), (4, .int w28)] ∧ s_I K cs D G ∧ va_P (dC, dI) vwCl (va_pl L G) H ∧ va_S (fun q => q ∈ L) s.heap H locs ∧ (∀ b, K b ∉ ([] : List Nat) → G b = F b) ∧ (0 ≤ w28.toInt ∧ w28.toInt ≤ 126) ∧ s_rd5 K G a0 tt qq) (fun K52 => ?_) ?_
  · refine lv_iload hx hb dX3_ownWord_12 (lv_at hl 4 rfl) ?_
    refine va_ldcS hx hb hown (show vk_R RX3 191 "set add sub mul rem lane warp load store get put swap go bar yield end warps word mode stack fair order age turns if a b c d " (adK 11) s from hZ.2.2.2 11 (by decide)) dX3_ownWord_14 ?_
    refine va_calli (va_runV (As := []) (rest := [.int w28]) ⟨hx, hb, hml, hown, hts⟩ (s_J0_length_8abf5 l dC dI H.size hLK D adK adV tf F9 11 (by decide) hI) (cwV 0 hts (ax_gV T_769 T_771 T_772 T_445 T_770) rfl rfl rfl (by decide +kernel) ⟨Nat.le_of_ble_eq_true rfl, Nat.le_of_ble_eq_true rfl⟩) ⟨fun a U g mk q => ⟨q.1, s_pc (U := U) rfl rfl q.2.1, s_pcZ (U := U) rfl rfl q.2.2⟩, vk_recv hZ.2.2.1 (by decide) hS, fun U hU hW => ⟨rfl, s_pw hU hW hP hK hD hN, s_pwZ hU hW hS hZ⟩⟩ rfl rfl hl.1 rfl (lv_room (Nat.le_of_ble_eq_true rfl)) dX3_ownWord_16 ⟨Nat.zero_le _, Nat.zero_le _⟩) hS (fun q _ h => h) (fun q h => h) (fun r63 F64 t H1 locs ht hvm hw hB hz1 hk1 hS => ?_)
    obtain ⟨hP, hK1⟩ := hB
    rw [ht] at hP
    generalize H1 = H at hP hS ⊢
    clear hz1 hk1
    obtain ⟨h65, h66, hI, hfr1⟩ := hw
    have o67 : F64 a0 = .inr (3, [.ref z34, .ref z36, .ref z38, .ref z40, .ref tt, .int z43, .ref qq, .int z46, .int z47, .int z49, .int z51, .int z52, .int z53, .int z55, .int z56]) := (hfr1 _ (by rw [ha0]; decide)).trans o57
    have hfr : ∀ b, K b ∉ ([] : List Nat) → F64 b = F b := fun b hb9 => (hfr1 b (fun q => hb9 (s_sub (by decide) q))).trans (hfr b hb9)
    obtain ⟨h66, h68⟩ := h66
    have h68 : (r63.toInt = ((125 : Nat) : Int)) := h68
    refine lv_icmp_ge (tgt := 102) hx hb dX3_ownWord_19 (by decide) (fun c69 => ?_) (fun c69 => ?_)
    · have c69 := Int32.le_iff_toInt_le.mp c69
      refine lv_iconst (v := (-1)) hx hb dX3_ownWord_102 (by decide) ?_
      exact W.iret (v := (-1)) hx hb hr (fun t ht hW => ⟨⟨(-1), F64, rfl, ⟨trivial, trivial, hI, hfr⟩, by rw [ht]; exact hP, va_K.moved hW.alike hK⟩, hS.F ht⟩) hS.2.2 dX3_ownWord_103
    · have c69 := mt Int32.le_iff_toInt_le.mpr c69
      refine va_ldcS hx hb hown (show vk_R RX3 191 "set add sub mul rem lane warp load store get put swap go bar yield end warps word mode stack fair order age turns if a b c d " (adK 11) s from hZ.2.2.2 11 (by decide)) dX3_ownWord_22 ?_
      refine lv_iload hx hb dX3_ownWord_24 (lv_at hl 4 rfl) ?_
      refine va_calli (va_runV (As := [.int w28]) (rest := []) ⟨hx, hb, hml, hown, hts⟩ (s_J0_charAt_5068e l dC dI H.size hLK D adK adV tf F64 11 w28 (by decide) hI ⟨by omega, by show _ < ((125 : Nat) : Int); omega⟩) (cwV 1 hts (ax_gV T_773 T_775 T_776 T_445 T_774) rfl rfl rfl (by decide +kernel) ⟨Nat.le_of_ble_eq_true rfl, Nat.le_of_ble_eq_true rfl⟩) ⟨fun a U g mk q => ⟨q.1, s_pc (U := U) rfl rfl q.2.1, s_pcZ (U := U) rfl rfl q.2.2⟩, vk_recv hZ.2.2.1 (by decide) hS, fun U hU hW => ⟨rfl, s_pw hU hW hP hK hD hN, s_pwZ hU hW hS hZ⟩⟩ rfl rfl hl.1 rfl (lv_room (Nat.le_of_ble_eq_true rfl)) dX3_ownWord_26 ⟨Nat.zero_le _, Nat.zero_le _⟩) hS (fun q _ h => h) (fun q h => h) (fun r70 F71 t H1 locs ht hvm hw hB hz1 hk1 hS => ?_)
      obtain ⟨hP, hK1⟩ := hB
      rw [ht] at hP
      generalize H1 = H at hP hS ⊢
      clear hz1 hk1
      obtain ⟨h72, h73, hI, hfr1⟩ := hw
      have o74 : F71 a0 = .inr (3, [.ref z34, .ref z36, .ref z38, .ref z40, .ref tt, .int z43, .ref qq, .int z46, .int z47, .int z49, .int z51, .int z52, .int z53, .int z55, .int z56]) := (hfr1 _ (by rw [ha0]; decide)).trans o67
      have hfr : ∀ b, K b ∉ ([] : List Nat) → F71 b = F b := fun b hb9 => (hfr1 b (fun q => hb9 (s_sub (by decide) q))).trans (hfr b hb9)
      obtain ⟨h73, h75⟩ := h73
      have h75 : (r70 = (s_byt.getD 11 []).getD w28.toNatClampNeg 0) := h75
      refine lv_istore (lv' := [(5, .int r70), (0, .ref a0), (1, .int w25), (2, .int w26), (3, .int w27), (4, .int w28)]) hx hb dX3_ownWord_29 hl (by decide) rfl (fun ls hl => ?_)
      refine lv_iload hx hb dX3_ownWord_31 (lv_at hl 0 rfl) ?_
      refine lv_bipush (v := 32) hx hb dX3_ownWord_33 (by decide) ?_
      refine lv_icmp_ne (tgt := 65) hx hb dX3_ownWord_35 (by decide) (fun c76 => ?_) (fun c76 => ?_)
      · have c76 := mt (ax_eq (n := 32) (by decide)).mpr c76
        refine lv_iload_n hx hb dX3_ownWord_65 rfl (lv_at hl 4 rfl) ?_
        refine lv_if_eq (tgt := 94) hx hb dX3_ownWord_66 (by decide) (fun c77 => ?_) (fun c77 => ?_)
        · have c77 := (ax_eq (n := 0) (by decide)).mp c77
          exact K94 _ _ _ ⟨F71, _, w25, w26, rfl, lv_sub hl [1, 2, 3, 5] rfl, hI, hP, hS, hfr, trivial, ⟨by omega, by omega⟩, ⟨by omega, by omega⟩, ⟨z34, z36, z38, z40, z43, z46, z47, z49, z51, z52, z53, z55, z56, o74, h35, h37, h39, h41, h42, ⟨by omega, by omega⟩, h45, ⟨by omega, by omega⟩, ⟨by omega, by omega⟩, ⟨by omega, by omega⟩, trivial⟩⟩
        · have c77 := mt (ax_eq (n := 0) (by decide)).mpr c77
          refine lv_iload_n hx hb dX3_ownWord_69 rfl (lv_at hl 3 rfl) ?_
          refine lv_aload_n hx hb dX3_ownWord_70 rfl (lv_at hl 1 rfl) ?_
          refine th_get (D := (dC, dI)) (ci := 3) (v := .int z49) (C := RX3) (T := TX3) (N := 15) hx hb hts inX3 hown hK hP (hLK _ ha0 (by decide)) o74 rfl 9 (by decide) (hts _ T_205) (fun _ h9 => h9) rfl dX3_ownWord_71 ?_
          refine lv_icmp_ge (tgt := 94) hx hb dX3_ownWord_74 (by decide) (fun c78 => ?_) (fun c78 => ?_)
          · have c78 := Int32.le_iff_toInt_le.mp c78
            exact K94 _ _ _ ⟨F71, _, w25, w26, rfl, lv_sub hl [1, 2, 3, 5] rfl, hI, hP, hS, hfr, trivial, ⟨by omega, by omega⟩, ⟨by omega, by omega⟩, ⟨z34, z36, z38, z40, z43, z46, z47, z49, z51, z52, z53, z55, z56, o74, h35, h37, h39, h41, h42, ⟨by omega, by omega⟩, h45, ⟨by omega, by omega⟩, ⟨by omega, by omega⟩, ⟨by omega, by omega⟩, trivial⟩⟩
          · have c78 := mt Int32.le_iff_toInt_le.mpr c78
            refine lv_aload_n hx hb dX3_ownWord_77 rfl (lv_at hl 1 rfl) ?_
            refine th_get (D := (dC, dI)) (ci := 3) (v := .ref tt) (C := RX3) (T := TX3) (N := 15) hx hb hts inX3 hown hK hP (hLK _ ha0 (by decide)) o74 rfl 4 (by decide) (hts _ T_210) (fun _ h9 => h9) rfl dX3_ownWord_78 ?_
            refine lv_iload_n hx hb dX3_ownWord_81 rfl (lv_at hl 3 rfl) ?_
            obtain ⟨f79, o80, h81⟩ := s_op20 hI h42
            refine th_bald hx hb hK hP (hLK _ h42 (by decide)) 1 o80 rfl (th_in ⟨by omega, by omega⟩) dX3_ownWord_82 ?_
            refine lv_topi (fun v82 ev82 => ?_)
            refine lv_iload hx hb dX3_ownWord_83 (lv_at hl 0 rfl) ?_
            refine lv_icmp_ne (tgt := 94) hx hb dX3_ownWord_85 (by decide) (fun c83 => ?_) (fun c83 => ?_)
            · have c83 := mt Int32.toInt_inj.symm.mpr c83
              exact K94 _ _ _ ⟨F71, _, w25, w26, rfl, lv_sub hl [1, 2, 3, 5] rfl, hI, hP, hS, hfr, trivial, ⟨by omega, by omega⟩, ⟨by omega, by omega⟩, ⟨z34, z36, z38, z40, z43, z46, z47, z49, z51, z52, z53, z55, z56, o74, h35, h37, h39, h41, h42, ⟨by omega, by omega⟩, h45, ⟨by omega, by omega⟩, ⟨by omega, by omega⟩, ⟨by omega, by omega⟩, trivial⟩⟩
            · have c83 := Int32.toInt_inj.symm.mp c83
              obtain ⟨v84, ev84⟩ : ∃ y : Int32, w26 + 1 = y := ⟨_, rfl⟩
              have qv84 : v84.toInt = w26.toInt + 1 := by rw [← ev84]; exact th_add rfl (by decide) ⟨by omega, by omega⟩
              refine lv_iinc (v := v84) (lv' := [(2, .int v84), (5, .int r70), (0, .ref a0), (1, .int w25), (3, .int w27), (4, .int w28)]) hx hb dX3_ownWord_88 hl (k := 3) rfl ev84 (by decide) rfl (fun ls hl => ?_)
              refine lv_goto (tgt := 96) hx hb dX3_ownWord_91 (by decide) ?_
              exact K96 _ _ _ ⟨F71, _, w25, v84, w27, rfl, lv_sub hl [2, 3, 0, 4, 5] rfl, hI, hP, hS, hfr, trivial, ⟨by omega, by omega⟩, ⟨by omega, by omega⟩, ⟨by omega, by omega⟩, ⟨z34, z36, z38, z40, z43, z46, z47, z49, z51, z52, z53, z55, z56, o74, h35, h37, h39, h41, h42, ⟨by omega, by omega⟩, h45, ⟨by omega, by omega⟩, ⟨by omega, by omega⟩, ⟨by omega, by omega⟩, trivial⟩⟩
      · have c76 := (ax_eq (n := 32) (by decide)).mp c76
        refine lv_iload_n hx hb dX3_ownWord_38 rfl (lv_at hl 4 rfl) ?_
        refine lv_if_eq (tgt := 52) hx hb dX3_ownWord_39 (by decide) (fun c85 => ?_) (fun c85 => ?_)
        · have c85 := (ax_eq (n := 0) (by decide)).mp c85
          exact K52 _ _ _ ⟨F71, _, rfl, lv_sub hl [1, 2, 5] rfl, hI, hP, hS, hfr, ⟨by omega, by omega⟩, ⟨z34, z36, z38, z40, z43, z46, z47, z49, z51, z52, z53, z55, z56, o74, h35, h37, h39, h41, h42, ⟨by omega, by omega⟩, h45, ⟨by omega, by omega⟩, ⟨by omega, by omega⟩, ⟨by omega, by omega⟩, trivial⟩⟩
        · have c85 := mt (ax_eq (n := 0) (by decide)).mpr c85
          refine lv_iload_n hx hb dX3_ownWord_42 rfl (lv_at hl 3 rfl) ?_
          refine lv_aload_n hx hb dX3_ownWord_43 rfl (lv_at hl 1 rfl) ?_
          refine th_get (D := (dC, dI)) (ci := 3) (v := .int z49) (C := RX3) (T := TX3) (N := 15) hx hb hts inX3 hown hK hP (hLK _ ha0 (by decide)) o74 rfl 9 (by decide) (hts _ T_205) (fun _ h9 => h9) rfl dX3_ownWord_44 ?_
          refine lv_icmp_ne (tgt := 52) hx hb dX3_ownWord_47 (by decide) (fun c86 => ?_) (fun c86 => ?_)
          · have c86 := mt Int32.toInt_inj.symm.mpr c86
            exact K52 _ _ _ ⟨F71, _, rfl, lv_sub hl [1, 2, 5] rfl, hI, hP, hS, hfr, ⟨by omega, by omega⟩, ⟨z34, z36, z38, z40, z43, z46, z47, z49, z51, z52, z53, z55, z56, o74, h35, h37, h39, h41, h42, ⟨by omega, by omega⟩, h45, ⟨by omega, by omega⟩, ⟨by omega, by omega⟩, ⟨by omega, by omega⟩, trivial⟩⟩
          · have c86 := Int32.toInt_inj.symm.mp c86
            refine lv_iload_n hx hb dX3_ownWord_50 rfl (lv_at hl 2 rfl) ?_
            exact W.iret (v := w25) hx hb hr (fun t ht hW => ⟨⟨w25, F71, rfl, ⟨trivial, trivial, hI, hfr⟩, by rw [ht]; exact hP, va_K.moved hW.alike hK⟩, hS.F ht⟩) hS.2.2 dX3_ownWord_51
  · intro g H locs hq
    obtain ⟨F9, ls, rfl, hl, hI, hP, hS, hfr, h87, h88⟩ := hq
    obtain ⟨z89, z91, z93, z95, z98, z101, z102, z104, z106, z107, z108, z110, z111, o112, h90, h92, h94, h96, h97, h99, h100, h103, h105, h109, -⟩ := h88
    obtain ⟨v113, ev113⟩ : ∃ y : Int32, w25 + 1 = y := ⟨_, rfl⟩
    refine lv_iinc (v := v113) (lv' := [(1, .int v113), (0, .ref a0), (4, .int w28)]) hx hb dX3_ownWord_52 hl (k := 1) rfl ev113 (by decide) rfl (fun ls hl => ?_)
    refine lv_aload_n hx hb dX3_ownWord_55 rfl (lv_at hl 1 rfl) ?_
    refine th_get (D := (dC, dI)) (ci := 3) (v := .int z102) (C := RX3) (T := TX3) (N := 15) hx hb hts inX3 hown hK hP (hLK _ ha0 (by decide)) o112 rfl 8 (by decide) (hts _ T_206) (fun _ h9 => h9) rfl dX3_ownWord_56 ?_
    refine lv_istore_n (lv' := [(2, .int z102), (1, .int v113), (0, .ref a0), (4, .int w28)]) hx hb dX3_ownWord_59 rfl hl (by decide) rfl (fun ls hl => ?_)
    refine lv_iconst (v := 1) hx hb dX3_ownWord_60 (by decide) ?_
    refine lv_istore_n (lv' := [(3, .int 1), (2, .int z102), (1, .int v113), (0, .ref a0), (4, .int w28)]) hx hb dX3_ownWord_61 rfl hl (by decide) rfl (fun ls hl => ?_)
    refine lv_goto (tgt := 96) hx hb dX3_ownWord_62 (by decide) ?_
    exact K96 _ _ _ ⟨F9, _, v113, z102, 1, rfl, lv_sub hl [3, 2, 1, 0, 4] rfl, hI, hP, hS, hfr, trivial, ⟨by omega, by omega⟩, (by decide), ⟨by omega, by omega⟩, ⟨z89, z91, z93, z95, z98, z101, z102, z104, z106, z107, z108, z110, z111, o112, h90, h92, h94, h96, h97, ⟨by omega, by omega⟩, h100, ⟨by omega, by omega⟩, ⟨by omega, by omega⟩, ⟨by omega, by omega⟩, trivial⟩⟩
  · intro g H locs hq
    obtain ⟨F9, ls, w61, w62, rfl, hl, hI, hP, hS, hfr, h114, h115, h116, h117⟩ := hq
    obtain ⟨z118, z120, z122, z124, z127, z130, z131, z133, z135, z136, z137, z139, z140, o141, h119, h121, h123, h125, h126, h128, h129, h132, h134, h138, -⟩ := h117
    refine lv_iconst (v := 0) hx hb dX3_ownWord_94 (by decide) ?_
    refine lv_istore_n (lv' := [(3, .int 0), (0, .ref a0), (1, .int w61), (2, .int w62), (4, .int w28)]) hx hb dX3_ownWord_95 rfl hl (by decide) rfl (fun ls hl => ?_)
    exact K96 _ _ _ ⟨F9, _, w61, w62, 0, rfl, lv_sub hl [1, 2, 3, 0, 4] rfl, hI, hP, hS, hfr, trivial, ⟨by omega, by omega⟩, (by decide), ⟨by omega, by omega⟩, ⟨z118, z120, z122, z124, z127, z130, z131, z133, z135, z136, z137, z139, z140, o141, h119, h121, h123, h125, h126, ⟨by omega, by omega⟩, h129, ⟨by omega, by omega⟩, ⟨by omega, by omega⟩, ⟨by omega, by omega⟩, trivial⟩⟩
  · intro g H locs hq
    obtain ⟨F9, ls, w58, w59, w60, rfl, hl, hI, hP, hS, hfr, h142, h143, h144, h145, h146⟩ := hq
    obtain ⟨z147, z149, z151, z153, z156, z159, z160, z162, z164, z165, z166, z168, z169, o170, h148, h150, h152, h154, h155, h157, h158, h161, h163, h167, -⟩ := h146
    obtain ⟨v171, ev171⟩ : ∃ y : Int32, w28 + 1 = y := ⟨_, rfl⟩
    have qv171 : v171.toInt = w28.toInt + 1 := by rw [← ev171]; exact th_add rfl (by decide) ⟨by omega, by omega⟩
    refine lv_iinc (v := v171) (lv' := [(4, .int v171), (0, .ref a0), (1, .int w58), (2, .int w59), (3, .int w60)]) hx hb dX3_ownWord_96 hl (k := 4) rfl ev171 (by decide) rfl (fun ls hl => ?_)
    refine lv_goto (tgt := 12) hx hb dX3_ownWord_99 (by decide) ?_
    exact ih12 _ _ _ _ (by omega) ⟨F9, _, w58, w59, w60, v171, rfl, lv_sub hl [1, 2, 3, 4, 0] rfl, hI, hP, hS, hfr, trivial, ⟨by omega, by omega⟩, ⟨by omega, by omega⟩, ⟨by omega, by omega⟩, ⟨z147, z149, z151, z153, z156, z159, z160, z162, z164, z165, z166, z168, z169, o170, h148, h150, h152, h154, h155, ⟨by omega, by omega⟩, h158, ⟨by omega, by omega⟩, ⟨by omega, by omega⟩, ⟨by omega, by omega⟩, trivial⟩, rfl⟩

set_option maxHeartbeats 4000000 in
set_option maxRecDepth 100000 in
theorem s_X3_scan (l : Launch) (dC : Nat → ClassId) (dI : Nat → Nat → Nat) (sz : Nat) {L : List Nat} {K : Nat → Nat} {cs : Nat → ClassId} (hLK : ∀ a {k : Nat}, K a = k → k ≠ 0 → a ∈ L) (D : Nat) (adK adV : Nat → Nat) (tf : Option Nat) (F : Nat → va_E) (a0 : Nat) (ha0 : K a0 = 4) (hI : s_I K cs D F) (tt qq : Nat) (hR : s_rd5 K F a0 tt qq) : Met l yX3_scan (Cond.code yX3_scan cX3_scan 3 none :: T0) ({ frames := 5, cells := 0, slots := 0, locals := 110 }) (va_Pc [.ref a0] (s_WZ dC dI sz L F [(cs 0, .int), (cs 1, .byte), (cs 2, .long), (cs 3, .object RX5), (cs 4, .object RX4), (cs 5, .array .int), (cs 6, .char), (cs 7, .boolean)] adK adV tf)) (va_Qv (fun (G : Nat → va_E) => True ∧ True ∧ s_I K cs D G ∧ (∀ b, K b ∉ [4] → G b = F b) ∧ s_rd4 K G a0 tt qq) (fun (G : Nat → va_E) (t : State) => va_P (dC, dI) vwCl (va_pl L G) t.heap ∧ va_K (dC, dI) vwCl [(cs 0, .int), (cs 1, .byte), (cs 2, .long), (cs 3, .object RX5), (cs 4, .object RX4), (cs 5, .array .int), (cs 6, .char), (cs 7, .boolean)] t) (fun q => q ∈ L)) 0 0 (fun q => q ∈ L) := by
  refine Met.ofW (cc := cX3_scan) (maxL := 3) (ret := none) (by decide) rfl ?_
  intro p e s m args below meth c s₁ B hml hv
  obtain ⟨rfl, ⟨hsz, hP, hK, hD, hN⟩, hZ⟩ := hv
  have hx := B.exec
  have hb := B.bytes
  have hr := B.returns
  have hts : ∀ w ∈ T0, w.before _ s = true := fun w h => atoms_spec (ws := Cond.code yX3_scan cX3_scan 3 none :: T0) B.pre w (List.mem_cons_of_mem _ h)
  have hown : s.vm.findClass RX3 = some m.cls := findClass_of_methodNamed B.named
  have hlocks := B.notSynchronized
  have hS : va_S (fun q => q ∈ L) s.heap s.heap [] := va_S.rf
  have hfr : ∀ b, K b ∉ [4] → F b = F b := fun _ _ => rfl
  have hl := lv_entry ([.ref a0]) (n := 3) (Nat.le_of_ble_eq_true rfl)
  rw [lg_entry_eq]
  generalize (lg_sl ([.ref a0]) ++ List.replicate (3 - (lg_sl ([.ref a0])).length) Slot.unset).toArray = ls at hl ⊢
  have hl : lv_has ls 3 [(0, .ref a0)] := hl
  refine s_gen hP hS (fun H locs hP hS => ?_)
  obtain ⟨z1, z3, z5, z7, z10, z13, z14, z16, z18, z19, z20, z22, z23, o24, h2, h4, h6, h8, h9, h11, h12, h15, h17, h21, -⟩ := hR
  refine th_join (fun g H locs => ∃ (G : Nat → va_E) (ls : Array Slot) (w25 : Int32), g = F0 m 102 ls [.int w25] ∧ lv_has ls 3 [(0, .ref a0)] ∧ s_I K cs D G ∧ va_P (dC, dI) vwCl (va_pl L G) H ∧ va_S (fun q => q ∈ L) s.heap H locs ∧ (∀ b, K b ∉ [4] → G b = F b) ∧ (0 ≤ w25.toInt ∧ w25.toInt ≤ 1) ∧ s_rd5 K G a0 tt qq) (fun K102 => ?_) ?_
  refine th_join (fun g H locs => ∃ (G : Nat → va_E) (ls : Array Slot), g = F0 m 101 ls [] ∧ lv_has ls 3 [(0, .ref a0)] ∧ s_I K cs D G ∧ va_P (dC, dI) vwCl (va_pl L G) H ∧ va_S (fun q => q ∈ L) s.heap H locs ∧ (∀ b, K b ∉ [4] → G b = F b) ∧ s_rd5 K G a0 tt qq) (fun K101 => ?_) ?_
  refine th_join (fun g H locs => ∃ (G : Nat → va_E) (ls : Array Slot) (w26 : Int32), g = F0 m 82 ls [] ∧ lv_has ls 3 [(0, .ref a0), (1, .int w26)] ∧ s_I K cs D G ∧ va_P (dC, dI) vwCl (va_pl L G) H ∧ va_S (fun q => q ∈ L) s.heap H locs ∧ (∀ b, K b ∉ [4] → G b = F b) ∧ (0 ≤ w26.toInt ∧ w26.toInt ≤ 1) ∧ s_rd5 K G a0 tt qq) (fun K82 => ?_) ?_
  refine th_join (fun g H locs => ∃ (G : Nat → va_E) (ls : Array Slot) (w27 : Int32), g = F0 m 21 ls [.int w27] ∧ lv_has ls 3 [(0, .ref a0)] ∧ s_I K cs D G ∧ va_P (dC, dI) vwCl (va_pl L G) H ∧ va_S (fun q => q ∈ L) s.heap H locs ∧ (∀ b, K b ∉ [4] → G b = F b) ∧ (0 ≤ w27.toInt ∧ w27.toInt ≤ 1) ∧ s_rd5 K G a0 tt qq) (fun K21 => ?_) ?_
  refine th_join (fun g H locs => ∃ (G : Nat → va_E) (ls : Array Slot), g = F0 m 16 ls [] ∧ lv_has ls 3 [(0, .ref a0)] ∧ s_I K cs D G ∧ va_P (dC, dI) vwCl (va_pl L G) H ∧ va_S (fun q => q ∈ L) s.heap H locs ∧ (∀ b, K b ∉ [4] → G b = F b) ∧ s_rd5 K G a0 tt qq) (fun K16 => ?_) ?_
  · refine lv_aload_n hx hb dX3_scan_0 rfl (lv_at hl 0 rfl) ?_
    refine th_get (D := (dC, dI)) (ci := 3) (v := .int z13) (C := RX3) (T := TX3) (N := 15) hx hb hts inX3 hown hK hP (hLK _ ha0 (by decide)) o24 rfl 7 (by decide) (hts _ T_204) (fun _ h9 => h9) rfl dX3_scan_1 ?_
    refine lv_iconst (v := 1) hx hb dX3_scan_4 (by decide) ?_
    refine lv_icmp_eq (tgt := 16) hx hb dX3_scan_5 (by decide) (fun c28 => ?_) (fun c28 => ?_)
    · have c28 := (ax_eq (n := 1) (by decide)).mp c28
      exact K16 _ _ _ ⟨F, _, rfl, lv_sub hl [0] rfl, hI, hP, hS, hfr, ⟨z1, z3, z5, z7, z10, z13, z14, z16, z18, z19, z20, z22, z23, o24, h2, h4, h6, h8, h9, ⟨by omega, by omega⟩, h12, ⟨by omega, by omega⟩, ⟨by omega, by omega⟩, ⟨by omega, by omega⟩, trivial⟩⟩
    · have c28 := mt (ax_eq (n := 1) (by decide)).mpr c28
      refine lv_aload_n hx hb dX3_scan_8 rfl (lv_at hl 0 rfl) ?_
      refine th_get (D := (dC, dI)) (ci := 3) (v := .int z13) (C := RX3) (T := TX3) (N := 15) hx hb hts inX3 hown hK hP (hLK _ ha0 (by decide)) o24 rfl 7 (by decide) (hts _ T_204) (fun _ h9 => h9) rfl dX3_scan_9 ?_
      refine lv_iconst (v := 2) hx hb dX3_scan_12 (by decide) ?_
      refine lv_icmp_ne (tgt := 20) hx hb dX3_scan_13 (by decide) (fun c29 => ?_) (fun c29 => ?_)
      · have c29 := mt (ax_eq (n := 2) (by decide)).mpr c29
        refine lv_iconst (v := 0) hx hb dX3_scan_20 (by decide) ?_
        exact K21 _ _ _ ⟨F, _, 0, rfl, lv_sub hl [0] rfl, hI, hP, hS, hfr, (by decide), ⟨z1, z3, z5, z7, z10, z13, z14, z16, z18, z19, z20, z22, z23, o24, h2, h4, h6, h8, h9, ⟨by omega, by omega⟩, h12, ⟨by omega, by omega⟩, ⟨by omega, by omega⟩, ⟨by omega, by omega⟩, trivial⟩⟩
      · have c29 := (ax_eq (n := 2) (by decide)).mp c29
        exact K16 _ _ _ ⟨F, _, rfl, lv_sub hl [0] rfl, hI, hP, hS, hfr, ⟨z1, z3, z5, z7, z10, z13, z14, z16, z18, z19, z20, z22, z23, o24, h2, h4, h6, h8, h9, ⟨by omega, by omega⟩, h12, ⟨by omega, by omega⟩, ⟨by omega, by omega⟩, ⟨by omega, by omega⟩, trivial⟩⟩
  · intro g H locs hq
    obtain ⟨F9, ls, rfl, hl, hI, hP, hS, hfr, h30⟩ := hq
    obtain ⟨z31, z33, z35, z37, z40, z43, z44, z46, z48, z49, z50, z52, z53, o54, h32, h34, h36, h38, h39, h41, h42, h45, h47, h51, -⟩ := h30
    refine lv_iconst (v := 1) hx hb dX3_scan_16 (by decide) ?_
    refine lv_goto (tgt := 21) hx hb dX3_scan_17 (by decide) ?_
    exact K21 _ _ _ ⟨F9, _, 1, rfl, lv_sub hl [0] rfl, hI, hP, hS, hfr, (by decide), ⟨z31, z33, z35, z37, z40, z43, z44, z46, z48, z49, z50, z52, z53, o54, h32, h34, h36, h38, h39, ⟨by omega, by omega⟩, h42, ⟨by omega, by omega⟩, ⟨by omega, by omega⟩, ⟨by omega, by omega⟩, trivial⟩⟩
  · intro g H locs hq
    obtain ⟨F9, ls, w27, rfl, hl, hI, hP, hS, hfr, h55, h56⟩ := hq
    obtain ⟨z57, z59, z61, z63, z66, z69, z70, z72, z74, z75, z76, z78, z79, o80, h58, h60, h62, h64, h65, h67, h68, h71, h73, h77, -⟩ := h56
    refine lv_istore_n (lv' := [(1, .int w27), (0, .ref a0)]) hx hb dX3_scan_21 rfl hl (by decide) rfl (fun ls hl => ?_)
    refine lv_aload_n hx hb dX3_scan_22 rfl (lv_at hl 1 rfl) ?_
    refine lv_aload_n hx hb dX3_scan_23 rfl (lv_at hl 1 rfl) ?_
    refine th_get (D := (dC, dI)) (ci := 3) (v := .int z72) (C := RX3) (T := TX3) (N := 15) hx hb hts inX3 hown hK hP (hLK _ ha0 (by decide)) o80 rfl 9 (by decide) (hts _ T_205) (fun _ h9 => h9) rfl dX3_scan_24 ?_
    refine th_put (D := (dC, dI)) (ci := 3) (v := .int z72) (ty := .int) (C := RX3) (T := TX3) (N := 15) hx hb hts inX3 tyX3 tyX3_ok nmX3 hown hK hP hD hS (hLK _ ha0 (by decide)) o80 rfl 8 (by decide) (hts _ T_206) (fun _ h9 => h9) rfl (by decide +kernel) rfl rfl (Nat.le_of_ble_eq_true rfl) dX3_scan_27 (fun H locs hP hS => ?_)
    have hP : va_P (dC, dI) vwCl (va_pl L (va_up F9 a0 (.inr (3, [.ref z57, .ref z59, .ref z61, .ref z63, .ref tt, .int z66, .ref qq, .int z69, .int z72, .int z72, .int z74, .int z75, .int z76, .int z78, .int z79])))) H := hP
    obtain ⟨F81, hF82⟩ : ∃ G : Nat → va_E, G = va_up F9 a0 (.inr (3, [.ref z57, .ref z59, .ref z61, .ref z63, .ref tt, .int z66, .ref qq, .int z69, .int z72, .int z72, .int z74, .int z75, .int z76, .int z78, .int z79])) := ⟨_, rfl⟩
    rw [← hF82] at hP
    have hI : s_I K cs D F81 := by rw [hF82]; exact s_cl4 hI ha0 ⟨z57, z59, z61, z63, some tt, z66, some qq, z69, z72, z72, z74, z75, z76, z78, z79, rfl, h58, h60, h62, h64, (fun q e => by cases e; exact h65), ⟨by omega, by omega⟩, ⟨by omega, by omega⟩, ⟨by omega, by omega⟩, ⟨by omega, by omega⟩, trivial⟩
    have hfr : ∀ b, K b ∉ [4] → F81 b = F b := by rw [hF82]; exact s_fr hfr ha0 (by decide)
    have o83 : F81 a0 = .inr (3, [.ref z57, .ref z59, .ref z61, .ref z63, .ref tt, .int z66, .ref qq, .int z69, .int z72, .int z72, .int z74, .int z75, .int z76, .int z78, .int z79]) := by rw [hF82]; exact th_up
    refine th_loop (fun n g H locs => ∃ (G : Nat → va_E) (ls : Array Slot) (w84 : Int32), g = F0 m 30 ls [] ∧ lv_has ls 3 [(0, .ref a0), (1, .int w27)] ∧ s_I K cs D G ∧ va_P (dC, dI) vwCl (va_pl L G) H ∧ va_S (fun q => q ∈ L) s.heap H locs ∧ (∀ b, K b ∉ [4] → G b = F b) ∧ (∀ vs z, G a0 = .inr (3, vs) → vs[8]? = some (.int z) → z = w84) ∧ (0 ≤ w27.toInt ∧ w27.toInt ≤ 1) ∧ s_rd5 K G a0 tt qq ∧ n = (1600 - w84.toInt).toNat) _ ⟨F81, _, z72, rfl, lv_sub hl [1, 0] rfl, hI, hP, hS, hfr, (fun vs z q q2 => by rw [o83] at q; cases q; cases q2; rfl), ⟨by omega, by omega⟩, ⟨z57, z59, z61, z63, z66, z69, z72, z72, z74, z75, z76, z78, z79, o83, h58, h60, h62, h64, h65, ⟨by omega, by omega⟩, h68, ⟨by omega, by omega⟩, ⟨by omega, by omega⟩, ⟨by omega, by omega⟩, trivial⟩, rfl⟩ (fun n ih30 g H locs hq => ?_)
    obtain ⟨F9, ls, w84, rfl, hl, hI, hP, hS, hfr, h85, h86, h87, hn⟩ := hq
    obtain ⟨z88, z90, z92, z94, z97, z100, z101, z103, z105, z106, z107, z109, z110, o111, h89, h91, h93, h95, h96, h98, h99, h102, h104, h108, -⟩ := h87
    have h112 := congrArg Int32.toInt (h85 _ _ o111 rfl)
    have hn_30 := hn
    obtain ⟨n_30, hn9_30⟩ : ∃ q, q = n := ⟨_, rfl⟩
    refine lv_aload_n hx hb dX3_scan_30 rfl (lv_at hl 0 rfl) ?_
    refine th_get (D := (dC, dI)) (ci := 3) (v := .int z101) (C := RX3) (T := TX3) (N := 15) hx hb hts inX3 hown hK hP (hLK _ ha0 (by decide)) o111 rfl 8 (by decide) (hts _ T_206) (fun _ h9 => h9) rfl dX3_scan_31 ?_
    refine lv_aload_n hx hb dX3_scan_34 rfl (lv_at hl 0 rfl) ?_
    refine th_get (D := (dC, dI)) (ci := 3) (v := .int z97) (C := RX3) (T := TX3) (N := 15) hx hb hts inX3 hown hK hP (hLK _ ha0 (by decide)) o111 rfl 5 (by decide) (hts _ T_207) (fun _ h9 => h9) rfl dX3_scan_35 ?_
    refine lv_icmp_ge (tgt := 82) hx hb dX3_scan_38 (by decide) (fun c113 => ?_) (fun c113 => ?_)
    · have c113 := Int32.le_iff_toInt_le.mp c113
      exact K82 _ _ _ ⟨F9, _, w27, rfl, lv_sub hl [0, 1] rfl, hI, hP, hS, hfr, ⟨by omega, by omega⟩, ⟨z88, z90, z92, z94, z97, z100, z101, z103, z105, z106, z107, z109, z110, o111, h89, h91, h93, h95, h96, ⟨by omega, by omega⟩, h99, ⟨by omega, by omega⟩, ⟨by omega, by omega⟩, ⟨by omega, by omega⟩, trivial⟩⟩
    · have c113 := mt Int32.le_iff_toInt_le.mpr c113
      refine lv_aload_n hx hb dX3_scan_41 rfl (lv_at hl 0 rfl) ?_
      refine th_get (D := (dC, dI)) (ci := 3) (v := .ref tt) (C := RX3) (T := TX3) (N := 15) hx hb hts inX3 hown hK hP (hLK _ ha0 (by decide)) o111 rfl 4 (by decide) (hts _ T_210) (fun _ h9 => h9) rfl dX3_scan_42 ?_
      refine lv_aload_n hx hb dX3_scan_45 rfl (lv_at hl 0 rfl) ?_
      refine th_get (D := (dC, dI)) (ci := 3) (v := .int z101) (C := RX3) (T := TX3) (N := 15) hx hb hts inX3 hown hK hP (hLK _ ha0 (by decide)) o111 rfl 8 (by decide) (hts _ T_206) (fun _ h9 => h9) rfl dX3_scan_46 ?_
      obtain ⟨f114, o115, h116⟩ := s_op20 hI h96
      refine th_bald hx hb hK hP (hLK _ h96 (by decide)) 1 o115 rfl (th_in ⟨by omega, by omega⟩) dX3_scan_49 ?_
      refine lv_topi (fun v117 ev117 => ?_)
      refine lv_bipush (v := 32) hx hb dX3_scan_50 (by decide) ?_
      refine lv_icmp_eq (tgt := 69) hx hb dX3_scan_52 (by decide) (fun c118 => ?_) (fun c118 => ?_)
      · have c118 := (ax_eq (n := 32) (by decide)).mp c118
        refine lv_aload_n hx hb dX3_scan_69 rfl (lv_at hl 0 rfl) ?_
        refine lv_dup hx hb dX3_scan_70 rfl ?_
        refine th_get (D := (dC, dI)) (ci := 3) (v := .int z101) (C := RX3) (T := TX3) (N := 15) hx hb hts inX3 hown hK hP (hLK _ ha0 (by decide)) o111 rfl 8 (by decide) (hts _ T_206) (fun _ h9 => h9) rfl dX3_scan_71 ?_
        refine lv_iconst (v := 1) hx hb dX3_scan_74 (by decide) ?_
        refine lv_iadd hx hb dX3_scan_75 ?_
        refine lv_topi (fun v119 ev119 => ?_)
        have qv119 : v119.toInt = z101.toInt + 1 := by rw [ev119]; exact th_add rfl (by decide) ⟨by omega, by omega⟩
        refine th_put (D := (dC, dI)) (ci := 3) (v := .int v119) (ty := .int) (C := RX3) (T := TX3) (N := 15) hx hb hts inX3 tyX3 tyX3_ok nmX3 hown hK hP hD hS (hLK _ ha0 (by decide)) o111 rfl 8 (by decide) (hts _ T_206) (fun _ h9 => h9) rfl (by decide +kernel) rfl rfl (Nat.le_of_ble_eq_true rfl) dX3_scan_76 (fun H locs hP hS => ?_)
        have hP : va_P (dC, dI) vwCl (va_pl L (va_up F9 a0 (.inr (3, [.ref z88, .ref z90, .ref z92, .ref z94, .ref tt, .int z97, .ref qq, .int z100, .int v119, .int z103, .int z105, .int z106, .int z107, .int z109, .int z110])))) H := hP
        obtain ⟨F120, hF121⟩ : ∃ G : Nat → va_E, G = va_up F9 a0 (.inr (3, [.ref z88, .ref z90, .ref z92, .ref z94, .ref tt, .int z97, .ref qq, .int z100, .int v119, .int z103, .int z105, .int z106, .int z107, .int z109, .int z110])) := ⟨_, rfl⟩
        rw [← hF121] at hP
        have hI : s_I K cs D F120 := by rw [hF121]; exact s_cl4 hI ha0 ⟨z88, z90, z92, z94, some tt, z97, some qq, z100, v119, z103, z105, z106, z107, z109, z110, rfl, h89, h91, h93, h95, (fun q e => by cases e; exact h96), ⟨by omega, by omega⟩, ⟨by omega, by omega⟩, ⟨by omega, by omega⟩, ⟨by omega, by omega⟩, trivial⟩
        have hfr : ∀ b, K b ∉ [4] → F120 b = F b := by rw [hF121]; exact s_fr hfr ha0 (by decide)
        have o122 : F120 a0 = .inr (3, [.ref z88, .ref z90, .ref z92, .ref z94, .ref tt, .int z97, .ref qq, .int z100, .int v119, .int z103, .int z105, .int z106, .int z107, .int z109, .int z110]) := by rw [hF121]; exact th_up
        refine lv_goto (tgt := 30) hx hb dX3_scan_79 (by decide) ?_
        exact ih30 _ _ _ _ (by omega) ⟨F120, _, v119, rfl, lv_sub hl [0, 1] rfl, hI, hP, hS, hfr, (fun vs z q q2 => by rw [o122] at q; cases q; cases q2; rfl), ⟨by omega, by omega⟩, ⟨z88, z90, z92, z94, z97, z100, v119, z103, z105, z106, z107, z109, z110, o122, h89, h91, h93, h95, h96, ⟨by omega, by omega⟩, h99, ⟨by omega, by omega⟩, ⟨by omega, by omega⟩, ⟨by omega, by omega⟩, trivial⟩, rfl⟩
      · have c118 := mt (ax_eq (n := 32) (by decide)).mpr c118
        refine lv_aload_n hx hb dX3_scan_55 rfl (lv_at hl 0 rfl) ?_
        refine th_get (D := (dC, dI)) (ci := 3) (v := .ref tt) (C := RX3) (T := TX3) (N := 15) hx hb hts inX3 hown hK hP (hLK _ ha0 (by decide)) o111 rfl 4 (by decide) (hts _ T_210) (fun _ h9 => h9) rfl dX3_scan_56 ?_
        refine lv_aload_n hx hb dX3_scan_59 rfl (lv_at hl 0 rfl) ?_
        refine th_get (D := (dC, dI)) (ci := 3) (v := .int z101) (C := RX3) (T := TX3) (N := 15) hx hb hts inX3 hown hK hP (hLK _ ha0 (by decide)) o111 rfl 8 (by decide) (hts _ T_206) (fun _ h9 => h9) rfl dX3_scan_60 ?_
        obtain ⟨f123, o124, h125⟩ := s_op20 hI h96
        refine th_bald hx hb hK hP (hLK _ h96 (by decide)) 1 o124 rfl (th_in ⟨by omega, by omega⟩) dX3_scan_63 ?_
        refine lv_topi (fun v126 ev126 => ?_)
        refine lv_bipush (v := 10) hx hb dX3_scan_64 (by decide) ?_
        refine lv_icmp_ne (tgt := 82) hx hb dX3_scan_66 (by decide) (fun c127 => ?_) (fun c127 => ?_)
        · have c127 := mt (ax_eq (n := 10) (by decide)).mpr c127
          exact K82 _ _ _ ⟨F9, _, w27, rfl, lv_sub hl [0, 1] rfl, hI, hP, hS, hfr, ⟨by omega, by omega⟩, ⟨z88, z90, z92, z94, z97, z100, z101, z103, z105, z106, z107, z109, z110, o111, h89, h91, h93, h95, h96, ⟨by omega, by omega⟩, h99, ⟨by omega, by omega⟩, ⟨by omega, by omega⟩, ⟨by omega, by omega⟩, trivial⟩⟩
        · have c127 := (ax_eq (n := 10) (by decide)).mp c127
          refine lv_aload_n hx hb dX3_scan_69 rfl (lv_at hl 0 rfl) ?_
          refine lv_dup hx hb dX3_scan_70 rfl ?_
          refine th_get (D := (dC, dI)) (ci := 3) (v := .int z101) (C := RX3) (T := TX3) (N := 15) hx hb hts inX3 hown hK hP (hLK _ ha0 (by decide)) o111 rfl 8 (by decide) (hts _ T_206) (fun _ h9 => h9) rfl dX3_scan_71 ?_
          refine lv_iconst (v := 1) hx hb dX3_scan_74 (by decide) ?_
          refine lv_iadd hx hb dX3_scan_75 ?_
          refine lv_topi (fun v128 ev128 => ?_)
          have qv128 : v128.toInt = z101.toInt + 1 := by rw [ev128]; exact th_add rfl (by decide) ⟨by omega, by omega⟩
          refine th_put (D := (dC, dI)) (ci := 3) (v := .int v128) (ty := .int) (C := RX3) (T := TX3) (N := 15) hx hb hts inX3 tyX3 tyX3_ok nmX3 hown hK hP hD hS (hLK _ ha0 (by decide)) o111 rfl 8 (by decide) (hts _ T_206) (fun _ h9 => h9) rfl (by decide +kernel) rfl rfl (Nat.le_of_ble_eq_true rfl) dX3_scan_76 (fun H locs hP hS => ?_)
          have hP : va_P (dC, dI) vwCl (va_pl L (va_up F9 a0 (.inr (3, [.ref z88, .ref z90, .ref z92, .ref z94, .ref tt, .int z97, .ref qq, .int z100, .int v128, .int z103, .int z105, .int z106, .int z107, .int z109, .int z110])))) H := hP
          obtain ⟨F129, hF130⟩ : ∃ G : Nat → va_E, G = va_up F9 a0 (.inr (3, [.ref z88, .ref z90, .ref z92, .ref z94, .ref tt, .int z97, .ref qq, .int z100, .int v128, .int z103, .int z105, .int z106, .int z107, .int z109, .int z110])) := ⟨_, rfl⟩
          rw [← hF130] at hP
          have hI : s_I K cs D F129 := by rw [hF130]; exact s_cl4 hI ha0 ⟨z88, z90, z92, z94, some tt, z97, some qq, z100, v128, z103, z105, z106, z107, z109, z110, rfl, h89, h91, h93, h95, (fun q e => by cases e; exact h96), ⟨by omega, by omega⟩, ⟨by omega, by omega⟩, ⟨by omega, by omega⟩, ⟨by omega, by omega⟩, trivial⟩
          have hfr : ∀ b, K b ∉ [4] → F129 b = F b := by rw [hF130]; exact s_fr hfr ha0 (by decide)
          have o131 : F129 a0 = .inr (3, [.ref z88, .ref z90, .ref z92, .ref z94, .ref tt, .int z97, .ref qq, .int z100, .int v128, .int z103, .int z105, .int z106, .int z107, .int z109, .int z110]) := by rw [hF130]; exact th_up
          refine lv_goto (tgt := 30) hx hb dX3_scan_79 (by decide) ?_
          exact ih30 _ _ _ _ (by omega) ⟨F129, _, v128, rfl, lv_sub hl [0, 1] rfl, hI, hP, hS, hfr, (fun vs z q q2 => by rw [o131] at q; cases q; cases q2; rfl), ⟨by omega, by omega⟩, ⟨z88, z90, z92, z94, z97, z100, v128, z103, z105, z106, z107, z109, z110, o131, h89, h91, h93, h95, h96, ⟨by omega, by omega⟩, h99, ⟨by omega, by omega⟩, ⟨by omega, by omega⟩, ⟨by omega, by omega⟩, trivial⟩, rfl⟩
  · intro g H locs hq
    obtain ⟨F9, ls, w26, rfl, hl, hI, hP, hS, hfr, h132, h133⟩ := hq
    obtain ⟨z134, z136, z138, z140, z143, z146, z147, z149, z151, z152, z153, z155, z156, o157, h135, h137, h139, h141, h142, h144, h145, h148, h150, h154, -⟩ := h133
    refine lv_iload_n hx hb dX3_scan_82 rfl (lv_at hl 1 rfl) ?_
    refine lv_if_eq (tgt := 101) hx hb dX3_scan_83 (by decide) (fun c158 => ?_) (fun c158 => ?_)
    · have c158 := (ax_eq (n := 0) (by decide)).mp c158
      exact K101 _ _ _ ⟨F9, _, rfl, lv_sub hl [0] rfl, hI, hP, hS, hfr, ⟨z134, z136, z138, z140, z143, z146, z147, z149, z151, z152, z153, z155, z156, o157, h135, h137, h139, h141, h142, ⟨by omega, by omega⟩, h145, ⟨by omega, by omega⟩, ⟨by omega, by omega⟩, ⟨by omega, by omega⟩, trivial⟩⟩
    · have c158 := mt (ax_eq (n := 0) (by decide)).mpr c158
      refine lv_aload_n hx hb dX3_scan_86 rfl (lv_at hl 0 rfl) ?_
      refine th_get (D := (dC, dI)) (ci := 3) (v := .int z147) (C := RX3) (T := TX3) (N := 15) hx hb hts inX3 hown hK hP (hLK _ ha0 (by decide)) o157 rfl 8 (by decide) (hts _ T_206) (fun _ h9 => h9) rfl dX3_scan_87 ?_
      refine lv_aload_n hx hb dX3_scan_90 rfl (lv_at hl 0 rfl) ?_
      refine th_get (D := (dC, dI)) (ci := 3) (v := .int z149) (C := RX3) (T := TX3) (N := 15) hx hb hts inX3 hown hK hP (hLK _ ha0 (by decide)) o157 rfl 9 (by decide) (hts _ T_205) (fun _ h9 => h9) rfl dX3_scan_91 ?_
      refine lv_icmp_ne (tgt := 101) hx hb dX3_scan_94 (by decide) (fun c159 => ?_) (fun c159 => ?_)
      · have c159 := mt Int32.toInt_inj.symm.mpr c159
        exact K101 _ _ _ ⟨F9, _, rfl, lv_sub hl [0] rfl, hI, hP, hS, hfr, ⟨z134, z136, z138, z140, z143, z146, z147, z149, z151, z152, z153, z155, z156, o157, h135, h137, h139, h141, h142, ⟨by omega, by omega⟩, h145, ⟨by omega, by omega⟩, ⟨by omega, by omega⟩, ⟨by omega, by omega⟩, trivial⟩⟩
      · have c159 := Int32.toInt_inj.symm.mp c159
        refine lv_iconst (v := 1) hx hb dX3_scan_97 (by decide) ?_
        refine lv_goto (tgt := 102) hx hb dX3_scan_98 (by decide) ?_
        exact K102 _ _ _ ⟨F9, _, 1, rfl, lv_sub hl [0] rfl, hI, hP, hS, hfr, (by decide), ⟨z134, z136, z138, z140, z143, z146, z147, z149, z151, z152, z153, z155, z156, o157, h135, h137, h139, h141, h142, ⟨by omega, by omega⟩, h145, ⟨by omega, by omega⟩, ⟨by omega, by omega⟩, ⟨by omega, by omega⟩, trivial⟩⟩
  · intro g H locs hq
    obtain ⟨F9, ls, rfl, hl, hI, hP, hS, hfr, h160⟩ := hq
    obtain ⟨z161, z163, z165, z167, z170, z173, z174, z176, z178, z179, z180, z182, z183, o184, h162, h164, h166, h168, h169, h171, h172, h175, h177, h181, -⟩ := h160
    refine lv_iconst (v := 0) hx hb dX3_scan_101 (by decide) ?_
    exact K102 _ _ _ ⟨F9, _, 0, rfl, lv_sub hl [0] rfl, hI, hP, hS, hfr, (by decide), ⟨z161, z163, z165, z167, z170, z173, z174, z176, z178, z179, z180, z182, z183, o184, h162, h164, h166, h168, h169, ⟨by omega, by omega⟩, h172, ⟨by omega, by omega⟩, ⟨by omega, by omega⟩, ⟨by omega, by omega⟩, trivial⟩⟩
  · intro g H locs hq
    obtain ⟨F9, ls, w25, rfl, hl, hI, hP, hS, hfr, h185, h186⟩ := hq
    obtain ⟨z187, z189, z191, z193, z196, z199, z200, z202, z204, z205, z206, z208, z209, o210, h188, h190, h192, h194, h195, h197, h198, h201, h203, h207, -⟩ := h186
    refine lv_istore_n (lv' := [(2, .int w25), (0, .ref a0)]) hx hb dX3_scan_102 rfl hl (by decide) rfl (fun ls hl => ?_)
    refine lv_aload_n hx hb dX3_scan_103 rfl (lv_at hl 1 rfl) ?_
    refine lv_aload_n hx hb dX3_scan_104 rfl (lv_at hl 1 rfl) ?_
    refine th_get (D := (dC, dI)) (ci := 3) (v := .int z200) (C := RX3) (T := TX3) (N := 15) hx hb hts inX3 hown hK hP (hLK _ ha0 (by decide)) o210 rfl 8 (by decide) (hts _ T_206) (fun _ h9 => h9) rfl dX3_scan_105 ?_
    refine th_put (D := (dC, dI)) (ci := 3) (v := .int z200) (ty := .int) (C := RX3) (T := TX3) (N := 15) hx hb hts inX3 tyX3 tyX3_ok nmX3 hown hK hP hD hS (hLK _ ha0 (by decide)) o210 rfl 9 (by decide) (hts _ T_205) (fun _ h9 => h9) rfl (by decide +kernel) rfl rfl (Nat.le_of_ble_eq_true rfl) dX3_scan_108 (fun H locs hP hS => ?_)
    have hP : va_P (dC, dI) vwCl (va_pl L (va_up F9 a0 (.inr (3, [.ref z187, .ref z189, .ref z191, .ref z193, .ref tt, .int z196, .ref qq, .int z199, .int z200, .int z200, .int z204, .int z205, .int z206, .int z208, .int z209])))) H := hP
    obtain ⟨F211, hF212⟩ : ∃ G : Nat → va_E, G = va_up F9 a0 (.inr (3, [.ref z187, .ref z189, .ref z191, .ref z193, .ref tt, .int z196, .ref qq, .int z199, .int z200, .int z200, .int z204, .int z205, .int z206, .int z208, .int z209])) := ⟨_, rfl⟩
    rw [← hF212] at hP
    have hI : s_I K cs D F211 := by rw [hF212]; exact s_cl4 hI ha0 ⟨z187, z189, z191, z193, some tt, z196, some qq, z199, z200, z200, z204, z205, z206, z208, z209, rfl, h188, h190, h192, h194, (fun q e => by cases e; exact h195), ⟨by omega, by omega⟩, ⟨by omega, by omega⟩, ⟨by omega, by omega⟩, ⟨by omega, by omega⟩, trivial⟩
    have hfr : ∀ b, K b ∉ [4] → F211 b = F b := by rw [hF212]; exact s_fr hfr ha0 (by decide)
    have o213 : F211 a0 = .inr (3, [.ref z187, .ref z189, .ref z191, .ref z193, .ref tt, .int z196, .ref qq, .int z199, .int z200, .int z200, .int z204, .int z205, .int z206, .int z208, .int z209]) := by rw [hF212]; exact th_up
    refine lv_aload_n hx hb dX3_scan_111 rfl (lv_at hl 1 rfl) ?_
    refine lv_iconst (v := (-1)) hx hb dX3_scan_112 (by decide) ?_
    refine th_put (D := (dC, dI)) (ci := 3) (v := .int (-1)) (ty := .int) (C := RX3) (T := TX3) (N := 15) hx hb hts inX3 tyX3 tyX3_ok nmX3 hown hK hP hD hS (hLK _ ha0 (by decide)) o213 rfl 10 (by decide) (hts _ T_208) (fun _ h9 => h9) rfl (by decide +kernel) rfl rfl (Nat.le_of_ble_eq_true rfl) dX3_scan_113 (fun H locs hP hS => ?_)
    have hP : va_P (dC, dI) vwCl (va_pl L (va_up F211 a0 (.inr (3, [.ref z187, .ref z189, .ref z191, .ref z193, .ref tt, .int z196, .ref qq, .int z199, .int z200, .int z200, .int (-1), .int z205, .int z206, .int z208, .int z209])))) H := hP
    obtain ⟨F214, hF215⟩ : ∃ G : Nat → va_E, G = va_up F211 a0 (.inr (3, [.ref z187, .ref z189, .ref z191, .ref z193, .ref tt, .int z196, .ref qq, .int z199, .int z200, .int z200, .int (-1), .int z205, .int z206, .int z208, .int z209])) := ⟨_, rfl⟩
    rw [← hF215] at hP
    have hI : s_I K cs D F214 := by rw [hF215]; exact s_cl4 hI ha0 ⟨z187, z189, z191, z193, some tt, z196, some qq, z199, z200, z200, (-1), z205, z206, z208, z209, rfl, h188, h190, h192, h194, (fun q e => by cases e; exact h195), ⟨by omega, by omega⟩, ⟨by omega, by omega⟩, ⟨by omega, by omega⟩, ⟨by omega, by omega⟩, trivial⟩
    have hfr : ∀ b, K b ∉ [4] → F214 b = F b := by rw [hF215]; exact s_fr hfr ha0 (by decide)
    have o216 : F214 a0 = .inr (3, [.ref z187, .ref z189, .ref z191, .ref z193, .ref tt, .int z196, .ref qq, .int z199, .int z200, .int z200, .int (-1), .int z205, .int z206, .int z208, .int z209]) := by rw [hF215]; exact th_up
    refine lv_aload_n hx hb dX3_scan_116 rfl (lv_at hl 1 rfl) ?_
    refine th_get (D := (dC, dI)) (ci := 3) (v := .int z200) (C := RX3) (T := TX3) (N := 15) hx hb hts inX3 hown hK hP (hLK _ ha0 (by decide)) o216 rfl 8 (by decide) (hts _ T_206) (fun _ h9 => h9) rfl dX3_scan_117 ?_
    refine lv_aload_n hx hb dX3_scan_120 rfl (lv_at hl 1 rfl) ?_
    refine th_get (D := (dC, dI)) (ci := 3) (v := .int z196) (C := RX3) (T := TX3) (N := 15) hx hb hts inX3 hown hK hP (hLK _ ha0 (by decide)) o216 rfl 5 (by decide) (hts _ T_207) (fun _ h9 => h9) rfl dX3_scan_121 ?_
    refine lv_icmp_lt (tgt := 135) hx hb dX3_scan_124 (by decide) (fun c217 => ?_) (fun c217 => ?_)
    · have c217 := Int32.lt_iff_toInt_lt.mp c217
      refine lv_aload_n hx hb dX3_scan_135 rfl (lv_at hl 1 rfl) ?_
      refine th_get (D := (dC, dI)) (ci := 3) (v := .ref tt) (C := RX3) (T := TX3) (N := 15) hx hb hts inX3 hown hK hP (hLK _ ha0 (by decide)) o216 rfl 4 (by decide) (hts _ T_210) (fun _ h9 => h9) rfl dX3_scan_136 ?_
      refine lv_aload_n hx hb dX3_scan_139 rfl (lv_at hl 1 rfl) ?_
      refine th_get (D := (dC, dI)) (ci := 3) (v := .int z200) (C := RX3) (T := TX3) (N := 15) hx hb hts inX3 hown hK hP (hLK _ ha0 (by decide)) o216 rfl 8 (by decide) (hts _ T_206) (fun _ h9 => h9) rfl dX3_scan_140 ?_
      obtain ⟨f218, o219, h220⟩ := s_op20 hI h195
      refine th_bald hx hb hK hP (hLK _ h195 (by decide)) 1 o219 rfl (th_in ⟨by omega, by omega⟩) dX3_scan_143 ?_
      refine lv_topi (fun v221 ev221 => ?_)
      refine va_calli (va_runS (As := [.int v221]) (rest := []) ⟨hx, hb, hml, hown, hts⟩ (s_X3_isLetter l dC dI H.size hLK D F214 v221 hI) (cwS 1 hts (ax_gS T_819 T_821 T_163 T_820) rfl rfl rfl (by decide +kernel) ⟨Nat.le_of_ble_eq_true rfl, Nat.le_of_ble_eq_true rfl⟩) ⟨fun a U g mk q => ⟨q.1, s_pc (U := U) rfl rfl q.2⟩, fun U hU hW => ⟨rfl, s_pw hU hW hP hK hD hN⟩⟩ rfl rfl hl.1 rfl (lv_room (Nat.le_of_ble_eq_true rfl)) dX3_scan_144 ⟨Nat.zero_le _, Nat.zero_le _⟩) hS (fun q _ h => h) (fun q h => h) (fun r222 F223 t H1 locs ht hvm hw hB hz1 hk1 hS => ?_)
      obtain ⟨hP, hK1⟩ := hB
      rw [ht] at hP
      generalize H1 = H at hP hS ⊢
      clear hz1 hk1
      obtain ⟨h224, h225, hI, hfr1⟩ := hw
      have o226 : F223 a0 = .inr (3, [.ref z187, .ref z189, .ref z191, .ref z193, .ref tt, .int z196, .ref qq, .int z199, .int z200, .int z200, .int (-1), .int z205, .int z206, .int z208, .int z209]) := (hfr1 _ (by rw [ha0]; decide)).trans o216
      have hfr : ∀ b, K b ∉ [4] → F223 b = F b := fun b hb9 => (hfr1 b (fun q => hb9 (s_sub (by decide) q))).trans (hfr b hb9)
      refine lv_if_eq (tgt := 186) hx hb dX3_scan_147 (by decide) (fun c227 => ?_) (fun c227 => ?_)
      · have c227 := (ax_eq (n := 0) (by decide)).mp c227
        refine lv_aload_n hx hb dX3_scan_186 rfl (lv_at hl 1 rfl) ?_
        refine th_get (D := (dC, dI)) (ci := 3) (v := .ref tt) (C := RX3) (T := TX3) (N := 15) hx hb hts inX3 hown hK hP (hLK _ ha0 (by decide)) o226 rfl 4 (by decide) (hts _ T_210) (fun _ h9 => h9) rfl dX3_scan_187 ?_
        refine lv_aload_n hx hb dX3_scan_190 rfl (lv_at hl 1 rfl) ?_
        refine th_get (D := (dC, dI)) (ci := 3) (v := .int z200) (C := RX3) (T := TX3) (N := 15) hx hb hts inX3 hown hK hP (hLK _ ha0 (by decide)) o226 rfl 8 (by decide) (hts _ T_206) (fun _ h9 => h9) rfl dX3_scan_191 ?_
        obtain ⟨f228, o229, h230⟩ := s_op20 hI h195
        refine th_bald hx hb hK hP (hLK _ h195 (by decide)) 1 o229 rfl (th_in ⟨by omega, by omega⟩) dX3_scan_194 ?_
        refine lv_topi (fun v231 ev231 => ?_)
        refine va_calli (va_runS (As := [.int v231]) (rest := []) ⟨hx, hb, hml, hown, hts⟩ (s_X3_isDigit l dC dI H.size hLK D F223 v231 hI) (cwS 1 hts (ax_gS T_830 T_832 T_163 T_831) rfl rfl rfl (by decide +kernel) ⟨Nat.le_of_ble_eq_true rfl, Nat.le_of_ble_eq_true rfl⟩) ⟨fun a U g mk q => ⟨q.1, s_pc (U := U) rfl rfl q.2⟩, fun U hU hW => ⟨rfl, s_pw hU hW hP hK hD hN⟩⟩ rfl rfl hl.1 rfl (lv_room (Nat.le_of_ble_eq_true rfl)) dX3_scan_195 ⟨Nat.zero_le _, Nat.zero_le _⟩) hS (fun q _ h => h) (fun q h => h) (fun r232 F233 t H1 locs ht hvm hw hB hz1 hk1 hS => ?_)
        obtain ⟨hP, hK1⟩ := hB
        rw [ht] at hP
        generalize H1 = H at hP hS ⊢
        clear hz1 hk1
        obtain ⟨h234, h235, hI, hfr1⟩ := hw
        have o236 : F233 a0 = .inr (3, [.ref z187, .ref z189, .ref z191, .ref z193, .ref tt, .int z196, .ref qq, .int z199, .int z200, .int z200, .int (-1), .int z205, .int z206, .int z208, .int z209]) := (hfr1 _ (by rw [ha0]; decide)).trans o226
        have hfr : ∀ b, K b ∉ [4] → F233 b = F b := fun b hb9 => (hfr1 b (fun q => hb9 (s_sub (by decide) q))).trans (hfr b hb9)
        refine lv_if_eq (tgt := 221) hx hb dX3_scan_198 (by decide) (fun c237 => ?_) (fun c237 => ?_)
        · have c237 := (ax_eq (n := 0) (by decide)).mp c237
          refine lv_aload_n hx hb dX3_scan_221 rfl (lv_at hl 1 rfl) ?_
          refine lv_aload_n hx hb dX3_scan_222 rfl (lv_at hl 1 rfl) ?_
          refine th_get (D := (dC, dI)) (ci := 3) (v := .int z200) (C := RX3) (T := TX3) (N := 15) hx hb hts inX3 hown hK hP (hLK _ ha0 (by decide)) o236 rfl 8 (by decide) (hts _ T_206) (fun _ h9 => h9) rfl dX3_scan_223 ?_
          refine lv_iconst (v := 1) hx hb dX3_scan_226 (by decide) ?_
          refine lv_iadd hx hb dX3_scan_227 ?_
          refine lv_topi (fun v238 ev238 => ?_)
          have qv238 : v238.toInt = z200.toInt + 1 := by rw [ev238]; exact th_add rfl (by decide) ⟨by omega, by omega⟩
          refine th_put (D := (dC, dI)) (ci := 3) (v := .int v238) (ty := .int) (C := RX3) (T := TX3) (N := 15) hx hb hts inX3 tyX3 tyX3_ok nmX3 hown hK hP hD hS (hLK _ ha0 (by decide)) o236 rfl 9 (by decide) (hts _ T_205) (fun _ h9 => h9) rfl (by decide +kernel) rfl rfl (Nat.le_of_ble_eq_true rfl) dX3_scan_228 (fun H locs hP hS => ?_)
          have hP : va_P (dC, dI) vwCl (va_pl L (va_up F233 a0 (.inr (3, [.ref z187, .ref z189, .ref z191, .ref z193, .ref tt, .int z196, .ref qq, .int z199, .int z200, .int v238, .int (-1), .int z205, .int z206, .int z208, .int z209])))) H := hP
          obtain ⟨F239, hF240⟩ : ∃ G : Nat → va_E, G = va_up F233 a0 (.inr (3, [.ref z187, .ref z189, .ref z191, .ref z193, .ref tt, .int z196, .ref qq, .int z199, .int z200, .int v238, .int (-1), .int z205, .int z206, .int z208, .int z209])) := ⟨_, rfl⟩
          rw [← hF240] at hP
          have hI : s_I K cs D F239 := by rw [hF240]; exact s_cl4 hI ha0 ⟨z187, z189, z191, z193, some tt, z196, some qq, z199, z200, v238, (-1), z205, z206, z208, z209, rfl, h188, h190, h192, h194, (fun q e => by cases e; exact h195), ⟨by omega, by omega⟩, ⟨by omega, by omega⟩, ⟨by omega, by omega⟩, ⟨by omega, by omega⟩, trivial⟩
          have hfr : ∀ b, K b ∉ [4] → F239 b = F b := by rw [hF240]; exact s_fr hfr ha0 (by decide)
          have o241 : F239 a0 = .inr (3, [.ref z187, .ref z189, .ref z191, .ref z193, .ref tt, .int z196, .ref qq, .int z199, .int z200, .int v238, .int (-1), .int z205, .int z206, .int z208, .int z209]) := by rw [hF240]; exact th_up
          refine lv_aload_n hx hb dX3_scan_231 rfl (lv_at hl 1 rfl) ?_
          refine lv_iconst (v := 3) hx hb dX3_scan_232 (by decide) ?_
          refine th_put (D := (dC, dI)) (ci := 3) (v := .int 3) (ty := .int) (C := RX3) (T := TX3) (N := 15) hx hb hts inX3 tyX3 tyX3_ok nmX3 hown hK hP hD hS (hLK _ ha0 (by decide)) o241 rfl 7 (by decide) (hts _ T_204) (fun _ h9 => h9) rfl (by decide +kernel) rfl rfl (Nat.le_of_ble_eq_true rfl) dX3_scan_233 (fun H locs hP hS => ?_)
          have hP : va_P (dC, dI) vwCl (va_pl L (va_up F239 a0 (.inr (3, [.ref z187, .ref z189, .ref z191, .ref z193, .ref tt, .int z196, .ref qq, .int 3, .int z200, .int v238, .int (-1), .int z205, .int z206, .int z208, .int z209])))) H := hP
          obtain ⟨F242, hF243⟩ : ∃ G : Nat → va_E, G = va_up F239 a0 (.inr (3, [.ref z187, .ref z189, .ref z191, .ref z193, .ref tt, .int z196, .ref qq, .int 3, .int z200, .int v238, .int (-1), .int z205, .int z206, .int z208, .int z209])) := ⟨_, rfl⟩
          rw [← hF243] at hP
          have hI : s_I K cs D F242 := by rw [hF243]; exact s_cl4 hI ha0 ⟨z187, z189, z191, z193, some tt, z196, some qq, 3, z200, v238, (-1), z205, z206, z208, z209, rfl, h188, h190, h192, h194, (fun q e => by cases e; exact h195), ⟨by omega, by omega⟩, ⟨by omega, by omega⟩, ⟨by omega, by omega⟩, ⟨by omega, by omega⟩, trivial⟩
          have hfr : ∀ b, K b ∉ [4] → F242 b = F b := by rw [hF243]; exact s_fr hfr ha0 (by decide)
          have o244 : F242 a0 = .inr (3, [.ref z187, .ref z189, .ref z191, .ref z193, .ref tt, .int z196, .ref qq, .int 3, .int z200, .int v238, .int (-1), .int z205, .int z206, .int z208, .int z209]) := by rw [hF243]; exact th_up
          exact W.vret hx hb hr (fun t ht hW => ⟨⟨F242, rfl, ⟨trivial, trivial, hI, hfr, ⟨z187, z189, z191, z193, z196, 3, z200, v238, (-1), z205, z206, z208, z209, o244, h188, h190, h192, h194, h195, ⟨by omega, by omega⟩, h198, ⟨by omega, by omega⟩, ⟨by omega, by omega⟩, ⟨by omega, by omega⟩, (fun q => by first | omega | exact absurd q (by decide)), trivial⟩⟩, by rw [ht]; exact hP, va_K.moved hW.alike hK⟩, hS.F ht⟩) hS.2.2 dX3_scan_236
        · have c237 := mt (ax_eq (n := 0) (by decide)).mpr c237
          have h245 := h235 (fun q => c237 (by rw [q]; decide))
          refine lv_aload_n hx hb dX3_scan_201 rfl (lv_at hl 1 rfl) ?_
          refine va_callv (va_runV (As := []) (rest := []) ⟨hx, hb, hml, hown, hts⟩ (s_X3_scanNumber l dC dI H.size hLK D F233 a0 ha0 hI tt qq ⟨z187, z189, z191, z193, z196, z199, z200, z200, (-1), z205, z206, z208, z209, o236, h188, h190, h192, h194, h195, ⟨by omega, by omega⟩, h198, ⟨by omega, by omega⟩, ⟨by omega, by omega⟩, ⟨by omega, by omega⟩, trivial⟩) (cwV 0 hts (ax_gV T_833 T_835 T_836 T_163 T_834) rfl rfl rfl (by decide +kernel) ⟨Nat.le_of_ble_eq_true rfl, Nat.le_of_ble_eq_true rfl⟩) ⟨fun a U g mk q => ⟨q.1, s_pc (U := U) rfl rfl q.2⟩, s_recv hK hP (hLK _ ha0 (by decide)) (ci := 3) rfl o236, fun U hU hW => ⟨rfl, s_pw hU hW hP hK hD hN⟩⟩ rfl rfl hl.1 rfl (lv_room (Nat.le_of_ble_eq_true rfl)) dX3_scan_202 ⟨Nat.zero_le _, Nat.zero_le _⟩) hS (fun q _ h => h) (fun q h => h) (fun F246 t H1 locs ht hvm hw hB hz1 hk1 hS => ?_)
          obtain ⟨hP, hK1⟩ := hB
          rw [ht] at hP
          generalize H1 = H at hP hS ⊢
          clear hz1 hk1
          obtain ⟨h247, h248, hI, hfr1, h249⟩ := hw
          have hfr : ∀ b, K b ∉ [4] → F246 b = F b := fun b hb9 => (hfr1 b (fun q => hb9 (s_sub (by decide) q))).trans (hfr b hb9)
          obtain ⟨z250, z252, z254, z256, z259, z262, z263, z265, z267, z268, z269, z271, z272, o273, h251, h253, h255, h257, h258, h260, h261, h264, h266, h270, -⟩ := h249
          refine lv_aload_n hx hb dX3_scan_205 rfl (lv_at hl 1 rfl) ?_
          refine lv_iload_n hx hb dX3_scan_206 rfl (lv_at hl 0 rfl) ?_
          refine lv_if_eq (tgt := 214) hx hb dX3_scan_207 (by decide) (fun c274 => ?_) (fun c274 => ?_)
          · have c274 := (ax_eq (n := 0) (by decide)).mp c274
            refine lv_iconst (v := 2) hx hb dX3_scan_214 (by decide) ?_
            refine th_put (D := (dC, dI)) (ci := 3) (v := .int 2) (ty := .int) (C := RX3) (T := TX3) (N := 15) hx hb hts inX3 tyX3 tyX3_ok nmX3 hown hK hP hD hS (hLK _ ha0 (by decide)) o273 rfl 7 (by decide) (hts _ T_204) (fun _ h9 => h9) rfl (by decide +kernel) rfl rfl (Nat.le_of_ble_eq_true rfl) dX3_scan_215 (fun H locs hP hS => ?_)
            have hP : va_P (dC, dI) vwCl (va_pl L (va_up F246 a0 (.inr (3, [.ref z250, .ref z252, .ref z254, .ref z256, .ref tt, .int z259, .ref qq, .int 2, .int z263, .int z265, .int z267, .int z268, .int z269, .int z271, .int z272])))) H := hP
            obtain ⟨F275, hF276⟩ : ∃ G : Nat → va_E, G = va_up F246 a0 (.inr (3, [.ref z250, .ref z252, .ref z254, .ref z256, .ref tt, .int z259, .ref qq, .int 2, .int z263, .int z265, .int z267, .int z268, .int z269, .int z271, .int z272])) := ⟨_, rfl⟩
            rw [← hF276] at hP
            have hI : s_I K cs D F275 := by rw [hF276]; exact s_cl4 hI ha0 ⟨z250, z252, z254, z256, some tt, z259, some qq, 2, z263, z265, z267, z268, z269, z271, z272, rfl, h251, h253, h255, h257, (fun q e => by cases e; exact h258), ⟨by omega, by omega⟩, ⟨by omega, by omega⟩, ⟨by omega, by omega⟩, ⟨by omega, by omega⟩, trivial⟩
            have hfr : ∀ b, K b ∉ [4] → F275 b = F b := by rw [hF276]; exact s_fr hfr ha0 (by decide)
            have o277 : F275 a0 = .inr (3, [.ref z250, .ref z252, .ref z254, .ref z256, .ref tt, .int z259, .ref qq, .int 2, .int z263, .int z265, .int z267, .int z268, .int z269, .int z271, .int z272]) := by rw [hF276]; exact th_up
            refine lv_goto (tgt := 236) hx hb dX3_scan_218 (by decide) ?_
            exact W.vret hx hb hr (fun t ht hW => ⟨⟨F275, rfl, ⟨trivial, trivial, hI, hfr, ⟨z250, z252, z254, z256, z259, 2, z263, z265, z267, z268, z269, z271, z272, o277, h251, h253, h255, h257, h258, ⟨by omega, by omega⟩, h261, ⟨by omega, by omega⟩, ⟨by omega, by omega⟩, ⟨by omega, by omega⟩, (fun q => by first | omega | exact absurd q (by decide)), trivial⟩⟩, by rw [ht]; exact hP, va_K.moved hW.alike hK⟩, hS.F ht⟩) hS.2.2 dX3_scan_236
          · have c274 := mt (ax_eq (n := 0) (by decide)).mpr c274
            refine lv_iconst (v := 4) hx hb dX3_scan_210 (by decide) ?_
            refine lv_goto (tgt := 215) hx hb dX3_scan_211 (by decide) ?_
            refine th_put (D := (dC, dI)) (ci := 3) (v := .int 4) (ty := .int) (C := RX3) (T := TX3) (N := 15) hx hb hts inX3 tyX3 tyX3_ok nmX3 hown hK hP hD hS (hLK _ ha0 (by decide)) o273 rfl 7 (by decide) (hts _ T_204) (fun _ h9 => h9) rfl (by decide +kernel) rfl rfl (Nat.le_of_ble_eq_true rfl) dX3_scan_215 (fun H locs hP hS => ?_)
            have hP : va_P (dC, dI) vwCl (va_pl L (va_up F246 a0 (.inr (3, [.ref z250, .ref z252, .ref z254, .ref z256, .ref tt, .int z259, .ref qq, .int 4, .int z263, .int z265, .int z267, .int z268, .int z269, .int z271, .int z272])))) H := hP
            obtain ⟨F278, hF279⟩ : ∃ G : Nat → va_E, G = va_up F246 a0 (.inr (3, [.ref z250, .ref z252, .ref z254, .ref z256, .ref tt, .int z259, .ref qq, .int 4, .int z263, .int z265, .int z267, .int z268, .int z269, .int z271, .int z272])) := ⟨_, rfl⟩
            rw [← hF279] at hP
            have hI : s_I K cs D F278 := by rw [hF279]; exact s_cl4 hI ha0 ⟨z250, z252, z254, z256, some tt, z259, some qq, 4, z263, z265, z267, z268, z269, z271, z272, rfl, h251, h253, h255, h257, (fun q e => by cases e; exact h258), ⟨by omega, by omega⟩, ⟨by omega, by omega⟩, ⟨by omega, by omega⟩, ⟨by omega, by omega⟩, trivial⟩
            have hfr : ∀ b, K b ∉ [4] → F278 b = F b := by rw [hF279]; exact s_fr hfr ha0 (by decide)
            have o280 : F278 a0 = .inr (3, [.ref z250, .ref z252, .ref z254, .ref z256, .ref tt, .int z259, .ref qq, .int 4, .int z263, .int z265, .int z267, .int z268, .int z269, .int z271, .int z272]) := by rw [hF279]; exact th_up
            refine lv_goto (tgt := 236) hx hb dX3_scan_218 (by decide) ?_
            exact W.vret hx hb hr (fun t ht hW => ⟨⟨F278, rfl, ⟨trivial, trivial, hI, hfr, ⟨z250, z252, z254, z256, z259, 4, z263, z265, z267, z268, z269, z271, z272, o280, h251, h253, h255, h257, h258, ⟨by omega, by omega⟩, h261, ⟨by omega, by omega⟩, ⟨by omega, by omega⟩, ⟨by omega, by omega⟩, (fun q => by first | omega | exact absurd q (by decide)), trivial⟩⟩, by rw [ht]; exact hP, va_K.moved hW.alike hK⟩, hS.F ht⟩) hS.2.2 dX3_scan_236
      · have c227 := mt (ax_eq (n := 0) (by decide)).mpr c227
        have h281 := h225 (fun q => c227 (by rw [q]; decide))
        refine lv_aload_n hx hb dX3_scan_150 rfl (lv_at hl 1 rfl) ?_
        refine va_callv (va_runV (As := []) (rest := []) ⟨hx, hb, hml, hown, hts⟩ (s_X3_scanWord l dC dI H.size hLK D F223 a0 ha0 hI tt qq ⟨z187, z189, z191, z193, z196, z199, z200, z200, (-1), z205, z206, z208, z209, o226, h188, h190, h192, h194, h195, ⟨by omega, by omega⟩, h198, ⟨by omega, by omega⟩, ⟨by omega, by omega⟩, ⟨by omega, by omega⟩, trivial⟩) (cwV 0 hts (ax_gV T_822 T_824 T_825 T_163 T_823) rfl rfl rfl (by decide +kernel) ⟨Nat.le_of_ble_eq_true rfl, Nat.le_of_ble_eq_true rfl⟩) ⟨fun a U g mk q => ⟨q.1, s_pc (U := U) rfl rfl q.2⟩, s_recv hK hP (hLK _ ha0 (by decide)) (ci := 3) rfl o226, fun U hU hW => ⟨rfl, s_pw hU hW hP hK hD hN⟩⟩ rfl rfl hl.1 rfl (lv_room (Nat.le_of_ble_eq_true rfl)) dX3_scan_151 ⟨Nat.zero_le _, Nat.zero_le _⟩) hS (fun q _ h => h) (fun q h => h) (fun F282 t H1 locs ht hvm hw hB hz1 hk1 hS => ?_)
        obtain ⟨hP, hK1⟩ := hB
        rw [ht] at hP
        generalize H1 = H at hP hS ⊢
        clear hz1 hk1
        obtain ⟨h283, h284, hI, hfr1, h285⟩ := hw
        have hfr : ∀ b, K b ∉ [4] → F282 b = F b := fun b hb9 => (hfr1 b (fun q => hb9 (s_sub (by decide) q))).trans (hfr b hb9)
        obtain ⟨z286, z288, z290, z292, z295, z298, z299, z301, z303, z304, z305, z307, z308, o309, h287, h289, h291, h293, h294, h296, h297, h300, h302, h306, -⟩ := h285
        refine lv_aload_n hx hb dX3_scan_154 rfl (lv_at hl 1 rfl) ?_
        refine lv_iload_n hx hb dX3_scan_155 rfl (lv_at hl 0 rfl) ?_
        refine lv_if_eq (tgt := 163) hx hb dX3_scan_156 (by decide) (fun c310 => ?_) (fun c310 => ?_)
        · have c310 := (ax_eq (n := 0) (by decide)).mp c310
          refine lv_iconst (v := 1) hx hb dX3_scan_163 (by decide) ?_
          refine th_put (D := (dC, dI)) (ci := 3) (v := .int 1) (ty := .int) (C := RX3) (T := TX3) (N := 15) hx hb hts inX3 tyX3 tyX3_ok nmX3 hown hK hP hD hS (hLK _ ha0 (by decide)) o309 rfl 7 (by decide) (hts _ T_204) (fun _ h9 => h9) rfl (by decide +kernel) rfl rfl (Nat.le_of_ble_eq_true rfl) dX3_scan_164 (fun H locs hP hS => ?_)
          have hP : va_P (dC, dI) vwCl (va_pl L (va_up F282 a0 (.inr (3, [.ref z286, .ref z288, .ref z290, .ref z292, .ref tt, .int z295, .ref qq, .int 1, .int z299, .int z301, .int z303, .int z304, .int z305, .int z307, .int z308])))) H := hP
          obtain ⟨F311, hF312⟩ : ∃ G : Nat → va_E, G = va_up F282 a0 (.inr (3, [.ref z286, .ref z288, .ref z290, .ref z292, .ref tt, .int z295, .ref qq, .int 1, .int z299, .int z301, .int z303, .int z304, .int z305, .int z307, .int z308])) := ⟨_, rfl⟩
          rw [← hF312] at hP
          have hI : s_I K cs D F311 := by rw [hF312]; exact s_cl4 hI ha0 ⟨z286, z288, z290, z292, some tt, z295, some qq, 1, z299, z301, z303, z304, z305, z307, z308, rfl, h287, h289, h291, h293, (fun q e => by cases e; exact h294), ⟨by omega, by omega⟩, ⟨by omega, by omega⟩, ⟨by omega, by omega⟩, ⟨by omega, by omega⟩, trivial⟩
          have hfr : ∀ b, K b ∉ [4] → F311 b = F b := by rw [hF312]; exact s_fr hfr ha0 (by decide)
          have o313 : F311 a0 = .inr (3, [.ref z286, .ref z288, .ref z290, .ref z292, .ref tt, .int z295, .ref qq, .int 1, .int z299, .int z301, .int z303, .int z304, .int z305, .int z307, .int z308]) := by rw [hF312]; exact th_up
          refine lv_aload_n hx hb dX3_scan_167 rfl (lv_at hl 1 rfl) ?_
          refine lv_iload_n hx hb dX3_scan_168 rfl (lv_at hl 0 rfl) ?_
          refine lv_if_eq (tgt := 176) hx hb dX3_scan_169 (by decide) (fun c314 => ?_) (fun c314 => ?_)
          · have c314 := (ax_eq (n := 0) (by decide)).mp c314
            refine lv_aload_n hx hb dX3_scan_176 rfl (lv_at hl 1 rfl) ?_
            refine va_calli (va_runV (As := []) (rest := [.ref a0]) ⟨hx, hb, hml, hown, hts⟩ (s_X3_ownWord l dC dI H.size hLK D adK adV tf F311 a0 ha0 hI tt qq ⟨z286, z288, z290, z292, z295, 1, z299, z301, z303, z304, z305, z307, z308, o313, h287, h289, h291, h293, h294, ⟨by omega, by omega⟩, h297, ⟨by omega, by omega⟩, ⟨by omega, by omega⟩, ⟨by omega, by omega⟩, trivial⟩) (cwV 0 hts (ax_gV T_826 T_828 T_829 T_163 T_827) rfl rfl rfl (by decide +kernel) ⟨Nat.le_of_ble_eq_true rfl, Nat.le_of_ble_eq_true rfl⟩) ⟨fun a U g mk q => ⟨q.1, s_pc (U := U) rfl rfl q.2.1, s_pcZ (U := U) rfl rfl q.2.2⟩, s_recv hK hP (hLK _ ha0 (by decide)) (ci := 3) rfl o313, fun U hU hW => ⟨rfl, s_pw hU hW hP hK hD hN, s_pwZ hU hW hS hZ⟩⟩ rfl rfl hl.1 rfl (lv_room (Nat.le_of_ble_eq_true rfl)) dX3_scan_177 ⟨Nat.zero_le _, Nat.zero_le _⟩) hS (fun q _ h => h) (fun q h => h) (fun r315 F316 t H1 locs ht hvm hw hB hz1 hk1 hS => ?_)
            obtain ⟨hP, hK1⟩ := hB
            rw [ht] at hP
            generalize H1 = H at hP hS ⊢
            clear hz1 hk1
            obtain ⟨h317, h318, hI, hfr1⟩ := hw
            have o319 : F316 a0 = .inr (3, [.ref z286, .ref z288, .ref z290, .ref z292, .ref tt, .int z295, .ref qq, .int 1, .int z299, .int z301, .int z303, .int z304, .int z305, .int z307, .int z308]) := (hfr1 _ (by rw [ha0]; decide)).trans o313
            have hfr : ∀ b, K b ∉ [4] → F316 b = F b := fun b hb9 => (hfr1 b (fun q => hb9 (s_sub (by decide) q))).trans (hfr b hb9)
            refine th_put (D := (dC, dI)) (ci := 3) (v := .int r315) (ty := .int) (C := RX3) (T := TX3) (N := 15) hx hb hts inX3 tyX3 tyX3_ok nmX3 hown hK hP hD hS (hLK _ ha0 (by decide)) o319 rfl 10 (by decide) (hts _ T_208) (fun _ h9 => h9) rfl (by decide +kernel) rfl rfl (Nat.le_of_ble_eq_true rfl) dX3_scan_180 (fun H locs hP hS => ?_)
            have hP : va_P (dC, dI) vwCl (va_pl L (va_up F316 a0 (.inr (3, [.ref z286, .ref z288, .ref z290, .ref z292, .ref tt, .int z295, .ref qq, .int 1, .int z299, .int z301, .int r315, .int z304, .int z305, .int z307, .int z308])))) H := hP
            obtain ⟨F320, hF321⟩ : ∃ G : Nat → va_E, G = va_up F316 a0 (.inr (3, [.ref z286, .ref z288, .ref z290, .ref z292, .ref tt, .int z295, .ref qq, .int 1, .int z299, .int z301, .int r315, .int z304, .int z305, .int z307, .int z308])) := ⟨_, rfl⟩
            rw [← hF321] at hP
            have hI : s_I K cs D F320 := by rw [hF321]; exact s_cl4 hI ha0 ⟨z286, z288, z290, z292, some tt, z295, some qq, 1, z299, z301, r315, z304, z305, z307, z308, rfl, h287, h289, h291, h293, (fun q e => by cases e; exact h294), ⟨by omega, by omega⟩, ⟨by omega, by omega⟩, ⟨by omega, by omega⟩, ⟨by omega, by omega⟩, trivial⟩
            have hfr : ∀ b, K b ∉ [4] → F320 b = F b := by rw [hF321]; exact s_fr hfr ha0 (by decide)
            have o322 : F320 a0 = .inr (3, [.ref z286, .ref z288, .ref z290, .ref z292, .ref tt, .int z295, .ref qq, .int 1, .int z299, .int z301, .int r315, .int z304, .int z305, .int z307, .int z308]) := by rw [hF321]; exact th_up
            refine lv_goto (tgt := 236) hx hb dX3_scan_183 (by decide) ?_
            exact W.vret hx hb hr (fun t ht hW => ⟨⟨F320, rfl, ⟨trivial, trivial, hI, hfr, ⟨z286, z288, z290, z292, z295, 1, z299, z301, r315, z304, z305, z307, z308, o322, h287, h289, h291, h293, h294, ⟨by omega, by omega⟩, h297, ⟨by omega, by omega⟩, ⟨by omega, by omega⟩, ⟨by omega, by omega⟩, (fun q => by first | omega | exact absurd q (by decide)), trivial⟩⟩, by rw [ht]; exact hP, va_K.moved hW.alike hK⟩, hS.F ht⟩) hS.2.2 dX3_scan_236
          · have c314 := mt (ax_eq (n := 0) (by decide)).mpr c314
            exact absurd c314 (by omega)
        · have c310 := mt (ax_eq (n := 0) (by decide)).mpr c310
          refine lv_iconst (v := 4) hx hb dX3_scan_159 (by decide) ?_
          refine lv_goto (tgt := 164) hx hb dX3_scan_160 (by decide) ?_
          refine th_put (D := (dC, dI)) (ci := 3) (v := .int 4) (ty := .int) (C := RX3) (T := TX3) (N := 15) hx hb hts inX3 tyX3 tyX3_ok nmX3 hown hK hP hD hS (hLK _ ha0 (by decide)) o309 rfl 7 (by decide) (hts _ T_204) (fun _ h9 => h9) rfl (by decide +kernel) rfl rfl (Nat.le_of_ble_eq_true rfl) dX3_scan_164 (fun H locs hP hS => ?_)
          have hP : va_P (dC, dI) vwCl (va_pl L (va_up F282 a0 (.inr (3, [.ref z286, .ref z288, .ref z290, .ref z292, .ref tt, .int z295, .ref qq, .int 4, .int z299, .int z301, .int z303, .int z304, .int z305, .int z307, .int z308])))) H := hP
          obtain ⟨F323, hF324⟩ : ∃ G : Nat → va_E, G = va_up F282 a0 (.inr (3, [.ref z286, .ref z288, .ref z290, .ref z292, .ref tt, .int z295, .ref qq, .int 4, .int z299, .int z301, .int z303, .int z304, .int z305, .int z307, .int z308])) := ⟨_, rfl⟩
          rw [← hF324] at hP
          have hI : s_I K cs D F323 := by rw [hF324]; exact s_cl4 hI ha0 ⟨z286, z288, z290, z292, some tt, z295, some qq, 4, z299, z301, z303, z304, z305, z307, z308, rfl, h287, h289, h291, h293, (fun q e => by cases e; exact h294), ⟨by omega, by omega⟩, ⟨by omega, by omega⟩, ⟨by omega, by omega⟩, ⟨by omega, by omega⟩, trivial⟩
          have hfr : ∀ b, K b ∉ [4] → F323 b = F b := by rw [hF324]; exact s_fr hfr ha0 (by decide)
          have o325 : F323 a0 = .inr (3, [.ref z286, .ref z288, .ref z290, .ref z292, .ref tt, .int z295, .ref qq, .int 4, .int z299, .int z301, .int z303, .int z304, .int z305, .int z307, .int z308]) := by rw [hF324]; exact th_up
          refine lv_aload_n hx hb dX3_scan_167 rfl (lv_at hl 1 rfl) ?_
          refine lv_iload_n hx hb dX3_scan_168 rfl (lv_at hl 0 rfl) ?_
          refine lv_if_eq (tgt := 176) hx hb dX3_scan_169 (by decide) (fun c326 => ?_) (fun c326 => ?_)
          · have c326 := (ax_eq (n := 0) (by decide)).mp c326
            exact absurd c326 (by omega)
          · have c326 := mt (ax_eq (n := 0) (by decide)).mpr c326
            refine lv_iconst (v := (-1)) hx hb dX3_scan_172 (by decide) ?_
            refine lv_goto (tgt := 180) hx hb dX3_scan_173 (by decide) ?_
            refine th_put (D := (dC, dI)) (ci := 3) (v := .int (-1)) (ty := .int) (C := RX3) (T := TX3) (N := 15) hx hb hts inX3 tyX3 tyX3_ok nmX3 hown hK hP hD hS (hLK _ ha0 (by decide)) o325 rfl 10 (by decide) (hts _ T_208) (fun _ h9 => h9) rfl (by decide +kernel) rfl rfl (Nat.le_of_ble_eq_true rfl) dX3_scan_180 (fun H locs hP hS => ?_)
            have hP : va_P (dC, dI) vwCl (va_pl L (va_up F323 a0 (.inr (3, [.ref z286, .ref z288, .ref z290, .ref z292, .ref tt, .int z295, .ref qq, .int 4, .int z299, .int z301, .int (-1), .int z304, .int z305, .int z307, .int z308])))) H := hP
            obtain ⟨F327, hF328⟩ : ∃ G : Nat → va_E, G = va_up F323 a0 (.inr (3, [.ref z286, .ref z288, .ref z290, .ref z292, .ref tt, .int z295, .ref qq, .int 4, .int z299, .int z301, .int (-1), .int z304, .int z305, .int z307, .int z308])) := ⟨_, rfl⟩
            rw [← hF328] at hP
            have hI : s_I K cs D F327 := by rw [hF328]; exact s_cl4 hI ha0 ⟨z286, z288, z290, z292, some tt, z295, some qq, 4, z299, z301, (-1), z304, z305, z307, z308, rfl, h287, h289, h291, h293, (fun q e => by cases e; exact h294), ⟨by omega, by omega⟩, ⟨by omega, by omega⟩, ⟨by omega, by omega⟩, ⟨by omega, by omega⟩, trivial⟩
            have hfr : ∀ b, K b ∉ [4] → F327 b = F b := by rw [hF328]; exact s_fr hfr ha0 (by decide)
            have o329 : F327 a0 = .inr (3, [.ref z286, .ref z288, .ref z290, .ref z292, .ref tt, .int z295, .ref qq, .int 4, .int z299, .int z301, .int (-1), .int z304, .int z305, .int z307, .int z308]) := by rw [hF328]; exact th_up
            refine lv_goto (tgt := 236) hx hb dX3_scan_183 (by decide) ?_
            exact W.vret hx hb hr (fun t ht hW => ⟨⟨F327, rfl, ⟨trivial, trivial, hI, hfr, ⟨z286, z288, z290, z292, z295, 4, z299, z301, (-1), z304, z305, z307, z308, o329, h287, h289, h291, h293, h294, ⟨by omega, by omega⟩, h297, ⟨by omega, by omega⟩, ⟨by omega, by omega⟩, ⟨by omega, by omega⟩, (fun q => by first | omega | exact absurd q (by decide)), trivial⟩⟩, by rw [ht]; exact hP, va_K.moved hW.alike hK⟩, hS.F ht⟩) hS.2.2 dX3_scan_236
    · have c217 := mt Int32.lt_iff_toInt_lt.mpr c217
      refine lv_aload_n hx hb dX3_scan_127 rfl (lv_at hl 1 rfl) ?_
      refine lv_iconst (v := 0) hx hb dX3_scan_128 (by decide) ?_
      refine th_put (D := (dC, dI)) (ci := 3) (v := .int 0) (ty := .int) (C := RX3) (T := TX3) (N := 15) hx hb hts inX3 tyX3 tyX3_ok nmX3 hown hK hP hD hS (hLK _ ha0 (by decide)) o216 rfl 7 (by decide) (hts _ T_204) (fun _ h9 => h9) rfl (by decide +kernel) rfl rfl (Nat.le_of_ble_eq_true rfl) dX3_scan_129 (fun H locs hP hS => ?_)
      have hP : va_P (dC, dI) vwCl (va_pl L (va_up F214 a0 (.inr (3, [.ref z187, .ref z189, .ref z191, .ref z193, .ref tt, .int z196, .ref qq, .int 0, .int z200, .int z200, .int (-1), .int z205, .int z206, .int z208, .int z209])))) H := hP
      obtain ⟨F330, hF331⟩ : ∃ G : Nat → va_E, G = va_up F214 a0 (.inr (3, [.ref z187, .ref z189, .ref z191, .ref z193, .ref tt, .int z196, .ref qq, .int 0, .int z200, .int z200, .int (-1), .int z205, .int z206, .int z208, .int z209])) := ⟨_, rfl⟩
      rw [← hF331] at hP
      have hI : s_I K cs D F330 := by rw [hF331]; exact s_cl4 hI ha0 ⟨z187, z189, z191, z193, some tt, z196, some qq, 0, z200, z200, (-1), z205, z206, z208, z209, rfl, h188, h190, h192, h194, (fun q e => by cases e; exact h195), ⟨by omega, by omega⟩, ⟨by omega, by omega⟩, ⟨by omega, by omega⟩, ⟨by omega, by omega⟩, trivial⟩
      have hfr : ∀ b, K b ∉ [4] → F330 b = F b := by rw [hF331]; exact s_fr hfr ha0 (by decide)
      have o332 : F330 a0 = .inr (3, [.ref z187, .ref z189, .ref z191, .ref z193, .ref tt, .int z196, .ref qq, .int 0, .int z200, .int z200, .int (-1), .int z205, .int z206, .int z208, .int z209]) := by rw [hF331]; exact th_up
      refine lv_goto (tgt := 236) hx hb dX3_scan_132 (by decide) ?_
      exact W.vret hx hb hr (fun t ht hW => ⟨⟨F330, rfl, ⟨trivial, trivial, hI, hfr, ⟨z187, z189, z191, z193, z196, 0, z200, z200, (-1), z205, z206, z208, z209, o332, h188, h190, h192, h194, h195, ⟨by omega, by omega⟩, h198, ⟨by omega, by omega⟩, ⟨by omega, by omega⟩, ⟨by omega, by omega⟩, (fun q => by first | omega | exact absurd q (by decide)), trivial⟩⟩, by rw [ht]; exact hP, va_K.moved hW.alike hK⟩, hS.F ht⟩) hS.2.2 dX3_scan_236

