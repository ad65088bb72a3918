set_option maxHeartbeats 4000000 in
set_option maxRecDepth 100000 in
theorem y_X7_isIn (l : Launch) (dC : Nat → ClassId) (dI : Nat → Nat → Nat) (sz : Nat) {L : List Nat} {cs : Nat → ClassId} (F : Nat → va_E) (y0 : Int64) (y1 : Int64) (y2 : Int64)  : Met l yX7_isIn (Cond.code yX7_isIn cX7_isIn 6 (some .boolean) :: T0) ({ frames := 0, cells := 0, slots := 0, locals := 0 }) (va_Pc [.long y0, .long y1, .long y2] (s_W dC dI sz L F [(cs 0, .int), (cs 1, .byte), (cs 2, .long), (cs 3, .object RX5), (cs 4, .object RX4), (cs 5, .array .int), (cs 6, .char), (cs 7, .boolean)])) (va_Qi (fun (r : Int32) (G : Nat → va_E) => (0 ≤ r.toInt ∧ r.toInt ≤ 1) ∧ True ∧ G = F ∧ ((r.toInt = 0 ∧ (y0.toInt < y1.toInt ∨ y2.toInt < y0.toInt)) ∨ (r.toInt = 1 ∧ y1.toInt ≤ y0.toInt ∧ y0.toInt ≤ y2.toInt))) (fun (G : Nat → va_E) (t : State) => va_P (dC, dI) vwCl (va_pl L G) t.heap ∧ va_K (dC, dI) vwCl [(cs 0, .int), (cs 1, .byte), (cs 2, .long), (cs 3, .object RX5), (cs 4, .object RX4), (cs 5, .array .int), (cs 6, .char), (cs 7, .boolean)] t) (fun q => q ∈ L)) 0 0 (fun q => q ∈ L) := by
  refine Met.ofW (cc := cX7_isIn) (maxL := 6) (ret := (some .boolean)) (by decide) rfl ?_
  intro p e s m args below meth c s₁ B hml hv
  obtain ⟨rfl, hsz, hP, hK, hD, hN⟩ := hv
  have hx := B.exec
  have hb := B.bytes
  have hr := B.returns
  have hts : ∀ w ∈ T0, w.before _ s = true := fun w h => atoms_spec (ws := Cond.code yX7_isIn cX7_isIn 6 (some .boolean) :: T0) B.pre w (List.mem_cons_of_mem _ h)
  have hown : s.vm.findClass RX7 = some m.cls := findClass_of_methodNamed B.named
  have hlocks := B.notSynchronized
  have hS : va_S (fun q => q ∈ L) s.heap s.heap [] := va_S.rf
  have hl := lv_entry ([.long y0, .long y1, .long y2]) (n := 6) (Nat.le_of_ble_eq_true rfl)
  rw [lg_entry_eq]
  generalize (lg_sl ([.long y0, .long y1, .long y2]) ++ List.replicate (6 - (lg_sl ([.long y0, .long y1, .long y2])).length) Slot.unset).toArray = ls at hl ⊢
  have hl : lv_has ls 6 [(0, .long y0), (2, .long y1), (4, .long y2)] := hl
  refine s_gen hP hS (fun H locs hP hS => ?_)
  refine lv_lload_n hx hb dX7_isIn_0 rfl (lv_at hl 0 rfl) ?_
  refine lv_lload_n hx hb dX7_isIn_1 rfl (lv_at hl 1 rfl) ?_
  refine W.lcmp hx hb dX7_isIn_2 ?_
  refine lv_topi (fun v1 ev1 => ?_)
  have qv1 : (v1.toInt < 0 ↔ y0.toInt < y1.toInt) ∧ (0 < v1.toInt ↔ y1.toInt < y0.toInt) := by rw [ev1]; exact y_cmp
  refine lv_if_lt (tgt := 17) hx hb dX7_isIn_3 (by decide) (fun c2 => ?_) (fun c2 => ?_)
  · have c2 := (ax_lt (n := 0) (by decide)).mp c2
    refine lv_iconst (v := 0) hx hb dX7_isIn_17 (by decide) ?_
    exact W.zret (v := 0) (ty := .boolean) hx hb hr (by decide) (fun t ht hW => ⟨⟨0, F, rfl, ⟨(by decide), trivial, rfl, (show ((0 = 0 ∧ (y0.toInt < y1.toInt ∨ y2.toInt < y0.toInt)) ∨ (0 = 1 ∧ y1.toInt ≤ y0.toInt ∧ y0.toInt ≤ y2.toInt)) from (Or.inl ⟨by decide, by omega⟩))⟩, by rw [ht]; exact hP, va_K.moved hW.alike hK⟩, hS.F ht⟩) hS.2.2 dX7_isIn_18
  · have c2 := mt (ax_lt (n := 0) (by decide)).mpr c2
    refine lv_lload_n hx hb dX7_isIn_6 rfl (lv_at hl 0 rfl) ?_
    refine lv_lload hx hb dX7_isIn_7 (lv_at hl 2 rfl) ?_
    refine W.lcmp hx hb dX7_isIn_9 ?_
    refine lv_topi (fun v3 ev3 => ?_)
    have qv3 : (v3.toInt < 0 ↔ y0.toInt < y2.toInt) ∧ (0 < v3.toInt ↔ y2.toInt < y0.toInt) := by rw [ev3]; exact y_cmp
    refine lv_if_gt (tgt := 17) hx hb dX7_isIn_10 (by decide) (fun c4 => ?_) (fun c4 => ?_)
    · have c4 := (ax_gt (n := 0) (by decide)).mp c4
      refine lv_iconst (v := 0) hx hb dX7_isIn_17 (by decide) ?_
      exact W.zret (v := 0) (ty := .boolean) hx hb hr (by decide) (fun t ht hW => ⟨⟨0, F, rfl, ⟨(by decide), trivial, rfl, (show ((0 = 0 ∧ (y0.toInt < y1.toInt ∨ y2.toInt < y0.toInt)) ∨ (0 = 1 ∧ y1.toInt ≤ y0.toInt ∧ y0.toInt ≤ y2.toInt)) from (Or.inl ⟨by decide, by omega⟩))⟩, by rw [ht]; exact hP, va_K.moved hW.alike hK⟩, hS.F ht⟩) hS.2.2 dX7_isIn_18
    · have c4 := mt (ax_gt (n := 0) (by decide)).mpr c4
      refine lv_iconst (v := 1) hx hb dX7_isIn_13 (by decide) ?_
      refine lv_goto (tgt := 18) hx hb dX7_isIn_14 (by decide) ?_
      exact W.zret (v := 1) (ty := .boolean) hx hb hr (by decide) (fun t ht hW => ⟨⟨1, F, rfl, ⟨(by decide), trivial, rfl, (show ((1 = 0 ∧ (y0.toInt < y1.toInt ∨ y2.toInt < y0.toInt)) ∨ (1 = 1 ∧ y1.toInt ≤ y0.toInt ∧ y0.toInt ≤ y2.toInt)) from (Or.inr ⟨by decide, by omega⟩))⟩, by rw [ht]; exact hP, va_K.moved hW.alike hK⟩, hS.F ht⟩) hS.2.2 dX7_isIn_18

set_option maxHeartbeats 4000000 in
set_option maxRecDepth 100000 in
theorem y_X7_flag (l : Launch) (dC : Nat → ClassId) (dI : Nat → Nat → Nat) (sz : Nat) {L : List Nat} {cs : Nat → ClassId} (F : Nat → va_E) (x0 : Int32) (hx0 : 0 ≤ x0.toInt ∧ x0.toInt ≤ 1) : Met l yX7_flag (Cond.code yX7_flag cX7_flag 1 (some .int) :: T0) ({ frames := 0, cells := 0, slots := 0, locals := 0 }) (va_Pc [.int x0] (s_W dC dI sz L F [(cs 0, .int), (cs 1, .byte), (cs 2, .long), (cs 3, .object RX5), (cs 4, .object RX4), (cs 5, .array .int), (cs 6, .char), (cs 7, .boolean)])) (va_Qi (fun (r : Int32) (G : Nat → va_E) => (0 ≤ r.toInt ∧ r.toInt ≤ 1) ∧ (¬ r = 0 → 1 ≤ x0.toInt ∧ x0.toInt ≤ 1) ∧ G = F ∧ True) (fun (G : Nat → va_E) (t : State) => va_P (dC, dI) vwCl (va_pl L G) t.heap ∧ va_K (dC, dI) vwCl [(cs 0, .int), (cs 1, .byte), (cs 2, .long), (cs 3, .object RX5), (cs 4, .object RX4), (cs 5, .array .int), (cs 6, .char), (cs 7, .boolean)] t) (fun q => q ∈ L)) 0 0 (fun q => q ∈ L) := by
  refine Met.ofW (cc := cX7_flag) (maxL := 1) (ret := (some .int)) (by decide) rfl ?_
  intro p e s m args below meth c s₁ B hml hv
  obtain ⟨rfl, hsz, hP, hK, hD, hN⟩ := hv
  have hx := B.exec
  have hb := B.bytes
  have hr := B.returns
  have hts : ∀ w ∈ T0, w.before _ s = true := fun w h => atoms_spec (ws := Cond.code yX7_flag cX7_flag 1 (some .int) :: T0) B.pre w (List.mem_cons_of_mem _ h)
  have hown : s.vm.findClass RX7 = some m.cls := findClass_of_methodNamed B.named
  have hlocks := B.notSynchronized
  have hS : va_S (fun q => q ∈ L) s.heap s.heap [] := va_S.rf
  have hl := lv_entry ([.int x0]) (n := 1) (Nat.le_of_ble_eq_true rfl)
  rw [lg_entry_eq]
  generalize (lg_sl ([.int x0]) ++ List.replicate (1 - (lg_sl ([.int x0])).length) Slot.unset).toArray = ls at hl ⊢
  have hl : lv_has ls 1 [(0, .int x0)] := hl
  refine s_gen hP hS (fun H locs hP hS => ?_)
  refine lv_iload_n hx hb dX7_flag_0 rfl (lv_at hl 0 rfl) ?_
  refine lv_if_eq (tgt := 8) hx hb dX7_flag_1 (by decide) (fun c1 => ?_) (fun c1 => ?_)
  · have c1 := (ax_eq (n := 0) (by decide)).mp c1
    refine lv_iconst (v := 0) hx hb dX7_flag_8 (by decide) ?_
    exact W.iret (v := 0) hx hb hr (fun t ht hW => ⟨⟨0, F, rfl, ⟨(by decide), (fun q => absurd (by decide) q), rfl, trivial⟩, by rw [ht]; exact hP, va_K.moved hW.alike hK⟩, hS.F ht⟩) hS.2.2 dX7_flag_9
  · have c1 := mt (ax_eq (n := 0) (by decide)).mpr c1
    refine lv_iconst (v := 1) hx hb dX7_flag_4 (by decide) ?_
    refine lv_goto (tgt := 9) hx hb dX7_flag_5 (by decide) ?_
    exact W.iret (v := 1) hx hb hr (fun t ht hW => ⟨⟨1, F, rfl, ⟨(by decide), (fun q => ⟨by omega, by omega⟩), rfl, trivial⟩, by rw [ht]; exact hP, va_K.moved hW.alike hK⟩, hS.F ht⟩) hS.2.2 dX7_flag_9

set_option maxHeartbeats 4000000 in
set_option maxRecDepth 100000 in
theorem y_X7_isLetter (l : Launch) (dC : Nat → ClassId) (dI : Nat → Nat → Nat) (sz : Nat) {L : List Nat} {cs : Nat → ClassId} (F : Nat → va_E) (x0 : Int32)  : Met l yX7_isLetter (Cond.code yX7_isLetter cX7_isLetter 1 (some .boolean) :: T0) ({ frames := 0, cells := 0, slots := 0, locals := 0 }) (va_Pc [.int x0] (s_W dC dI sz L F [(cs 0, .int), (cs 1, .byte), (cs 2, .long), (cs 3, .object RX5), (cs 4, .object RX4), (cs 5, .array .int), (cs 6, .char), (cs 7, .boolean)])) (va_Qi (fun (r : Int32) (G : Nat → va_E) => (0 ≤ r.toInt ∧ r.toInt ≤ 1) ∧ (¬ r = 0 → 97 ≤ x0.toInt ∧ x0.toInt ≤ 122) ∧ G = F ∧ True) (fun (G : Nat → va_E) (t : State) => va_P (dC, dI) vwCl (va_pl L G) t.heap ∧ va_K (dC, dI) vwCl [(cs 0, .int), (cs 1, .byte), (cs 2, .long), (cs 3, .object RX5), (cs 4, .object RX4), (cs 5, .array .int), (cs 6, .char), (cs 7, .boolean)] t) (fun q => q ∈ L)) 0 0 (fun q => q ∈ L) := by
  refine Met.ofW (cc := cX7_isLetter) (maxL := 1) (ret := (some .boolean)) (by decide) rfl ?_
  intro p e s m args below meth c s₁ B hml hv
  obtain ⟨rfl, hsz, hP, hK, hD, hN⟩ := hv
  have hx := B.exec
  have hb := B.bytes
  have hr := B.returns
  have hts : ∀ w ∈ T0, w.before _ s = true := fun w h => atoms_spec (ws := Cond.code yX7_isLetter cX7_isLetter 1 (some .boolean) :: T0) B.pre w (List.mem_cons_of_mem _ h)
  have hown : s.vm.findClass RX7 = some m.cls := findClass_of_methodNamed B.named
  have hlocks := B.notSynchronized
  have hS : va_S (fun q => q ∈ L) s.heap s.heap [] := va_S.rf
  have hl := lv_entry ([.int x0]) (n := 1) (Nat.le_of_ble_eq_true rfl)
  rw [lg_entry_eq]
  generalize (lg_sl ([.int x0]) ++ List.replicate (1 - (lg_sl ([.int x0])).length) Slot.unset).toArray = ls at hl ⊢
  have hl : lv_has ls 1 [(0, .int x0)] := hl
  refine s_gen hP hS (fun H locs hP hS => ?_)
  refine lv_iload_n hx hb dX7_isLetter_0 rfl (lv_at hl 0 rfl) ?_
  refine lv_bipush (v := 97) hx hb dX7_isLetter_1 (by decide) ?_
  refine lv_icmp_lt (tgt := 16) hx hb dX7_isLetter_3 (by decide) (fun c1 => ?_) (fun c1 => ?_)
  · have c1 := (ax_lt (n := 97) (by decide)).mp c1
    refine lv_iconst (v := 0) hx hb dX7_isLetter_16 (by decide) ?_
    exact W.zret (v := 0) (ty := .boolean) hx hb hr (by decide) (fun t ht hW => ⟨⟨0, F, rfl, ⟨(by decide), (fun q => absurd (by decide) q), rfl, trivial⟩, by rw [ht]; exact hP, va_K.moved hW.alike hK⟩, hS.F ht⟩) hS.2.2 dX7_isLetter_17
  · have c1 := mt (ax_lt (n := 97) (by decide)).mpr c1
    refine lv_iload_n hx hb dX7_isLetter_6 rfl (lv_at hl 0 rfl) ?_
    refine lv_bipush (v := 122) hx hb dX7_isLetter_7 (by decide) ?_
    refine lv_icmp_gt (tgt := 16) hx hb dX7_isLetter_9 (by decide) (fun c2 => ?_) (fun c2 => ?_)
    · have c2 := (ax_gt (n := 122) (by decide)).mp c2
      refine lv_iconst (v := 0) hx hb dX7_isLetter_16 (by decide) ?_
      exact W.zret (v := 0) (ty := .boolean) hx hb hr (by decide) (fun t ht hW => ⟨⟨0, F, rfl, ⟨(by decide), (fun q => absurd (by decide) q), rfl, trivial⟩, by rw [ht]; exact hP, va_K.moved hW.alike hK⟩, hS.F ht⟩) hS.2.2 dX7_isLetter_17
    · have c2 := mt (ax_gt (n := 122) (by decide)).mpr c2
      refine lv_iconst (v := 1) hx hb dX7_isLetter_12 (by decide) ?_
      refine lv_goto (tgt := 17) hx hb dX7_isLetter_13 (by decide) ?_
      exact W.zret (v := 1) (ty := .boolean) hx hb hr (by decide) (fun t ht hW => ⟨⟨1, F, rfl, ⟨(by decide), (fun q => ⟨by omega, by omega⟩), rfl, trivial⟩, by rw [ht]; exact hP, va_K.moved hW.alike hK⟩, hS.F ht⟩) hS.2.2 dX7_isLetter_17

set_option maxHeartbeats 4000000 in
set_option maxRecDepth 100000 in
theorem y_X7_isDigit (l : Launch) (dC : Nat → ClassId) (dI : Nat → Nat → Nat) (sz : Nat) {L : List Nat} {cs : Nat → ClassId} (F : Nat → va_E) (x0 : Int32)  : Met l yX7_isDigit (Cond.code yX7_isDigit cX7_isDigit 1 (some .boolean) :: T0) ({ frames := 0, cells := 0, slots := 0, locals := 0 }) (va_Pc [.int x0] (s_W dC dI sz L F [(cs 0, .int), (cs 1, .byte), (cs 2, .long), (cs 3, .object RX5), (cs 4, .object RX4), (cs 5, .array .int), (cs 6, .char), (cs 7, .boolean)])) (va_Qi (fun (r : Int32) (G : Nat → va_E) => (0 ≤ r.toInt ∧ r.toInt ≤ 1) ∧ (¬ r = 0 → 48 ≤ x0.toInt ∧ x0.toInt ≤ 57) ∧ G = F ∧ True) (fun (G : Nat → va_E) (t : State) => va_P (dC, dI) vwCl (va_pl L G) t.heap ∧ va_K (dC, dI) vwCl [(cs 0, .int), (cs 1, .byte), (cs 2, .long), (cs 3, .object RX5), (cs 4, .object RX4), (cs 5, .array .int), (cs 6, .char), (cs 7, .boolean)] t) (fun q => q ∈ L)) 0 0 (fun q => q ∈ L) := by
  refine Met.ofW (cc := cX7_isDigit) (maxL := 1) (ret := (some .boolean)) (by decide) rfl ?_
  intro p e s m args below meth c s₁ B hml hv
  obtain ⟨rfl, hsz, hP, hK, hD, hN⟩ := hv
  have hx := B.exec
  have hb := B.bytes
  have hr := B.returns
  have hts : ∀ w ∈ T0, w.before _ s = true := fun w h => atoms_spec (ws := Cond.code yX7_isDigit cX7_isDigit 1 (some .boolean) :: T0) B.pre w (List.mem_cons_of_mem _ h)
  have hown : s.vm.findClass RX7 = some m.cls := findClass_of_methodNamed B.named
  have hlocks := B.notSynchronized
  have hS : va_S (fun q => q ∈ L) s.heap s.heap [] := va_S.rf
  have hl := lv_entry ([.int x0]) (n := 1) (Nat.le_of_ble_eq_true rfl)
  rw [lg_entry_eq]
  generalize (lg_sl ([.int x0]) ++ List.replicate (1 - (lg_sl ([.int x0])).length) Slot.unset).toArray = ls at hl ⊢
  have hl : lv_has ls 1 [(0, .int x0)] := hl
  refine s_gen hP hS (fun H locs hP hS => ?_)
  refine lv_iload_n hx hb dX7_isDigit_0 rfl (lv_at hl 0 rfl) ?_
  refine lv_bipush (v := 48) hx hb dX7_isDigit_1 (by decide) ?_
  refine lv_icmp_lt (tgt := 16) hx hb dX7_isDigit_3 (by decide) (fun c1 => ?_) (fun c1 => ?_)
  · have c1 := (ax_lt (n := 48) (by decide)).mp c1
    refine lv_iconst (v := 0) hx hb dX7_isDigit_16 (by decide) ?_
    exact W.zret (v := 0) (ty := .boolean) hx hb hr (by decide) (fun t ht hW => ⟨⟨0, F, rfl, ⟨(by decide), (fun q => absurd (by decide) q), rfl, trivial⟩, by rw [ht]; exact hP, va_K.moved hW.alike hK⟩, hS.F ht⟩) hS.2.2 dX7_isDigit_17
  · have c1 := mt (ax_lt (n := 48) (by decide)).mpr c1
    refine lv_iload_n hx hb dX7_isDigit_6 rfl (lv_at hl 0 rfl) ?_
    refine lv_bipush (v := 57) hx hb dX7_isDigit_7 (by decide) ?_
    refine lv_icmp_gt (tgt := 16) hx hb dX7_isDigit_9 (by decide) (fun c2 => ?_) (fun c2 => ?_)
    · have c2 := (ax_gt (n := 57) (by decide)).mp c2
      refine lv_iconst (v := 0) hx hb dX7_isDigit_16 (by decide) ?_
      exact W.zret (v := 0) (ty := .boolean) hx hb hr (by decide) (fun t ht hW => ⟨⟨0, F, rfl, ⟨(by decide), (fun q => absurd (by decide) q), rfl, trivial⟩, by rw [ht]; exact hP, va_K.moved hW.alike hK⟩, hS.F ht⟩) hS.2.2 dX7_isDigit_17
    · have c2 := mt (ax_gt (n := 57) (by decide)).mpr c2
      refine lv_iconst (v := 1) hx hb dX7_isDigit_12 (by decide) ?_
      refine lv_goto (tgt := 17) hx hb dX7_isDigit_13 (by decide) ?_
      exact W.zret (v := 1) (ty := .boolean) hx hb hr (by decide) (fun t ht hW => ⟨⟨1, F, rfl, ⟨(by decide), (fun q => ⟨by omega, by omega⟩), rfl, trivial⟩, by rw [ht]; exact hP, va_K.moved hW.alike hK⟩, hS.F ht⟩) hS.2.2 dX7_isDigit_17

set_option maxHeartbeats 4000000 in
set_option maxRecDepth 100000 in
theorem y_X7_refuses (l : Launch) (dC : Nat → ClassId) (dI : Nat → Nat → Nat) (sz : Nat) {L : List Nat} {K : Nat → Nat} {cs : Nat → ClassId} (hLK : ∀ a {k : Nat}, K a = k → k ≠ 0 → a ∈ L) (A : Nat → Nat) (hA : y_A K A) (F : Nat → va_E) (a0 : Nat) (x1 : Int32) (ha0 : K a0 = 9) (hx1 : 0 ≤ x1.toInt ∧ x1.toInt ≤ 5) (hI : y_I K cs A F) : Met l yX7_refuses (Cond.code yX7_refuses cX7_refuses 2 (some .int) :: T0) ({ frames := 0, cells := 0, slots := 0, locals := 0 }) (va_Pc [.ref a0, .int x1] (s_W dC dI sz L F [(cs 0, .int), (cs 1, .byte), (cs 2, .long), (cs 3, .object RX5), (cs 4, .object RX4), (cs 5, .array .int), (cs 6, .char), (cs 7, .boolean)])) (va_Qi (fun (r : Int32) (G : Nat → va_E) => (-1 ≤ r.toInt ∧ r.toInt ≤ -1) ∧ True ∧ y_I K cs A G ∧ (∀ b, K b ∉ [59] → G b = F b) ∧ (∀ k, k ∈ ([1, 2, 3, 4, 5, 6, 7, 8, 11, 15, 16, 19, 25, 26, 27, 31, 32] : List Nat) → y_fi G a0 k = y_fi F a0 k) ∧ True) (fun (G : Nat → va_E) (t : State) => va_P (dC, dI) vwCl (va_pl L G) t.heap ∧ va_K (dC, dI) vwCl [(cs 0, .int), (cs 1, .byte), (cs 2, .long), (cs 3, .object RX5), (cs 4, .object RX4), (cs 5, .array .int), (cs 6, .char), (cs 7, .boolean)] t) (fun q => q ∈ L)) 0 0 (fun q => q ∈ L) := by
  refine Met.ofW (cc := cX7_refuses) (maxL := 2) (ret := (some .int)) (by decide) rfl ?_
  intro p e s m args below meth c s₁ B hml hv
  obtain ⟨rfl, hsz, hP, hK, hD, hN⟩ := hv
  have hx := B.exec
  have hb := B.bytes
  have hr := B.returns
  have hts : ∀ w ∈ T0, w.before _ s = true := fun w h => atoms_spec (ws := Cond.code yX7_refuses cX7_refuses 2 (some .int) :: T0) B.pre w (List.mem_cons_of_mem _ h)
  have hown : s.vm.findClass RX7 = some m.cls := findClass_of_methodNamed B.named
  have hlocks := B.notSynchronized
  have hS : va_S (fun q => q ∈ L) s.heap s.heap [] := va_S.rf
  have hfr : ∀ b, K b ∉ [59] → F b = F b := fun _ _ => rfl
  have hl := lv_entry ([.ref a0, .int x1]) (n := 2) (Nat.le_of_ble_eq_true rfl)
  rw [lg_entry_eq]
  generalize (lg_sl ([.ref a0, .int x1]) ++ List.replicate (2 - (lg_sl ([.ref a0, .int x1])).length) Slot.unset).toArray = ls at hl ⊢
  have hl : lv_has ls 2 [(0, .ref a0), (1, .int x1)] := hl
  refine s_gen hP hS (fun H locs hP hS => ?_)
  obtain ⟨z0, q0, oY0, bz0⟩ := y_opY hI ha0
  have hz0 : ∀ k, k ∈ ([1, 2, 3, 4, 5, 6, 7, 8, 11, 15, 16, 19, 25, 26, 27, 31, 32] : List Nat) → z0 k = z0 k := fun _ _ => rfl
  refine lv_aload_n hx hb dX7_refuses_0 rfl (lv_at hl 0 rfl) ?_
  refine th_get (D := (dC, dI)) (ci := 7) (v := .ref (A 9)) (C := RX7) (T := TX7) (N := 34) hx hb hts inX7 hown hK hP (hLK _ ha0 (by decide)) oY0 rfl 9 (by decide) (hts _ T_242) (fun _ h9 => h9) rfl dX7_refuses_1 ?_
  refine lv_iload_n hx hb dX7_refuses_4 rfl (lv_at hl 1 rfl) ?_
  refine lv_dup2_11 hx hb dX7_refuses_5 rfl rfl ?_
  obtain ⟨f1, o2, b3⟩ := y_op9 hI
  refine th_iald hx hb hK hP (hLK _ (y_k9 hA) (by decide)) 0 o2 rfl (th_in ⟨by omega, by omega⟩) dX7_refuses_6 ?_
  refine lv_topi (fun v4 ev4 => ?_)
  refine lv_iconst (v := 1) hx hb dX7_refuses_7 (by decide) ?_
  refine lv_iadd hx hb dX7_refuses_8 ?_
  refine lv_topi (fun v5 ev5 => ?_)
  refine th_iast hx hb hK hP hD hS (hLK _ (y_k9 hA) (by decide)) 0 o2 rfl (th_in ⟨by omega, by omega⟩) dX7_refuses_9 (fun H locs hP hS => ?_)
  obtain ⟨f6, u7⟩ : ∃ g : Nat → Int32, g = upd f1 (x1 : Int32).toNatClampNeg v5 := ⟨_, rfl⟩
  rw [← u7] at hP
  have b8 : y_bd 9 f6 := trivial
  have hP : va_P (dC, dI) vwCl (va_pl L (va_up F (A 9) (.inl (cs 0, 6, .inl f6)))) H := hP
  obtain ⟨F9, hF10⟩ : ∃ G : Nat → va_E, G = va_up F (A 9) (.inl (cs 0, 6, .inl f6)) := ⟨_, rfl⟩
  rw [← hF10] at hP
  have hI : y_I K cs A F9 := by rw [hF10]; exact y_clA (i := 9) hA hI (by decide) b8
  have hfr : ∀ b, K b ∉ [59] → F9 b = F b := by rw [hF10]; exact s_fr hfr (y_k9 hA) (by decide)
  have oY11 : F9 a0 = .inr (7, y_fl A z0 q0) := by rw [hF10]; exact th_ne (th_kd ha0 (y_k9 hA) (by decide)) oY0
  have o12 : F9 (A 9) = .inl (cs 0, 6, .inl f6) := by rw [hF10]; exact th_up
  have u13 : ∀ j : Int, 0 ≤ j → y_c f6 j = if j = x1.toInt then v5 else y_c f1 j := by rw [u7]; exact y_cu rfl (by omega)
  refine lv_iconst (v := (-1)) hx hb dX7_refuses_10 (by decide) ?_
  exact W.iret (v := (-1)) hx hb hr (fun t ht hW => ⟨⟨(-1), F9, rfl, ⟨(by decide), trivial, hI, hfr, fun k hk => (y_fiZ oY11 (s_sub (by decide) hk)).trans ((hz0 k hk).trans (y_fiZ oY0 (s_sub (by decide) hk)).symm), trivial⟩, by rw [ht]; exact hP, va_K.moved hW.alike hK⟩, hS.F ht⟩) hS.2.2 dX7_refuses_11

set_option maxHeartbeats 4000000 in
set_option maxRecDepth 100000 in
theorem y_X7_isRefused (l : Launch) (dC : Nat → ClassId) (dI : Nat → Nat → Nat) (sz : Nat) {L : List Nat} {K : Nat → Nat} {cs : Nat → ClassId} (hLK : ∀ a {k : Nat}, K a = k → k ≠ 0 → a ∈ L) (A : Nat → Nat) (hA : y_A K A) (F : Nat → va_E) (a0 : Nat) (x1 : Int32) (ha0 : K a0 = 9) (hx1 : 0 ≤ x1.toInt ∧ x1.toInt ≤ 5) (hI : y_I K cs A F) : Met l yX7_isRefused (Cond.code yX7_isRefused cX7_isRefused 2 (some .boolean) :: T0) ({ frames := 0, cells := 0, slots := 0, locals := 0 }) (va_Pc [.ref a0, .int x1] (s_W dC dI sz L F [(cs 0, .int), (cs 1, .byte), (cs 2, .long), (cs 3, .object RX5), (cs 4, .object RX4), (cs 5, .array .int), (cs 6, .char), (cs 7, .boolean)])) (va_Qi (fun (r : Int32) (G : Nat → va_E) => (0 ≤ r.toInt ∧ r.toInt ≤ 0) ∧ True ∧ y_I K cs A G ∧ (∀ b, K b ∉ [59] → G b = F b) ∧ (∀ k, k ∈ ([1, 2, 3, 4, 5, 6, 7, 8, 11, 15, 16, 19, 25, 26, 27, 31, 32] : List Nat) → y_fi G a0 k = y_fi F a0 k) ∧ True) (fun (G : Nat → va_E) (t : State) => va_P (dC, dI) vwCl (va_pl L G) t.heap ∧ va_K (dC, dI) vwCl [(cs 0, .int), (cs 1, .byte), (cs 2, .long), (cs 3, .object RX5), (cs 4, .object RX4), (cs 5, .array .int), (cs 6, .char), (cs 7, .boolean)] t) (fun q => q ∈ L)) 0 0 (fun q => q ∈ L) := by
  refine Met.ofW (cc := cX7_isRefused) (maxL := 2) (ret := (some .boolean)) (by decide) rfl ?_
  intro p e s m args below meth c s₁ B hml hv
  obtain ⟨rfl, hsz, hP, hK, hD, hN⟩ := hv
  have hx := B.exec
  have hb := B.bytes
  have hr := B.returns
  have hts : ∀ w ∈ T0, w.before _ s = true := fun w h => atoms_spec (ws := Cond.code yX7_isRefused cX7_isRefused 2 (some .boolean) :: T0) B.pre w (List.mem_cons_of_mem _ h)
  have hown : s.vm.findClass RX7 = some m.cls := findClass_of_methodNamed B.named
  have hlocks := B.notSynchronized
  have hS : va_S (fun q => q ∈ L) s.heap s.heap [] := va_S.rf
  have hfr : ∀ b, K b ∉ [59] → F b = F b := fun _ _ => rfl
  have hl := lv_entry ([.ref a0, .int x1]) (n := 2) (Nat.le_of_ble_eq_true rfl)
  rw [lg_entry_eq]
  generalize (lg_sl ([.ref a0, .int x1]) ++ List.replicate (2 - (lg_sl ([.ref a0, .int x1])).length) Slot.unset).toArray = ls at hl ⊢
  have hl : lv_has ls 2 [(0, .ref a0), (1, .int x1)] := hl
  refine s_gen hP hS (fun H locs hP hS => ?_)
  obtain ⟨z0, q0, oY0, bz0⟩ := y_opY hI ha0
  have hz0 : ∀ k, k ∈ ([1, 2, 3, 4, 5, 6, 7, 8, 11, 15, 16, 19, 25, 26, 27, 31, 32] : List Nat) → z0 k = z0 k := fun _ _ => rfl
  refine lv_aload_n hx hb dX7_isRefused_0 rfl (lv_at hl 0 rfl) ?_
  refine th_get (D := (dC, dI)) (ci := 7) (v := .ref (A 9)) (C := RX7) (T := TX7) (N := 34) hx hb hts inX7 hown hK hP (hLK _ ha0 (by decide)) oY0 rfl 9 (by decide) (hts _ T_242) (fun _ h9 => h9) rfl dX7_isRefused_1 ?_
  refine lv_iload_n hx hb dX7_isRefused_4 rfl (lv_at hl 1 rfl) ?_
  refine lv_dup2_11 hx hb dX7_isRefused_5 rfl rfl ?_
  obtain ⟨f1, o2, b3⟩ := y_op9 hI
  refine th_iald hx hb hK hP (hLK _ (y_k9 hA) (by decide)) 0 o2 rfl (th_in ⟨by omega, by omega⟩) dX7_isRefused_6 ?_
  refine lv_topi (fun v4 ev4 => ?_)
  refine lv_iconst (v := 1) hx hb dX7_isRefused_7 (by decide) ?_
  refine lv_iadd hx hb dX7_isRefused_8 ?_
  refine lv_topi (fun v5 ev5 => ?_)
  refine th_iast hx hb hK hP hD hS (hLK _ (y_k9 hA) (by decide)) 0 o2 rfl (th_in ⟨by omega, by omega⟩) dX7_isRefused_9 (fun H locs hP hS => ?_)
  obtain ⟨f6, u7⟩ : ∃ g : Nat → Int32, g = upd f1 (x1 : Int32).toNatClampNeg v5 := ⟨_, rfl⟩
  rw [← u7] at hP
  have b8 : y_bd 9 f6 := trivial
  have hP : va_P (dC, dI) vwCl (va_pl L (va_up F (A 9) (.inl (cs 0, 6, .inl f6)))) H := hP
  obtain ⟨F9, hF10⟩ : ∃ G : Nat → va_E, G = va_up F (A 9) (.inl (cs 0, 6, .inl f6)) := ⟨_, rfl⟩
  rw [← hF10] at hP
  have hI : y_I K cs A F9 := by rw [hF10]; exact y_clA (i := 9) hA hI (by decide) b8
  have hfr : ∀ b, K b ∉ [59] → F9 b = F b := by rw [hF10]; exact s_fr hfr (y_k9 hA) (by decide)
  have oY11 : F9 a0 = .inr (7, y_fl A z0 q0) := by rw [hF10]; exact th_ne (th_kd ha0 (y_k9 hA) (by decide)) oY0
  have o12 : F9 (A 9) = .inl (cs 0, 6, .inl f6) := by rw [hF10]; exact th_up
  have u13 : ∀ j : Int, 0 ≤ j → y_c f6 j = if j = x1.toInt then v5 else y_c f1 j := by rw [u7]; exact y_cu rfl (by omega)
  refine lv_iconst (v := 0) hx hb dX7_isRefused_10 (by decide) ?_
  exact W.zret (v := 0) (ty := .boolean) hx hb hr (by decide) (fun t ht hW => ⟨⟨0, F9, rfl, ⟨(by decide), trivial, hI, hfr, fun k hk => (y_fiZ oY11 (s_sub (by decide) hk)).trans ((hz0 k hk).trans (y_fiZ oY0 (s_sub (by decide) hk)).symm), trivial⟩, by rw [ht]; exact hP, va_K.moved hW.alike hK⟩, hS.F ht⟩) hS.2.2 dX7_isRefused_11

set_option maxHeartbeats 4000000 in
set_option maxRecDepth 100000 in
theorem y_X7_feed (l : Launch) (dC : Nat → ClassId) (dI : Nat → Nat → Nat) (sz : Nat) {L : List Nat} {K : Nat → Nat} {cs : Nat → ClassId} (hLK : ∀ a {k : Nat}, K a = k → k ≠ 0 → a ∈ L) (A : Nat → Nat) (hA : y_A K A) (F : Nat → va_E) (a0 : Nat) (x1 : Int32) (x2 : Int32) (x3 : Int32) (x4 : Int32) (x5 : Int32) (ha0 : K a0 = 9) (hI : y_I K cs A F) : Met l yX7_feed (Cond.code yX7_feed cX7_feed 8 (some .int) :: T0) ({ frames := 1, cells := 0, slots := 0, locals := 21 }) (va_Pc [.ref a0, .int x1, .int x2, .int x3, .int x4, .int x5] (s_W dC dI sz L F [(cs 0, .int), (cs 1, .byte), (cs 2, .long), (cs 3, .object RX5), (cs 4, .object RX4), (cs 5, .array .int), (cs 6, .char), (cs 7, .boolean)])) (va_Qi (fun (r : Int32) (G : Nat → va_E) => (-1 ≤ r.toInt ∧ r.toInt ≤ 1600) ∧ True ∧ y_I K cs A G ∧ (∀ b, K b ∉ [9, 50, 59] → G b = F b) ∧ (∀ k, k ∈ ([2, 3, 4, 5, 6, 7, 8, 11, 15, 16, 19, 25, 26, 27, 31, 32] : List Nat) → y_fi G a0 k = y_fi F a0 k) ∧ (((y_fi F a0 1).toInt ≤ 1580 ∧ r.toInt = (y_fi F a0 1).toInt + 20 ∧ (y_fi G a0 1).toInt = (y_fi F a0 1).toInt + 20) ∨ (1580 < (y_fi F a0 1).toInt ∧ r.toInt = -1 ∧ (y_fi G a0 1).toInt = (y_fi F a0 1).toInt))) (fun (G : Nat → va_E) (t : State) => va_P (dC, dI) vwCl (va_pl L G) t.heap ∧ va_K (dC, dI) vwCl [(cs 0, .int), (cs 1, .byte), (cs 2, .long), (cs 3, .object RX5), (cs 4, .object RX4), (cs 5, .array .int), (cs 6, .char), (cs 7, .boolean)] t) (fun q => q ∈ L)) 0 0 (fun q => q ∈ L) := by
  refine Met.ofW (cc := cX7_feed) (maxL := 8) (ret := (some .int)) (by decide) rfl ?_
  intro p e s m args below meth c s₁ B hml hv
  obtain ⟨rfl, hsz, hP, hK, hD, hN⟩ := hv
  have hx := B.exec
  have hb := B.bytes
  have hr := B.returns
  have hts : ∀ w ∈ T0, w.before _ s = true := fun w h => atoms_spec (ws := Cond.code yX7_feed cX7_feed 8 (some .int) :: T0) B.pre w (List.mem_cons_of_mem _ h)
  have hown : s.vm.findClass RX7 = some m.cls := findClass_of_methodNamed B.named
  have hlocks := B.notSynchronized
  have hS : va_S (fun q => q ∈ L) s.heap s.heap [] := va_S.rf
  have hfr : ∀ b, K b ∉ [9, 50, 59] → F b = F b := fun _ _ => rfl
  have hl := lv_entry ([.ref a0, .int x1, .int x2, .int x3, .int x4, .int x5]) (n := 8) (Nat.le_of_ble_eq_true rfl)
  rw [lg_entry_eq]
  generalize (lg_sl ([.ref a0, .int x1, .int x2, .int x3, .int x4, .int x5]) ++ List.replicate (8 - (lg_sl ([.ref a0, .int x1, .int x2, .int x3, .int x4, .int x5])).length) Slot.unset).toArray = ls at hl ⊢
  have hl : lv_has ls 8 [(0, .ref a0), (1, .int x1), (2, .int x2), (3, .int x3), (4, .int x4), (5, .int x5)] := hl
  refine s_gen hP hS (fun H locs hP hS => ?_)
  obtain ⟨z0, q0, oY0, bz0⟩ := y_opY hI ha0
  have hz0 : ∀ k, k ∈ ([2, 3, 4, 5, 6, 7, 8, 11, 15, 16, 19, 25, 26, 27, 31, 32] : List Nat) → z0 k = z0 k := fun _ _ => rfl
  obtain ⟨v1, ev1⟩ : ∃ y : Int32, y = z0 1 := ⟨_, rfl⟩
  have qv1 : 0 ≤ v1.toInt ∧ v1.toInt ≤ 1600 := by rw [ev1]; exact y_bY1 bz0
  have eF_1 := ev1
  have e0_v1 := ev1
  refine lv_aload_n hx hb dX7_feed_0 rfl (lv_at hl 0 rfl) ?_
  refine th_get (D := (dC, dI)) (ci := 7) (v := .int (z0 1)) (C := RX7) (T := TX7) (N := 34) hx hb hts inX7 hown hK hP (hLK _ ha0 (by decide)) oY0 rfl 1 (by decide) (hts _ T_261) (fun _ h9 => h9) rfl dX7_feed_1 ?_
  refine ax_eqi (y := v1) ev1.symm ?_
  refine lv_bipush (v := 20) hx hb dX7_feed_4 (by decide) ?_
  refine lv_iadd hx hb dX7_feed_6 ?_
  refine lv_topi (fun v2 ev2 => ?_)
  have qv2 : v2.toInt = v1.toInt + 20 := by rw [ev2]; exact th_add rfl (by decide) ⟨by omega, by omega⟩
  refine lv_sipush (v := 1600) hx hb dX7_feed_7 (by decide) ?_
  refine lv_icmp_le (tgt := 19) hx hb dX7_feed_10 (by decide) (fun c3 => ?_) (fun c3 => ?_)
  · have c3 := (ax_le (n := 1600) (by decide)).mp c3
    refine lv_iconst (v := 0) hx hb dX7_feed_19 (by decide) ?_
    refine lv_istore (lv' := [(6, .int 0), (0, .ref a0), (1, .int x1), (2, .int x2), (3, .int x3), (4, .int x4), (5, .int x5)]) hx hb dX7_feed_20 hl (by decide) rfl (fun ls hl => ?_)
    have h5 : (0 : Int32).toInt = 0 := by decide
    refine th_loop (fun n g H locs => ∃ (G : Nat → va_E) (ls : Array Slot) (w4 : Int32), g = F0 m 22 ls [] ∧ lv_has ls 8 [(0, .ref a0), (1, .int x1), (2, .int x2), (3, .int x3), (4, .int x4), (5, .int x5), (6, .int w4)] ∧ va_P (dC, dI) vwCl (va_pl L G) H ∧ va_S (fun q => q ∈ L) s.heap H locs ∧ y_I K cs A G ∧ (∀ b, K b ∉ [9, 50, 59] → G b = F b) ∧ (∀ k, k ∈ ([2, 3, 4, 5, 6, 7, 8, 11, 15, 16, 19, 25, 26, 27, 31, 32] : List Nat) → y_fi G a0 k = z0 k) ∧ (0 ≤ w4.toInt ∧ w4.toInt ≤ 20) ∧ ((y_fi G a0 1).toInt = v1.toInt + w4.toInt ∧ v1.toInt ≤ 1580) ∧ n = (21 - w4.toInt).toNat) _ ⟨F, _, 0, rfl, lv_sub hl [1, 2, 3, 4, 5, 6, 0] rfl, hP, hS, hI, hfr, (fun k hk => (y_fiZ oY0 (s_sub (by decide) hk)).trans (hz0 k hk)), (by decide), (by rw [y_fiZ oY0 (k := 1) (by decide), ← ev1]; omega), rfl⟩ (fun n ih22 g H locs hq => ?_)
    obtain ⟨F8, ls, w4, rfl, hl, hP, hS, hI, hfr, hz0, h6, h7, hn⟩ := hq
    obtain ⟨z9, q10, oY11, bz12⟩ := y_opY hI ha0
    have hz0 : ∀ k, k ∈ ([2, 3, 4, 5, 6, 7, 8, 11, 15, 16, 19, 25, 26, 27, 31, 32] : List Nat) → z9 k = z0 k := fun k hk => (y_fiZ oY11 (s_sub (by decide) hk)).symm.trans (hz0 k hk)
    obtain ⟨v13, ev13⟩ : ∃ y : Int32, y = z9 1 := ⟨_, rfl⟩
    have qv13 : 0 ≤ v13.toInt ∧ v13.toInt ≤ 1600 := by rw [ev13]; exact y_bY1 bz12
    have h7 : (v13.toInt = v1.toInt + w4.toInt ∧ v1.toInt ≤ 1580) := by have q9 := h7; rw [y_fiZ oY11 (k := 1) (by decide), ← ev13] at q9; exact q9
    have hn_13 := hn
    refine th_join (fun g H locs => ∃ (G : Nat → va_E) (ls : Array Slot) (w14 : Int32), g = F0 m 75 ls [.int w14] ∧ lv_has ls 8 [(0, .ref a0), (1, .int x1), (2, .int x2), (3, .int x3), (4, .int x4), (5, .int x5), (6, .int w4)] ∧ va_P (dC, dI) vwCl (va_pl L G) H ∧ va_S (fun q => q ∈ L) s.heap H locs ∧ y_I K cs A G ∧ (∀ b, K b ∉ [9, 50, 59] → G b = F b) ∧ (∀ k, k ∈ ([2, 3, 4, 5, 6, 7, 8, 11, 15, 16, 19, 25, 26, 27, 31, 32] : List Nat) → y_fi G a0 k = z0 k) ∧ True ∧ (0 ≤ w4.toInt ∧ w4.toInt ≤ 19) ∧ ((y_fi G a0 1).toInt = v1.toInt + w4.toInt ∧ v1.toInt ≤ 1580)) (fun K75 => ?_) ?_
    · refine lv_iload hx hb dX7_feed_22 (lv_at hl 6 rfl) ?_
      refine lv_bipush (v := 20) hx hb dX7_feed_24 (by decide) ?_
      refine lv_icmp_ge (tgt := 118) hx hb dX7_feed_26 (by decide) (fun c15 => ?_) (fun c15 => ?_)
      · have c15 := (ax_ge (n := 20) (by decide)).mp c15
        refine lv_aload_n hx hb dX7_feed_118 rfl (lv_at hl 0 rfl) ?_
        refine th_get (D := (dC, dI)) (ci := 7) (v := .int (z9 1)) (C := RX7) (T := TX7) (N := 34) hx hb hts inX7 hown hK hP (hLK _ ha0 (by decide)) oY11 rfl 1 (by decide) (hts _ T_261) (fun _ h9 => h9) rfl dX7_feed_119 ?_
        refine ax_eqi (y := v13) ev13.symm ?_
        exact W.iret (v := v13) hx hb hr (fun t ht hW => ⟨⟨v13, F8, rfl, ⟨⟨by omega, by omega⟩, trivial, hI, hfr, fun k hk => (y_fiZ oY11 (s_sub (by decide) hk)).trans ((hz0 k hk).trans (y_fiZ oY0 (s_sub (by decide) hk)).symm), (by rw [y_fiZ oY0 (k := 1) (by decide), ← eF_1, y_fiZ oY11 (k := 1) (by decide), ← ev13]; omega)⟩, by rw [ht]; exact hP, va_K.moved hW.alike hK⟩, hS.F ht⟩) hS.2.2 dX7_feed_122
      · have c15 := mt (ax_ge (n := 20) (by decide)).mpr c15
        refine lv_iload hx hb dX7_feed_29 (lv_at hl 6 rfl) ?_
        refine lv_iconst (v := 4) hx hb dX7_feed_31 (by decide) ?_
        refine lv_icmp_ge (tgt := 39) hx hb dX7_feed_32 (by decide) (fun c16 => ?_) (fun c16 => ?_)
        · have c16 := (ax_ge (n := 4) (by decide)).mp c16
          refine lv_iload hx hb dX7_feed_39 (lv_at hl 6 rfl) ?_
          refine lv_bipush (v := 8) hx hb dX7_feed_41 (by decide) ?_
          refine lv_icmp_ge (tgt := 50) hx hb dX7_feed_43 (by decide) (fun c17 => ?_) (fun c17 => ?_)
          · have c17 := (ax_ge (n := 8) (by decide)).mp c17
            refine lv_iload hx hb dX7_feed_50 (lv_at hl 6 rfl) ?_
            refine lv_bipush (v := 12) hx hb dX7_feed_52 (by decide) ?_
            refine lv_icmp_ge (tgt := 61) hx hb dX7_feed_54 (by decide) (fun c18 => ?_) (fun c18 => ?_)
            · have c18 := (ax_ge (n := 12) (by decide)).mp c18
              refine lv_iload hx hb dX7_feed_61 (lv_at hl 6 rfl) ?_
              refine lv_bipush (v := 16) hx hb dX7_feed_63 (by decide) ?_
              refine lv_icmp_ge (tgt := 73) hx hb dX7_feed_65 (by decide) (fun c19 => ?_) (fun c19 => ?_)
              · have c19 := (ax_ge (n := 16) (by decide)).mp c19
                refine lv_iload hx hb dX7_feed_73 (lv_at hl 5 rfl) ?_
                exact K75 _ _ _ ⟨F8, _, x5, rfl, lv_sub hl [0, 1, 2, 3, 4, 5, 6] rfl, hP, hS, hI, hfr, (fun k hk => (y_fiZ oY11 (s_sub (by decide) hk)).trans (hz0 k hk)), trivial, ⟨by omega, by omega⟩, (by rw [y_fiZ oY11 (k := 1) (by decide), ← ev13]; omega)⟩
              · have c19 := mt (ax_ge (n := 16) (by decide)).mpr c19
                refine lv_iload hx hb dX7_feed_68 (lv_at hl 4 rfl) ?_
                refine lv_goto (tgt := 75) hx hb dX7_feed_70 (by decide) ?_
                exact K75 _ _ _ ⟨F8, _, x4, rfl, lv_sub hl [0, 1, 2, 3, 4, 5, 6] rfl, hP, hS, hI, hfr, (fun k hk => (y_fiZ oY11 (s_sub (by decide) hk)).trans (hz0 k hk)), trivial, ⟨by omega, by omega⟩, (by rw [y_fiZ oY11 (k := 1) (by decide), ← ev13]; omega)⟩
            · have c18 := mt (ax_ge (n := 12) (by decide)).mpr c18
              refine lv_iload_n hx hb dX7_feed_57 rfl (lv_at hl 3 rfl) ?_
              refine lv_goto (tgt := 75) hx hb dX7_feed_58 (by decide) ?_
              exact K75 _ _ _ ⟨F8, _, x3, rfl, lv_sub hl [0, 1, 2, 3, 4, 5, 6] rfl, hP, hS, hI, hfr, (fun k hk => (y_fiZ oY11 (s_sub (by decide) hk)).trans (hz0 k hk)), trivial, ⟨by omega, by omega⟩, (by rw [y_fiZ oY11 (k := 1) (by decide), ← ev13]; omega)⟩
          · have c17 := mt (ax_ge (n := 8) (by decide)).mpr c17
            refine lv_iload_n hx hb dX7_feed_46 rfl (lv_at hl 2 rfl) ?_
            refine lv_goto (tgt := 75) hx hb dX7_feed_47 (by decide) ?_
            exact K75 _ _ _ ⟨F8, _, x2, rfl, lv_sub hl [0, 1, 2, 3, 4, 5, 6] rfl, hP, hS, hI, hfr, (fun k hk => (y_fiZ oY11 (s_sub (by decide) hk)).trans (hz0 k hk)), trivial, ⟨by omega, by omega⟩, (by rw [y_fiZ oY11 (k := 1) (by decide), ← ev13]; omega)⟩
        · have c16 := mt (ax_ge (n := 4) (by decide)).mpr c16
          refine lv_iload_n hx hb dX7_feed_35 rfl (lv_at hl 1 rfl) ?_
          refine lv_goto (tgt := 75) hx hb dX7_feed_36 (by decide) ?_
          exact K75 _ _ _ ⟨F8, _, x1, rfl, lv_sub hl [0, 1, 2, 3, 4, 5, 6] rfl, hP, hS, hI, hfr, (fun k hk => (y_fiZ oY11 (s_sub (by decide) hk)).trans (hz0 k hk)), trivial, ⟨by omega, by omega⟩, (by rw [y_fiZ oY11 (k := 1) (by decide), ← ev13]; omega)⟩
    · intro g H locs hq
      obtain ⟨F23, ls, w14, rfl, hl, hP, hS, hI, hfr, hz0, h20, h21, h22⟩ := hq
      obtain ⟨z24, q25, oY26, bz27⟩ := y_opY hI ha0
      have hz0 : ∀ k, k ∈ ([2, 3, 4, 5, 6, 7, 8, 11, 15, 16, 19, 25, 26, 27, 31, 32] : List Nat) → z24 k = z0 k := fun k hk => (y_fiZ oY26 (s_sub (by decide) hk)).symm.trans (hz0 k hk)
      obtain ⟨v28, ev28⟩ : ∃ y : Int32, y = z24 1 := ⟨_, rfl⟩
      have qv28 : 0 ≤ v28.toInt ∧ v28.toInt ≤ 1600 := by rw [ev28]; exact y_bY1 bz27
      have h22 : (v28.toInt = v1.toInt + w4.toInt ∧ v1.toInt ≤ 1580) := by have q9 := h22; rw [y_fiZ oY26 (k := 1) (by decide), ← ev28] at q9; exact q9
      refine lv_istore (lv' := [(7, .int w14), (0, .ref a0), (1, .int x1), (2, .int x2), (3, .int x3), (4, .int x4), (5, .int x5), (6, .int w4)]) hx hb dX7_feed_75 hl (by decide) rfl (fun ls hl => ?_)
      refine lv_aload_n hx hb dX7_feed_77 rfl (lv_at hl 1 rfl) ?_
      refine th_get (D := (dC, dI)) (ci := 7) (v := .ref (A 0)) (C := RX7) (T := TX7) (N := 34) hx hb hts inX7 hown hK hP (hLK _ ha0 (by decide)) oY26 rfl 0 (by decide) (hts _ T_240) (fun _ h9 => h9) rfl dX7_feed_78 ?_
      refine lv_aload_n hx hb dX7_feed_81 rfl (lv_at hl 1 rfl) ?_
      refine th_get (D := (dC, dI)) (ci := 7) (v := .int (z24 1)) (C := RX7) (T := TX7) (N := 34) hx hb hts inX7 hown hK hP (hLK _ ha0 (by decide)) oY26 rfl 1 (by decide) (hts _ T_261) (fun _ h9 => h9) rfl dX7_feed_82 ?_
      refine ax_eqi (y := v28) ev28.symm ?_
      refine lv_iload hx hb dX7_feed_85 (lv_at hl 0 rfl) ?_
      refine lv_bipush (v := 8) hx hb dX7_feed_87 (by decide) ?_
      refine lv_iconst (v := 3) hx hb dX7_feed_89 (by decide) ?_
      refine lv_iload hx hb dX7_feed_90 (lv_at hl 7 rfl) ?_
      refine lv_iconst (v := 4) hx hb dX7_feed_92 (by decide) ?_
      refine lv_irem hx hb dX7_feed_93 (by decide) ?_
      refine lv_topi (fun v29 ev29 => ?_)
      have qv29 : v29.toInt = w4.toInt % 4 := by rw [ev29]; exact th_rem rfl (by decide) (by omega) (by decide)
      refine lv_isub hx hb dX7_feed_94 ?_
      refine lv_topi (fun v30 ev30 => ?_)
      have qv30 : v30.toInt = 3 - v29.toInt := by rw [ev30]; exact th_sub (by decide) rfl ⟨by omega, by omega⟩
      refine lv_imul hx hb dX7_feed_95 ?_
      refine lv_topi (fun v31 ev31 => ?_)
      have qv31 : v31.toInt = 8 * v30.toInt := by rw [ev31]; exact th_mul (by decide) rfl ⟨by omega, by omega⟩
      refine lv_ishr hx hb dX7_feed_96 ?_
      refine lv_topi (fun v32 ev32 => ?_)
      refine lv_sipush (v := 255) hx hb dX7_feed_97 (by decide) ?_
      refine lv_iand hx hb dX7_feed_100 ?_
      refine lv_topi (fun v33 ev33 => ?_)
      have qv33 : 0 ≤ v33.toInt ∧ v33.toInt ≤ 255 := by rw [ev33]; exact th_and 8 (by decide) (by decide)
      obtain ⟨f34, o35, b36⟩ := y_op0 hI
      refine th_iast hx hb hK hP hD hS (hLK _ (y_k0 hA) (by decide)) 0 o35 rfl (th_in ⟨by omega, by omega⟩) dX7_feed_101 (fun H locs hP hS => ?_)
      obtain ⟨f37, u38⟩ : ∃ g : Nat → Int32, g = upd f34 (v28 : Int32).toNatClampNeg v33 := ⟨_, rfl⟩
      rw [← u38] at hP
      have b39 : y_bd 0 f37 := trivial
      have hP : va_P (dC, dI) vwCl (va_pl L (va_up F23 (A 0) (.inl (cs 0, 1600, .inl f37)))) H := hP
      obtain ⟨F40, hF41⟩ : ∃ G : Nat → va_E, G = va_up F23 (A 0) (.inl (cs 0, 1600, .inl f37)) := ⟨_, rfl⟩
      rw [← hF41] at hP
      have hI : y_I K cs A F40 := by rw [hF41]; exact y_clA (i := 0) hA hI (by decide) b39
      have hfr : ∀ b, K b ∉ [9, 50, 59] → F40 b = F b := by rw [hF41]; exact s_fr hfr (y_k0 hA) (by decide)
      have oY42 : F40 a0 = .inr (7, y_fl A z24 q25) := by rw [hF41]; exact th_ne (th_kd ha0 (y_k0 hA) (by decide)) oY26
      have o43 : F40 (A 0) = .inl (cs 0, 1600, .inl f37) := by rw [hF41]; exact th_up
      have u44 : ∀ j : Int, 0 ≤ j → y_c f37 j = if j = v28.toInt then v33 else y_c f34 j := by rw [u38]; exact y_cu rfl (by omega)
      refine lv_aload_n hx hb dX7_feed_102 rfl (lv_at hl 1 rfl) ?_
      refine lv_dup hx hb dX7_feed_103 rfl ?_
      refine th_get (D := (dC, dI)) (ci := 7) (v := .int (z24 1)) (C := RX7) (T := TX7) (N := 34) hx hb hts inX7 hown hK hP (hLK _ ha0 (by decide)) oY42 rfl 1 (by decide) (hts _ T_261) (fun _ h9 => h9) rfl dX7_feed_104 ?_
      refine ax_eqi (y := v28) ev28.symm ?_
      refine lv_iconst (v := 1) hx hb dX7_feed_107 (by decide) ?_
      refine lv_iadd hx hb dX7_feed_108 ?_
      refine lv_topi (fun v45 ev45 => ?_)
      have qv45 : v45.toInt = v28.toInt + 1 := by rw [ev45]; exact th_add rfl (by decide) ⟨by omega, by omega⟩
      refine th_put (D := (dC, dI)) (ci := 7) (v := .int v45) (ty := .int) (C := RX7) (T := TX7) (N := 34) hx hb hts inX7 tyX7 tyX7_ok nmX7 hown hK hP hD hS (hLK _ ha0 (by decide)) oY42 rfl 1 (by decide) (hts _ T_261) (fun _ h9 => h9) rfl (by decide +kernel) rfl rfl (Nat.le_of_ble_eq_true rfl) dX7_feed_109 (fun H locs hP hS => ?_)
      rw [y_fs1] at hP
      obtain ⟨z46, hz47⟩ : ∃ g : Nat → Int32, g = upd z24 1 v45 := ⟨_, rfl⟩
      rw [← hz47] at hP
      have bz48 : y_bY z46 := by rw [hz47]; exact y_bp1 bz27 ⟨by omega, by omega⟩
      have hP : va_P (dC, dI) vwCl (va_pl L (va_up F40 a0 (.inr (7, y_fl A z46 q25)))) H := hP
      obtain ⟨F49, hF50⟩ : ∃ G : Nat → va_E, G = va_up F40 a0 (.inr (7, y_fl A z46 q25)) := ⟨_, rfl⟩
      rw [← hF50] at hP
      have hI : y_I K cs A F49 := by rw [hF50]; exact y_clY hA hI ha0 bz48
      have hfr : ∀ b, K b ∉ [9, 50, 59] → F49 b = F b := by rw [hF50]; exact s_fr hfr ha0 (by decide)
      have o51 : F49 (A 0) = .inl (cs 0, 1600, .inl f37) := by rw [hF50]; exact th_ne (th_kd (y_k0 hA) ha0 (by decide)) o43
      have oY52 : F49 a0 = .inr (7, y_fl A z46 q25) := by rw [hF50]; exact th_up
      have hz0 : ∀ k, k ∈ ([2, 3, 4, 5, 6, 7, 8, 11, 15, 16, 19, 25, 26, 27, 31, 32] : List Nat) → z46 k = z0 k := fun k hk => by rw [hz47]; exact (y_un (fun q => absurd hk (by rw [q]; decide))).trans (hz0 k hk)
      obtain ⟨v53, ev53⟩ : ∃ y : Int32, y = z46 1 := ⟨_, rfl⟩
      have qv53 : v53.toInt = v45.toInt := by rw [ev53, hz47, y_ue]
      obtain ⟨v54, ev54⟩ : ∃ y : Int32, w4 + 1 = y := ⟨_, rfl⟩
      have qv54 : v54.toInt = w4.toInt + 1 := by rw [← ev54]; exact th_add rfl (by decide) ⟨by omega, by omega⟩
      refine lv_iinc (v := v54) (lv' := [(6, .int v54), (7, .int w14), (0, .ref a0), (1, .int x1), (2, .int x2), (3, .int x3), (4, .int x4), (5, .int x5)]) hx hb dX7_feed_112 hl (k := 7) rfl ev54 (by decide) rfl (fun ls hl => ?_)
      refine lv_goto (tgt := 22) hx hb dX7_feed_115 (by decide) ?_
      exact ih22 _ _ _ _ (by omega) ⟨F49, _, v54, rfl, lv_sub hl [2, 3, 4, 5, 6, 7, 0] rfl, hP, hS, hI, hfr, (fun k hk => (y_fiZ oY52 (s_sub (by decide) hk)).trans (hz0 k hk)), ⟨by omega, by omega⟩, (by rw [y_fiZ oY52 (k := 1) (by decide), ← ev53]; omega), rfl⟩
  · have c3 := mt (ax_le (n := 1600) (by decide)).mpr c3
    refine lv_aload_n hx hb dX7_feed_13 rfl (lv_at hl 0 rfl) ?_
    refine lv_iconst (v := 0) hx hb dX7_feed_14 (by decide) ?_
    refine va_calli (va_runV (As := [.int 0]) (rest := []) ⟨hx, hb, hml, hown, hts⟩ (y_X7_refuses l dC dI H.size hLK A hA F a0 0 ha0 (by decide) hI) (cwV 1 hts (ax_gV T_310 T_311 T_312 T_265 T_33) rfl rfl rfl (by decide +kernel) ⟨Nat.le_of_ble_eq_true rfl, Nat.le_of_ble_eq_true rfl⟩) ⟨fun a U g mk q => ⟨q.1, s_pc rfl rfl q.2⟩, s_recv hK hP (hLK _ ha0 (by decide)) (ci := 7) rfl oY0, fun U hU hW => ⟨rfl, s_pw hU hW hP hK hD hN⟩⟩ rfl rfl hl.1 rfl (lv_room (Nat.le_of_ble_eq_true rfl)) dX7_feed_15 ⟨Nat.zero_le _, Nat.zero_le _⟩) hS (fun q _ h => h) (fun q h => h) (fun r56 F57 t H1 locs ht hvm hw hB hz1 hk1 hS => ?_)
    obtain ⟨hP, hK1⟩ := hB
    rw [ht] at hP
    generalize H1 = H at hP hS ⊢
    obtain ⟨h58, h60, hI, hfr1, hzf, h59⟩ := hw
    have oY61 : F57 a0 = .inr (7, y_fl A z0 q0) := (hfr1 _ (by rw [ha0]; decide)).trans oY0
    have hfr : ∀ b, K b ∉ [9, 50, 59] → F57 b = F b := fun b hb9 => (hfr1 b (fun q => hb9 (s_sub (by decide) q))).trans (hfr b hb9)
    exact W.iret (v := r56) hx hb hr (fun t ht hW => ⟨⟨r56, F57, rfl, ⟨⟨by omega, by omega⟩, trivial, hI, hfr, fun k hk => (y_fiZ oY61 (s_sub (by decide) hk)).trans ((hz0 k hk).trans (y_fiZ oY0 (s_sub (by decide) hk)).symm), (by rw [y_fiZ oY0 (k := 1) (by decide), ← eF_1, y_fiZ oY61 (k := 1) (by decide), ← ev1]; omega)⟩, by rw [ht]; exact hP, va_K.moved hW.alike hK⟩, hS.F ht⟩) hS.2.2 dX7_feed_18

set_option maxHeartbeats 4000000 in
set_option maxRecDepth 100000 in
theorem y_X7_end (l : Launch) (dC : Nat → ClassId) (dI : Nat → Nat → Nat) (sz : Nat) {L : List Nat} {K : Nat → Nat} {cs : Nat → ClassId} (hLK : ∀ a {k : Nat}, K a = k → k ≠ 0 → a ∈ L) (A : Nat → Nat) (hA : y_A K A) (F : Nat → va_E) (a0 : Nat) (x1 : Int32) (ha0 : K a0 = 9) (hI : y_I K cs A F) : Met l yX7_end (Cond.code yX7_end cX7_end 2 (some .boolean) :: T0) ({ frames := 1, cells := 0, slots := 0, locals := 21 }) (va_Pc [.ref a0, .int x1] (s_W dC dI sz L F [(cs 0, .int), (cs 1, .byte), (cs 2, .long), (cs 3, .object RX5), (cs 4, .object RX4), (cs 5, .array .int), (cs 6, .char), (cs 7, .boolean)])) (va_Qi (fun (r : Int32) (G : Nat → va_E) => (0 ≤ r.toInt ∧ r.toInt ≤ 1) ∧ (¬ r = 0 → 0 ≤ x1.toInt ∧ x1.toInt ≤ 1600) ∧ y_I K cs A G ∧ (∀ b, K b ∉ [9, 59] → G b = F b) ∧ (∀ k, k ∈ ([2, 3, 4, 5, 6, 7, 8, 11, 15, 16, 19, 25, 26, 27, 31, 32] : List Nat) → y_fi G a0 k = y_fi F a0 k) ∧ ((0 ≤ x1.toInt ∧ x1.toInt ≤ (y_fi F a0 1).toInt ∧ r.toInt = 1 ∧ (y_fi G a0 1).toInt = x1.toInt) ∨ ((x1.toInt < 0 ∨ (y_fi F a0 1).toInt < x1.toInt) ∧ r.toInt = 0 ∧ (y_fi G a0 1).toInt = (y_fi F a0 1).toInt))) (fun (G : Nat → va_E) (t : State) => va_P (dC, dI) vwCl (va_pl L G) t.heap ∧ va_K (dC, dI) vwCl [(cs 0, .int), (cs 1, .byte), (cs 2, .long), (cs 3, .object RX5), (cs 4, .object RX4), (cs 5, .array .int), (cs 6, .char), (cs 7, .boolean)] t) (fun q => q ∈ L)) 0 0 (fun q => q ∈ L) := by
  refine Met.ofW (cc := cX7_end) (maxL := 2) (ret := (some .boolean)) (by decide) rfl ?_
  intro p e s m args below meth c s₁ B hml hv
  obtain ⟨rfl, hsz, hP, hK, hD, hN⟩ := hv
  have hx := B.exec
  have hb := B.bytes
  have hr := B.returns
  have hts : ∀ w ∈ T0, w.before _ s = true := fun w h => atoms_spec (ws := Cond.code yX7_end cX7_end 2 (some .boolean) :: T0) B.pre w (List.mem_cons_of_mem _ h)
  have hown : s.vm.findClass RX7 = some m.cls := findClass_of_methodNamed B.named
  have hlocks := B.notSynchronized
  have hS : va_S (fun q => q ∈ L) s.heap s.heap [] := va_S.rf
  have hfr : ∀ b, K b ∉ [9, 59] → F b = F b := fun _ _ => rfl
  have hl := lv_entry ([.ref a0, .int x1]) (n := 2) (Nat.le_of_ble_eq_true rfl)
  rw [lg_entry_eq]
  generalize (lg_sl ([.ref a0, .int x1]) ++ List.replicate (2 - (lg_sl ([.ref a0, .int x1])).length) Slot.unset).toArray = ls at hl ⊢
  have hl : lv_has ls 2 [(0, .ref a0), (1, .int x1)] := hl
  refine s_gen hP hS (fun H locs hP hS => ?_)
  obtain ⟨z0, q0, oY0, bz0⟩ := y_opY hI ha0
  have hz0 : ∀ k, k ∈ ([2, 3, 4, 5, 6, 7, 8, 11, 15, 16, 19, 25, 26, 27, 31, 32] : List Nat) → z0 k = z0 k := fun _ _ => rfl
  obtain ⟨v1, ev1⟩ : ∃ y : Int32, y = z0 1 := ⟨_, rfl⟩
  have qv1 : 0 ≤ v1.toInt ∧ v1.toInt ≤ 1600 := by rw [ev1]; exact y_bY1 bz0
  have eF_1 := ev1
  have e0_v1 := ev1
  refine th_join (fun g H locs => ∃ (G : Nat → va_E) (ls : Array Slot), g = F0 m 12 ls [] ∧ lv_has ls 2 [(0, .ref a0)] ∧ va_P (dC, dI) vwCl (va_pl L G) H ∧ va_S (fun q => q ∈ L) s.heap H locs ∧ y_I K cs A G ∧ (∀ b, K b ∉ [9, 59] → G b = F b) ∧ (∀ k, k ∈ ([2, 3, 4, 5, 6, 7, 8, 11, 15, 16, 19, 25, 26, 27, 31, 32] : List Nat) → y_fi G a0 k = z0 k)) (fun K12 => ?_) ?_
  · refine lv_iload_n hx hb dX7_end_0 rfl (lv_at hl 1 rfl) ?_
    refine lv_if_lt (tgt := 12) hx hb dX7_end_1 (by decide) (fun c2 => ?_) (fun c2 => ?_)
    · have c2 := (ax_lt (n := 0) (by decide)).mp c2
      exact K12 _ _ _ ⟨F, _, rfl, lv_sub hl [0] rfl, hP, hS, hI, hfr, (fun k hk => (y_fiZ oY0 (s_sub (by decide) hk)).trans (hz0 k hk))⟩
    · have c2 := mt (ax_lt (n := 0) (by decide)).mpr c2
      refine lv_iload_n hx hb dX7_end_4 rfl (lv_at hl 1 rfl) ?_
      refine lv_aload_n hx hb dX7_end_5 rfl (lv_at hl 0 rfl) ?_
      refine th_get (D := (dC, dI)) (ci := 7) (v := .int (z0 1)) (C := RX7) (T := TX7) (N := 34) hx hb hts inX7 hown hK hP (hLK _ ha0 (by decide)) oY0 rfl 1 (by decide) (hts _ T_261) (fun _ h9 => h9) rfl dX7_end_6 ?_
      refine ax_eqi (y := v1) ev1.symm ?_
      refine lv_icmp_le (tgt := 18) hx hb dX7_end_9 (by decide) (fun c3 => ?_) (fun c3 => ?_)
      · have c3 := Int32.le_iff_toInt_le.mp c3
        refine lv_aload_n hx hb dX7_end_18 rfl (lv_at hl 0 rfl) ?_
        refine lv_iload_n hx hb dX7_end_19 rfl (lv_at hl 1 rfl) ?_
        refine th_put (D := (dC, dI)) (ci := 7) (v := .int x1) (ty := .int) (C := RX7) (T := TX7) (N := 34) hx hb hts inX7 tyX7 tyX7_ok nmX7 hown hK hP hD hS (hLK _ ha0 (by decide)) oY0 rfl 1 (by decide) (hts _ T_261) (fun _ h9 => h9) rfl (by decide +kernel) rfl rfl (Nat.le_of_ble_eq_true rfl) dX7_end_20 (fun H locs hP hS => ?_)
        rw [y_fs1] at hP
        obtain ⟨z4, hz5⟩ : ∃ g : Nat → Int32, g = upd z0 1 x1 := ⟨_, rfl⟩
        rw [← hz5] at hP
        have bz6 : y_bY z4 := by rw [hz5]; exact y_bp1 bz0 ⟨by omega, by omega⟩
        have hP : va_P (dC, dI) vwCl (va_pl L (va_up F a0 (.inr (7, y_fl A z4 q0)))) H := hP
        obtain ⟨F7, hF8⟩ : ∃ G : Nat → va_E, G = va_up F a0 (.inr (7, y_fl A z4 q0)) := ⟨_, rfl⟩
        rw [← hF8] at hP
        have hI : y_I K cs A F7 := by rw [hF8]; exact y_clY hA hI ha0 bz6
        have hfr : ∀ b, K b ∉ [9, 59] → F7 b = F b := by rw [hF8]; exact s_fr hfr ha0 (by decide)
        have oY9 : F7 a0 = .inr (7, y_fl A z4 q0) := by rw [hF8]; exact th_up
        have hz0 : ∀ k, k ∈ ([2, 3, 4, 5, 6, 7, 8, 11, 15, 16, 19, 25, 26, 27, 31, 32] : List Nat) → z4 k = z0 k := fun k hk => by rw [hz5]; exact (y_un (fun q => absurd hk (by rw [q]; decide))).trans (hz0 k hk)
        obtain ⟨v10, ev10⟩ : ∃ y : Int32, y = z4 1 := ⟨_, rfl⟩
        have qv10 : v10.toInt = x1.toInt := by rw [ev10, hz5, y_ue]
        refine lv_iconst (v := 1) hx hb dX7_end_23 (by decide) ?_
        exact W.zret (v := 1) (ty := .boolean) hx hb hr (by decide) (fun t ht hW => ⟨⟨1, F7, rfl, ⟨(by decide), (fun q => ⟨by omega, by omega⟩), hI, hfr, fun k hk => (y_fiZ oY9 (s_sub (by decide) hk)).trans ((hz0 k hk).trans (y_fiZ oY0 (s_sub (by decide) hk)).symm), (by rw [y_fiZ oY0 (k := 1) (by decide), ← eF_1, y_fiZ oY9 (k := 1) (by decide), ← ev10]; omega)⟩, by rw [ht]; exact hP, va_K.moved hW.alike hK⟩, hS.F ht⟩) hS.2.2 dX7_end_24
      · have c3 := mt Int32.le_iff_toInt_le.mpr c3
        exact K12 _ _ _ ⟨F, _, rfl, lv_sub hl [0] rfl, hP, hS, hI, hfr, (fun k hk => (y_fiZ oY0 (s_sub (by decide) hk)).trans (hz0 k hk))⟩
  · intro g H locs hq
    obtain ⟨F11, ls, rfl, hl, hP, hS, hI, hfr, hz0⟩ := hq
    obtain ⟨z12, q13, oY14, bz15⟩ := y_opY hI ha0
    have hz0 : ∀ k, k ∈ ([2, 3, 4, 5, 6, 7, 8, 11, 15, 16, 19, 25, 26, 27, 31, 32] : List Nat) → z12 k = z0 k := fun k hk => (y_fiZ oY14 (s_sub (by decide) hk)).symm.trans (hz0 k hk)
    refine lv_aload_n hx hb dX7_end_12 rfl (lv_at hl 0 rfl) ?_
    refine lv_iconst (v := 0) hx hb dX7_end_13 (by decide) ?_
    refine va_calli (va_runV (As := [.int 0]) (rest := []) ⟨hx, hb, hml, hown, hts⟩ (y_X7_isRefused l dC dI H.size hLK A hA F11 a0 0 ha0 (by decide) hI) (cwV 1 hts (ax_gV T_262 T_263 T_264 T_265 T_20) rfl rfl rfl (by decide +kernel) ⟨Nat.le_of_ble_eq_true rfl, Nat.le_of_ble_eq_true rfl⟩) ⟨fun a U g mk q => ⟨q.1, s_pc rfl rfl q.2⟩, s_recv hK hP (hLK _ ha0 (by decide)) (ci := 7) rfl oY14, fun U hU hW => ⟨rfl, s_pw hU hW hP hK hD hN⟩⟩ rfl rfl hl.1 rfl (lv_room (Nat.le_of_ble_eq_true rfl)) dX7_end_14 ⟨Nat.zero_le _, Nat.zero_le _⟩) hS (fun q _ h => h) (fun q h => h) (fun r17 F18 t H1 locs ht hvm hw hB hz1 hk1 hS => ?_)
    obtain ⟨hP, hK1⟩ := hB
    rw [ht] at hP
    generalize H1 = H at hP hS ⊢
    obtain ⟨h19, h21, hI, hfr1, hzf, h20⟩ := hw
    have oY22 : F18 a0 = .inr (7, y_fl A z12 q13) := (hfr1 _ (by rw [ha0]; decide)).trans oY14
    have hfr : ∀ b, K b ∉ [9, 59] → F18 b = F b := fun b hb9 => (hfr1 b (fun q => hb9 (s_sub (by decide) q))).trans (hfr b hb9)
    obtain ⟨v23, ev23⟩ : ∃ y : Int32, y = z12 1 := ⟨_, rfl⟩
    have qv23 : 0 ≤ v23.toInt ∧ v23.toInt ≤ 1600 := by rw [ev23]; exact y_bY1 bz15
    exact W.zret (v := r17) (ty := .boolean) hx hb hr (th_nz ⟨by omega, by omega⟩) (fun t ht hW => ⟨⟨r17, F18, rfl, ⟨⟨by omega, by omega⟩, (fun q => ⟨by omega, by omega⟩), hI, hfr, fun k hk => (y_fiZ oY22 (s_sub (by decide) hk)).trans ((hz0 k hk).trans (y_fiZ oY0 (s_sub (by decide) hk)).symm), (by rw [y_fiZ oY0 (k := 1) (by decide), ← eF_1, y_fiZ oY22 (k := 1) (by decide), ← ev23]; omega)⟩, by rw [ht]; exact hP, va_K.moved hW.alike hK⟩, hS.F ht⟩) hS.2.2 dX7_end_17

set_option maxHeartbeats 4000000 in
set_option maxRecDepth 100000 in
theorem y_X7_status (l : Launch) (dC : Nat → ClassId) (dI : Nat → Nat → Nat) (sz : Nat) {L : List Nat} {K : Nat → Nat} {cs : Nat → ClassId} (hLK : ∀ a {k : Nat}, K a = k → k ≠ 0 → a ∈ L) (A : Nat → Nat) (hA : y_A K A) (F : Nat → va_E) (a0 : Nat) (x1 : Int32) (ha0 : K a0 = 9) (hI : y_I K cs A F) : Met l yX7_status (Cond.code yX7_status cX7_status 2 (some .int) :: T0) ({ frames := 1, cells := 0, slots := 0, locals := 25 }) (va_Pc [.ref a0, .int x1] (s_W dC dI sz L F [(cs 0, .int), (cs 1, .byte), (cs 2, .long), (cs 3, .object RX5), (cs 4, .object RX4), (cs 5, .array .int), (cs 6, .char), (cs 7, .boolean)])) (va_Qi (fun (r : Int32) (G : Nat → va_E) => True ∧ True ∧ y_I K cs A G ∧ (∀ b, K b ∉ ([] : List Nat) → G b = F b) ∧ (∀ k, k ∈ ([1, 2, 3, 4, 5, 6, 7, 8, 11, 15, 16, 19, 25, 26, 27, 31, 32] : List Nat) → y_fi G a0 k = y_fi F a0 k) ∧ True) (fun (G : Nat → va_E) (t : State) => va_P (dC, dI) vwCl (va_pl L G) t.heap ∧ va_K (dC, dI) vwCl [(cs 0, .int), (cs 1, .byte), (cs 2, .long), (cs 3, .object RX5), (cs 4, .object RX4), (cs 5, .array .int), (cs 6, .char), (cs 7, .boolean)] t) (fun q => q ∈ L)) 0 0 (fun q => q ∈ L) := by
  refine Met.ofW (cc := cX7_status) (maxL := 2) (ret := (some .int)) (by decide) rfl ?_
  intro p e s m args below meth c s₁ B hml hv
  obtain ⟨rfl, hsz, hP, hK, hD, hN⟩ := hv
  have hx := B.exec
  have hb := B.bytes
  have hr := B.returns
  have hts : ∀ w ∈ T0, w.before _ s = true := fun w h => atoms_spec (ws := Cond.code yX7_status cX7_status 2 (some .int) :: T0) B.pre w (List.mem_cons_of_mem _ h)
  have hown : s.vm.findClass RX7 = some m.cls := findClass_of_methodNamed B.named
  have hlocks := B.notSynchronized
  have hS : va_S (fun q => q ∈ L) s.heap s.heap [] := va_S.rf
  have hfr : ∀ b, K b ∉ ([] : List Nat) → F b = F b := fun _ _ => rfl
  have hl := lv_entry ([.ref a0, .int x1]) (n := 2) (Nat.le_of_ble_eq_true rfl)
  rw [lg_entry_eq]
  generalize (lg_sl ([.ref a0, .int x1]) ++ List.replicate (2 - (lg_sl ([.ref a0, .int x1])).length) Slot.unset).toArray = ls at hl ⊢
  have hl : lv_has ls 2 [(0, .ref a0), (1, .int x1)] := hl
  refine s_gen hP hS (fun H locs hP hS => ?_)
  obtain ⟨z0, q0, oY0, bz0⟩ := y_opY hI ha0
  have hz0 : ∀ k, k ∈ ([1, 2, 3, 4, 5, 6, 7, 8, 11, 15, 16, 19, 25, 26, 27, 31, 32] : List Nat) → z0 k = z0 k := fun _ _ => rfl
  refine lv_iload_n hx hb dX7_status_0 rfl (lv_at hl 1 rfl) ?_
  refine lv_i2l hx hb dX7_status_1 rfl ?_
  refine lv_topl (fun v1 ev1 => ?_)
  have qv1 : v1.toInt = x1.toInt := y_i2l ev1
  refine lv_lconst (v := 0) hx hb dX7_status_2 (by decide) ?_
  refine lv_ldc2 hx hb hown (hts _ T_266) dX7_status_3 ?_
  refine va_calli (va_runS (As := [.long v1, .long 0, .long 5]) (rest := []) ⟨hx, hb, hml, hown, hts⟩ (y_X7_isIn l dC dI H.size F v1 0 5) (cwS 3 hts (ax_gS T_267 T_268 T_265 T_21) rfl rfl rfl (by decide +kernel) ⟨Nat.le_of_ble_eq_true rfl, Nat.le_of_ble_eq_true rfl⟩) ⟨fun a U g mk q => ⟨q.1, s_pc rfl rfl q.2⟩, fun U hU hW => ⟨rfl, s_pw hU hW hP hK hD hN⟩⟩ rfl rfl hl.1 rfl (lv_room (Nat.le_of_ble_eq_true rfl)) dX7_status_6 ⟨Nat.zero_le _, Nat.zero_le _⟩) hS (fun q _ h => h) (fun q h => h) (fun r3 F4 t H1 locs ht hvm hw hB hz1 hk1 hS => ?_)
  obtain ⟨hP, hK1⟩ := hB
  rw [ht] at hP
  generalize H1 = H at hP hS ⊢
  obtain ⟨h5, h7, hG9, h6⟩ := hw
  rw [hG9] at hP
  have h6 : ((r3.toInt = 0 ∧ (v1.toInt < 0 ∨ 5 < v1.toInt)) ∨ (r3.toInt = 1 ∧ 0 ≤ v1.toInt ∧ v1.toInt ≤ 5)) := by have q9 := h6; exact q9
  refine lv_if_eq (tgt := 21) hx hb dX7_status_9 (by decide) (fun c8 => ?_) (fun c8 => ?_)
  · have c8 := (ax_eq (n := 0) (by decide)).mp c8
    refine lv_iconst (v := (-1)) hx hb dX7_status_21 (by decide) ?_
    exact W.iret (v := (-1)) hx hb hr (fun t ht hW => ⟨⟨(-1), F, rfl, ⟨trivial, trivial, hI, hfr, fun k hk => (y_fiZ oY0 (s_sub (by decide) hk)).trans ((hz0 k hk).trans (y_fiZ oY0 (s_sub (by decide) hk)).symm), trivial⟩, by rw [ht]; exact hP, va_K.moved hW.alike hK⟩, hS.F ht⟩) hS.2.2 dX7_status_22
  · have c8 := mt (ax_eq (n := 0) (by decide)).mpr c8
    refine lv_aload_n hx hb dX7_status_12 rfl (lv_at hl 0 rfl) ?_
    refine th_get (D := (dC, dI)) (ci := 7) (v := .ref (A 9)) (C := RX7) (T := TX7) (N := 34) hx hb hts inX7 hown hK hP (hLK _ ha0 (by decide)) oY0 rfl 9 (by decide) (hts _ T_242) (fun _ h9 => h9) rfl dX7_status_13 ?_
    refine lv_iload_n hx hb dX7_status_16 rfl (lv_at hl 1 rfl) ?_
    obtain ⟨f9, o10, b11⟩ := y_op9 hI
    refine th_iald hx hb hK hP (hLK _ (y_k9 hA) (by decide)) 0 o10 rfl (th_in ⟨by omega, by omega⟩) dX7_status_17 ?_
    refine lv_topi (fun v12 ev12 => ?_)
    refine lv_goto (tgt := 22) hx hb dX7_status_18 (by decide) ?_
    exact W.iret (v := v12) hx hb hr (fun t ht hW => ⟨⟨v12, F, rfl, ⟨trivial, trivial, hI, hfr, fun k hk => (y_fiZ oY0 (s_sub (by decide) hk)).trans ((hz0 k hk).trans (y_fiZ oY0 (s_sub (by decide) hk)).symm), trivial⟩, by rw [ht]; exact hP, va_K.moved hW.alike hK⟩, hS.F ht⟩) hS.2.2 dX7_status_22

set_option maxHeartbeats 4000000 in
set_option maxRecDepth 100000 in
theorem y_X7_fault (l : Launch) (dC : Nat → ClassId) (dI : Nat → Nat → Nat) (sz : Nat) {L : List Nat} {K : Nat → Nat} {cs : Nat → ClassId} (hLK : ∀ a {k : Nat}, K a = k → k ≠ 0 → a ∈ L) (A : Nat → Nat) (hA : y_A K A) (F : Nat → va_E) (a0 : Nat) (x1 : Int32) (ha0 : K a0 = 9) (hI : y_I K cs A F) : Met l yX7_fault (Cond.code yX7_fault cX7_fault 2 (some .int) :: T0) ({ frames := 0, cells := 0, slots := 0, locals := 0 }) (va_Pc [.ref a0, .int x1] (s_W dC dI sz L F [(cs 0, .int), (cs 1, .byte), (cs 2, .long), (cs 3, .object RX5), (cs 4, .object RX4), (cs 5, .array .int), (cs 6, .char), (cs 7, .boolean)])) (va_Qi (fun (r : Int32) (G : Nat → va_E) => True ∧ True ∧ y_I K cs A G ∧ (∀ b, K b ∉ ([] : List Nat) → G b = F b) ∧ (∀ k, k ∈ ([1, 2, 3, 4, 5, 6, 7, 8, 11, 15, 16, 19, 25, 26, 27, 31, 32] : List Nat) → y_fi G a0 k = y_fi F a0 k) ∧ True) (fun (G : Nat → va_E) (t : State) => va_P (dC, dI) vwCl (va_pl L G) t.heap ∧ va_K (dC, dI) vwCl [(cs 0, .int), (cs 1, .byte), (cs 2, .long), (cs 3, .object RX5), (cs 4, .object RX4), (cs 5, .array .int), (cs 6, .char), (cs 7, .boolean)] t) (fun q => q ∈ L)) 0 0 (fun q => q ∈ L) := by
  refine Met.ofW (cc := cX7_fault) (maxL := 2) (ret := (some .int)) (by decide) rfl ?_
  intro p e s m args below meth c s₁ B hml hv
  obtain ⟨rfl, hsz, hP, hK, hD, hN⟩ := hv
  have hx := B.exec
  have hb := B.bytes
  have hr := B.returns
  have hts : ∀ w ∈ T0, w.before _ s = true := fun w h => atoms_spec (ws := Cond.code yX7_fault cX7_fault 2 (some .int) :: T0) B.pre w (List.mem_cons_of_mem _ h)
  have hown : s.vm.findClass RX7 = some m.cls := findClass_of_methodNamed B.named
  have hlocks := B.notSynchronized
  have hS : va_S (fun q => q ∈ L) s.heap s.heap [] := va_S.rf
  have hfr : ∀ b, K b ∉ ([] : List Nat) → F b = F b := fun _ _ => rfl
  have hl := lv_entry ([.ref a0, .int x1]) (n := 2) (Nat.le_of_ble_eq_true rfl)
  rw [lg_entry_eq]
  generalize (lg_sl ([.ref a0, .int x1]) ++ List.replicate (2 - (lg_sl ([.ref a0, .int x1])).length) Slot.unset).toArray = ls at hl ⊢
  have hl : lv_has ls 2 [(0, .ref a0), (1, .int x1)] := hl
  refine s_gen hP hS (fun H locs hP hS => ?_)
  obtain ⟨z0, q0, oY0, bz0⟩ := y_opY hI ha0
  have hz0 : ∀ k, k ∈ ([1, 2, 3, 4, 5, 6, 7, 8, 11, 15, 16, 19, 25, 26, 27, 31, 32] : List Nat) → z0 k = z0 k := fun _ _ => rfl
  refine lv_iload_n hx hb dX7_fault_0 rfl (lv_at hl 1 rfl) ?_
  refine lv_if_ne (tgt := 11) hx hb dX7_fault_1 (by decide) (fun c1 => ?_) (fun c1 => ?_)
  · have c1 := mt (ax_eq (n := 0) (by decide)).mpr c1
    refine lv_iload_n hx hb dX7_fault_11 rfl (lv_at hl 1 rfl) ?_
    refine lv_iconst (v := 1) hx hb dX7_fault_12 (by decide) ?_
    refine lv_icmp_ne (tgt := 23) hx hb dX7_fault_13 (by decide) (fun c2 => ?_) (fun c2 => ?_)
    · have c2 := mt (ax_eq (n := 1) (by decide)).mpr c2
      refine lv_iconst (v := (-1)) hx hb dX7_fault_23 (by decide) ?_
      exact W.iret (v := (-1)) hx hb hr (fun t ht hW => ⟨⟨(-1), F, rfl, ⟨trivial, trivial, hI, hfr, fun k hk => (y_fiZ oY0 (s_sub (by decide) hk)).trans ((hz0 k hk).trans (y_fiZ oY0 (s_sub (by decide) hk)).symm), trivial⟩, by rw [ht]; exact hP, va_K.moved hW.alike hK⟩, hS.F ht⟩) hS.2.2 dX7_fault_24
    · have c2 := (ax_eq (n := 1) (by decide)).mp c2
      refine lv_aload_n hx hb dX7_fault_16 rfl (lv_at hl 0 rfl) ?_
      refine th_get (D := (dC, dI)) (ci := 7) (v := .int (z0 8)) (C := RX7) (T := TX7) (N := 34) hx hb hts inX7 hown hK hP (hLK _ ha0 (by decide)) oY0 rfl 8 (by decide) (hts _ T_241) (fun _ h9 => h9) rfl dX7_fault_17 ?_
      refine lv_topi (fun v3 ev3 => ?_)
      refine lv_goto (tgt := 24) hx hb dX7_fault_20 (by decide) ?_
      exact W.iret (v := v3) hx hb hr (fun t ht hW => ⟨⟨v3, F, rfl, ⟨trivial, trivial, hI, hfr, fun k hk => (y_fiZ oY0 (s_sub (by decide) hk)).trans ((hz0 k hk).trans (y_fiZ oY0 (s_sub (by decide) hk)).symm), trivial⟩, by rw [ht]; exact hP, va_K.moved hW.alike hK⟩, hS.F ht⟩) hS.2.2 dX7_fault_24
  · have c1 := (ax_eq (n := 0) (by decide)).mp c1
    refine lv_aload_n hx hb dX7_fault_4 rfl (lv_at hl 0 rfl) ?_
    refine th_get (D := (dC, dI)) (ci := 7) (v := .int (z0 7)) (C := RX7) (T := TX7) (N := 34) hx hb hts inX7 hown hK hP (hLK _ ha0 (by decide)) oY0 rfl 7 (by decide) (hts _ T_269) (fun _ h9 => h9) rfl dX7_fault_5 ?_
    refine lv_topi (fun v4 ev4 => ?_)
    refine lv_goto (tgt := 24) hx hb dX7_fault_8 (by decide) ?_
    exact W.iret (v := v4) hx hb hr (fun t ht hW => ⟨⟨v4, F, rfl, ⟨trivial, trivial, hI, hfr, fun k hk => (y_fiZ oY0 (s_sub (by decide) hk)).trans ((hz0 k hk).trans (y_fiZ oY0 (s_sub (by decide) hk)).symm), trivial⟩, by rw [ht]; exact hP, va_K.moved hW.alike hK⟩, hS.F ht⟩) hS.2.2 dX7_fault_24

set_option maxHeartbeats 4000000 in
set_option maxRecDepth 100000 in
theorem y_X7_fail (l : Launch) (dC : Nat → ClassId) (dI : Nat → Nat → Nat) (sz : Nat) {L : List Nat} {K : Nat → Nat} {cs : Nat → ClassId} (hLK : ∀ a {k : Nat}, K a = k → k ≠ 0 → a ∈ L) (A : Nat → Nat) (hA : y_A K A) (F : Nat → va_E) (a0 : Nat) (x1 : Int32) (x2 : Int32) (ha0 : K a0 = 9) (hx1 : 1 ≤ x1.toInt ∧ x1.toInt ≤ 5) (hI : y_I K cs A F) : Met l yX7_fail (Cond.code yX7_fail cX7_fail 3 none :: T0) ({ frames := 0, cells := 0, slots := 0, locals := 0 }) (va_Pc [.ref a0, .int x1, .int x2] (s_W dC dI sz L F [(cs 0, .int), (cs 1, .byte), (cs 2, .long), (cs 3, .object RX5), (cs 4, .object RX4), (cs 5, .array .int), (cs 6, .char), (cs 7, .boolean)])) (va_Qv (fun (G : Nat → va_E) => True ∧ True ∧ y_I K cs A G ∧ (∀ b, K b ∉ [9] → G b = F b) ∧ (∀ k, k ∈ ([1, 2, 3, 4, 7, 8, 11, 15, 16, 19, 25, 26, 27, 31, 32] : List Nat) → y_fi G a0 k = y_fi F a0 k) ∧ (¬ (y_fi G a0 5).toInt = 0)) (fun (G : Nat → va_E) (t : State) => va_P (dC, dI) vwCl (va_pl L G) t.heap ∧ va_K (dC, dI) vwCl [(cs 0, .int), (cs 1, .byte), (cs 2, .long), (cs 3, .object RX5), (cs 4, .object RX4), (cs 5, .array .int), (cs 6, .char), (cs 7, .boolean)] t) (fun q => q ∈ L)) 0 0 (fun q => q ∈ L) := by
  refine Met.ofW (cc := cX7_fail) (maxL := 3) (ret := none) (by decide) rfl ?_
  intro p e s m args below meth c s₁ B hml hv
  obtain ⟨rfl, hsz, hP, hK, hD, hN⟩ := hv
  have hx := B.exec
  have hb := B.bytes
  have hr := B.returns
  have hts : ∀ w ∈ T0, w.before _ s = true := fun w h => atoms_spec (ws := Cond.code yX7_fail cX7_fail 3 none :: T0) B.pre w (List.mem_cons_of_mem _ h)
  have hown : s.vm.findClass RX7 = some m.cls := findClass_of_methodNamed B.named
  have hlocks := B.notSynchronized
  have hS : va_S (fun q => q ∈ L) s.heap s.heap [] := va_S.rf
  have hfr : ∀ b, K b ∉ [9] → F b = F b := fun _ _ => rfl
  have hl := lv_entry ([.ref a0, .int x1, .int x2]) (n := 3) (Nat.le_of_ble_eq_true rfl)
  rw [lg_entry_eq]
  generalize (lg_sl ([.ref a0, .int x1, .int x2]) ++ List.replicate (3 - (lg_sl ([.ref a0, .int x1, .int x2])).length) Slot.unset).toArray = ls at hl ⊢
  have hl : lv_has ls 3 [(0, .ref a0), (1, .int x1), (2, .int x2)] := hl
  refine s_gen hP hS (fun H locs hP hS => ?_)
  obtain ⟨z0, q0, oY0, bz0⟩ := y_opY hI ha0
  have hz0 : ∀ k, k ∈ ([1, 2, 3, 4, 7, 8, 11, 15, 16, 19, 25, 26, 27, 31, 32] : List Nat) → z0 k = z0 k := fun _ _ => rfl
  obtain ⟨v1, ev1⟩ : ∃ y : Int32, y = z0 5 := ⟨_, rfl⟩
  have eF_5 := ev1
  have e0_v1 := ev1
  refine lv_aload_n hx hb dX7_fail_0 rfl (lv_at hl 0 rfl) ?_
  refine th_get (D := (dC, dI)) (ci := 7) (v := .int (z0 5)) (C := RX7) (T := TX7) (N := 34) hx hb hts inX7 hown hK hP (hLK _ ha0 (by decide)) oY0 rfl 5 (by decide) (hts _ T_274) (fun _ h9 => h9) rfl dX7_fail_1 ?_
  refine ax_eqi (y := v1) ev1.symm ?_
  refine lv_if_eq (tgt := 8) hx hb dX7_fail_4 (by decide) (fun c2 => ?_) (fun c2 => ?_)
  · have c2 := (ax_eq (n := 0) (by decide)).mp c2
    refine lv_aload_n hx hb dX7_fail_8 rfl (lv_at hl 0 rfl) ?_
    refine lv_iload_n hx hb dX7_fail_9 rfl (lv_at hl 1 rfl) ?_
    refine th_put (D := (dC, dI)) (ci := 7) (v := .int x1) (ty := .int) (C := RX7) (T := TX7) (N := 34) hx hb hts inX7 tyX7 tyX7_ok nmX7 hown hK hP hD hS (hLK _ ha0 (by decide)) oY0 rfl 5 (by decide) (hts _ T_274) (fun _ h9 => h9) rfl (by decide +kernel) rfl rfl (Nat.le_of_ble_eq_true rfl) dX7_fail_10 (fun H locs hP hS => ?_)
    rw [y_fs5] at hP
    obtain ⟨z3, hz4⟩ : ∃ g : Nat → Int32, g = upd z0 5 x1 := ⟨_, rfl⟩
    rw [← hz4] at hP
    have bz5 : y_bY z3 := by rw [hz4]; exact y_bp5 bz0
    have hP : va_P (dC, dI) vwCl (va_pl L (va_up F a0 (.inr (7, y_fl A z3 q0)))) H := hP
    obtain ⟨F6, hF7⟩ : ∃ G : Nat → va_E, G = va_up F a0 (.inr (7, y_fl A z3 q0)) := ⟨_, rfl⟩
    rw [← hF7] at hP
    have hI : y_I K cs A F6 := by rw [hF7]; exact y_clY hA hI ha0 bz5
    have hfr : ∀ b, K b ∉ [9] → F6 b = F b := by rw [hF7]; exact s_fr hfr ha0 (by decide)
    have oY8 : F6 a0 = .inr (7, y_fl A z3 q0) := by rw [hF7]; exact th_up
    have hz0 : ∀ k, k ∈ ([1, 2, 3, 4, 7, 8, 11, 15, 16, 19, 25, 26, 27, 31, 32] : List Nat) → z3 k = z0 k := fun k hk => by rw [hz4]; exact (y_un (fun q => absurd hk (by rw [q]; decide))).trans (hz0 k hk)
    obtain ⟨v9, ev9⟩ : ∃ y : Int32, y = z3 5 := ⟨_, rfl⟩
    have qv9 : v9.toInt = x1.toInt := by rw [ev9, hz4, y_ue]
    refine lv_aload_n hx hb dX7_fail_13 rfl (lv_at hl 0 rfl) ?_
    refine lv_iload_n hx hb dX7_fail_14 rfl (lv_at hl 2 rfl) ?_
    refine th_put (D := (dC, dI)) (ci := 7) (v := .int x2) (ty := .int) (C := RX7) (T := TX7) (N := 34) hx hb hts inX7 tyX7 tyX7_ok nmX7 hown hK hP hD hS (hLK _ ha0 (by decide)) oY8 rfl 6 (by decide) (hts _ T_286) (fun _ h9 => h9) rfl (by decide +kernel) rfl rfl (Nat.le_of_ble_eq_true rfl) dX7_fail_15 (fun H locs hP hS => ?_)
    rw [y_fs6] at hP
    obtain ⟨z10, hz11⟩ : ∃ g : Nat → Int32, g = upd z3 6 x2 := ⟨_, rfl⟩
    rw [← hz11] at hP
    have bz12 : y_bY z10 := by rw [hz11]; exact y_bp6 bz5
    have hP : va_P (dC, dI) vwCl (va_pl L (va_up F6 a0 (.inr (7, y_fl A z10 q0)))) H := hP
    obtain ⟨F13, hF14⟩ : ∃ G : Nat → va_E, G = va_up F6 a0 (.inr (7, y_fl A z10 q0)) := ⟨_, rfl⟩
    rw [← hF14] at hP
    have hI : y_I K cs A F13 := by rw [hF14]; exact y_clY hA hI ha0 bz12
    have hfr : ∀ b, K b ∉ [9] → F13 b = F b := by rw [hF14]; exact s_fr hfr ha0 (by decide)
    have oY15 : F13 a0 = .inr (7, y_fl A z10 q0) := by rw [hF14]; exact th_up
    have hz0 : ∀ k, k ∈ ([1, 2, 3, 4, 7, 8, 11, 15, 16, 19, 25, 26, 27, 31, 32] : List Nat) → z10 k = z0 k := fun k hk => by rw [hz11]; exact (y_un (fun q => absurd hk (by rw [q]; decide))).trans (hz0 k hk)
    have ev9 : v9 = z10 5 := by rw [hz11]; exact ev9.trans (y_un (by decide)).symm
    obtain ⟨v16, ev16⟩ : ∃ y : Int32, y = z10 6 := ⟨_, rfl⟩
    have qv16 : v16.toInt = x2.toInt := by rw [ev16, hz11, y_ue]
    exact W.vret hx hb hr (fun t ht hW => ⟨⟨F13, rfl, ⟨trivial, trivial, hI, hfr, fun k hk => (y_fiZ oY15 (s_sub (by decide) hk)).trans ((hz0 k hk).trans (y_fiZ oY0 (s_sub (by decide) hk)).symm), (by rw [y_fiZ oY15 (k := 5) (by decide), ← ev9]; omega)⟩, by rw [ht]; exact hP, va_K.moved hW.alike hK⟩, hS.F ht⟩) hS.2.2 dX7_fail_18
  · have c2 := mt (ax_eq (n := 0) (by decide)).mpr c2
    exact W.vret hx hb hr (fun t ht hW => ⟨⟨F, rfl, ⟨trivial, trivial, hI, hfr, fun k hk => (y_fiZ oY0 (s_sub (by decide) hk)).trans ((hz0 k hk).trans (y_fiZ oY0 (s_sub (by decide) hk)).symm), (by rw [y_fiZ oY0 (k := 5) (by decide), ← ev1]; omega)⟩, by rw [ht]; exact hP, va_K.moved hW.alike hK⟩, hS.F ht⟩) hS.2.2 dX7_fail_7

set_option maxHeartbeats 4000000 in
set_option maxRecDepth 100000 in
theorem y_X7_look (l : Launch) (dC : Nat → ClassId) (dI : Nat → Nat → Nat) (sz : Nat) {L : List Nat} {K : Nat → Nat} {cs : Nat → ClassId} (hLK : ∀ a {k : Nat}, K a = k → k ≠ 0 → a ∈ L) (A : Nat → Nat) (hA : y_A K A) (F : Nat → va_E) (a0 : Nat) (ha0 : K a0 = 9) (hI : y_I K cs A F) : Met l yX7_look (Cond.code yX7_look cX7_look 1 (some .int) :: T0) ({ frames := 0, cells := 0, slots := 0, locals := 0 }) (va_Pc [.ref a0] (s_W dC dI sz L F [(cs 0, .int), (cs 1, .byte), (cs 2, .long), (cs 3, .object RX5), (cs 4, .object RX4), (cs 5, .array .int), (cs 6, .char), (cs 7, .boolean)])) (va_Qi (fun (r : Int32) (G : Nat → va_E) => True ∧ True ∧ y_I K cs A G ∧ (∀ b, K b ∉ [9] → G b = F b) ∧ (∀ k, k ∈ ([1, 3, 4, 5, 6, 7, 8, 11, 15, 16, 19, 25, 26, 27, 31, 32] : List Nat) → y_fi G a0 k = y_fi F a0 k) ∧ (r.toInt = -1 ∨ (y_fi G a0 2).toInt < (y_fi G a0 3).toInt)) (fun (G : Nat → va_E) (t : State) => va_P (dC, dI) vwCl (va_pl L G) t.heap ∧ va_K (dC, dI) vwCl [(cs 0, .int), (cs 1, .byte), (cs 2, .long), (cs 3, .object RX5), (cs 4, .object RX4), (cs 5, .array .int), (cs 6, .char), (cs 7, .boolean)] t) (fun q => q ∈ L)) 0 0 (fun q => q ∈ L) := by
  refine Met.ofW (cc := cX7_look) (maxL := 1) (ret := (some .int)) (by decide) rfl ?_
  intro p e s m args below meth c s₁ B hml hv
  obtain ⟨rfl, hsz, hP, hK, hD, hN⟩ := hv
  have hx := B.exec
  have hb := B.bytes
  have hr := B.returns
  have hts : ∀ w ∈ T0, w.before _ s = true := fun w h => atoms_spec (ws := Cond.code yX7_look cX7_look 1 (some .int) :: T0) B.pre w (List.mem_cons_of_mem _ h)
  have hown : s.vm.findClass RX7 = some m.cls := findClass_of_methodNamed B.named
  have hlocks := B.notSynchronized
  have hS : va_S (fun q => q ∈ L) s.heap s.heap [] := va_S.rf
  have hfr : ∀ b, K b ∉ [9] → F b = F b := fun _ _ => rfl
  have hl := lv_entry ([.ref a0]) (n := 1) (Nat.le_of_ble_eq_true rfl)
  rw [lg_entry_eq]
  generalize (lg_sl ([.ref a0]) ++ List.replicate (1 - (lg_sl ([.ref a0])).length) Slot.unset).toArray = ls at hl ⊢
  have hl : lv_has ls 1 [(0, .ref a0)] := hl
  refine s_gen hP hS (fun H locs hP hS => ?_)
  obtain ⟨z0, q0, oY0, bz0⟩ := y_opY hI ha0
  have hz0 : ∀ k, k ∈ ([1, 3, 4, 5, 6, 7, 8, 11, 15, 16, 19, 25, 26, 27, 31, 32] : List Nat) → z0 k = z0 k := fun _ _ => rfl
  obtain ⟨v1, ev1⟩ : ∃ y : Int32, y = z0 2 := ⟨_, rfl⟩
  have qv1 : 0 ≤ v1.toInt ∧ v1.toInt ≤ 1600 := by rw [ev1]; exact y_bY2 bz0
  have eF_2 := ev1
  obtain ⟨v2, ev2⟩ : ∃ y : Int32, y = z0 3 := ⟨_, rfl⟩
  have qv2 : 0 ≤ v2.toInt ∧ v2.toInt ≤ 1600 := by rw [ev2]; exact y_bY3 bz0
  have eF_3 := ev2
  have e0_v1 := ev1
  have e0_v2 := ev2
  refine th_join (fun g H locs => ∃ (G : Nat → va_E) (ls : Array Slot), g = F0 m 52 ls [] ∧ lv_has ls 1 [(0, .ref a0)] ∧ va_P (dC, dI) vwCl (va_pl L G) H ∧ va_S (fun q => q ∈ L) s.heap H locs ∧ y_I K cs A G ∧ (∀ b, K b ∉ [9] → G b = F b) ∧ (∀ k, k ∈ ([1, 3, 4, 5, 6, 7, 8, 11, 15, 16, 19, 25, 26, 27, 31, 32] : List Nat) → y_fi G a0 k = z0 k)) (fun K52 => ?_) ?_
  · refine th_loop (fun n g H locs => ∃ (G : Nat → va_E) (ls : Array Slot), g = F0 m 0 ls [] ∧ lv_has ls 1 [(0, .ref a0)] ∧ va_P (dC, dI) vwCl (va_pl L G) H ∧ va_S (fun q => q ∈ L) s.heap H locs ∧ y_I K cs A G ∧ (∀ b, K b ∉ [9] → G b = F b) ∧ (∀ k, k ∈ ([1, 3, 4, 5, 6, 7, 8, 11, 15, 16, 19, 25, 26, 27, 31, 32] : List Nat) → y_fi G a0 k = z0 k) ∧ n = (1601 - (y_fi G a0 2).toInt).toNat) _ ⟨F, _, rfl, lv_sub hl [0] rfl, hP, hS, hI, hfr, (fun k hk => (y_fiZ oY0 (s_sub (by decide) hk)).trans (hz0 k hk)), rfl⟩ (fun n ih0 g H locs hq => ?_)
    obtain ⟨F3, ls, rfl, hl, hP, hS, hI, hfr, hz0, hn⟩ := hq
    obtain ⟨z4, q5, oY6, bz7⟩ := y_opY hI ha0
    have hz0 : ∀ k, k ∈ ([1, 3, 4, 5, 6, 7, 8, 11, 15, 16, 19, 25, 26, 27, 31, 32] : List Nat) → z4 k = z0 k := fun k hk => (y_fiZ oY6 (s_sub (by decide) hk)).symm.trans (hz0 k hk)
    have ev2 : v2 = z4 3 := e0_v2.trans (hz0 3 (by decide)).symm
    obtain ⟨v8, ev8⟩ : ∃ y : Int32, y = z4 2 := ⟨_, rfl⟩
    have qv8 : 0 ≤ v8.toInt ∧ v8.toInt ≤ 1600 := by rw [ev8]; exact y_bY2 bz7
    have hn : n = (1601 - v8.toInt).toNat := by have q9 := hn; rw [y_fiZ oY6 (k := 2) (by decide), ← ev8] at q9; exact q9
    have hn_8 := hn
    have h9 : (z4 2).toInt = v8.toInt := by rw [ev8]
    refine th_join (fun g H locs => ∃ (G : Nat → va_E) (ls : Array Slot), g = F0 m 39 ls [] ∧ lv_has ls 1 [(0, .ref a0)] ∧ va_P (dC, dI) vwCl (va_pl L G) H ∧ va_S (fun q => q ∈ L) s.heap H locs ∧ y_I K cs A G ∧ (∀ b, K b ∉ [9] → G b = F b) ∧ (∀ k, k ∈ ([1, 3, 4, 5, 6, 7, 8, 11, 15, 16, 19, 25, 26, 27, 31, 32] : List Nat) → y_fi G a0 k = z0 k)) (fun K39 => ?_) ?_
    · refine lv_aload_n hx hb dX7_look_0 rfl (lv_at hl 0 rfl) ?_
      refine th_get (D := (dC, dI)) (ci := 7) (v := .int (z4 2)) (C := RX7) (T := TX7) (N := 34) hx hb hts inX7 hown hK hP (hLK _ ha0 (by decide)) oY6 rfl 2 (by decide) (hts _ T_272) (fun _ h9 => h9) rfl dX7_look_1 ?_
      refine ax_eqi (y := v8) ev8.symm ?_
      refine lv_aload_n hx hb dX7_look_4 rfl (lv_at hl 0 rfl) ?_
      refine th_get (D := (dC, dI)) (ci := 7) (v := .int (z4 3)) (C := RX7) (T := TX7) (N := 34) hx hb hts inX7 hown hK hP (hLK _ ha0 (by decide)) oY6 rfl 3 (by decide) (hts _ T_273) (fun _ h9 => h9) rfl dX7_look_5 ?_
      refine ax_eqi (y := v2) ev2.symm ?_
      refine lv_icmp_ge (tgt := 52) hx hb dX7_look_8 (by decide) (fun c10 => ?_) (fun c10 => ?_)
      · have c10 := Int32.le_iff_toInt_le.mp c10
        exact K52 _ _ _ ⟨F3, _, rfl, lv_sub hl [0] rfl, hP, hS, hI, hfr, (fun k hk => (y_fiZ oY6 (s_sub (by decide) hk)).trans (hz0 k hk))⟩
      · have c10 := mt Int32.le_iff_toInt_le.mpr c10
        refine lv_aload_n hx hb dX7_look_11 rfl (lv_at hl 0 rfl) ?_
        refine th_get (D := (dC, dI)) (ci := 7) (v := .ref (A 0)) (C := RX7) (T := TX7) (N := 34) hx hb hts inX7 hown hK hP (hLK _ ha0 (by decide)) oY6 rfl 0 (by decide) (hts _ T_240) (fun _ h9 => h9) rfl dX7_look_12 ?_
        refine lv_aload_n hx hb dX7_look_15 rfl (lv_at hl 0 rfl) ?_
        refine th_get (D := (dC, dI)) (ci := 7) (v := .int (z4 2)) (C := RX7) (T := TX7) (N := 34) hx hb hts inX7 hown hK hP (hLK _ ha0 (by decide)) oY6 rfl 2 (by decide) (hts _ T_272) (fun _ h9 => h9) rfl dX7_look_16 ?_
        refine ax_eqi (y := v8) ev8.symm ?_
        obtain ⟨f11, o12, b13⟩ := y_op0 hI
        refine th_iald hx hb hK hP (hLK _ (y_k0 hA) (by decide)) 0 o12 rfl (th_in ⟨by omega, by omega⟩) dX7_look_19 ?_
        refine lv_topi (fun v14 ev14 => ?_)
        refine lv_bipush (v := 10) hx hb dX7_look_20 (by decide) ?_
        refine lv_icmp_eq (tgt := 39) hx hb dX7_look_22 (by decide) (fun c15 => ?_) (fun c15 => ?_)
        · have c15 := (ax_eq (n := 10) (by decide)).mp c15
          exact K39 _ _ _ ⟨F3, _, rfl, lv_sub hl [0] rfl, hP, hS, hI, hfr, (fun k hk => (y_fiZ oY6 (s_sub (by decide) hk)).trans (hz0 k hk))⟩
        · have c15 := mt (ax_eq (n := 10) (by decide)).mpr c15
          refine lv_aload_n hx hb dX7_look_25 rfl (lv_at hl 0 rfl) ?_
          refine th_get (D := (dC, dI)) (ci := 7) (v := .ref (A 0)) (C := RX7) (T := TX7) (N := 34) hx hb hts inX7 hown hK hP (hLK _ ha0 (by decide)) oY6 rfl 0 (by decide) (hts _ T_240) (fun _ h9 => h9) rfl dX7_look_26 ?_
          refine lv_aload_n hx hb dX7_look_29 rfl (lv_at hl 0 rfl) ?_
          refine th_get (D := (dC, dI)) (ci := 7) (v := .int (z4 2)) (C := RX7) (T := TX7) (N := 34) hx hb hts inX7 hown hK hP (hLK _ ha0 (by decide)) oY6 rfl 2 (by decide) (hts _ T_272) (fun _ h9 => h9) rfl dX7_look_30 ?_
          refine ax_eqi (y := v8) ev8.symm ?_
          refine th_iald hx hb hK hP (hLK _ (y_k0 hA) (by decide)) 0 o12 rfl (th_in ⟨by omega, by omega⟩) dX7_look_33 ?_
          refine lv_topi (fun v16 ev16 => ?_)
          refine lv_bipush (v := 32) hx hb dX7_look_34 (by decide) ?_
          refine lv_icmp_ne (tgt := 52) hx hb dX7_look_36 (by decide) (fun c17 => ?_) (fun c17 => ?_)
          · have c17 := mt (ax_eq (n := 32) (by decide)).mpr c17
            exact K52 _ _ _ ⟨F3, _, rfl, lv_sub hl [0] rfl, hP, hS, hI, hfr, (fun k hk => (y_fiZ oY6 (s_sub (by decide) hk)).trans (hz0 k hk))⟩
          · have c17 := (ax_eq (n := 32) (by decide)).mp c17
            exact K39 _ _ _ ⟨F3, _, rfl, lv_sub hl [0] rfl, hP, hS, hI, hfr, (fun k hk => (y_fiZ oY6 (s_sub (by decide) hk)).trans (hz0 k hk))⟩
    · intro g H locs hq
      obtain ⟨F18, ls, rfl, hl, hP, hS, hI, hfr, hz0⟩ := hq
      obtain ⟨z19, q20, oY21, bz22⟩ := y_opY hI ha0
      have hz0 : ∀ k, k ∈ ([1, 3, 4, 5, 6, 7, 8, 11, 15, 16, 19, 25, 26, 27, 31, 32] : List Nat) → z19 k = z0 k := fun k hk => (y_fiZ oY21 (s_sub (by decide) hk)).symm.trans (hz0 k hk)
      have ev2 : v2 = z19 3 := e0_v2.trans (hz0 3 (by decide)).symm
      refine lv_aload_n hx hb dX7_look_39 rfl (lv_at hl 0 rfl) ?_
      refine lv_dup hx hb dX7_look_40 rfl ?_
      refine th_get (D := (dC, dI)) (ci := 7) (v := .int (z19 2)) (C := RX7) (T := TX7) (N := 34) hx hb hts inX7 hown hK hP (hLK _ ha0 (by decide)) oY21 rfl 2 (by decide) (hts _ T_272) (fun _ h9 => h9) rfl dX7_look_41 ?_
      refine lv_topi (fun v23 ev23 => ?_)
      have qv23 : 0 ≤ v23.toInt ∧ v23.toInt ≤ 1600 := by rw [ev23]; exact y_bY2 bz22
      refine lv_iconst (v := 1) hx hb dX7_look_44 (by decide) ?_
      refine lv_iadd hx hb dX7_look_45 ?_
      refine lv_topi (fun v24 ev24 => ?_)
      have qv24 : v24.toInt = v23.toInt + 1 := by rw [ev24]; exact th_add rfl (by decide) ⟨by omega, by omega⟩
      refine th_put (D := (dC, dI)) (ci := 7) (v := .int v24) (ty := .int) (C := RX7) (T := TX7) (N := 34) hx hb hts inX7 tyX7 tyX7_ok nmX7 hown hK hP hD hS (hLK _ ha0 (by decide)) oY21 rfl 2 (by decide) (hts _ T_272) (fun _ h9 => h9) rfl (by decide +kernel) rfl rfl (Nat.le_of_ble_eq_true rfl) dX7_look_46 (fun H locs hP hS => ?_)
      rw [y_fs2] at hP
      obtain ⟨z25, hz26⟩ : ∃ g : Nat → Int32, g = upd z19 2 v24 := ⟨_, rfl⟩
      rw [← hz26] at hP
      have bz27 : y_bY z25 := by rw [hz26]; exact y_bp2 bz22 ⟨by omega, by omega⟩
      have hP : va_P (dC, dI) vwCl (va_pl L (va_up F18 a0 (.inr (7, y_fl A z25 q20)))) H := hP
      obtain ⟨F28, hF29⟩ : ∃ G : Nat → va_E, G = va_up F18 a0 (.inr (7, y_fl A z25 q20)) := ⟨_, rfl⟩
      rw [← hF29] at hP
      have hI : y_I K cs A F28 := by rw [hF29]; exact y_clY hA hI ha0 bz27
      have hfr : ∀ b, K b ∉ [9] → F28 b = F b := by rw [hF29]; exact s_fr hfr ha0 (by decide)
      have oY30 : F28 a0 = .inr (7, y_fl A z25 q20) := by rw [hF29]; exact th_up
      have hz0 : ∀ k, k ∈ ([1, 3, 4, 5, 6, 7, 8, 11, 15, 16, 19, 25, 26, 27, 31, 32] : List Nat) → z25 k = z0 k := fun k hk => by rw [hz26]; exact (y_un (fun q => absurd hk (by rw [q]; decide))).trans (hz0 k hk)
      have ev2 : v2 = z25 3 := by rw [hz26]; exact ev2.trans (y_un (by decide)).symm
      obtain ⟨v31, ev31⟩ : ∃ y : Int32, y = z25 2 := ⟨_, rfl⟩
      have qv31 : v31.toInt = v24.toInt := by rw [ev31, hz26, y_ue]
      refine lv_goto (tgt := 0) hx hb dX7_look_49 (by decide) ?_
      have h32 : (y_fi F28 a0 2).toInt = v31.toInt := by rw [y_fiZ oY30 (k := 2) (by decide), ← ev31]
      exact ih0 _ _ _ _ (by omega) ⟨F28, _, rfl, lv_sub hl [0] rfl, hP, hS, hI, hfr, (fun k hk => (y_fiZ oY30 (s_sub (by decide) hk)).trans (hz0 k hk)), rfl⟩
  · intro g H locs hq
    obtain ⟨F33, ls, rfl, hl, hP, hS, hI, hfr, hz0⟩ := hq
    obtain ⟨z34, q35, oY36, bz37⟩ := y_opY hI ha0
    have hz0 : ∀ k, k ∈ ([1, 3, 4, 5, 6, 7, 8, 11, 15, 16, 19, 25, 26, 27, 31, 32] : List Nat) → z34 k = z0 k := fun k hk => (y_fiZ oY36 (s_sub (by decide) hk)).symm.trans (hz0 k hk)
    have ev2 : v2 = z34 3 := e0_v2.trans (hz0 3 (by decide)).symm
    refine lv_aload_n hx hb dX7_look_52 rfl (lv_at hl 0 rfl) ?_
    refine th_get (D := (dC, dI)) (ci := 7) (v := .int (z34 2)) (C := RX7) (T := TX7) (N := 34) hx hb hts inX7 hown hK hP (hLK _ ha0 (by decide)) oY36 rfl 2 (by decide) (hts _ T_272) (fun _ h9 => h9) rfl dX7_look_53 ?_
    refine lv_topi (fun v38 ev38 => ?_)
    have qv38 : 0 ≤ v38.toInt ∧ v38.toInt ≤ 1600 := by rw [ev38]; exact y_bY2 bz37
    refine lv_aload_n hx hb dX7_look_56 rfl (lv_at hl 0 rfl) ?_
    refine th_get (D := (dC, dI)) (ci := 7) (v := .int (z34 3)) (C := RX7) (T := TX7) (N := 34) hx hb hts inX7 hown hK hP (hLK _ ha0 (by decide)) oY36 rfl 3 (by decide) (hts _ T_273) (fun _ h9 => h9) rfl dX7_look_57 ?_
    refine ax_eqi (y := v2) ev2.symm ?_
    refine lv_icmp_ge (tgt := 75) hx hb dX7_look_60 (by decide) (fun c39 => ?_) (fun c39 => ?_)
    · have c39 := Int32.le_iff_toInt_le.mp c39
      refine lv_iconst (v := (-1)) hx hb dX7_look_75 (by decide) ?_
      exact W.iret (v := (-1)) hx hb hr (fun t ht hW => ⟨⟨(-1), F33, rfl, ⟨trivial, trivial, hI, hfr, fun k hk => (y_fiZ oY36 (s_sub (by decide) hk)).trans ((hz0 k hk).trans (y_fiZ oY0 (s_sub (by decide) hk)).symm), (by rw [y_fiZ oY36 (k := 2) (by decide), ← ev38, y_fiZ oY36 (k := 3) (by decide), ← ev2]; exact Or.inl (by decide))⟩, by rw [ht]; exact hP, va_K.moved hW.alike hK⟩, hS.F ht⟩) hS.2.2 dX7_look_76
    · have c39 := mt Int32.le_iff_toInt_le.mpr c39
      refine lv_aload_n hx hb dX7_look_63 rfl (lv_at hl 0 rfl) ?_
      refine th_get (D := (dC, dI)) (ci := 7) (v := .ref (A 0)) (C := RX7) (T := TX7) (N := 34) hx hb hts inX7 hown hK hP (hLK _ ha0 (by decide)) oY36 rfl 0 (by decide) (hts _ T_240) (fun _ h9 => h9) rfl dX7_look_64 ?_
      refine lv_aload_n hx hb dX7_look_67 rfl (lv_at hl 0 rfl) ?_
      refine th_get (D := (dC, dI)) (ci := 7) (v := .int (z34 2)) (C := RX7) (T := TX7) (N := 34) hx hb hts inX7 hown hK hP (hLK _ ha0 (by decide)) oY36 rfl 2 (by decide) (hts _ T_272) (fun _ h9 => h9) rfl dX7_look_68 ?_
      refine ax_eqi (y := v38) ev38.symm ?_
      obtain ⟨f40, o41, b42⟩ := y_op0 hI
      refine th_iald hx hb hK hP (hLK _ (y_k0 hA) (by decide)) 0 o41 rfl (th_in ⟨by omega, by omega⟩) dX7_look_71 ?_
      refine lv_topi (fun v43 ev43 => ?_)
      refine lv_goto (tgt := 76) hx hb dX7_look_72 (by decide) ?_
      exact W.iret (v := v43) hx hb hr (fun t ht hW => ⟨⟨v43, F33, rfl, ⟨trivial, trivial, hI, hfr, fun k hk => (y_fiZ oY36 (s_sub (by decide) hk)).trans ((hz0 k hk).trans (y_fiZ oY0 (s_sub (by decide) hk)).symm), (by rw [y_fiZ oY36 (k := 2) (by decide), ← ev38, y_fiZ oY36 (k := 3) (by decide), ← ev2]; omega)⟩, by rw [ht]; exact hP, va_K.moved hW.alike hK⟩, hS.F ht⟩) hS.2.2 dX7_look_76

set_option maxHeartbeats 4000000 in
set_option maxRecDepth 100000 in
theorem y_X7_isWordHere (l : Launch) (dC : Nat → ClassId) (dI : Nat → Nat → Nat) (sz : Nat) {L : List Nat} {K : Nat → Nat} {cs : Nat → ClassId} (hLK : ∀ a {k : Nat}, K a = k → k ≠ 0 → a ∈ L) (A : Nat → Nat) (hA : y_A K A) (F : Nat → va_E) (a0 : Nat) (ha0 : K a0 = 9) (hI : y_I K cs A F) : Met l yX7_isWordHere (Cond.code yX7_isWordHere cX7_isWordHere 1 (some .boolean) :: T0) ({ frames := 1, cells := 0, slots := 0, locals := 20 }) (va_Pc [.ref a0] (s_W dC dI sz L F [(cs 0, .int), (cs 1, .byte), (cs 2, .long), (cs 3, .object RX5), (cs 4, .object RX4), (cs 5, .array .int), (cs 6, .char), (cs 7, .boolean)])) (va_Qi (fun (r : Int32) (G : Nat → va_E) => (0 ≤ r.toInt ∧ r.toInt ≤ 1) ∧ True ∧ y_I K cs A G ∧ (∀ b, K b ∉ [9] → G b = F b) ∧ (∀ k, k ∈ ([1, 3, 4, 5, 6, 7, 8, 11, 15, 16, 19, 25, 26, 27, 31, 32] : List Nat) → y_fi G a0 k = y_fi F a0 k) ∧ (r.toInt = 0 ∨ (y_fi G a0 2).toInt < (y_fi G a0 3).toInt)) (fun (G : Nat → va_E) (t : State) => va_P (dC, dI) vwCl (va_pl L G) t.heap ∧ va_K (dC, dI) vwCl [(cs 0, .int), (cs 1, .byte), (cs 2, .long), (cs 3, .object RX5), (cs 4, .object RX4), (cs 5, .array .int), (cs 6, .char), (cs 7, .boolean)] t) (fun q => q ∈ L)) 0 0 (fun q => q ∈ L) := by
  refine Met.ofW (cc := cX7_isWordHere) (maxL := 1) (ret := (some .boolean)) (by decide) rfl ?_
  intro p e s m args below meth c s₁ B hml hv
  obtain ⟨rfl, hsz, hP, hK, hD, hN⟩ := hv
  have hx := B.exec
  have hb := B.bytes
  have hr := B.returns
  have hts : ∀ w ∈ T0, w.before _ s = true := fun w h => atoms_spec (ws := Cond.code yX7_isWordHere cX7_isWordHere 1 (some .boolean) :: T0) B.pre w (List.mem_cons_of_mem _ h)
  have hown : s.vm.findClass RX7 = some m.cls := findClass_of_methodNamed B.named
  have hlocks := B.notSynchronized
  have hS : va_S (fun q => q ∈ L) s.heap s.heap [] := va_S.rf
  have hfr : ∀ b, K b ∉ [9] → F b = F b := fun _ _ => rfl
  have hl := lv_entry ([.ref a0]) (n := 1) (Nat.le_of_ble_eq_true rfl)
  rw [lg_entry_eq]
  generalize (lg_sl ([.ref a0]) ++ List.replicate (1 - (lg_sl ([.ref a0])).length) Slot.unset).toArray = ls at hl ⊢
  have hl : lv_has ls 1 [(0, .ref a0)] := hl
  refine s_gen hP hS (fun H locs hP hS => ?_)
  obtain ⟨z0, q0, oY0, bz0⟩ := y_opY hI ha0
  have hz0 : ∀ k, k ∈ ([1, 3, 4, 5, 6, 7, 8, 11, 15, 16, 19, 25, 26, 27, 31, 32] : List Nat) → z0 k = z0 k := fun _ _ => rfl
  obtain ⟨v1, ev1⟩ : ∃ y : Int32, y = z0 2 := ⟨_, rfl⟩
  have qv1 : 0 ≤ v1.toInt ∧ v1.toInt ≤ 1600 := by rw [ev1]; exact y_bY2 bz0
  have eF_2 := ev1
  obtain ⟨v2, ev2⟩ : ∃ y : Int32, y = z0 3 := ⟨_, rfl⟩
  have qv2 : 0 ≤ v2.toInt ∧ v2.toInt ≤ 1600 := by rw [ev2]; exact y_bY3 bz0
  have eF_3 := ev2
  have e0_v1 := ev1
  have e0_v2 := ev2
  refine lv_aload_n hx hb dX7_isWordHere_0 rfl (lv_at hl 0 rfl) ?_
  refine th_get (D := (dC, dI)) (ci := 7) (v := .int (z0 5)) (C := RX7) (T := TX7) (N := 34) hx hb hts inX7 hown hK hP (hLK _ ha0 (by decide)) oY0 rfl 5 (by decide) (hts _ T_274) (fun _ h9 => h9) rfl dX7_isWordHere_1 ?_
  refine lv_topi (fun v3 ev3 => ?_)
  refine lv_if_ne (tgt := 32) hx hb dX7_isWordHere_4 (by decide) (fun c4 => ?_) (fun c4 => ?_)
  · have c4 := mt (ax_eq (n := 0) (by decide)).mpr c4
    refine lv_iconst (v := 0) hx hb dX7_isWordHere_32 (by decide) ?_
    exact W.zret (v := 0) (ty := .boolean) hx hb hr (by decide) (fun t ht hW => ⟨⟨0, F, rfl, ⟨(by decide), trivial, hI, hfr, fun k hk => (y_fiZ oY0 (s_sub (by decide) hk)).trans ((hz0 k hk).trans (y_fiZ oY0 (s_sub (by decide) hk)).symm), (by rw [y_fiZ oY0 (k := 2) (by decide), ← ev1, y_fiZ oY0 (k := 3) (by decide), ← ev2]; exact Or.inl (by decide))⟩, by rw [ht]; exact hP, va_K.moved hW.alike hK⟩, hS.F ht⟩) hS.2.2 dX7_isWordHere_33
  · have c4 := (ax_eq (n := 0) (by decide)).mp c4
    refine lv_aload_n hx hb dX7_isWordHere_7 rfl (lv_at hl 0 rfl) ?_
    refine va_calli (va_runV (As := []) (rest := []) ⟨hx, hb, hml, hown, hts⟩ (y_X7_look l dC dI H.size hLK A hA F a0 ha0 hI) (cwV 0 hts (ax_gV T_275 T_276 T_277 T_265 T_22) rfl rfl rfl (by decide +kernel) ⟨Nat.le_of_ble_eq_true rfl, Nat.le_of_ble_eq_true rfl⟩) ⟨fun a U g mk q => ⟨q.1, s_pc rfl rfl q.2⟩, s_recv hK hP (hLK _ ha0 (by decide)) (ci := 7) rfl oY0, fun U hU hW => ⟨rfl, s_pw hU hW hP hK hD hN⟩⟩ rfl rfl hl.1 rfl (lv_room (Nat.le_of_ble_eq_true rfl)) dX7_isWordHere_8 ⟨Nat.zero_le _, Nat.zero_le _⟩) hS (fun q _ h => h) (fun q h => h) (fun r6 F7 t H1 locs ht hvm hw hB hz1 hk1 hS => ?_)
    obtain ⟨hP, hK1⟩ := hB
    rw [ht] at hP
    generalize H1 = H at hP hS ⊢
    obtain ⟨h8, h10, hI, hfr1, hzf, h9⟩ := hw
    obtain ⟨z11, q12, oY13, bz14⟩ := y_opY hI ha0
    have hzf : ∀ k, k ∈ ([1, 3, 4, 5, 6, 7, 8, 11, 15, 16, 19, 25, 26, 27, 31, 32] : List Nat) → z11 k = z0 k := fun k hk => by have q9 := hzf k hk; rw [y_fiZ oY13 (s_sub (by decide) hk), y_fiZ oY0 (s_sub (by decide) hk)] at q9; exact q9
    have hz0 : ∀ k, k ∈ ([1, 3, 4, 5, 6, 7, 8, 11, 15, 16, 19, 25, 26, 27, 31, 32] : List Nat) → z11 k = z0 k := fun k hk => (hzf k (s_sub (by decide) hk)).trans (hz0 k hk)
    have ev2 : v2 = z11 3 := ev2.trans (hzf 3 (by decide)).symm
    have ev3 : v3 = z11 5 := ev3.trans (hzf 5 (by decide)).symm
    have hfr : ∀ b, K b ∉ [9] → F7 b = F b := fun b hb9 => (hfr1 b (fun q => hb9 (s_sub (by decide) q))).trans (hfr b hb9)
    obtain ⟨v15, ev15⟩ : ∃ y : Int32, y = z11 2 := ⟨_, rfl⟩
    have qv15 : 0 ≤ v15.toInt ∧ v15.toInt ≤ 1600 := by rw [ev15]; exact y_bY2 bz14
    have h9 : (r6.toInt = -1 ∨ v15.toInt < v2.toInt) := by have q9 := h9; rw [y_fiZ oY13 (k := 2) (by decide), ← ev15, y_fiZ oY13 (k := 3) (by decide), ← ev2] at q9; exact q9
    refine va_calli (va_runS (As := [.int r6]) (rest := []) ⟨hx, hb, hml, hown, hts⟩ (y_X7_isLetter l dC dI H.size F7 r6) (cwS 1 hts (ax_gS T_278 T_279 T_265 T_23) rfl rfl rfl (by decide +kernel) ⟨Nat.le_of_ble_eq_true rfl, Nat.le_of_ble_eq_true rfl⟩) ⟨fun a U g mk q => ⟨q.1, s_pc rfl rfl q.2⟩, fun U hU hW => ⟨rfl, s_pw hU hW hP hK hD hN⟩⟩ rfl rfl hl.1 rfl (lv_room (Nat.le_of_ble_eq_true rfl)) dX7_isWordHere_11 ⟨Nat.zero_le _, Nat.zero_le _⟩) hS (fun q _ h => h) (fun q h => h) (fun r17 F18 t H1 locs ht hvm hw hB hz1 hk1 hS => ?_)
    obtain ⟨hP, hK1⟩ := hB
    rw [ht] at hP
    generalize H1 = H at hP hS ⊢
    obtain ⟨h19, h21, hG9, h20⟩ := hw
    rw [hG9] at hP
    refine lv_if_eq (tgt := 32) hx hb dX7_isWordHere_14 (by decide) (fun c22 => ?_) (fun c22 => ?_)
    · have c22 := (ax_eq (n := 0) (by decide)).mp c22
      refine lv_iconst (v := 0) hx hb dX7_isWordHere_32 (by decide) ?_
      exact W.zret (v := 0) (ty := .boolean) hx hb hr (by decide) (fun t ht hW => ⟨⟨0, F7, rfl, ⟨(by decide), trivial, hI, hfr, fun k hk => (y_fiZ oY13 (s_sub (by decide) hk)).trans ((hz0 k hk).trans (y_fiZ oY0 (s_sub (by decide) hk)).symm), (by rw [y_fiZ oY13 (k := 2) (by decide), ← ev15, y_fiZ oY13 (k := 3) (by decide), ← ev2]; exact Or.inl (by decide))⟩, by rw [ht]; exact hP, va_K.moved hW.alike hK⟩, hS.F ht⟩) hS.2.2 dX7_isWordHere_33
    · have c22 := mt (ax_eq (n := 0) (by decide)).mpr c22
      have h23 := h21 (fun q => c22 (by rw [q]; decide))
      refine lv_aload_n hx hb dX7_isWordHere_17 rfl (lv_at hl 0 rfl) ?_
      refine th_get (D := (dC, dI)) (ci := 7) (v := .int (z11 2)) (C := RX7) (T := TX7) (N := 34) hx hb hts inX7 hown hK hP (hLK _ ha0 (by decide)) oY13 rfl 2 (by decide) (hts _ T_272) (fun _ h9 => h9) rfl dX7_isWordHere_18 ?_
      refine ax_eqi (y := v15) ev15.symm ?_
      refine lv_aload_n hx hb dX7_isWordHere_21 rfl (lv_at hl 0 rfl) ?_
      refine th_get (D := (dC, dI)) (ci := 7) (v := .int (z11 4)) (C := RX7) (T := TX7) (N := 34) hx hb hts inX7 hown hK hP (hLK _ ha0 (by decide)) oY13 rfl 4 (by decide) (hts _ T_296) (fun _ h9 => h9) rfl dX7_isWordHere_22 ?_
      refine lv_topi (fun v24 ev24 => ?_)
      refine lv_icmp_eq (tgt := 32) hx hb dX7_isWordHere_25 (by decide) (fun c25 => ?_) (fun c25 => ?_)
      · have c25 := Int32.toInt_inj.symm.mp c25
        refine lv_iconst (v := 0) hx hb dX7_isWordHere_32 (by decide) ?_
        exact W.zret (v := 0) (ty := .boolean) hx hb hr (by decide) (fun t ht hW => ⟨⟨0, F7, rfl, ⟨(by decide), trivial, hI, hfr, fun k hk => (y_fiZ oY13 (s_sub (by decide) hk)).trans ((hz0 k hk).trans (y_fiZ oY0 (s_sub (by decide) hk)).symm), (by rw [y_fiZ oY13 (k := 2) (by decide), ← ev15, y_fiZ oY13 (k := 3) (by decide), ← ev2]; exact Or.inl (by decide))⟩, by rw [ht]; exact hP, va_K.moved hW.alike hK⟩, hS.F ht⟩) hS.2.2 dX7_isWordHere_33
      · have c25 := mt Int32.toInt_inj.symm.mpr c25
        refine lv_iconst (v := 1) hx hb dX7_isWordHere_28 (by decide) ?_
        refine lv_goto (tgt := 33) hx hb dX7_isWordHere_29 (by decide) ?_
        exact W.zret (v := 1) (ty := .boolean) hx hb hr (by decide) (fun t ht hW => ⟨⟨1, F7, rfl, ⟨(by decide), trivial, hI, hfr, fun k hk => (y_fiZ oY13 (s_sub (by decide) hk)).trans ((hz0 k hk).trans (y_fiZ oY0 (s_sub (by decide) hk)).symm), (by rw [y_fiZ oY13 (k := 2) (by decide), ← ev15, y_fiZ oY13 (k := 3) (by decide), ← ev2]; exact Or.inr (by omega))⟩, by rw [ht]; exact hP, va_K.moved hW.alike hK⟩, hS.F ht⟩) hS.2.2 dX7_isWordHere_33

set_option maxHeartbeats 4000000 in
set_option maxRecDepth 100000 in
theorem y_X7_takesSign (l : Launch) (dC : Nat → ClassId) (dI : Nat → Nat → Nat) (sz : Nat) {L : List Nat} {K : Nat → Nat} {cs : Nat → ClassId} (hLK : ∀ a {k : Nat}, K a = k → k ≠ 0 → a ∈ L) (A : Nat → Nat) (hA : y_A K A) (F : Nat → va_E) (a0 : Nat) (x1 : Int32) (ha0 : K a0 = 9) (hx1 : 0 ≤ x1.toInt ∧ x1.toInt ≤ 127) (hI : y_I K cs A F) : Met l yX7_takesSign (Cond.code yX7_takesSign cX7_takesSign 2 (some .boolean) :: T0) ({ frames := 1, cells := 0, slots := 0, locals := 20 }) (va_Pc [.ref a0, .int x1] (s_W dC dI sz L F [(cs 0, .int), (cs 1, .byte), (cs 2, .long), (cs 3, .object RX5), (cs 4, .object RX4), (cs 5, .array .int), (cs 6, .char), (cs 7, .boolean)])) (va_Qi (fun (r : Int32) (G : Nat → va_E) => (0 ≤ r.toInt ∧ r.toInt ≤ 1) ∧ True ∧ y_I K cs A G ∧ (∀ b, K b ∉ [9] → G b = F b) ∧ (∀ k, k ∈ ([1, 3, 4, 5, 6, 7, 8, 11, 15, 16, 19, 25, 26, 27, 31, 32] : List Nat) → y_fi G a0 k = y_fi F a0 k) ∧ True) (fun (G : Nat → va_E) (t : State) => va_P (dC, dI) vwCl (va_pl L G) t.heap ∧ va_K (dC, dI) vwCl [(cs 0, .int), (cs 1, .byte), (cs 2, .long), (cs 3, .object RX5), (cs 4, .object RX4), (cs 5, .array .int), (cs 6, .char), (cs 7, .boolean)] t) (fun q => q ∈ L)) 0 0 (fun q => q ∈ L) := by
  refine Met.ofW (cc := cX7_takesSign) (maxL := 2) (ret := (some .boolean)) (by decide) rfl ?_
  intro p e s m args below meth c s₁ B hml hv
  obtain ⟨rfl, hsz, hP, hK, hD, hN⟩ := hv
  have hx := B.exec
  have hb := B.bytes
  have hr := B.returns
  have hts : ∀ w ∈ T0, w.before _ s = true := fun w h => atoms_spec (ws := Cond.code yX7_takesSign cX7_takesSign 2 (some .boolean) :: T0) B.pre w (List.mem_cons_of_mem _ h)
  have hown : s.vm.findClass RX7 = some m.cls := findClass_of_methodNamed B.named
  have hlocks := B.notSynchronized
  have hS : va_S (fun q => q ∈ L) s.heap s.heap [] := va_S.rf
  have hfr : ∀ b, K b ∉ [9] → F b = F b := fun _ _ => rfl
  have hl := lv_entry ([.ref a0, .int x1]) (n := 2) (Nat.le_of_ble_eq_true rfl)
  rw [lg_entry_eq]
  generalize (lg_sl ([.ref a0, .int x1]) ++ List.replicate (2 - (lg_sl ([.ref a0, .int x1])).length) Slot.unset).toArray = ls at hl ⊢
  have hl : lv_has ls 2 [(0, .ref a0), (1, .int x1)] := hl
  refine s_gen hP hS (fun H locs hP hS => ?_)
  obtain ⟨z0, q0, oY0, bz0⟩ := y_opY hI ha0
  have hz0 : ∀ k, k ∈ ([1, 3, 4, 5, 6, 7, 8, 11, 15, 16, 19, 25, 26, 27, 31, 32] : List Nat) → z0 k = z0 k := fun _ _ => rfl
  refine lv_aload_n hx hb dX7_takesSign_0 rfl (lv_at hl 0 rfl) ?_
  refine th_get (D := (dC, dI)) (ci := 7) (v := .int (z0 5)) (C := RX7) (T := TX7) (N := 34) hx hb hts inX7 hown hK hP (hLK _ ha0 (by decide)) oY0 rfl 5 (by decide) (hts _ T_274) (fun _ h9 => h9) rfl dX7_takesSign_1 ?_
  refine lv_topi (fun v1 ev1 => ?_)
  refine lv_if_ne (tgt := 15) hx hb dX7_takesSign_4 (by decide) (fun c2 => ?_) (fun c2 => ?_)
  · have c2 := mt (ax_eq (n := 0) (by decide)).mpr c2
    refine lv_iconst (v := 0) hx hb dX7_takesSign_15 (by decide) ?_
    exact W.zret (v := 0) (ty := .boolean) hx hb hr (by decide) (fun t ht hW => ⟨⟨0, F, rfl, ⟨(by decide), trivial, hI, hfr, fun k hk => (y_fiZ oY0 (s_sub (by decide) hk)).trans ((hz0 k hk).trans (y_fiZ oY0 (s_sub (by decide) hk)).symm), trivial⟩, by rw [ht]; exact hP, va_K.moved hW.alike hK⟩, hS.F ht⟩) hS.2.2 dX7_takesSign_16
  · have c2 := (ax_eq (n := 0) (by decide)).mp c2
    refine lv_aload_n hx hb dX7_takesSign_7 rfl (lv_at hl 0 rfl) ?_
    refine va_calli (va_runV (As := []) (rest := []) ⟨hx, hb, hml, hown, hts⟩ (y_X7_look l dC dI H.size hLK A hA F a0 ha0 hI) (cwV 0 hts (ax_gV T_275 T_276 T_277 T_265 T_22) rfl rfl rfl (by decide +kernel) ⟨Nat.le_of_ble_eq_true rfl, Nat.le_of_ble_eq_true rfl⟩) ⟨fun a U g mk q => ⟨q.1, s_pc rfl rfl q.2⟩, s_recv hK hP (hLK _ ha0 (by decide)) (ci := 7) rfl oY0, fun U hU hW => ⟨rfl, s_pw hU hW hP hK hD hN⟩⟩ rfl rfl hl.1 rfl (lv_room (Nat.le_of_ble_eq_true rfl)) dX7_takesSign_8 ⟨Nat.zero_le _, Nat.zero_le _⟩) hS (fun q _ h => h) (fun q h => h) (fun r4 F5 t H1 locs ht hvm hw hB hz1 hk1 hS => ?_)
    obtain ⟨hP, hK1⟩ := hB
    rw [ht] at hP
    generalize H1 = H at hP hS ⊢
    obtain ⟨h6, h8, hI, hfr1, hzf, h7⟩ := hw
    obtain ⟨z9, q10, oY11, bz12⟩ := y_opY hI ha0
    have hzf : ∀ k, k ∈ ([1, 3, 4, 5, 6, 7, 8, 11, 15, 16, 19, 25, 26, 27, 31, 32] : List Nat) → z9 k = z0 k := fun k hk => by have q9 := hzf k hk; rw [y_fiZ oY11 (s_sub (by decide) hk), y_fiZ oY0 (s_sub (by decide) hk)] at q9; exact q9
    have hz0 : ∀ k, k ∈ ([1, 3, 4, 5, 6, 7, 8, 11, 15, 16, 19, 25, 26, 27, 31, 32] : List Nat) → z9 k = z0 k := fun k hk => (hzf k (s_sub (by decide) hk)).trans (hz0 k hk)
    have ev1 : v1 = z9 5 := ev1.trans (hzf 5 (by decide)).symm
    have hfr : ∀ b, K b ∉ [9] → F5 b = F b := fun b hb9 => (hfr1 b (fun q => hb9 (s_sub (by decide) q))).trans (hfr b hb9)
    obtain ⟨v13, ev13⟩ : ∃ y : Int32, y = z9 2 := ⟨_, rfl⟩
    have qv13 : 0 ≤ v13.toInt ∧ v13.toInt ≤ 1600 := by rw [ev13]; exact y_bY2 bz12
    obtain ⟨v14, ev14⟩ : ∃ y : Int32, y = z9 3 := ⟨_, rfl⟩
    have qv14 : 0 ≤ v14.toInt ∧ v14.toInt ≤ 1600 := by rw [ev14]; exact y_bY3 bz12
    have h7 : (r4.toInt = -1 ∨ v13.toInt < v14.toInt) := by have q9 := h7; rw [y_fiZ oY11 (k := 2) (by decide), ← ev13, y_fiZ oY11 (k := 3) (by decide), ← ev14] at q9; exact q9
    refine lv_iload_n hx hb dX7_takesSign_11 rfl (lv_at hl 1 rfl) ?_
    refine lv_icmp_eq (tgt := 17) hx hb dX7_takesSign_12 (by decide) (fun c15 => ?_) (fun c15 => ?_)
    · have c15 := Int32.toInt_inj.symm.mp c15
      refine lv_aload_n hx hb dX7_takesSign_17 rfl (lv_at hl 0 rfl) ?_
      refine lv_dup hx hb dX7_takesSign_18 rfl ?_
      refine th_get (D := (dC, dI)) (ci := 7) (v := .int (z9 2)) (C := RX7) (T := TX7) (N := 34) hx hb hts inX7 hown hK hP (hLK _ ha0 (by decide)) oY11 rfl 2 (by decide) (hts _ T_272) (fun _ h9 => h9) rfl dX7_takesSign_19 ?_
      refine ax_eqi (y := v13) ev13.symm ?_
      refine lv_iconst (v := 1) hx hb dX7_takesSign_22 (by decide) ?_
      refine lv_iadd hx hb dX7_takesSign_23 ?_
      refine lv_topi (fun v16 ev16 => ?_)
      have qv16 : v16.toInt = v13.toInt + 1 := by rw [ev16]; exact th_add rfl (by decide) ⟨by omega, by omega⟩
      refine th_put (D := (dC, dI)) (ci := 7) (v := .int v16) (ty := .int) (C := RX7) (T := TX7) (N := 34) hx hb hts inX7 tyX7 tyX7_ok nmX7 hown hK hP hD hS (hLK _ ha0 (by decide)) oY11 rfl 2 (by decide) (hts _ T_272) (fun _ h9 => h9) rfl (by decide +kernel) rfl rfl (Nat.le_of_ble_eq_true rfl) dX7_takesSign_24 (fun H locs hP hS => ?_)
      rw [y_fs2] at hP
      obtain ⟨z17, hz18⟩ : ∃ g : Nat → Int32, g = upd z9 2 v16 := ⟨_, rfl⟩
      rw [← hz18] at hP
      have bz19 : y_bY z17 := by rw [hz18]; exact y_bp2 bz12 ⟨by omega, by omega⟩
      have hP : va_P (dC, dI) vwCl (va_pl L (va_up F5 a0 (.inr (7, y_fl A z17 q10)))) H := hP
      obtain ⟨F20, hF21⟩ : ∃ G : Nat → va_E, G = va_up F5 a0 (.inr (7, y_fl A z17 q10)) := ⟨_, rfl⟩
      rw [← hF21] at hP
      have hI : y_I K cs A F20 := by rw [hF21]; exact y_clY hA hI ha0 bz19
      have hfr : ∀ b, K b ∉ [9] → F20 b = F b := by rw [hF21]; exact s_fr hfr ha0 (by decide)
      have oY22 : F20 a0 = .inr (7, y_fl A z17 q10) := by rw [hF21]; exact th_up
      have hz0 : ∀ k, k ∈ ([1, 3, 4, 5, 6, 7, 8, 11, 15, 16, 19, 25, 26, 27, 31, 32] : List Nat) → z17 k = z0 k := fun k hk => by rw [hz18]; exact (y_un (fun q => absurd hk (by rw [q]; decide))).trans (hz0 k hk)
      have ev1 : v1 = z17 5 := by rw [hz18]; exact ev1.trans (y_un (by decide)).symm
      have ev14 : v14 = z17 3 := by rw [hz18]; exact ev14.trans (y_un (by decide)).symm
      obtain ⟨v23, ev23⟩ : ∃ y : Int32, y = z17 2 := ⟨_, rfl⟩
      have qv23 : v23.toInt = v16.toInt := by rw [ev23, hz18, y_ue]
      refine lv_iconst (v := 1) hx hb dX7_takesSign_27 (by decide) ?_
      exact W.zret (v := 1) (ty := .boolean) hx hb hr (by decide) (fun t ht hW => ⟨⟨1, F20, rfl, ⟨(by decide), trivial, hI, hfr, fun k hk => (y_fiZ oY22 (s_sub (by decide) hk)).trans ((hz0 k hk).trans (y_fiZ oY0 (s_sub (by decide) hk)).symm), trivial⟩, by rw [ht]; exact hP, va_K.moved hW.alike hK⟩, hS.F ht⟩) hS.2.2 dX7_takesSign_28
    · have c15 := mt Int32.toInt_inj.symm.mpr c15
      refine lv_iconst (v := 0) hx hb dX7_takesSign_15 (by decide) ?_
      exact W.zret (v := 0) (ty := .boolean) hx hb hr (by decide) (fun t ht hW => ⟨⟨0, F5, rfl, ⟨(by decide), trivial, hI, hfr, fun k hk => (y_fiZ oY11 (s_sub (by decide) hk)).trans ((hz0 k hk).trans (y_fiZ oY0 (s_sub (by decide) hk)).symm), trivial⟩, by rw [ht]; exact hP, va_K.moved hW.alike hK⟩, hS.F ht⟩) hS.2.2 dX7_takesSign_16

set_option maxHeartbeats 4000000 in
set_option maxRecDepth 100000 in
theorem y_X7_asksSign (l : Launch) (dC : Nat → ClassId) (dI : Nat → Nat → Nat) (sz : Nat) {L : List Nat} {K : Nat → Nat} {cs : Nat → ClassId} (hLK : ∀ a {k : Nat}, K a = k → k ≠ 0 → a ∈ L) (A : Nat → Nat) (hA : y_A K A) (F : Nat → va_E) (a0 : Nat) (x1 : Int32) (ha0 : K a0 = 9) (hx1 : 0 ≤ x1.toInt ∧ x1.toInt ≤ 127) (hI : y_I K cs A F) : Met l yX7_asksSign (Cond.code yX7_asksSign cX7_asksSign 2 none :: T0) ({ frames := 2, cells := 0, slots := 0, locals := 41 }) (va_Pc [.ref a0, .int x1] (s_W dC dI sz L F [(cs 0, .int), (cs 1, .byte), (cs 2, .long), (cs 3, .object RX5), (cs 4, .object RX4), (cs 5, .array .int), (cs 6, .char), (cs 7, .boolean)])) (va_Qv (fun (G : Nat → va_E) => True ∧ True ∧ y_I K cs A G ∧ (∀ b, K b ∉ [9] → G b = F b) ∧ (∀ k, k ∈ ([1, 3, 4, 7, 8, 11, 15, 16, 19, 25, 26, 27, 31, 32] : List Nat) → y_fi G a0 k = y_fi F a0 k) ∧ ((y_fi F a0 5).toInt = 0 ∨ ¬ (y_fi G a0 5).toInt = 0)) (fun (G : Nat → va_E) (t : State) => va_P (dC, dI) vwCl (va_pl L G) t.heap ∧ va_K (dC, dI) vwCl [(cs 0, .int), (cs 1, .byte), (cs 2, .long), (cs 3, .object RX5), (cs 4, .object RX4), (cs 5, .array .int), (cs 6, .char), (cs 7, .boolean)] t) (fun q => q ∈ L)) 0 0 (fun q => q ∈ L) := by
  refine Met.ofW (cc := cX7_asksSign) (maxL := 2) (ret := none) (by decide) rfl ?_
  intro p e s m args below meth c s₁ B hml hv
  obtain ⟨rfl, hsz, hP, hK, hD, hN⟩ := hv
  have hx := B.exec
  have hb := B.bytes
  have hr := B.returns
  have hts : ∀ w ∈ T0, w.before _ s = true := fun w h => atoms_spec (ws := Cond.code yX7_asksSign cX7_asksSign 2 none :: T0) B.pre w (List.mem_cons_of_mem _ h)
  have hown : s.vm.findClass RX7 = some m.cls := findClass_of_methodNamed B.named
  have hlocks := B.notSynchronized
  have hS : va_S (fun q => q ∈ L) s.heap s.heap [] := va_S.rf
  have hfr : ∀ b, K b ∉ [9] → F b = F b := fun _ _ => rfl
  have hl := lv_entry ([.ref a0, .int x1]) (n := 2) (Nat.le_of_ble_eq_true rfl)
  rw [lg_entry_eq]
  generalize (lg_sl ([.ref a0, .int x1]) ++ List.replicate (2 - (lg_sl ([.ref a0, .int x1])).length) Slot.unset).toArray = ls at hl ⊢
  have hl : lv_has ls 2 [(0, .ref a0), (1, .int x1)] := hl
  refine s_gen hP hS (fun H locs hP hS => ?_)
  obtain ⟨z0, q0, oY0, bz0⟩ := y_opY hI ha0
  have hz0 : ∀ k, k ∈ ([1, 3, 4, 7, 8, 11, 15, 16, 19, 25, 26, 27, 31, 32] : List Nat) → z0 k = z0 k := fun _ _ => rfl
  obtain ⟨v1, ev1⟩ : ∃ y : Int32, y = z0 5 := ⟨_, rfl⟩
  have eF_5 := ev1
  have e0_v1 := ev1
  refine lv_aload_n hx hb dX7_asksSign_0 rfl (lv_at hl 0 rfl) ?_
  refine th_get (D := (dC, dI)) (ci := 7) (v := .int (z0 5)) (C := RX7) (T := TX7) (N := 34) hx hb hts inX7 hown hK hP (hLK _ ha0 (by decide)) oY0 rfl 5 (by decide) (hts _ T_274) (fun _ h9 => h9) rfl dX7_asksSign_1 ?_
  refine ax_eqi (y := v1) ev1.symm ?_
  refine lv_if_ne (tgt := 24) hx hb dX7_asksSign_4 (by decide) (fun c2 => ?_) (fun c2 => ?_)
  · have c2 := mt (ax_eq (n := 0) (by decide)).mpr c2
    exact W.vret hx hb hr (fun t ht hW => ⟨⟨F, rfl, ⟨trivial, trivial, hI, hfr, fun k hk => (y_fiZ oY0 (s_sub (by decide) hk)).trans ((hz0 k hk).trans (y_fiZ oY0 (s_sub (by decide) hk)).symm), (by rw [y_fiZ oY0 (k := 5) (by decide), ← eF_5]; omega)⟩, by rw [ht]; exact hP, va_K.moved hW.alike hK⟩, hS.F ht⟩) hS.2.2 dX7_asksSign_24
  · have c2 := (ax_eq (n := 0) (by decide)).mp c2
    refine lv_aload_n hx hb dX7_asksSign_7 rfl (lv_at hl 0 rfl) ?_
    refine lv_iload_n hx hb dX7_asksSign_8 rfl (lv_at hl 1 rfl) ?_
    refine va_calli (va_runV (As := [.int x1]) (rest := []) ⟨hx, hb, hml, hown, hts⟩ (y_X7_takesSign l dC dI H.size hLK A hA F a0 x1 ha0 (⟨by omega, by omega⟩) hI) (cwV 1 hts (ax_gV T_1009 T_1011 T_1012 T_265 T_1010) rfl rfl rfl (by decide +kernel) ⟨Nat.le_of_ble_eq_true rfl, Nat.le_of_ble_eq_true rfl⟩) ⟨fun a U g mk q => ⟨q.1, s_pc rfl rfl q.2⟩, s_recv hK hP (hLK _ ha0 (by decide)) (ci := 7) rfl oY0, fun U hU hW => ⟨rfl, s_pw hU hW hP hK hD hN⟩⟩ rfl rfl hl.1 rfl (lv_room (Nat.le_of_ble_eq_true rfl)) dX7_asksSign_9 ⟨Nat.zero_le _, Nat.zero_le _⟩) hS (fun q _ h => h) (fun q h => h) (fun r4 F5 t H1 locs ht hvm hw hB hz1 hk1 hS => ?_)
    obtain ⟨hP, hK1⟩ := hB
    rw [ht] at hP
    generalize H1 = H at hP hS ⊢
    obtain ⟨h6, h8, hI, hfr1, hzf, h7⟩ := hw
    obtain ⟨z9, q10, oY11, bz12⟩ := y_opY hI ha0
    have hzf : ∀ k, k ∈ ([1, 3, 4, 5, 6, 7, 8, 11, 15, 16, 19, 25, 26, 27, 31, 32] : List Nat) → z9 k = z0 k := fun k hk => by have q9 := hzf k hk; rw [y_fiZ oY11 (s_sub (by decide) hk), y_fiZ oY0 (s_sub (by decide) hk)] at q9; exact q9
    have hz0 : ∀ k, k ∈ ([1, 3, 4, 7, 8, 11, 15, 16, 19, 25, 26, 27, 31, 32] : List Nat) → z9 k = z0 k := fun k hk => (hzf k (s_sub (by decide) hk)).trans (hz0 k hk)
    have ev1 : v1 = z9 5 := ev1.trans (hzf 5 (by decide)).symm
    have hfr : ∀ b, K b ∉ [9] → F5 b = F b := fun b hb9 => (hfr1 b (fun q => hb9 (s_sub (by decide) q))).trans (hfr b hb9)
    refine lv_if_ne (tgt := 24) hx hb dX7_asksSign_12 (by decide) (fun c13 => ?_) (fun c13 => ?_)
    · have c13 := mt (ax_eq (n := 0) (by decide)).mpr c13
      exact W.vret hx hb hr (fun t ht hW => ⟨⟨F5, rfl, ⟨trivial, trivial, hI, hfr, fun k hk => (y_fiZ oY11 (s_sub (by decide) hk)).trans ((hz0 k hk).trans (y_fiZ oY0 (s_sub (by decide) hk)).symm), (by rw [y_fiZ oY0 (k := 5) (by decide), ← eF_5, y_fiZ oY11 (k := 5) (by decide), ← ev1]; omega)⟩, by rw [ht]; exact hP, va_K.moved hW.alike hK⟩, hS.F ht⟩) hS.2.2 dX7_asksSign_24
    · have c13 := (ax_eq (n := 0) (by decide)).mp c13
      refine lv_aload_n hx hb dX7_asksSign_15 rfl (lv_at hl 0 rfl) ?_
      refine lv_iconst (v := 1) hx hb dX7_asksSign_16 (by decide) ?_
      refine lv_aload_n hx hb dX7_asksSign_17 rfl (lv_at hl 0 rfl) ?_
      refine th_get (D := (dC, dI)) (ci := 7) (v := .int (z9 2)) (C := RX7) (T := TX7) (N := 34) hx hb hts inX7 hown hK hP (hLK _ ha0 (by decide)) oY11 rfl 2 (by decide) (hts _ T_272) (fun _ h9 => h9) rfl dX7_asksSign_18 ?_
      refine lv_topi (fun v14 ev14 => ?_)
      have qv14 : 0 ≤ v14.toInt ∧ v14.toInt ≤ 1600 := by rw [ev14]; exact y_bY2 bz12
      refine va_callv (va_runV (As := [.int 1, .int v14]) (rest := []) ⟨hx, hb, hml, hown, hts⟩ (y_X7_fail l dC dI H.size hLK A hA F5 a0 1 v14 ha0 (by decide) hI) (cwV 2 hts (ax_gV T_290 T_291 T_292 T_265 T_27) rfl rfl rfl (by decide +kernel) ⟨Nat.le_of_ble_eq_true rfl, Nat.le_of_ble_eq_true rfl⟩) ⟨fun a U g mk q => ⟨q.1, s_pc rfl rfl q.2⟩, s_recv hK hP (hLK _ ha0 (by decide)) (ci := 7) rfl oY11, fun U hU hW => ⟨rfl, s_pw hU hW hP hK hD hN⟩⟩ rfl rfl hl.1 rfl (lv_room (Nat.le_of_ble_eq_true rfl)) dX7_asksSign_21 ⟨Nat.zero_le _, Nat.zero_le _⟩) hS (fun q _ h => h) (fun q h => h) (fun F16 t H1 locs ht hvm hw hB hz1 hk1 hS => ?_)
      obtain ⟨hP, hK1⟩ := hB
      rw [ht] at hP
      generalize H1 = H at hP hS ⊢
      obtain ⟨h17, h19, hI, hfr1, hzf, h18⟩ := hw
      obtain ⟨z20, q21, oY22, bz23⟩ := y_opY hI ha0
      have hzf : ∀ k, k ∈ ([1, 2, 3, 4, 7, 8, 11, 15, 16, 19, 25, 26, 27, 31, 32] : List Nat) → z20 k = z9 k := fun k hk => by have q9 := hzf k hk; rw [y_fiZ oY22 (s_sub (by decide) hk), y_fiZ oY11 (s_sub (by decide) hk)] at q9; exact q9
      have hz0 : ∀ k, k ∈ ([1, 3, 4, 7, 8, 11, 15, 16, 19, 25, 26, 27, 31, 32] : List Nat) → z20 k = z0 k := fun k hk => (hzf k (s_sub (by decide) hk)).trans (hz0 k hk)
      have ev14 : v14 = z20 2 := ev14.trans (hzf 2 (by decide)).symm
      have hfr : ∀ b, K b ∉ [9] → F16 b = F b := fun b hb9 => (hfr1 b (fun q => hb9 (s_sub (by decide) q))).trans (hfr b hb9)
      obtain ⟨v24, ev24⟩ : ∃ y : Int32, y = z20 5 := ⟨_, rfl⟩
      have h18 : (¬ v24.toInt = 0) := by have q9 := h18; rw [y_fiZ oY22 (k := 5) (by decide), ← ev24] at q9; exact q9
      exact W.vret hx hb hr (fun t ht hW => ⟨⟨F16, rfl, ⟨trivial, trivial, hI, hfr, fun k hk => (y_fiZ oY22 (s_sub (by decide) hk)).trans ((hz0 k hk).trans (y_fiZ oY0 (s_sub (by decide) hk)).symm), (by rw [y_fiZ oY0 (k := 5) (by decide), ← eF_5, y_fiZ oY22 (k := 5) (by decide), ← ev24]; omega)⟩, by rw [ht]; exact hP, va_K.moved hW.alike hK⟩, hS.F ht⟩) hS.2.2 dX7_asksSign_24

set_option maxHeartbeats 4000000 in
set_option maxRecDepth 100000 in
theorem y_X7_number (l : Launch) (dC : Nat → ClassId) (dI : Nat → Nat → Nat) (sz : Nat) {L : List Nat} {K : Nat → Nat} {cs : Nat → ClassId} (hLK : ∀ a {k : Nat}, K a = k → k ≠ 0 → a ∈ L) (A : Nat → Nat) (hA : y_A K A) (F : Nat → va_E) (a0 : Nat) (x1 : Int32) (x2 : Int32) (ha0 : K a0 = 9) (hI : y_I K cs A F) : Met l yX7_number (Cond.code yX7_number cX7_number 5 (some .int) :: T0) ({ frames := 1, cells := 0, slots := 0, locals := 25 }) (va_Pc [.ref a0, .int x1, .int x2] (s_W dC dI sz L F [(cs 0, .int), (cs 1, .byte), (cs 2, .long), (cs 3, .object RX5), (cs 4, .object RX4), (cs 5, .array .int), (cs 6, .char), (cs 7, .boolean)])) (va_Qi (fun (r : Int32) (G : Nat → va_E) => True ∧ True ∧ y_I K cs A G ∧ (∀ b, K b ∉ [9] → G b = F b) ∧ (∀ k, k ∈ ([1, 3, 7, 8, 11, 15, 16, 19, 25, 26, 27, 31, 32] : List Nat) → y_fi G a0 k = y_fi F a0 k) ∧ (((y_fi F a0 5).toInt = 0 ∨ ¬ (y_fi G a0 5).toInt = 0) ∧ ((y_fi G a0 5).toInt = 0 → x1.toInt ≤ r.toInt ∧ r.toInt ≤ x2.toInt))) (fun (G : Nat → va_E) (t : State) => va_P (dC, dI) vwCl (va_pl L G) t.heap ∧ va_K (dC, dI) vwCl [(cs 0, .int), (cs 1, .byte), (cs 2, .long), (cs 3, .object RX5), (cs 4, .object RX4), (cs 5, .array .int), (cs 6, .char), (cs 7, .boolean)] t) (fun q => q ∈ L)) 0 0 (fun q => q ∈ L) := by
  refine Met.ofW (cc := cX7_number) (maxL := 5) (ret := (some .int)) (by decide) rfl ?_
  intro p e s m args below meth c s₁ B hml hv
  obtain ⟨rfl, hsz, hP, hK, hD, hN⟩ := hv
  have hx := B.exec
  have hb := B.bytes
  have hr := B.returns
  have hts : ∀ w ∈ T0, w.before _ s = true := fun w h => atoms_spec (ws := Cond.code yX7_number cX7_number 5 (some .int) :: T0) B.pre w (List.mem_cons_of_mem _ h)
  have hown : s.vm.findClass RX7 = some m.cls := findClass_of_methodNamed B.named
  have hlocks := B.notSynchronized
  have hS : va_S (fun q => q ∈ L) s.heap s.heap [] := va_S.rf
  have hfr : ∀ b, K b ∉ [9] → F b = F b := fun _ _ => rfl
  have hl := lv_entry ([.ref a0, .int x1, .int x2]) (n := 5) (Nat.le_of_ble_eq_true rfl)
  rw [lg_entry_eq]
  generalize (lg_sl ([.ref a0, .int x1, .int x2]) ++ List.replicate (5 - (lg_sl ([.ref a0, .int x1, .int x2])).length) Slot.unset).toArray = ls at hl ⊢
  have hl : lv_has ls 5 [(0, .ref a0), (1, .int x1), (2, .int x2)] := hl
  refine s_gen hP hS (fun H locs hP hS => ?_)
  obtain ⟨z0, q0, oY0, bz0⟩ := y_opY hI ha0
  have hz0 : ∀ k, k ∈ ([1, 3, 7, 8, 11, 15, 16, 19, 25, 26, 27, 31, 32] : List Nat) → z0 k = z0 k := fun _ _ => rfl
  obtain ⟨v1, ev1⟩ : ∃ y : Int32, y = z0 5 := ⟨_, rfl⟩
  have eF_5 := ev1
  have e0_v1 := ev1
  refine th_join (fun g H locs => ∃ (G : Nat → va_E) (ls : Array Slot) (w2 : Int32) (w3 : Int32), g = F0 m 129 ls [] ∧ lv_has ls 5 [(0, .ref a0), (1, .int x1), (2, .int x2), (3, .int w2), (4, .int w3)] ∧ va_P (dC, dI) vwCl (va_pl L G) H ∧ va_S (fun q => q ∈ L) s.heap H locs ∧ y_I K cs A G ∧ (∀ b, K b ∉ [9] → G b = F b) ∧ (∀ k, k ∈ ([1, 3, 7, 8, 11, 15, 16, 19, 25, 26, 27, 31, 32] : List Nat) → y_fi G a0 k = z0 k) ∧ (0 ≤ w2.toInt ∧ w2.toInt ≤ 1600) ∧ True ∧ ((y_fi G a0 5).toInt = v1.toInt ∧ v1.toInt = 0)) (fun K129 => ?_) ?_
  refine th_join (fun g H locs => ∃ (G : Nat → va_E) (ls : Array Slot), g = F0 m 30 ls [] ∧ lv_has ls 5 [(0, .ref a0)] ∧ va_P (dC, dI) vwCl (va_pl L G) H ∧ va_S (fun q => q ∈ L) s.heap H locs ∧ y_I K cs A G ∧ (∀ b, K b ∉ [9] → G b = F b) ∧ (∀ k, k ∈ ([1, 3, 7, 8, 11, 15, 16, 19, 25, 26, 27, 31, 32] : List Nat) → y_fi G a0 k = z0 k) ∧ ((y_fi G a0 5).toInt = v1.toInt ∧ v1.toInt = 0)) (fun K30 => ?_) ?_
  · refine lv_aload_n hx hb dX7_number_0 rfl (lv_at hl 0 rfl) ?_
    refine th_get (D := (dC, dI)) (ci := 7) (v := .int (z0 5)) (C := RX7) (T := TX7) (N := 34) hx hb hts inX7 hown hK hP (hLK _ ha0 (by decide)) oY0 rfl 5 (by decide) (hts _ T_274) (fun _ h9 => h9) rfl dX7_number_1 ?_
    refine ax_eqi (y := v1) ev1.symm ?_
    refine lv_if_eq (tgt := 9) hx hb dX7_number_4 (by decide) (fun c4 => ?_) (fun c4 => ?_)
    · have c4 := (ax_eq (n := 0) (by decide)).mp c4
      refine lv_aload_n hx hb dX7_number_9 rfl (lv_at hl 0 rfl) ?_
      refine va_calli (va_runV (As := []) (rest := []) ⟨hx, hb, hml, hown, hts⟩ (y_X7_look l dC dI H.size hLK A hA F a0 ha0 hI) (cwV 0 hts (ax_gV T_275 T_276 T_277 T_265 T_22) rfl rfl rfl (by decide +kernel) ⟨Nat.le_of_ble_eq_true rfl, Nat.le_of_ble_eq_true rfl⟩) ⟨fun a U g mk q => ⟨q.1, s_pc rfl rfl q.2⟩, s_recv hK hP (hLK _ ha0 (by decide)) (ci := 7) rfl oY0, fun U hU hW => ⟨rfl, s_pw hU hW hP hK hD hN⟩⟩ rfl rfl hl.1 rfl (lv_room (Nat.le_of_ble_eq_true rfl)) dX7_number_10 ⟨Nat.zero_le _, Nat.zero_le _⟩) hS (fun q _ h => h) (fun q h => h) (fun r6 F7 t H1 locs ht hvm hw hB hz1 hk1 hS => ?_)
      obtain ⟨hP, hK1⟩ := hB
      rw [ht] at hP
      generalize H1 = H at hP hS ⊢
      obtain ⟨h8, h10, hI, hfr1, hzf, h9⟩ := hw
      obtain ⟨z11, q12, oY13, bz14⟩ := y_opY hI ha0
      have hzf : ∀ k, k ∈ ([1, 3, 4, 5, 6, 7, 8, 11, 15, 16, 19, 25, 26, 27, 31, 32] : List Nat) → z11 k = z0 k := fun k hk => by have q9 := hzf k hk; rw [y_fiZ oY13 (s_sub (by decide) hk), y_fiZ oY0 (s_sub (by decide) hk)] at q9; exact q9
      have hz0 : ∀ k, k ∈ ([1, 3, 7, 8, 11, 15, 16, 19, 25, 26, 27, 31, 32] : List Nat) → z11 k = z0 k := fun k hk => (hzf k (s_sub (by decide) hk)).trans (hz0 k hk)
      have ev1 : v1 = z11 5 := ev1.trans (hzf 5 (by decide)).symm
      have hfr : ∀ b, K b ∉ [9] → F7 b = F b := fun b hb9 => (hfr1 b (fun q => hb9 (s_sub (by decide) q))).trans (hfr b hb9)
      obtain ⟨v15, ev15⟩ : ∃ y : Int32, y = z11 2 := ⟨_, rfl⟩
      have qv15 : 0 ≤ v15.toInt ∧ v15.toInt ≤ 1600 := by rw [ev15]; exact y_bY2 bz14
      obtain ⟨v16, ev16⟩ : ∃ y : Int32, y = z11 3 := ⟨_, rfl⟩
      have qv16 : 0 ≤ v16.toInt ∧ v16.toInt ≤ 1600 := by rw [ev16]; exact y_bY3 bz14
      have h9 : (r6.toInt = -1 ∨ v15.toInt < v16.toInt) := by have q9 := h9; rw [y_fiZ oY13 (k := 2) (by decide), ← ev15, y_fiZ oY13 (k := 3) (by decide), ← ev16] at q9; exact q9
      refine va_calli (va_runS (As := [.int r6]) (rest := []) ⟨hx, hb, hml, hown, hts⟩ (y_X7_isDigit l dC dI H.size F7 r6) (cwS 1 hts (ax_gS T_1279 T_1281 T_265 T_1280) rfl rfl rfl (by decide +kernel) ⟨Nat.le_of_ble_eq_true rfl, Nat.le_of_ble_eq_true rfl⟩) ⟨fun a U g mk q => ⟨q.1, s_pc rfl rfl q.2⟩, fun U hU hW => ⟨rfl, s_pw hU hW hP hK hD hN⟩⟩ rfl rfl hl.1 rfl (lv_room (Nat.le_of_ble_eq_true rfl)) dX7_number_13 ⟨Nat.zero_le _, Nat.zero_le _⟩) hS (fun q _ h => h) (fun q h => h) (fun r18 F19 t H1 locs ht hvm hw hB hz1 hk1 hS => ?_)
      obtain ⟨hP, hK1⟩ := hB
      rw [ht] at hP
      generalize H1 = H at hP hS ⊢
      obtain ⟨h20, h22, hG9, h21⟩ := hw
      rw [hG9] at hP
      refine lv_if_eq (tgt := 30) hx hb dX7_number_16 (by decide) (fun c23 => ?_) (fun c23 => ?_)
      · have c23 := (ax_eq (n := 0) (by decide)).mp c23
        exact K30 _ _ _ ⟨F7, _, rfl, lv_sub hl [0] rfl, hP, hS, hI, hfr, (fun k hk => (y_fiZ oY13 (s_sub (by decide) hk)).trans (hz0 k hk)), (by rw [y_fiZ oY13 (k := 5) (by decide), ← ev1]; omega)⟩
      · have c23 := mt (ax_eq (n := 0) (by decide)).mpr c23
        have h24 := h22 (fun q => c23 (by rw [q]; decide))
        refine lv_aload_n hx hb dX7_number_19 rfl (lv_at hl 0 rfl) ?_
        refine th_get (D := (dC, dI)) (ci := 7) (v := .int (z11 2)) (C := RX7) (T := TX7) (N := 34) hx hb hts inX7 hown hK hP (hLK _ ha0 (by decide)) oY13 rfl 2 (by decide) (hts _ T_272) (fun _ h9 => h9) rfl dX7_number_20 ?_
        refine ax_eqi (y := v15) ev15.symm ?_
        refine lv_aload_n hx hb dX7_number_23 rfl (lv_at hl 0 rfl) ?_
        refine th_get (D := (dC, dI)) (ci := 7) (v := .int (z11 4)) (C := RX7) (T := TX7) (N := 34) hx hb hts inX7 hown hK hP (hLK _ ha0 (by decide)) oY13 rfl 4 (by decide) (hts _ T_296) (fun _ h9 => h9) rfl dX7_number_24 ?_
        refine lv_topi (fun v25 ev25 => ?_)
        refine lv_icmp_ne (tgt := 41) hx hb dX7_number_27 (by decide) (fun c26 => ?_) (fun c26 => ?_)
        · have c26 := mt Int32.toInt_inj.symm.mpr c26
          refine lv_aload_n hx hb dX7_number_41 rfl (lv_at hl 0 rfl) ?_
          refine th_get (D := (dC, dI)) (ci := 7) (v := .int (z11 2)) (C := RX7) (T := TX7) (N := 34) hx hb hts inX7 hown hK hP (hLK _ ha0 (by decide)) oY13 rfl 2 (by decide) (hts _ T_272) (fun _ h9 => h9) rfl dX7_number_42 ?_
          refine ax_eqi (y := v15) ev15.symm ?_
          refine lv_istore_n (lv' := [(3, .int v15), (0, .ref a0), (1, .int x1), (2, .int x2)]) hx hb dX7_number_45 rfl hl (by decide) rfl (fun ls hl => ?_)
          refine lv_iconst (v := 0) hx hb dX7_number_46 (by decide) ?_
          refine lv_istore (lv' := [(4, .int 0), (3, .int v15), (0, .ref a0), (1, .int x1), (2, .int x2)]) hx hb dX7_number_47 hl (by decide) rfl (fun ls hl => ?_)
          have h28 : (0 : Int32).toInt = 0 := by decide
          refine th_loop (fun n g H locs => ∃ (G : Nat → va_E) (ls : Array Slot) (w27 : Int32), g = F0 m 49 ls [] ∧ lv_has ls 5 [(0, .ref a0), (1, .int x1), (2, .int x2), (3, .int v15), (4, .int w27)] ∧ va_P (dC, dI) vwCl (va_pl L G) H ∧ va_S (fun q => q ∈ L) s.heap H locs ∧ y_I K cs A G ∧ (∀ b, K b ∉ [9] → G b = F b) ∧ (∀ k, k ∈ ([1, 3, 7, 8, 11, 15, 16, 19, 25, 26, 27, 31, 32] : List Nat) → y_fi G a0 k = z0 k) ∧ True ∧ (0 ≤ v15.toInt ∧ v15.toInt ≤ 1600) ∧ ((y_fi G a0 5).toInt = v1.toInt ∧ v1.toInt = 0) ∧ n = (1601 - (y_fi G a0 2).toInt).toNat) _ ⟨F7, _, 0, rfl, lv_sub hl [2, 3, 4, 1, 0] rfl, hP, hS, hI, hfr, (fun k hk => (y_fiZ oY13 (s_sub (by decide) hk)).trans (hz0 k hk)), trivial, ⟨by omega, by omega⟩, (by rw [y_fiZ oY13 (k := 5) (by decide), ← ev1]; omega), rfl⟩ (fun n ih49 g H locs hq => ?_)
          obtain ⟨F32, ls, w27, rfl, hl, hP, hS, hI, hfr, hz0, h29, h30, h31, hn⟩ := hq
          obtain ⟨z33, q34, oY35, bz36⟩ := y_opY hI ha0
          have hz0 : ∀ k, k ∈ ([1, 3, 7, 8, 11, 15, 16, 19, 25, 26, 27, 31, 32] : List Nat) → z33 k = z0 k := fun k hk => (y_fiZ oY35 (s_sub (by decide) hk)).symm.trans (hz0 k hk)
          obtain ⟨v37, ev37⟩ : ∃ y : Int32, y = z33 5 := ⟨_, rfl⟩
          have h31 : (v37.toInt = v1.toInt ∧ v1.toInt = 0) := by have q9 := h31; rw [y_fiZ oY35 (k := 5) (by decide), ← ev37] at q9; exact q9
          obtain ⟨v38, ev38⟩ : ∃ y : Int32, y = z33 2 := ⟨_, rfl⟩
          have qv38 : 0 ≤ v38.toInt ∧ v38.toInt ≤ 1600 := by rw [ev38]; exact y_bY2 bz36
          have hn : n = (1601 - v38.toInt).toNat := by have q9 := hn; rw [y_fiZ oY35 (k := 2) (by decide), ← ev38] at q9; exact q9
          have hn_38 := hn
          have h39 : (z33 2).toInt = v38.toInt := by rw [ev38]
          refine lv_aload_n hx hb dX7_number_49 rfl (lv_at hl 0 rfl) ?_
          refine th_get (D := (dC, dI)) (ci := 7) (v := .int (z33 2)) (C := RX7) (T := TX7) (N := 34) hx hb hts inX7 hown hK hP (hLK _ ha0 (by decide)) oY35 rfl 2 (by decide) (hts _ T_272) (fun _ h9 => h9) rfl dX7_number_50 ?_
          refine ax_eqi (y := v38) ev38.symm ?_
          refine lv_aload_n hx hb dX7_number_53 rfl (lv_at hl 0 rfl) ?_
          refine th_get (D := (dC, dI)) (ci := 7) (v := .int (z33 3)) (C := RX7) (T := TX7) (N := 34) hx hb hts inX7 hown hK hP (hLK _ ha0 (by decide)) oY35 rfl 3 (by decide) (hts _ T_273) (fun _ h9 => h9) rfl dX7_number_54 ?_
          refine lv_topi (fun v40 ev40 => ?_)
          have qv40 : 0 ≤ v40.toInt ∧ v40.toInt ≤ 1600 := by rw [ev40]; exact y_bY3 bz36
          refine lv_icmp_ge (tgt := 129) hx hb dX7_number_57 (by decide) (fun c41 => ?_) (fun c41 => ?_)
          · have c41 := Int32.le_iff_toInt_le.mp c41
            exact K129 _ _ _ ⟨F32, _, v15, w27, rfl, lv_sub hl [0, 1, 2, 3, 4] rfl, hP, hS, hI, hfr, (fun k hk => (y_fiZ oY35 (s_sub (by decide) hk)).trans (hz0 k hk)), ⟨by omega, by omega⟩, trivial, (by rw [y_fiZ oY35 (k := 5) (by decide), ← ev37]; omega)⟩
          · have c41 := mt Int32.le_iff_toInt_le.mpr c41
            refine lv_aload_n hx hb dX7_number_60 rfl (lv_at hl 0 rfl) ?_
            refine th_get (D := (dC, dI)) (ci := 7) (v := .ref (A 0)) (C := RX7) (T := TX7) (N := 34) hx hb hts inX7 hown hK hP (hLK _ ha0 (by decide)) oY35 rfl 0 (by decide) (hts _ T_240) (fun _ h9 => h9) rfl dX7_number_61 ?_
            refine lv_aload_n hx hb dX7_number_64 rfl (lv_at hl 0 rfl) ?_
            refine th_get (D := (dC, dI)) (ci := 7) (v := .int (z33 2)) (C := RX7) (T := TX7) (N := 34) hx hb hts inX7 hown hK hP (hLK _ ha0 (by decide)) oY35 rfl 2 (by decide) (hts _ T_272) (fun _ h9 => h9) rfl dX7_number_65 ?_
            refine ax_eqi (y := v38) ev38.symm ?_
            obtain ⟨f42, o43, b44⟩ := y_op0 hI
            refine th_iald hx hb hK hP (hLK _ (y_k0 hA) (by decide)) 0 o43 rfl (th_in ⟨by omega, by omega⟩) dX7_number_68 ?_
            refine lv_topi (fun v45 ev45 => ?_)
            refine va_calli (va_runS (As := [.int v45]) (rest := []) ⟨hx, hb, hml, hown, hts⟩ (y_X7_isDigit l dC dI H.size F32 v45) (cwS 1 hts (ax_gS T_1279 T_1281 T_265 T_1280) rfl rfl rfl (by decide +kernel) ⟨Nat.le_of_ble_eq_true rfl, Nat.le_of_ble_eq_true rfl⟩) ⟨fun a U g mk q => ⟨q.1, s_pc rfl rfl q.2⟩, fun U hU hW => ⟨rfl, s_pw hU hW hP hK hD hN⟩⟩ rfl rfl hl.1 rfl (lv_room (Nat.le_of_ble_eq_true rfl)) dX7_number_69 ⟨Nat.zero_le _, Nat.zero_le _⟩) hS (fun q _ h => h) (fun q h => h) (fun r47 F48 t H1 locs ht hvm hw hB hz1 hk1 hS => ?_)
            obtain ⟨hP, hK1⟩ := hB
            rw [ht] at hP
            generalize H1 = H at hP hS ⊢
            obtain ⟨h49, h51, hG9, h50⟩ := hw
            rw [hG9] at hP
            refine lv_if_eq (tgt := 129) hx hb dX7_number_72 (by decide) (fun c52 => ?_) (fun c52 => ?_)
            · have c52 := (ax_eq (n := 0) (by decide)).mp c52
              exact K129 _ _ _ ⟨F32, _, v15, w27, rfl, lv_sub hl [0, 1, 2, 3, 4] rfl, hP, hS, hI, hfr, (fun k hk => (y_fiZ oY35 (s_sub (by decide) hk)).trans (hz0 k hk)), ⟨by omega, by omega⟩, trivial, (by rw [y_fiZ oY35 (k := 5) (by decide), ← ev37]; omega)⟩
            · have c52 := mt (ax_eq (n := 0) (by decide)).mpr c52
              have h53 := h51 (fun q => c52 (by rw [q]; decide))
              refine lv_aload_n hx hb dX7_number_75 rfl (lv_at hl 0 rfl) ?_
              refine th_get (D := (dC, dI)) (ci := 7) (v := .int (z33 2)) (C := RX7) (T := TX7) (N := 34) hx hb hts inX7 hown hK hP (hLK _ ha0 (by decide)) oY35 rfl 2 (by decide) (hts _ T_272) (fun _ h9 => h9) rfl dX7_number_76 ?_
              refine ax_eqi (y := v38) ev38.symm ?_
              refine lv_iload_n hx hb dX7_number_79 rfl (lv_at hl 3 rfl) ?_
              refine lv_isub hx hb dX7_number_80 ?_
              refine lv_topi (fun v54 ev54 => ?_)
              have qv54 : v54.toInt = v38.toInt - v15.toInt := by rw [ev54]; exact th_sub rfl rfl ⟨by omega, by omega⟩
              refine lv_iconst (v := 3) hx hb dX7_number_81 (by decide) ?_
              refine lv_icmp_ne (tgt := 96) hx hb dX7_number_82 (by decide) (fun c55 => ?_) (fun c55 => ?_)
              · have c55 := mt (ax_eq (n := 3) (by decide)).mpr c55
                refine lv_bipush (v := 10) hx hb dX7_number_96 (by decide) ?_
                refine lv_iload hx hb dX7_number_98 (lv_at hl 4 rfl) ?_
                refine lv_imul hx hb dX7_number_100 ?_
                refine lv_topi (fun v56 ev56 => ?_)
                refine lv_aload_n hx hb dX7_number_101 rfl (lv_at hl 0 rfl) ?_
                refine th_get (D := (dC, dI)) (ci := 7) (v := .ref (A 0)) (C := RX7) (T := TX7) (N := 34) hx hb hts inX7 hown hK hP (hLK _ ha0 (by decide)) oY35 rfl 0 (by decide) (hts _ T_240) (fun _ h9 => h9) rfl dX7_number_102 ?_
                refine lv_aload_n hx hb dX7_number_105 rfl (lv_at hl 0 rfl) ?_
                refine th_get (D := (dC, dI)) (ci := 7) (v := .int (z33 2)) (C := RX7) (T := TX7) (N := 34) hx hb hts inX7 hown hK hP (hLK _ ha0 (by decide)) oY35 rfl 2 (by decide) (hts _ T_272) (fun _ h9 => h9) rfl dX7_number_106 ?_
                refine ax_eqi (y := v38) ev38.symm ?_
                refine th_iald hx hb hK hP (hLK _ (y_k0 hA) (by decide)) 0 o43 rfl (th_in ⟨by omega, by omega⟩) dX7_number_109 ?_
                refine lv_topi (fun v57 ev57 => ?_)
                refine lv_iadd hx hb dX7_number_110 ?_
                refine lv_topi (fun v58 ev58 => ?_)
                refine lv_bipush (v := 48) hx hb dX7_number_111 (by decide) ?_
                refine lv_isub hx hb dX7_number_113 ?_
                refine lv_topi (fun v59 ev59 => ?_)
                refine lv_istore (lv' := [(4, .int v59), (0, .ref a0), (1, .int x1), (2, .int x2), (3, .int v15)]) hx hb dX7_number_114 hl (by decide) rfl (fun ls hl => ?_)
                refine lv_aload_n hx hb dX7_number_116 rfl (lv_at hl 1 rfl) ?_
                refine lv_dup hx hb dX7_number_117 rfl ?_
                refine th_get (D := (dC, dI)) (ci := 7) (v := .int (z33 2)) (C := RX7) (T := TX7) (N := 34) hx hb hts inX7 hown hK hP (hLK _ ha0 (by decide)) oY35 rfl 2 (by decide) (hts _ T_272) (fun _ h9 => h9) rfl dX7_number_118 ?_
                refine ax_eqi (y := v38) ev38.symm ?_
                refine lv_iconst (v := 1) hx hb dX7_number_121 (by decide) ?_
                refine lv_iadd hx hb dX7_number_122 ?_
                refine lv_topi (fun v60 ev60 => ?_)
                have qv60 : v60.toInt = v38.toInt + 1 := by rw [ev60]; exact th_add rfl (by decide) ⟨by omega, by omega⟩
                refine th_put (D := (dC, dI)) (ci := 7) (v := .int v60) (ty := .int) (C := RX7) (T := TX7) (N := 34) hx hb hts inX7 tyX7 tyX7_ok nmX7 hown hK hP hD hS (hLK _ ha0 (by decide)) oY35 rfl 2 (by decide) (hts _ T_272) (fun _ h9 => h9) rfl (by decide +kernel) rfl rfl (Nat.le_of_ble_eq_true rfl) dX7_number_123 (fun H locs hP hS => ?_)
                rw [y_fs2] at hP
                obtain ⟨z61, hz62⟩ : ∃ g : Nat → Int32, g = upd z33 2 v60 := ⟨_, rfl⟩
                rw [← hz62] at hP
                have bz63 : y_bY z61 := by rw [hz62]; exact y_bp2 bz36 ⟨by omega, by omega⟩
                have hP : va_P (dC, dI) vwCl (va_pl L (va_up F32 a0 (.inr (7, y_fl A z61 q34)))) H := hP
                obtain ⟨F64, hF65⟩ : ∃ G : Nat → va_E, G = va_up F32 a0 (.inr (7, y_fl A z61 q34)) := ⟨_, rfl⟩
                rw [← hF65] at hP
                have hI : y_I K cs A F64 := by rw [hF65]; exact y_clY hA hI ha0 bz63
                have hfr : ∀ b, K b ∉ [9] → F64 b = F b := by rw [hF65]; exact s_fr hfr ha0 (by decide)
                have o66 : F64 (A 0) = .inl (cs 0, 1600, .inl f42) := by rw [hF65]; exact th_ne (th_kd (y_k0 hA) ha0 (by decide)) o43
                have oY67 : F64 a0 = .inr (7, y_fl A z61 q34) := by rw [hF65]; exact th_up
                have hz0 : ∀ k, k ∈ ([1, 3, 7, 8, 11, 15, 16, 19, 25, 26, 27, 31, 32] : List Nat) → z61 k = z0 k := fun k hk => by rw [hz62]; exact (y_un (fun q => absurd hk (by rw [q]; decide))).trans (hz0 k hk)
                have ev37 : v37 = z61 5 := by rw [hz62]; exact ev37.trans (y_un (by decide)).symm
                have ev40 : v40 = z61 3 := by rw [hz62]; exact ev40.trans (y_un (by decide)).symm
                obtain ⟨v68, ev68⟩ : ∃ y : Int32, y = z61 2 := ⟨_, rfl⟩
                have qv68 : v68.toInt = v60.toInt := by rw [ev68, hz62, y_ue]
                refine lv_goto (tgt := 49) hx hb dX7_number_126 (by decide) ?_
                have h69 : (y_fi F64 a0 2).toInt = v68.toInt := by rw [y_fiZ oY67 (k := 2) (by decide), ← ev68]
                exact ih49 _ _ _ _ (by omega) ⟨F64, _, v59, rfl, lv_sub hl [1, 2, 3, 4, 0] rfl, hP, hS, hI, hfr, (fun k hk => (y_fiZ oY67 (s_sub (by decide) hk)).trans (hz0 k hk)), trivial, ⟨by omega, by omega⟩, (by rw [y_fiZ oY67 (k := 5) (by decide), ← ev37]; omega), rfl⟩
              · have c55 := (ax_eq (n := 3) (by decide)).mp c55
                refine lv_aload_n hx hb dX7_number_85 rfl (lv_at hl 0 rfl) ?_
                refine lv_iconst (v := 1) hx hb dX7_number_86 (by decide) ?_
                refine lv_aload_n hx hb dX7_number_87 rfl (lv_at hl 0 rfl) ?_
                refine th_get (D := (dC, dI)) (ci := 7) (v := .int (z33 2)) (C := RX7) (T := TX7) (N := 34) hx hb hts inX7 hown hK hP (hLK _ ha0 (by decide)) oY35 rfl 2 (by decide) (hts _ T_272) (fun _ h9 => h9) rfl dX7_number_88 ?_
                refine ax_eqi (y := v38) ev38.symm ?_
                refine va_callv (va_runV (As := [.int 1, .int v38]) (rest := []) ⟨hx, hb, hml, hown, hts⟩ (y_X7_fail l dC dI H.size hLK A hA F32 a0 1 v38 ha0 (by decide) hI) (cwV 2 hts (ax_gV T_290 T_291 T_292 T_265 T_27) rfl rfl rfl (by decide +kernel) ⟨Nat.le_of_ble_eq_true rfl, Nat.le_of_ble_eq_true rfl⟩) ⟨fun a U g mk q => ⟨q.1, s_pc rfl rfl q.2⟩, s_recv hK hP (hLK _ ha0 (by decide)) (ci := 7) rfl oY35, fun U hU hW => ⟨rfl, s_pw hU hW hP hK hD hN⟩⟩ rfl rfl hl.1 rfl (lv_room (Nat.le_of_ble_eq_true rfl)) dX7_number_91 ⟨Nat.zero_le _, Nat.zero_le _⟩) hS (fun q _ h => h) (fun q h => h) (fun F71 t H1 locs ht hvm hw hB hz1 hk1 hS => ?_)
                obtain ⟨hP, hK1⟩ := hB
                rw [ht] at hP
                generalize H1 = H at hP hS ⊢
                obtain ⟨h72, h74, hI, hfr1, hzf, h73⟩ := hw
                have o75 : F71 (A 0) = .inl (cs 0, 1600, .inl f42) := (hfr1 _ (by rw [(y_k0 hA)]; decide)).trans o43
                obtain ⟨z76, q77, oY78, bz79⟩ := y_opY hI ha0
                have hzf : ∀ k, k ∈ ([1, 2, 3, 4, 7, 8, 11, 15, 16, 19, 25, 26, 27, 31, 32] : List Nat) → z76 k = z33 k := fun k hk => by have q9 := hzf k hk; rw [y_fiZ oY78 (s_sub (by decide) hk), y_fiZ oY35 (s_sub (by decide) hk)] at q9; exact q9
                have hz0 : ∀ k, k ∈ ([1, 3, 7, 8, 11, 15, 16, 19, 25, 26, 27, 31, 32] : List Nat) → z76 k = z0 k := fun k hk => (hzf k (s_sub (by decide) hk)).trans (hz0 k hk)
                have ev38 : v38 = z76 2 := ev38.trans (hzf 2 (by decide)).symm
                have ev40 : v40 = z76 3 := ev40.trans (hzf 3 (by decide)).symm
                have hfr : ∀ b, K b ∉ [9] → F71 b = F b := fun b hb9 => (hfr1 b (fun q => hb9 (s_sub (by decide) q))).trans (hfr b hb9)
                obtain ⟨v80, ev80⟩ : ∃ y : Int32, y = z76 5 := ⟨_, rfl⟩
                have h73 : (¬ v80.toInt = 0) := by have q9 := h73; rw [y_fiZ oY78 (k := 5) (by decide), ← ev80] at q9; exact q9
                refine lv_iconst (v := 0) hx hb dX7_number_94 (by decide) ?_
                exact W.iret (v := 0) hx hb hr (fun t ht hW => ⟨⟨0, F71, rfl, ⟨trivial, trivial, hI, hfr, fun k hk => (y_fiZ oY78 (s_sub (by decide) hk)).trans ((hz0 k hk).trans (y_fiZ oY0 (s_sub (by decide) hk)).symm), (by rw [y_fiZ oY0 (k := 5) (by decide), ← eF_5, y_fiZ oY78 (k := 5) (by decide), ← ev80]; omega)⟩, by rw [ht]; exact hP, va_K.moved hW.alike hK⟩, hS.F ht⟩) hS.2.2 dX7_number_95
        · have c26 := Int32.toInt_inj.symm.mp c26
          exact K30 _ _ _ ⟨F7, _, rfl, lv_sub hl [0] rfl, hP, hS, hI, hfr, (fun k hk => (y_fiZ oY13 (s_sub (by decide) hk)).trans (hz0 k hk)), (by rw [y_fiZ oY13 (k := 5) (by decide), ← ev1]; omega)⟩
    · have c4 := mt (ax_eq (n := 0) (by decide)).mpr c4
      refine lv_iconst (v := 0) hx hb dX7_number_7 (by decide) ?_
      exact W.iret (v := 0) hx hb hr (fun t ht hW => ⟨⟨0, F, rfl, ⟨trivial, trivial, hI, hfr, fun k hk => (y_fiZ oY0 (s_sub (by decide) hk)).trans ((hz0 k hk).trans (y_fiZ oY0 (s_sub (by decide) hk)).symm), (by rw [y_fiZ oY0 (k := 5) (by decide), ← eF_5]; omega)⟩, by rw [ht]; exact hP, va_K.moved hW.alike hK⟩, hS.F ht⟩) hS.2.2 dX7_number_8
  · intro g H locs hq
    obtain ⟨F82, ls, rfl, hl, hP, hS, hI, hfr, hz0, h81⟩ := hq
    obtain ⟨z83, q84, oY85, bz86⟩ := y_opY hI ha0
    have hz0 : ∀ k, k ∈ ([1, 3, 7, 8, 11, 15, 16, 19, 25, 26, 27, 31, 32] : List Nat) → z83 k = z0 k := fun k hk => (y_fiZ oY85 (s_sub (by decide) hk)).symm.trans (hz0 k hk)
    obtain ⟨v87, ev87⟩ : ∃ y : Int32, y = z83 5 := ⟨_, rfl⟩
    have h81 : (v87.toInt = v1.toInt ∧ v1.toInt = 0) := by have q9 := h81; rw [y_fiZ oY85 (k := 5) (by decide), ← ev87] at q9; exact q9
    refine lv_aload_n hx hb dX7_number_30 rfl (lv_at hl 0 rfl) ?_
    refine lv_iconst (v := 1) hx hb dX7_number_31 (by decide) ?_
    refine lv_aload_n hx hb dX7_number_32 rfl (lv_at hl 0 rfl) ?_
    refine th_get (D := (dC, dI)) (ci := 7) (v := .int (z83 2)) (C := RX7) (T := TX7) (N := 34) hx hb hts inX7 hown hK hP (hLK _ ha0 (by decide)) oY85 rfl 2 (by decide) (hts _ T_272) (fun _ h9 => h9) rfl dX7_number_33 ?_
    refine lv_topi (fun v88 ev88 => ?_)
    have qv88 : 0 ≤ v88.toInt ∧ v88.toInt ≤ 1600 := by rw [ev88]; exact y_bY2 bz86
    refine va_callv (va_runV (As := [.int 1, .int v88]) (rest := []) ⟨hx, hb, hml, hown, hts⟩ (y_X7_fail l dC dI H.size hLK A hA F82 a0 1 v88 ha0 (by decide) hI) (cwV 2 hts (ax_gV T_290 T_291 T_292 T_265 T_27) rfl rfl rfl (by decide +kernel) ⟨Nat.le_of_ble_eq_true rfl, Nat.le_of_ble_eq_true rfl⟩) ⟨fun a U g mk q => ⟨q.1, s_pc rfl rfl q.2⟩, s_recv hK hP (hLK _ ha0 (by decide)) (ci := 7) rfl oY85, fun U hU hW => ⟨rfl, s_pw hU hW hP hK hD hN⟩⟩ rfl rfl hl.1 rfl (lv_room (Nat.le_of_ble_eq_true rfl)) dX7_number_36 ⟨Nat.zero_le _, Nat.zero_le _⟩) hS (fun q _ h => h) (fun q h => h) (fun F90 t H1 locs ht hvm hw hB hz1 hk1 hS => ?_)
    obtain ⟨hP, hK1⟩ := hB
    rw [ht] at hP
    generalize H1 = H at hP hS ⊢
    obtain ⟨h91, h93, hI, hfr1, hzf, h92⟩ := hw
    obtain ⟨z94, q95, oY96, bz97⟩ := y_opY hI ha0
    have hzf : ∀ k, k ∈ ([1, 2, 3, 4, 7, 8, 11, 15, 16, 19, 25, 26, 27, 31, 32] : List Nat) → z94 k = z83 k := fun k hk => by have q9 := hzf k hk; rw [y_fiZ oY96 (s_sub (by decide) hk), y_fiZ oY85 (s_sub (by decide) hk)] at q9; exact q9
    have hz0 : ∀ k, k ∈ ([1, 3, 7, 8, 11, 15, 16, 19, 25, 26, 27, 31, 32] : List Nat) → z94 k = z0 k := fun k hk => (hzf k (s_sub (by decide) hk)).trans (hz0 k hk)
    have ev88 : v88 = z94 2 := ev88.trans (hzf 2 (by decide)).symm
    have hfr : ∀ b, K b ∉ [9] → F90 b = F b := fun b hb9 => (hfr1 b (fun q => hb9 (s_sub (by decide) q))).trans (hfr b hb9)
    obtain ⟨v98, ev98⟩ : ∃ y : Int32, y = z94 5 := ⟨_, rfl⟩
    have h92 : (¬ v98.toInt = 0) := by have q9 := h92; rw [y_fiZ oY96 (k := 5) (by decide), ← ev98] at q9; exact q9
    refine lv_iconst (v := 0) hx hb dX7_number_39 (by decide) ?_
    exact W.iret (v := 0) hx hb hr (fun t ht hW => ⟨⟨0, F90, rfl, ⟨trivial, trivial, hI, hfr, fun k hk => (y_fiZ oY96 (s_sub (by decide) hk)).trans ((hz0 k hk).trans (y_fiZ oY0 (s_sub (by decide) hk)).symm), (by rw [y_fiZ oY0 (k := 5) (by decide), ← eF_5, y_fiZ oY96 (k := 5) (by decide), ← ev98]; omega)⟩, by rw [ht]; exact hP, va_K.moved hW.alike hK⟩, hS.F ht⟩) hS.2.2 dX7_number_40
  · intro g H locs hq
    obtain ⟨F102, ls, w2, w3, rfl, hl, hP, hS, hI, hfr, hz0, h99, h100, h101⟩ := hq
    obtain ⟨z103, q104, oY105, bz106⟩ := y_opY hI ha0
    have hz0 : ∀ k, k ∈ ([1, 3, 7, 8, 11, 15, 16, 19, 25, 26, 27, 31, 32] : List Nat) → z103 k = z0 k := fun k hk => (y_fiZ oY105 (s_sub (by decide) hk)).symm.trans (hz0 k hk)
    obtain ⟨v107, ev107⟩ : ∃ y : Int32, y = z103 5 := ⟨_, rfl⟩
    have h101 : (v107.toInt = v1.toInt ∧ v1.toInt = 0) := by have q9 := h101; rw [y_fiZ oY105 (k := 5) (by decide), ← ev107] at q9; exact q9
    refine lv_aload_n hx hb dX7_number_129 rfl (lv_at hl 0 rfl) ?_
    refine lv_aload_n hx hb dX7_number_130 rfl (lv_at hl 0 rfl) ?_
    refine th_get (D := (dC, dI)) (ci := 7) (v := .int (z103 2)) (C := RX7) (T := TX7) (N := 34) hx hb hts inX7 hown hK hP (hLK _ ha0 (by decide)) oY105 rfl 2 (by decide) (hts _ T_272) (fun _ h9 => h9) rfl dX7_number_131 ?_
    refine lv_topi (fun v108 ev108 => ?_)
    have qv108 : 0 ≤ v108.toInt ∧ v108.toInt ≤ 1600 := by rw [ev108]; exact y_bY2 bz106
    refine th_put (D := (dC, dI)) (ci := 7) (v := .int v108) (ty := .int) (C := RX7) (T := TX7) (N := 34) hx hb hts inX7 tyX7 tyX7_ok nmX7 hown hK hP hD hS (hLK _ ha0 (by decide)) oY105 rfl 4 (by decide) (hts _ T_296) (fun _ h9 => h9) rfl (by decide +kernel) rfl rfl (Nat.le_of_ble_eq_true rfl) dX7_number_134 (fun H locs hP hS => ?_)
    rw [y_fs4] at hP
    obtain ⟨z109, hz110⟩ : ∃ g : Nat → Int32, g = upd z103 4 v108 := ⟨_, rfl⟩
    rw [← hz110] at hP
    have bz111 : y_bY z109 := by rw [hz110]; exact y_bp4 bz106
    have hP : va_P (dC, dI) vwCl (va_pl L (va_up F102 a0 (.inr (7, y_fl A z109 q104)))) H := hP
    obtain ⟨F112, hF113⟩ : ∃ G : Nat → va_E, G = va_up F102 a0 (.inr (7, y_fl A z109 q104)) := ⟨_, rfl⟩
    rw [← hF113] at hP
    have hI : y_I K cs A F112 := by rw [hF113]; exact y_clY hA hI ha0 bz111
    have hfr : ∀ b, K b ∉ [9] → F112 b = F b := by rw [hF113]; exact s_fr hfr ha0 (by decide)
    have oY114 : F112 a0 = .inr (7, y_fl A z109 q104) := by rw [hF113]; exact th_up
    have hz0 : ∀ k, k ∈ ([1, 3, 7, 8, 11, 15, 16, 19, 25, 26, 27, 31, 32] : List Nat) → z109 k = z0 k := fun k hk => by rw [hz110]; exact (y_un (fun q => absurd hk (by rw [q]; decide))).trans (hz0 k hk)
    have ev107 : v107 = z109 5 := by rw [hz110]; exact ev107.trans (y_un (by decide)).symm
    have ev108 : v108 = z109 2 := by rw [hz110]; exact ev108.trans (y_un (by decide)).symm
    obtain ⟨v115, ev115⟩ : ∃ y : Int32, y = z109 4 := ⟨_, rfl⟩
    have qv115 : v115.toInt = v108.toInt := by rw [ev115, hz110, y_ue]
    refine lv_iload hx hb dX7_number_137 (lv_at hl 4 rfl) ?_
    refine lv_i2l hx hb dX7_number_139 rfl ?_
    refine lv_topl (fun v116 ev116 => ?_)
    have qv116 : v116.toInt = w3.toInt := y_i2l ev116
    refine lv_iload_n hx hb dX7_number_140 rfl (lv_at hl 1 rfl) ?_
    refine lv_i2l hx hb dX7_number_141 rfl ?_
    refine lv_topl (fun v117 ev117 => ?_)
    have qv117 : v117.toInt = x1.toInt := y_i2l ev117
    refine lv_iload_n hx hb dX7_number_142 rfl (lv_at hl 2 rfl) ?_
    refine lv_i2l hx hb dX7_number_143 rfl ?_
    refine lv_topl (fun v118 ev118 => ?_)
    have qv118 : v118.toInt = x2.toInt := y_i2l ev118
    refine va_calli (va_runS (As := [.long v116, .long v117, .long v118]) (rest := []) ⟨hx, hb, hml, hown, hts⟩ (y_X7_isIn l dC dI H.size F112 v116 v117 v118) (cwS 3 hts (ax_gS T_267 T_268 T_265 T_21) rfl rfl rfl (by decide +kernel) ⟨Nat.le_of_ble_eq_true rfl, Nat.le_of_ble_eq_true rfl⟩) ⟨fun a U g mk q => ⟨q.1, s_pc rfl rfl q.2⟩, fun U hU hW => ⟨rfl, s_pw hU hW hP hK hD hN⟩⟩ rfl rfl hl.1 rfl (lv_room (Nat.le_of_ble_eq_true rfl)) dX7_number_144 ⟨Nat.zero_le _, Nat.zero_le _⟩) hS (fun q _ h => h) (fun q h => h) (fun r120 F121 t H1 locs ht hvm hw hB hz1 hk1 hS => ?_)
    obtain ⟨hP, hK1⟩ := hB
    rw [ht] at hP
    generalize H1 = H at hP hS ⊢
    obtain ⟨h122, h124, hG9, h123⟩ := hw
    rw [hG9] at hP
    have h123 : ((r120.toInt = 0 ∧ (v116.toInt < v117.toInt ∨ v118.toInt < v116.toInt)) ∨ (r120.toInt = 1 ∧ v117.toInt ≤ v116.toInt ∧ v116.toInt ≤ v118.toInt)) := by have q9 := h123; exact q9
    refine lv_if_ne (tgt := 156) hx hb dX7_number_147 (by decide) (fun c125 => ?_) (fun c125 => ?_)
    · have c125 := mt (ax_eq (n := 0) (by decide)).mpr c125
      refine lv_iload hx hb dX7_number_156 (lv_at hl 4 rfl) ?_
      exact W.iret (v := w3) hx hb hr (fun t ht hW => ⟨⟨w3, F112, rfl, ⟨trivial, trivial, hI, hfr, fun k hk => (y_fiZ oY114 (s_sub (by decide) hk)).trans ((hz0 k hk).trans (y_fiZ oY0 (s_sub (by decide) hk)).symm), (by rw [y_fiZ oY0 (k := 5) (by decide), ← eF_5, y_fiZ oY114 (k := 5) (by decide), ← ev107]; omega)⟩, by rw [ht]; exact hP, va_K.moved hW.alike hK⟩, hS.F ht⟩) hS.2.2 dX7_number_158
    · have c125 := (ax_eq (n := 0) (by decide)).mp c125
      refine lv_aload_n hx hb dX7_number_150 rfl (lv_at hl 0 rfl) ?_
      refine lv_iconst (v := 2) hx hb dX7_number_151 (by decide) ?_
      refine lv_iload_n hx hb dX7_number_152 rfl (lv_at hl 3 rfl) ?_
      refine va_callv (va_runV (As := [.int 2, .int w2]) (rest := []) ⟨hx, hb, hml, hown, hts⟩ (y_X7_fail l dC dI H.size hLK A hA F112 a0 2 w2 ha0 (by decide) hI) (cwV 2 hts (ax_gV T_290 T_291 T_292 T_265 T_27) rfl rfl rfl (by decide +kernel) ⟨Nat.le_of_ble_eq_true rfl, Nat.le_of_ble_eq_true rfl⟩) ⟨fun a U g mk q => ⟨q.1, s_pc rfl rfl q.2⟩, s_recv hK hP (hLK _ ha0 (by decide)) (ci := 7) rfl oY114, fun U hU hW => ⟨rfl, s_pw hU hW hP hK hD hN⟩⟩ rfl rfl hl.1 rfl (lv_room (Nat.le_of_ble_eq_true rfl)) dX7_number_153 ⟨Nat.zero_le _, Nat.zero_le _⟩) hS (fun q _ h => h) (fun q h => h) (fun F127 t H1 locs ht hvm hw hB hz1 hk1 hS => ?_)
      obtain ⟨hP, hK1⟩ := hB
      rw [ht] at hP
      generalize H1 = H at hP hS ⊢
      obtain ⟨h128, h130, hI, hfr1, hzf, h129⟩ := hw
      obtain ⟨z131, q132, oY133, bz134⟩ := y_opY hI ha0
      have hzf : ∀ k, k ∈ ([1, 2, 3, 4, 7, 8, 11, 15, 16, 19, 25, 26, 27, 31, 32] : List Nat) → z131 k = z109 k := fun k hk => by have q9 := hzf k hk; rw [y_fiZ oY133 (s_sub (by decide) hk), y_fiZ oY114 (s_sub (by decide) hk)] at q9; exact q9
      have hz0 : ∀ k, k ∈ ([1, 3, 7, 8, 11, 15, 16, 19, 25, 26, 27, 31, 32] : List Nat) → z131 k = z0 k := fun k hk => (hzf k (s_sub (by decide) hk)).trans (hz0 k hk)
      have ev108 : v108 = z131 2 := ev108.trans (hzf 2 (by decide)).symm
      have ev115 : v115 = z131 4 := ev115.trans (hzf 4 (by decide)).symm
      have hfr : ∀ b, K b ∉ [9] → F127 b = F b := fun b hb9 => (hfr1 b (fun q => hb9 (s_sub (by decide) q))).trans (hfr b hb9)
      obtain ⟨v135, ev135⟩ : ∃ y : Int32, y = z131 5 := ⟨_, rfl⟩
      have h129 : (¬ v135.toInt = 0) := by have q9 := h129; rw [y_fiZ oY133 (k := 5) (by decide), ← ev135] at q9; exact q9
      refine lv_iload hx hb dX7_number_156 (lv_at hl 4 rfl) ?_
      exact W.iret (v := w3) hx hb hr (fun t ht hW => ⟨⟨w3, F127, rfl, ⟨trivial, trivial, hI, hfr, fun k hk => (y_fiZ oY133 (s_sub (by decide) hk)).trans ((hz0 k hk).trans (y_fiZ oY0 (s_sub (by decide) hk)).symm), (by rw [y_fiZ oY0 (k := 5) (by decide), ← eF_5, y_fiZ oY133 (k := 5) (by decide), ← ev135]; omega)⟩, by rw [ht]; exact hP, va_K.moved hW.alike hK⟩, hS.F ht⟩) hS.2.2 dX7_number_158

set_option maxHeartbeats 4000000 in
set_option maxRecDepth 100000 in
theorem y_X7_isLike (l : Launch) (dC : Nat → ClassId) (dI : Nat → Nat → Nat) (sz : Nat) {L : List Nat} {K : Nat → Nat} {cs : Nat → ClassId} (hLK : ∀ a {k : Nat}, K a = k → k ≠ 0 → a ∈ L) (A : Nat → Nat) (hA : y_A K A) (F : Nat → va_E) (a0 : Nat) (x1 : Int32) (x2 : Int32) (ha0 : K a0 = 9) (hx1 : 0 ≤ x1.toInt ∧ x1.toInt ≤ 125) (hx2 : 0 ≤ x2.toInt ∧ x2.toInt ≤ 1600) (hI : y_I K cs A F) (hlk : (x1.toInt + x2.toInt ≤ 125 ∧ (y_fi F a0 2).toInt + x2.toInt ≤ 1600)) : Met l yX7_isLike (Cond.code yX7_isLike cX7_isLike 4 (some .boolean) :: T0) ({ frames := 0, cells := 0, slots := 0, locals := 0 }) (va_Pc [.ref a0, .int x1, .int x2] (s_W dC dI sz L F [(cs 0, .int), (cs 1, .byte), (cs 2, .long), (cs 3, .object RX5), (cs 4, .object RX4), (cs 5, .array .int), (cs 6, .char), (cs 7, .boolean)])) (va_Qi (fun (r : Int32) (G : Nat → va_E) => (0 ≤ r.toInt ∧ r.toInt ≤ 1) ∧ True ∧ y_I K cs A G ∧ (∀ b, K b ∉ ([] : List Nat) → G b = F b) ∧ (∀ k, k ∈ ([1, 2, 3, 4, 5, 6, 7, 8, 11, 15, 16, 19, 25, 26, 27, 31, 32] : List Nat) → y_fi G a0 k = y_fi F a0 k) ∧ True) (fun (G : Nat → va_E) (t : State) => va_P (dC, dI) vwCl (va_pl L G) t.heap ∧ va_K (dC, dI) vwCl [(cs 0, .int), (cs 1, .byte), (cs 2, .long), (cs 3, .object RX5), (cs 4, .object RX4), (cs 5, .array .int), (cs 6, .char), (cs 7, .boolean)] t) (fun q => q ∈ L)) 0 0 (fun q => q ∈ L) := by
  refine Met.ofW (cc := cX7_isLike) (maxL := 4) (ret := (some .boolean)) (by decide) rfl ?_
  intro p e s m args below meth c s₁ B hml hv
  obtain ⟨rfl, hsz, hP, hK, hD, hN⟩ := hv
  have hx := B.exec
  have hb := B.bytes
  have hr := B.returns
  have hts : ∀ w ∈ T0, w.before _ s = true := fun w h => atoms_spec (ws := Cond.code yX7_isLike cX7_isLike 4 (some .boolean) :: T0) B.pre w (List.mem_cons_of_mem _ h)
  have hown : s.vm.findClass RX7 = some m.cls := findClass_of_methodNamed B.named
  have hlocks := B.notSynchronized
  have hS : va_S (fun q => q ∈ L) s.heap s.heap [] := va_S.rf
  have hfr : ∀ b, K b ∉ ([] : List Nat) → F b = F b := fun _ _ => rfl
  have hl := lv_entry ([.ref a0, .int x1, .int x2]) (n := 4) (Nat.le_of_ble_eq_true rfl)
  rw [lg_entry_eq]
  generalize (lg_sl ([.ref a0, .int x1, .int x2]) ++ List.replicate (4 - (lg_sl ([.ref a0, .int x1, .int x2])).length) Slot.unset).toArray = ls at hl ⊢
  have hl : lv_has ls 4 [(0, .ref a0), (1, .int x1), (2, .int x2)] := hl
  refine s_gen hP hS (fun H locs hP hS => ?_)
  obtain ⟨z0, q0, oY0, bz0⟩ := y_opY hI ha0
  have hz0 : ∀ k, k ∈ ([1, 2, 3, 4, 5, 6, 7, 8, 11, 15, 16, 19, 25, 26, 27, 31, 32] : List Nat) → z0 k = z0 k := fun _ _ => rfl
  obtain ⟨v1, ev1⟩ : ∃ y : Int32, y = z0 2 := ⟨_, rfl⟩
  have qv1 : 0 ≤ v1.toInt ∧ v1.toInt ≤ 1600 := by rw [ev1]; exact y_bY2 bz0
  have eF_2 := ev1
  have hlk : (x1.toInt + x2.toInt ≤ 125 ∧ v1.toInt + x2.toInt ≤ 1600) := by have q9 := hlk; rw [y_fiZ oY0 (k := 2) (by decide), ← ev1] at q9; exact q9
  have e0_v1 := ev1
  refine lv_iconst (v := 0) hx hb dX7_isLike_0 (by decide) ?_
  refine lv_istore_n (lv' := [(3, .int 0), (0, .ref a0), (1, .int x1), (2, .int x2)]) hx hb dX7_isLike_1 rfl hl (by decide) rfl (fun ls hl => ?_)
  have h3 : (0 : Int32).toInt = 0 := by decide
  refine th_loop (fun n g H locs => ∃ (G : Nat → va_E) (ls : Array Slot) (w2 : Int32), g = F0 m 2 ls [] ∧ lv_has ls 4 [(0, .ref a0), (1, .int x1), (2, .int x2), (3, .int w2)] ∧ va_P (dC, dI) vwCl (va_pl L G) H ∧ va_S (fun q => q ∈ L) s.heap H locs ∧ y_I K cs A G ∧ (∀ b, K b ∉ ([] : List Nat) → G b = F b) ∧ (∀ k, k ∈ ([1, 2, 3, 4, 5, 6, 7, 8, 11, 15, 16, 19, 25, 26, 27, 31, 32] : List Nat) → y_fi G a0 k = z0 k) ∧ (0 ≤ w2.toInt ∧ w2.toInt ≤ 1600) ∧ (0 ≤ x1.toInt ∧ x1.toInt ≤ 125) ∧ (0 ≤ x2.toInt ∧ x2.toInt ≤ 1600) ∧ n = (1601 - w2.toInt).toNat) _ ⟨F, _, 0, rfl, lv_sub hl [1, 2, 3, 0] rfl, hP, hS, hI, hfr, (fun k hk => (y_fiZ oY0 (s_sub (by decide) hk)).trans (hz0 k hk)), (by decide), ⟨by omega, by omega⟩, ⟨by omega, by omega⟩, rfl⟩ (fun n ih2 g H locs hq => ?_)
  obtain ⟨F7, ls, w2, rfl, hl, hP, hS, hI, hfr, hz0, h4, h5, h6, hn⟩ := hq
  have oY8 : F7 a0 = .inr (7, y_fl A z0 q0) := (hfr _ (by rw [ha0]; decide)).trans oY0
  have hz0 : ∀ k, k ∈ ([1, 2, 3, 4, 5, 6, 7, 8, 11, 15, 16, 19, 25, 26, 27, 31, 32] : List Nat) → z0 k = z0 k := fun _ _ => rfl
  have hn_8 := hn
  refine lv_iload_n hx hb dX7_isLike_2 rfl (lv_at hl 3 rfl) ?_
  refine lv_iload_n hx hb dX7_isLike_3 rfl (lv_at hl 2 rfl) ?_
  refine lv_icmp_ge (tgt := 37) hx hb dX7_isLike_4 (by decide) (fun c9 => ?_) (fun c9 => ?_)
  · have c9 := Int32.le_iff_toInt_le.mp c9
    refine lv_iconst (v := 1) hx hb dX7_isLike_37 (by decide) ?_
    exact W.zret (v := 1) (ty := .boolean) hx hb hr (by decide) (fun t ht hW => ⟨⟨1, F7, rfl, ⟨(by decide), trivial, hI, hfr, fun k hk => (y_fiZ oY8 (s_sub (by decide) hk)).trans ((hz0 k hk).trans (y_fiZ oY0 (s_sub (by decide) hk)).symm), trivial⟩, by rw [ht]; exact hP, va_K.moved hW.alike hK⟩, hS.F ht⟩) hS.2.2 dX7_isLike_38
  · have c9 := mt Int32.le_iff_toInt_le.mpr c9
    refine lv_aload_n hx hb dX7_isLike_7 rfl (lv_at hl 0 rfl) ?_
    refine th_get (D := (dC, dI)) (ci := 7) (v := .ref (A 10)) (C := RX7) (T := TX7) (N := 34) hx hb hts inX7 hown hK hP (hLK _ ha0 (by decide)) oY8 rfl 10 (by decide) (hts _ T_244) (fun _ h9 => h9) rfl dX7_isLike_8 ?_
    refine lv_iload_n hx hb dX7_isLike_11 rfl (lv_at hl 1 rfl) ?_
    refine lv_iload_n hx hb dX7_isLike_12 rfl (lv_at hl 3 rfl) ?_
    refine lv_iadd hx hb dX7_isLike_13 ?_
    refine lv_topi (fun v10 ev10 => ?_)
    have qv10 : v10.toInt = x1.toInt + w2.toInt := by rw [ev10]; exact th_add rfl rfl ⟨by omega, by omega⟩
    obtain ⟨f11, o12, b13⟩ := y_op10 hI
    refine th_cald hx hb hK hP (hLK _ (y_k10 hA) (by decide)) 6 o12 rfl (th_in ⟨by omega, by omega⟩) dX7_isLike_14 ?_
    refine lv_topi (fun v14 ev14 => ?_)
    refine lv_aload_n hx hb dX7_isLike_15 rfl (lv_at hl 0 rfl) ?_
    refine th_get (D := (dC, dI)) (ci := 7) (v := .ref (A 0)) (C := RX7) (T := TX7) (N := 34) hx hb hts inX7 hown hK hP (hLK _ ha0 (by decide)) oY8 rfl 0 (by decide) (hts _ T_240) (fun _ h9 => h9) rfl dX7_isLike_16 ?_
    refine lv_aload_n hx hb dX7_isLike_19 rfl (lv_at hl 0 rfl) ?_
    refine th_get (D := (dC, dI)) (ci := 7) (v := .int (z0 2)) (C := RX7) (T := TX7) (N := 34) hx hb hts inX7 hown hK hP (hLK _ ha0 (by decide)) oY8 rfl 2 (by decide) (hts _ T_272) (fun _ h9 => h9) rfl dX7_isLike_20 ?_
    refine ax_eqi (y := v1) ev1.symm ?_
    refine lv_iload_n hx hb dX7_isLike_23 rfl (lv_at hl 3 rfl) ?_
    refine lv_iadd hx hb dX7_isLike_24 ?_
    refine lv_topi (fun v15 ev15 => ?_)
    have qv15 : v15.toInt = v1.toInt + w2.toInt := by rw [ev15]; exact th_add rfl rfl ⟨by omega, by omega⟩
    obtain ⟨f16, o17, b18⟩ := y_op0 hI
    refine th_iald hx hb hK hP (hLK _ (y_k0 hA) (by decide)) 0 o17 rfl (th_in ⟨by omega, by omega⟩) dX7_isLike_25 ?_
    refine lv_topi (fun v19 ev19 => ?_)
    refine lv_icmp_eq (tgt := 31) hx hb dX7_isLike_26 (by decide) (fun c20 => ?_) (fun c20 => ?_)
    · have c20 := Int32.toInt_inj.symm.mp c20
      obtain ⟨v21, ev21⟩ : ∃ y : Int32, w2 + 1 = y := ⟨_, rfl⟩
      have qv21 : v21.toInt = w2.toInt + 1 := by rw [← ev21]; exact th_add rfl (by decide) ⟨by omega, by omega⟩
      refine lv_iinc (v := v21) (lv' := [(3, .int v21), (0, .ref a0), (1, .int x1), (2, .int x2)]) hx hb dX7_isLike_31 hl (k := 3) rfl ev21 (by decide) rfl (fun ls hl => ?_)
      refine lv_goto (tgt := 2) hx hb dX7_isLike_34 (by decide) ?_
      exact ih2 _ _ _ _ (by omega) ⟨F7, _, v21, rfl, lv_sub hl [1, 2, 3, 0] rfl, hP, hS, hI, hfr, (fun k hk => (y_fiZ oY8 (s_sub (by decide) hk)).trans (hz0 k hk)), ⟨by omega, by omega⟩, ⟨by omega, by omega⟩, ⟨by omega, by omega⟩, rfl⟩
    · have c20 := mt Int32.toInt_inj.symm.mpr c20
      refine lv_iconst (v := 0) hx hb dX7_isLike_29 (by decide) ?_
      exact W.zret (v := 0) (ty := .boolean) hx hb hr (by decide) (fun t ht hW => ⟨⟨0, F7, rfl, ⟨(by decide), trivial, hI, hfr, fun k hk => (y_fiZ oY8 (s_sub (by decide) hk)).trans ((hz0 k hk).trans (y_fiZ oY0 (s_sub (by decide) hk)).symm), trivial⟩, by rw [ht]; exact hP, va_K.moved hW.alike hK⟩, hS.F ht⟩) hS.2.2 dX7_isLike_30

set_option maxHeartbeats 4000000 in
set_option maxRecDepth 100000 in
theorem y_X7_ownHere (l : Launch) (dC : Nat → ClassId) (dI : Nat → Nat → Nat) (sz : Nat) {L : List Nat} {K : Nat → Nat} {cs : Nat → ClassId} (hLK : ∀ a {k : Nat}, K a = k → k ≠ 0 → a ∈ L) (A : Nat → Nat) (hA : y_A K A) (F : Nat → va_E) (a0 : Nat) (ha0 : K a0 = 9) (hI : y_I K cs A F) : Met l yX7_ownHere (Cond.code yX7_ownHere cX7_ownHere 5 (some .int) :: T0) ({ frames := 2, cells := 0, slots := 0, locals := 40 }) (va_Pc [.ref a0] (s_W dC dI sz L F [(cs 0, .int), (cs 1, .byte), (cs 2, .long), (cs 3, .object RX5), (cs 4, .object RX4), (cs 5, .array .int), (cs 6, .char), (cs 7, .boolean)])) (va_Qi (fun (r : Int32) (G : Nat → va_E) => True ∧ True ∧ y_I K cs A G ∧ (∀ b, K b ∉ [9] → G b = F b) ∧ (∀ k, k ∈ ([1, 3, 4, 5, 6, 7, 8, 11, 15, 16, 19, 25, 26, 27, 31, 32] : List Nat) → y_fi G a0 k = y_fi F a0 k) ∧ True) (fun (G : Nat → va_E) (t : State) => va_P (dC, dI) vwCl (va_pl L G) t.heap ∧ va_K (dC, dI) vwCl [(cs 0, .int), (cs 1, .byte), (cs 2, .long), (cs 3, .object RX5), (cs 4, .object RX4), (cs 5, .array .int), (cs 6, .char), (cs 7, .boolean)] t) (fun q => q ∈ L)) 0 0 (fun q => q ∈ L) := by
  refine Met.ofW (cc := cX7_ownHere) (maxL := 5) (ret := (some .int)) (by decide) rfl ?_
  intro p e s m args below meth c s₁ B hml hv
  obtain ⟨rfl, hsz, hP, hK, hD, hN⟩ := hv
  have hx := B.exec
  have hb := B.bytes
  have hr := B.returns
  have hts : ∀ w ∈ T0, w.before _ s = true := fun w h => atoms_spec (ws := Cond.code yX7_ownHere cX7_ownHere 5 (some .int) :: T0) B.pre w (List.mem_cons_of_mem _ h)
  have hown : s.vm.findClass RX7 = some m.cls := findClass_of_methodNamed B.named
  have hlocks := B.notSynchronized
  have hS : va_S (fun q => q ∈ L) s.heap s.heap [] := va_S.rf
  have hfr : ∀ b, K b ∉ [9] → F b = F b := fun _ _ => rfl
  have hl := lv_entry ([.ref a0]) (n := 5) (Nat.le_of_ble_eq_true rfl)
  rw [lg_entry_eq]
  generalize (lg_sl ([.ref a0]) ++ List.replicate (5 - (lg_sl ([.ref a0])).length) Slot.unset).toArray = ls at hl ⊢
  have hl : lv_has ls 5 [(0, .ref a0)] := hl
  refine s_gen hP hS (fun H locs hP hS => ?_)
  obtain ⟨z0, q0, oY0, bz0⟩ := y_opY hI ha0
  have hz0 : ∀ k, k ∈ ([1, 3, 4, 5, 6, 7, 8, 11, 15, 16, 19, 25, 26, 27, 31, 32] : List Nat) → z0 k = z0 k := fun _ _ => rfl
  refine th_join (fun g H locs => ∃ (G : Nat → va_E) (ls : Array Slot) (w1 : Int32), g = F0 m 47 ls [] ∧ lv_has ls 5 [(0, .ref a0), (1, .int w1)] ∧ va_P (dC, dI) vwCl (va_pl L G) H ∧ va_S (fun q => q ∈ L) s.heap H locs ∧ y_I K cs A G ∧ (∀ b, K b ∉ [9] → G b = F b) ∧ (∀ k, k ∈ ([1, 3, 4, 5, 6, 7, 8, 11, 15, 16, 19, 25, 26, 27, 31, 32] : List Nat) → y_fi G a0 k = z0 k) ∧ (0 ≤ w1.toInt ∧ w1.toInt ≤ 1600) ∧ ((y_fi G a0 2).toInt + w1.toInt ≤ 1600)) (fun K47 => ?_) ?_
  · refine lv_aload_n hx hb dX7_ownHere_0 rfl (lv_at hl 0 rfl) ?_
    refine va_calli (va_runV (As := []) (rest := []) ⟨hx, hb, hml, hown, hts⟩ (y_X7_isWordHere l dC dI H.size hLK A hA F a0 ha0 hI) (cwV 0 hts (ax_gV T_280 T_281 T_282 T_265 T_24) rfl rfl rfl (by decide +kernel) ⟨Nat.le_of_ble_eq_true rfl, Nat.le_of_ble_eq_true rfl⟩) ⟨fun a U g mk q => ⟨q.1, s_pc rfl rfl q.2⟩, s_recv hK hP (hLK _ ha0 (by decide)) (ci := 7) rfl oY0, fun U hU hW => ⟨rfl, s_pw hU hW hP hK hD hN⟩⟩ rfl rfl hl.1 rfl (lv_room (Nat.le_of_ble_eq_true rfl)) dX7_ownHere_1 ⟨Nat.zero_le _, Nat.zero_le _⟩) hS (fun q _ h => h) (fun q h => h) (fun r3 F4 t H1 locs ht hvm hw hB hz1 hk1 hS => ?_)
    obtain ⟨hP, hK1⟩ := hB
    rw [ht] at hP
    generalize H1 = H at hP hS ⊢
    obtain ⟨h5, h7, hI, hfr1, hzf, h6⟩ := hw
    obtain ⟨z8, q9, oY10, bz11⟩ := y_opY hI ha0
    have hzf : ∀ k, k ∈ ([1, 3, 4, 5, 6, 7, 8, 11, 15, 16, 19, 25, 26, 27, 31, 32] : List Nat) → z8 k = z0 k := fun k hk => by have q9 := hzf k hk; rw [y_fiZ oY10 (s_sub (by decide) hk), y_fiZ oY0 (s_sub (by decide) hk)] at q9; exact q9
    have hz0 : ∀ k, k ∈ ([1, 3, 4, 5, 6, 7, 8, 11, 15, 16, 19, 25, 26, 27, 31, 32] : List Nat) → z8 k = z0 k := fun k hk => (hzf k (s_sub (by decide) hk)).trans (hz0 k hk)
    have hfr : ∀ b, K b ∉ [9] → F4 b = F b := fun b hb9 => (hfr1 b (fun q => hb9 (s_sub (by decide) q))).trans (hfr b hb9)
    obtain ⟨v12, ev12⟩ : ∃ y : Int32, y = z8 2 := ⟨_, rfl⟩
    have qv12 : 0 ≤ v12.toInt ∧ v12.toInt ≤ 1600 := by rw [ev12]; exact y_bY2 bz11
    obtain ⟨v13, ev13⟩ : ∃ y : Int32, y = z8 3 := ⟨_, rfl⟩
    have qv13 : 0 ≤ v13.toInt ∧ v13.toInt ≤ 1600 := by rw [ev13]; exact y_bY3 bz11
    have h6 : (r3.toInt = 0 ∨ v12.toInt < v13.toInt) := by have q9 := h6; rw [y_fiZ oY10 (k := 2) (by decide), ← ev12, y_fiZ oY10 (k := 3) (by decide), ← ev13] at q9; exact q9
    refine lv_if_ne (tgt := 9) hx hb dX7_ownHere_4 (by decide) (fun c14 => ?_) (fun c14 => ?_)
    · have c14 := mt (ax_eq (n := 0) (by decide)).mpr c14
      refine lv_iconst (v := 0) hx hb dX7_ownHere_9 (by decide) ?_
      refine lv_istore_n (lv' := [(1, .int 0), (0, .ref a0)]) hx hb dX7_ownHere_10 rfl hl (by decide) rfl (fun ls hl => ?_)
      have h16 : (0 : Int32).toInt = 0 := by decide
      refine th_loop (fun n g H locs => ∃ (G : Nat → va_E) (ls : Array Slot) (w15 : Int32), g = F0 m 11 ls [] ∧ lv_has ls 5 [(0, .ref a0), (1, .int w15)] ∧ va_P (dC, dI) vwCl (va_pl L G) H ∧ va_S (fun q => q ∈ L) s.heap H locs ∧ y_I K cs A G ∧ (∀ b, K b ∉ [9] → G b = F b) ∧ (∀ k, k ∈ ([1, 3, 4, 5, 6, 7, 8, 11, 15, 16, 19, 25, 26, 27, 31, 32] : List Nat) → y_fi G a0 k = z0 k) ∧ (0 ≤ w15.toInt ∧ w15.toInt ≤ 1600) ∧ ((y_fi G a0 2).toInt + w15.toInt ≤ 1600) ∧ n = (1601 - w15.toInt).toNat) _ ⟨F4, _, 0, rfl, lv_sub hl [1, 0] rfl, hP, hS, hI, hfr, (fun k hk => (y_fiZ oY10 (s_sub (by decide) hk)).trans (hz0 k hk)), (by decide), (by rw [y_fiZ oY10 (k := 2) (by decide), ← ev12]; omega), rfl⟩ (fun n ih11 g H locs hq => ?_)
      obtain ⟨F19, ls, w15, rfl, hl, hP, hS, hI, hfr, hz0, h17, h18, hn⟩ := hq
      obtain ⟨z20, q21, oY22, bz23⟩ := y_opY hI ha0
      have hz0 : ∀ k, k ∈ ([1, 3, 4, 5, 6, 7, 8, 11, 15, 16, 19, 25, 26, 27, 31, 32] : List Nat) → z20 k = z0 k := fun k hk => (y_fiZ oY22 (s_sub (by decide) hk)).symm.trans (hz0 k hk)
      obtain ⟨v24, ev24⟩ : ∃ y : Int32, y = z20 2 := ⟨_, rfl⟩
      have qv24 : 0 ≤ v24.toInt ∧ v24.toInt ≤ 1600 := by rw [ev24]; exact y_bY2 bz23
      have h18 : (v24.toInt + w15.toInt ≤ 1600) := by have q9 := h18; rw [y_fiZ oY22 (k := 2) (by decide), ← ev24] at q9; exact q9
      have hn_24 := hn
      refine lv_aload_n hx hb dX7_ownHere_11 rfl (lv_at hl 0 rfl) ?_
      refine th_get (D := (dC, dI)) (ci := 7) (v := .int (z20 2)) (C := RX7) (T := TX7) (N := 34) hx hb hts inX7 hown hK hP (hLK _ ha0 (by decide)) oY22 rfl 2 (by decide) (hts _ T_272) (fun _ h9 => h9) rfl dX7_ownHere_12 ?_
      refine ax_eqi (y := v24) ev24.symm ?_
      refine lv_iload_n hx hb dX7_ownHere_15 rfl (lv_at hl 1 rfl) ?_
      refine lv_iadd hx hb dX7_ownHere_16 ?_
      refine lv_topi (fun v25 ev25 => ?_)
      have qv25 : v25.toInt = v24.toInt + w15.toInt := by rw [ev25]; exact th_add rfl rfl ⟨by omega, by omega⟩
      refine lv_aload_n hx hb dX7_ownHere_17 rfl (lv_at hl 0 rfl) ?_
      refine th_get (D := (dC, dI)) (ci := 7) (v := .int (z20 3)) (C := RX7) (T := TX7) (N := 34) hx hb hts inX7 hown hK hP (hLK _ ha0 (by decide)) oY22 rfl 3 (by decide) (hts _ T_273) (fun _ h9 => h9) rfl dX7_ownHere_18 ?_
      refine lv_topi (fun v26 ev26 => ?_)
      have qv26 : 0 ≤ v26.toInt ∧ v26.toInt ≤ 1600 := by rw [ev26]; exact y_bY3 bz23
      refine lv_icmp_ge (tgt := 47) hx hb dX7_ownHere_21 (by decide) (fun c27 => ?_) (fun c27 => ?_)
      · have c27 := Int32.le_iff_toInt_le.mp c27
        exact K47 _ _ _ ⟨F19, _, w15, rfl, lv_sub hl [0, 1] rfl, hP, hS, hI, hfr, (fun k hk => (y_fiZ oY22 (s_sub (by decide) hk)).trans (hz0 k hk)), ⟨by omega, by omega⟩, (by rw [y_fiZ oY22 (k := 2) (by decide), ← ev24]; omega)⟩
      · have c27 := mt Int32.le_iff_toInt_le.mpr c27
        refine lv_aload_n hx hb dX7_ownHere_24 rfl (lv_at hl 0 rfl) ?_
        refine th_get (D := (dC, dI)) (ci := 7) (v := .ref (A 0)) (C := RX7) (T := TX7) (N := 34) hx hb hts inX7 hown hK hP (hLK _ ha0 (by decide)) oY22 rfl 0 (by decide) (hts _ T_240) (fun _ h9 => h9) rfl dX7_ownHere_25 ?_
        refine lv_aload_n hx hb dX7_ownHere_28 rfl (lv_at hl 0 rfl) ?_
        refine th_get (D := (dC, dI)) (ci := 7) (v := .int (z20 2)) (C := RX7) (T := TX7) (N := 34) hx hb hts inX7 hown hK hP (hLK _ ha0 (by decide)) oY22 rfl 2 (by decide) (hts _ T_272) (fun _ h9 => h9) rfl dX7_ownHere_29 ?_
        refine ax_eqi (y := v24) ev24.symm ?_
        refine lv_iload_n hx hb dX7_ownHere_32 rfl (lv_at hl 1 rfl) ?_
        refine lv_iadd hx hb dX7_ownHere_33 ?_
        refine lv_topi (fun v28 ev28 => ?_)
        have qv28 : v28.toInt = v24.toInt + w15.toInt := by rw [ev28]; exact th_add rfl rfl ⟨by omega, by omega⟩
        obtain ⟨f29, o30, b31⟩ := y_op0 hI
        refine th_iald hx hb hK hP (hLK _ (y_k0 hA) (by decide)) 0 o30 rfl (th_in ⟨by omega, by omega⟩) dX7_ownHere_34 ?_
        refine lv_topi (fun v32 ev32 => ?_)
        refine va_calli (va_runS (As := [.int v32]) (rest := []) ⟨hx, hb, hml, hown, hts⟩ (y_X7_isLetter l dC dI H.size F19 v32) (cwS 1 hts (ax_gS T_278 T_279 T_265 T_23) rfl rfl rfl (by decide +kernel) ⟨Nat.le_of_ble_eq_true rfl, Nat.le_of_ble_eq_true rfl⟩) ⟨fun a U g mk q => ⟨q.1, s_pc rfl rfl q.2⟩, fun U hU hW => ⟨rfl, s_pw hU hW hP hK hD hN⟩⟩ rfl rfl hl.1 rfl (lv_room (Nat.le_of_ble_eq_true rfl)) dX7_ownHere_35 ⟨Nat.zero_le _, Nat.zero_le _⟩) hS (fun q _ h => h) (fun q h => h) (fun r34 F35 t H1 locs ht hvm hw hB hz1 hk1 hS => ?_)
        obtain ⟨hP, hK1⟩ := hB
        rw [ht] at hP
        generalize H1 = H at hP hS ⊢
        obtain ⟨h36, h38, hG9, h37⟩ := hw
        rw [hG9] at hP
        refine lv_if_eq (tgt := 47) hx hb dX7_ownHere_38 (by decide) (fun c39 => ?_) (fun c39 => ?_)
        · have c39 := (ax_eq (n := 0) (by decide)).mp c39
          exact K47 _ _ _ ⟨F19, _, w15, rfl, lv_sub hl [0, 1] rfl, hP, hS, hI, hfr, (fun k hk => (y_fiZ oY22 (s_sub (by decide) hk)).trans (hz0 k hk)), ⟨by omega, by omega⟩, (by rw [y_fiZ oY22 (k := 2) (by decide), ← ev24]; omega)⟩
        · have c39 := mt (ax_eq (n := 0) (by decide)).mpr c39
          have h40 := h38 (fun q => c39 (by rw [q]; decide))
          obtain ⟨v41, ev41⟩ : ∃ y : Int32, w15 + 1 = y := ⟨_, rfl⟩
          have qv41 : v41.toInt = w15.toInt + 1 := by rw [← ev41]; exact th_add rfl (by decide) ⟨by omega, by omega⟩
          refine lv_iinc (v := v41) (lv' := [(1, .int v41), (0, .ref a0)]) hx hb dX7_ownHere_41 hl (k := 1) rfl ev41 (by decide) rfl (fun ls hl => ?_)
          have h42 : 1 ≤ v41.toInt ∧ v41.toInt ≤ 1600 := ⟨by omega, by omega⟩
          refine lv_goto (tgt := 11) hx hb dX7_ownHere_44 (by decide) ?_
          exact ih11 _ _ _ _ (by omega) ⟨F19, _, v41, rfl, lv_sub hl [1, 0] rfl, hP, hS, hI, hfr, (fun k hk => (y_fiZ oY22 (s_sub (by decide) hk)).trans (hz0 k hk)), ⟨by omega, by omega⟩, (by rw [y_fiZ oY22 (k := 2) (by decide), ← ev24]; omega), rfl⟩
    · have c14 := (ax_eq (n := 0) (by decide)).mp c14
      refine lv_iconst (v := (-1)) hx hb dX7_ownHere_7 (by decide) ?_
      exact W.iret (v := (-1)) hx hb hr (fun t ht hW => ⟨⟨(-1), F4, rfl, ⟨trivial, trivial, hI, hfr, fun k hk => (y_fiZ oY10 (s_sub (by decide) hk)).trans ((hz0 k hk).trans (y_fiZ oY0 (s_sub (by decide) hk)).symm), trivial⟩, by rw [ht]; exact hP, va_K.moved hW.alike hK⟩, hS.F ht⟩) hS.2.2 dX7_ownHere_8
  · intro g H locs hq
    obtain ⟨F45, ls, w1, rfl, hl, hP, hS, hI, hfr, hz0, h43, h44⟩ := hq
    obtain ⟨z46, q47, oY48, bz49⟩ := y_opY hI ha0
    have hz0 : ∀ k, k ∈ ([1, 3, 4, 5, 6, 7, 8, 11, 15, 16, 19, 25, 26, 27, 31, 32] : List Nat) → z46 k = z0 k := fun k hk => (y_fiZ oY48 (s_sub (by decide) hk)).symm.trans (hz0 k hk)
    obtain ⟨v50, ev50⟩ : ∃ y : Int32, y = z46 2 := ⟨_, rfl⟩
    have qv50 : 0 ≤ v50.toInt ∧ v50.toInt ≤ 1600 := by rw [ev50]; exact y_bY2 bz49
    have h44 : (v50.toInt + w1.toInt ≤ 1600) := by have q9 := h44; rw [y_fiZ oY48 (k := 2) (by decide), ← ev50] at q9; exact q9
    refine lv_iconst (v := 0) hx hb dX7_ownHere_47 (by decide) ?_
    refine lv_istore_n (lv' := [(2, .int 0), (0, .ref a0), (1, .int w1)]) hx hb dX7_ownHere_48 rfl hl (by decide) rfl (fun ls hl => ?_)
    refine lv_iconst (v := 0) hx hb dX7_ownHere_49 (by decide) ?_
    refine lv_istore_n (lv' := [(3, .int 0), (2, .int 0), (0, .ref a0), (1, .int w1)]) hx hb dX7_ownHere_50 rfl hl (by decide) rfl (fun ls hl => ?_)
    refine lv_iconst (v := 0) hx hb dX7_ownHere_51 (by decide) ?_
    refine lv_istore (lv' := [(4, .int 0), (3, .int 0), (2, .int 0), (0, .ref a0), (1, .int w1)]) hx hb dX7_ownHere_52 hl (by decide) rfl (fun ls hl => ?_)
    have h54 : (0 : Int32).toInt = 0 := by decide
    have h55 : (0 : Int32).toInt = 0 := by decide
    have h56 : (0 : Int32).toInt = 0 := by decide
    refine th_loop (fun n g H locs => ∃ (G : Nat → va_E) (ls : Array Slot) (w51 : Int32) (w52 : Int32) (w53 : Int32), g = F0 m 54 ls [] ∧ lv_has ls 5 [(0, .ref a0), (1, .int w1), (2, .int w51), (3, .int w52), (4, .int w53)] ∧ va_P (dC, dI) vwCl (va_pl L G) H ∧ va_S (fun q => q ∈ L) s.heap H locs ∧ y_I K cs A G ∧ (∀ b, K b ∉ [9] → G b = F b) ∧ (∀ k, k ∈ ([1, 3, 4, 5, 6, 7, 8, 11, 15, 16, 19, 25, 26, 27, 31, 32] : List Nat) → y_fi G a0 k = z0 k) ∧ True ∧ (0 ≤ w52.toInt ∧ w52.toInt ≤ 125) ∧ (0 ≤ w53.toInt ∧ w53.toInt ≤ 125) ∧ (0 ≤ w1.toInt ∧ w1.toInt ≤ 1600) ∧ ((y_fi G a0 2).toInt + w1.toInt ≤ 1600) ∧ n = (126 - w53.toInt).toNat) _ ⟨F45, _, 0, 0, 0, rfl, lv_sub hl [3, 4, 2, 1, 0] rfl, hP, hS, hI, hfr, (fun k hk => (y_fiZ oY48 (s_sub (by decide) hk)).trans (hz0 k hk)), trivial, (by decide), (by decide), ⟨by omega, by omega⟩, (by rw [y_fiZ oY48 (k := 2) (by decide), ← ev50]; omega), rfl⟩ (fun n ih54 g H locs hq => ?_)
    obtain ⟨F62, ls, w51, w52, w53, rfl, hl, hP, hS, hI, hfr, hz0, h57, h58, h59, h60, h61, hn⟩ := hq
    obtain ⟨z63, q64, oY65, bz66⟩ := y_opY hI ha0
    have hz0 : ∀ k, k ∈ ([1, 3, 4, 5, 6, 7, 8, 11, 15, 16, 19, 25, 26, 27, 31, 32] : List Nat) → z63 k = z0 k := fun k hk => (y_fiZ oY65 (s_sub (by decide) hk)).symm.trans (hz0 k hk)
    obtain ⟨v67, ev67⟩ : ∃ y : Int32, y = z63 2 := ⟨_, rfl⟩
    have qv67 : 0 ≤ v67.toInt ∧ v67.toInt ≤ 1600 := by rw [ev67]; exact y_bY2 bz66
    have h61 : (v67.toInt + w1.toInt ≤ 1600) := by have q9 := h61; rw [y_fiZ oY65 (k := 2) (by decide), ← ev67] at q9; exact q9
    have hn_67 := hn
    refine th_join (fun g H locs => ∃ (G : Nat → va_E) (ls : Array Slot) (w68 : Int32) (w69 : Int32), g = F0 m 103 ls [] ∧ lv_has ls 5 [(0, .ref a0), (1, .int w1), (2, .int w68), (3, .int w69), (4, .int w53)] ∧ va_P (dC, dI) vwCl (va_pl L G) H ∧ va_S (fun q => q ∈ L) s.heap H locs ∧ y_I K cs A G ∧ (∀ b, K b ∉ [9] → G b = F b) ∧ (∀ k, k ∈ ([1, 3, 4, 5, 6, 7, 8, 11, 15, 16, 19, 25, 26, 27, 31, 32] : List Nat) → y_fi G a0 k = z0 k) ∧ True ∧ (0 ≤ w69.toInt ∧ w69.toInt ≤ 125) ∧ (0 ≤ w1.toInt ∧ w1.toInt ≤ 1600) ∧ (0 ≤ w53.toInt ∧ w53.toInt ≤ 124) ∧ ((y_fi G a0 2).toInt + w1.toInt ≤ 1600)) (fun K103 => ?_) ?_
    refine th_join (fun g H locs => ∃ (G : Nat → va_E) (ls : Array Slot), g = F0 m 95 ls [] ∧ lv_has ls 5 [(0, .ref a0), (1, .int w1), (2, .int w51), (4, .int w53)] ∧ va_P (dC, dI) vwCl (va_pl L G) H ∧ va_S (fun q => q ∈ L) s.heap H locs ∧ y_I K cs A G ∧ (∀ b, K b ∉ [9] → G b = F b) ∧ (∀ k, k ∈ ([1, 3, 4, 5, 6, 7, 8, 11, 15, 16, 19, 25, 26, 27, 31, 32] : List Nat) → y_fi G a0 k = z0 k) ∧ (0 ≤ w1.toInt ∧ w1.toInt ≤ 1600) ∧ (0 ≤ w53.toInt ∧ w53.toInt ≤ 124) ∧ ((y_fi G a0 2).toInt + w1.toInt ≤ 1600)) (fun K95 => ?_) ?_
    · refine lv_iload hx hb dX7_ownHere_54 (lv_at hl 4 rfl) ?_
      refine lv_aload_n hx hb dX7_ownHere_56 rfl (lv_at hl 0 rfl) ?_
      refine th_get (D := (dC, dI)) (ci := 7) (v := .ref (A 10)) (C := RX7) (T := TX7) (N := 34) hx hb hts inX7 hown hK hP (hLK _ ha0 (by decide)) oY65 rfl 10 (by decide) (hts _ T_244) (fun _ h9 => h9) rfl dX7_ownHere_57 ?_
      obtain ⟨f70, o71, b72⟩ := y_op10 hI
      refine th_alen hx hb hK hP (hLK _ (y_k10 hA) (by decide)) 6 o71 rfl (v := 125) rfl dX7_ownHere_60 ?_
      refine lv_icmp_ge (tgt := 109) hx hb dX7_ownHere_61 (by decide) (fun c73 => ?_) (fun c73 => ?_)
      · have c73 := (ax_ge (n := 125) (by decide)).mp c73
        refine lv_iconst (v := (-1)) hx hb dX7_ownHere_109 (by decide) ?_
        exact W.iret (v := (-1)) hx hb hr (fun t ht hW => ⟨⟨(-1), F62, rfl, ⟨trivial, trivial, hI, hfr, fun k hk => (y_fiZ oY65 (s_sub (by decide) hk)).trans ((hz0 k hk).trans (y_fiZ oY0 (s_sub (by decide) hk)).symm), trivial⟩, by rw [ht]; exact hP, va_K.moved hW.alike hK⟩, hS.F ht⟩) hS.2.2 dX7_ownHere_110
      · have c73 := mt (ax_ge (n := 125) (by decide)).mpr c73
        refine lv_aload_n hx hb dX7_ownHere_64 rfl (lv_at hl 0 rfl) ?_
        refine th_get (D := (dC, dI)) (ci := 7) (v := .ref (A 10)) (C := RX7) (T := TX7) (N := 34) hx hb hts inX7 hown hK hP (hLK _ ha0 (by decide)) oY65 rfl 10 (by decide) (hts _ T_244) (fun _ h9 => h9) rfl dX7_ownHere_65 ?_
        refine lv_iload hx hb dX7_ownHere_68 (lv_at hl 4 rfl) ?_
        refine th_cald hx hb hK hP (hLK _ (y_k10 hA) (by decide)) 6 o71 rfl (th_in ⟨by omega, by omega⟩) dX7_ownHere_70 ?_
        refine lv_topi (fun v74 ev74 => ?_)
        refine lv_bipush (v := 32) hx hb dX7_ownHere_71 (by decide) ?_
        refine lv_icmp_ne (tgt := 103) hx hb dX7_ownHere_73 (by decide) (fun c75 => ?_) (fun c75 => ?_)
        · have c75 := mt (ax_eq (n := 32) (by decide)).mpr c75
          exact K103 _ _ _ ⟨F62, _, w51, w52, rfl, lv_sub hl [0, 1, 2, 3, 4] rfl, hP, hS, hI, hfr, (fun k hk => (y_fiZ oY65 (s_sub (by decide) hk)).trans (hz0 k hk)), trivial, ⟨by omega, by omega⟩, ⟨by omega, by omega⟩, ⟨by omega, by omega⟩, (by rw [y_fiZ oY65 (k := 2) (by decide), ← ev67]; omega)⟩
        · have c75 := (ax_eq (n := 32) (by decide)).mp c75
          refine lv_iload hx hb dX7_ownHere_76 (lv_at hl 4 rfl) ?_
          refine lv_iload_n hx hb dX7_ownHere_78 rfl (lv_at hl 3 rfl) ?_
          refine lv_isub hx hb dX7_ownHere_79 ?_
          refine lv_topi (fun v76 ev76 => ?_)
          have qv76 : v76.toInt = w53.toInt - w52.toInt := by rw [ev76]; exact th_sub rfl rfl ⟨by omega, by omega⟩
          refine lv_iload_n hx hb dX7_ownHere_80 rfl (lv_at hl 1 rfl) ?_
          refine lv_icmp_ne (tgt := 95) hx hb dX7_ownHere_81 (by decide) (fun c77 => ?_) (fun c77 => ?_)
          · have c77 := mt Int32.toInt_inj.symm.mpr c77
            exact K95 _ _ _ ⟨F62, _, rfl, lv_sub hl [0, 1, 2, 4] rfl, hP, hS, hI, hfr, (fun k hk => (y_fiZ oY65 (s_sub (by decide) hk)).trans (hz0 k hk)), ⟨by omega, by omega⟩, ⟨by omega, by omega⟩, (by rw [y_fiZ oY65 (k := 2) (by decide), ← ev67]; omega)⟩
          · have c77 := Int32.toInt_inj.symm.mp c77
            refine lv_aload_n hx hb dX7_ownHere_84 rfl (lv_at hl 0 rfl) ?_
            refine lv_iload_n hx hb dX7_ownHere_85 rfl (lv_at hl 3 rfl) ?_
            refine lv_iload_n hx hb dX7_ownHere_86 rfl (lv_at hl 1 rfl) ?_
            refine va_calli (va_runV (As := [.int w52, .int w1]) (rest := []) ⟨hx, hb, hml, hown, hts⟩ (y_X7_isLike l dC dI H.size hLK A hA F62 a0 w52 w1 ha0 (⟨by omega, by omega⟩) (⟨by omega, by omega⟩) hI (by rw [y_fiZ oY65 (k := 2) (by decide), ← ev67]; omega)) (cwV 2 hts (ax_gV T_1282 T_1284 T_1285 T_265 T_1283) rfl rfl rfl (by decide +kernel) ⟨Nat.le_of_ble_eq_true rfl, Nat.le_of_ble_eq_true rfl⟩) ⟨fun a U g mk q => ⟨q.1, s_pc rfl rfl q.2⟩, s_recv hK hP (hLK _ ha0 (by decide)) (ci := 7) rfl oY65, fun U hU hW => ⟨rfl, s_pw hU hW hP hK hD hN⟩⟩ rfl rfl hl.1 rfl (lv_room (Nat.le_of_ble_eq_true rfl)) dX7_ownHere_87 ⟨Nat.zero_le _, Nat.zero_le _⟩) hS (fun q _ h => h) (fun q h => h) (fun r79 F80 t H1 locs ht hvm hw hB hz1 hk1 hS => ?_)
            obtain ⟨hP, hK1⟩ := hB
            rw [ht] at hP
            generalize H1 = H at hP hS ⊢
            obtain ⟨h81, h83, hI, hfr1, hzf, h82⟩ := hw
            have o84 : F80 (A 10) = .inl (cs 6, 125, .inl f70) := (hfr1 _ (by rw [(y_k10 hA)]; decide)).trans o71
            have oY85 : F80 a0 = .inr (7, y_fl A z63 q64) := (hfr1 _ (by rw [ha0]; decide)).trans oY65
            have hfr : ∀ b, K b ∉ [9] → F80 b = F b := fun b hb9 => (hfr1 b (fun q => hb9 (s_sub (by decide) q))).trans (hfr b hb9)
            refine lv_if_eq (tgt := 95) hx hb dX7_ownHere_90 (by decide) (fun c86 => ?_) (fun c86 => ?_)
            · have c86 := (ax_eq (n := 0) (by decide)).mp c86
              exact K95 _ _ _ ⟨F80, _, rfl, lv_sub hl [0, 1, 2, 4] rfl, hP, hS, hI, hfr, (fun k hk => (y_fiZ oY85 (s_sub (by decide) hk)).trans (hz0 k hk)), ⟨by omega, by omega⟩, ⟨by omega, by omega⟩, (by rw [y_fiZ oY85 (k := 2) (by decide), ← ev67]; omega)⟩
            · have c86 := mt (ax_eq (n := 0) (by decide)).mpr c86
              refine lv_iload_n hx hb dX7_ownHere_93 rfl (lv_at hl 2 rfl) ?_
              exact W.iret (v := w51) hx hb hr (fun t ht hW => ⟨⟨w51, F80, rfl, ⟨trivial, trivial, hI, hfr, fun k hk => (y_fiZ oY85 (s_sub (by decide) hk)).trans ((hz0 k hk).trans (y_fiZ oY0 (s_sub (by decide) hk)).symm), trivial⟩, by rw [ht]; exact hP, va_K.moved hW.alike hK⟩, hS.F ht⟩) hS.2.2 dX7_ownHere_94
    · intro g H locs hq
      obtain ⟨F90, ls, rfl, hl, hP, hS, hI, hfr, hz0, h87, h88, h89⟩ := hq
      obtain ⟨z91, q92, oY93, bz94⟩ := y_opY hI ha0
      have hz0 : ∀ k, k ∈ ([1, 3, 4, 5, 6, 7, 8, 11, 15, 16, 19, 25, 26, 27, 31, 32] : List Nat) → z91 k = z0 k := fun k hk => (y_fiZ oY93 (s_sub (by decide) hk)).symm.trans (hz0 k hk)
      obtain ⟨v95, ev95⟩ : ∃ y : Int32, y = z91 2 := ⟨_, rfl⟩
      have qv95 : 0 ≤ v95.toInt ∧ v95.toInt ≤ 1600 := by rw [ev95]; exact y_bY2 bz94
      have h89 : (v95.toInt + w1.toInt ≤ 1600) := by have q9 := h89; rw [y_fiZ oY93 (k := 2) (by decide), ← ev95] at q9; exact q9
      obtain ⟨v96, ev96⟩ : ∃ y : Int32, w51 + 1 = y := ⟨_, rfl⟩
      refine lv_iinc (v := v96) (lv' := [(2, .int v96), (0, .ref a0), (1, .int w1), (4, .int w53)]) hx hb dX7_ownHere_95 hl (k := 2) rfl ev96 (by decide) rfl (fun ls hl => ?_)
      refine lv_iload hx hb dX7_ownHere_98 (lv_at hl 3 rfl) ?_
      refine lv_iconst (v := 1) hx hb dX7_ownHere_100 (by decide) ?_
      refine lv_iadd hx hb dX7_ownHere_101 ?_
      refine lv_topi (fun v97 ev97 => ?_)
      have qv97 : v97.toInt = w53.toInt + 1 := by rw [ev97]; exact th_add rfl (by decide) ⟨by omega, by omega⟩
      refine lv_istore_n (lv' := [(3, .int v97), (2, .int v96), (0, .ref a0), (1, .int w1), (4, .int w53)]) hx hb dX7_ownHere_102 rfl hl (by decide) rfl (fun ls hl => ?_)
      exact K103 _ _ _ ⟨F90, _, v96, v97, rfl, lv_sub hl [2, 3, 1, 0, 4] rfl, hP, hS, hI, hfr, (fun k hk => (y_fiZ oY93 (s_sub (by decide) hk)).trans (hz0 k hk)), trivial, ⟨by omega, by omega⟩, ⟨by omega, by omega⟩, ⟨by omega, by omega⟩, (by rw [y_fiZ oY93 (k := 2) (by decide), ← ev95]; omega)⟩
    · intro g H locs hq
      obtain ⟨F103, ls, w68, w69, rfl, hl, hP, hS, hI, hfr, hz0, h98, h99, h100, h101, h102⟩ := hq
      obtain ⟨z104, q105, oY106, bz107⟩ := y_opY hI ha0
      have hz0 : ∀ k, k ∈ ([1, 3, 4, 5, 6, 7, 8, 11, 15, 16, 19, 25, 26, 27, 31, 32] : List Nat) → z104 k = z0 k := fun k hk => (y_fiZ oY106 (s_sub (by decide) hk)).symm.trans (hz0 k hk)
      obtain ⟨v108, ev108⟩ : ∃ y : Int32, y = z104 2 := ⟨_, rfl⟩
      have qv108 : 0 ≤ v108.toInt ∧ v108.toInt ≤ 1600 := by rw [ev108]; exact y_bY2 bz107
      have h102 : (v108.toInt + w1.toInt ≤ 1600) := by have q9 := h102; rw [y_fiZ oY106 (k := 2) (by decide), ← ev108] at q9; exact q9
      obtain ⟨v109, ev109⟩ : ∃ y : Int32, w53 + 1 = y := ⟨_, rfl⟩
      have qv109 : v109.toInt = w53.toInt + 1 := by rw [← ev109]; exact th_add rfl (by decide) ⟨by omega, by omega⟩
      refine lv_iinc (v := v109) (lv' := [(4, .int v109), (0, .ref a0), (1, .int w1), (2, .int w68), (3, .int w69)]) hx hb dX7_ownHere_103 hl (k := 4) rfl ev109 (by decide) rfl (fun ls hl => ?_)
      refine lv_goto (tgt := 54) hx hb dX7_ownHere_106 (by decide) ?_
      exact ih54 _ _ _ _ (by omega) ⟨F103, _, w68, w69, v109, rfl, lv_sub hl [1, 2, 3, 4, 0] rfl, hP, hS, hI, hfr, (fun k hk => (y_fiZ oY106 (s_sub (by decide) hk)).trans (hz0 k hk)), trivial, ⟨by omega, by omega⟩, ⟨by omega, by omega⟩, ⟨by omega, by omega⟩, (by rw [y_fiZ oY106 (k := 2) (by decide), ← ev108]; omega), rfl⟩

set_option maxHeartbeats 4000000 in
set_option maxRecDepth 100000 in
theorem y_X7_passes (l : Launch) (dC : Nat → ClassId) (dI : Nat → Nat → Nat) (sz : Nat) {L : List Nat} {K : Nat → Nat} {cs : Nat → ClassId} (hLK : ∀ a {k : Nat}, K a = k → k ≠ 0 → a ∈ L) (A : Nat → Nat) (hA : y_A K A) (F : Nat → va_E) (a0 : Nat) (ha0 : K a0 = 9) (hI : y_I K cs A F) : Met l yX7_passes (Cond.code yX7_passes cX7_passes 1 none :: T0) ({ frames := 1, cells := 0, slots := 0, locals := 20 }) (va_Pc [.ref a0] (s_W dC dI sz L F [(cs 0, .int), (cs 1, .byte), (cs 2, .long), (cs 3, .object RX5), (cs 4, .object RX4), (cs 5, .array .int), (cs 6, .char), (cs 7, .boolean)])) (va_Qv (fun (G : Nat → va_E) => True ∧ True ∧ y_I K cs A G ∧ (∀ b, K b ∉ [9] → G b = F b) ∧ (∀ k, k ∈ ([1, 3, 5, 6, 7, 8, 11, 15, 16, 19, 25, 26, 27, 31, 32] : List Nat) → y_fi G a0 k = y_fi F a0 k) ∧ True) (fun (G : Nat → va_E) (t : State) => va_P (dC, dI) vwCl (va_pl L G) t.heap ∧ va_K (dC, dI) vwCl [(cs 0, .int), (cs 1, .byte), (cs 2, .long), (cs 3, .object RX5), (cs 4, .object RX4), (cs 5, .array .int), (cs 6, .char), (cs 7, .boolean)] t) (fun q => q ∈ L)) 0 0 (fun q => q ∈ L) := by
  refine Met.ofW (cc := cX7_passes) (maxL := 1) (ret := none) (by decide) rfl ?_
  intro p e s m args below meth c s₁ B hml hv
  obtain ⟨rfl, hsz, hP, hK, hD, hN⟩ := hv
  have hx := B.exec
  have hb := B.bytes
  have hr := B.returns
  have hts : ∀ w ∈ T0, w.before _ s = true := fun w h => atoms_spec (ws := Cond.code yX7_passes cX7_passes 1 none :: T0) B.pre w (List.mem_cons_of_mem _ h)
  have hown : s.vm.findClass RX7 = some m.cls := findClass_of_methodNamed B.named
  have hlocks := B.notSynchronized
  have hS : va_S (fun q => q ∈ L) s.heap s.heap [] := va_S.rf
  have hfr : ∀ b, K b ∉ [9] → F b = F b := fun _ _ => rfl
  have hl := lv_entry ([.ref a0]) (n := 1) (Nat.le_of_ble_eq_true rfl)
  rw [lg_entry_eq]
  generalize (lg_sl ([.ref a0]) ++ List.replicate (1 - (lg_sl ([.ref a0])).length) Slot.unset).toArray = ls at hl ⊢
  have hl : lv_has ls 1 [(0, .ref a0)] := hl
  refine s_gen hP hS (fun H locs hP hS => ?_)
  obtain ⟨z0, q0, oY0, bz0⟩ := y_opY hI ha0
  have hz0 : ∀ k, k ∈ ([1, 3, 5, 6, 7, 8, 11, 15, 16, 19, 25, 26, 27, 31, 32] : List Nat) → z0 k = z0 k := fun _ _ => rfl
  refine th_join (fun g H locs => ∃ (G : Nat → va_E) (ls : Array Slot), g = F0 m 39 ls [] ∧ lv_has ls 1 [(0, .ref a0)] ∧ va_P (dC, dI) vwCl (va_pl L G) H ∧ va_S (fun q => q ∈ L) s.heap H locs ∧ y_I K cs A G ∧ (∀ b, K b ∉ [9] → G b = F b) ∧ (∀ k, k ∈ ([1, 3, 5, 6, 7, 8, 11, 15, 16, 19, 25, 26, 27, 31, 32] : List Nat) → y_fi G a0 k = z0 k)) (fun K39 => ?_) ?_
  · refine th_loop (fun n g H locs => ∃ (G : Nat → va_E) (ls : Array Slot), g = F0 m 0 ls [] ∧ lv_has ls 1 [(0, .ref a0)] ∧ va_P (dC, dI) vwCl (va_pl L G) H ∧ va_S (fun q => q ∈ L) s.heap H locs ∧ y_I K cs A G ∧ (∀ b, K b ∉ [9] → G b = F b) ∧ (∀ k, k ∈ ([1, 3, 5, 6, 7, 8, 11, 15, 16, 19, 25, 26, 27, 31, 32] : List Nat) → y_fi G a0 k = z0 k) ∧ n = (1601 - (y_fi G a0 2).toInt).toNat) _ ⟨F, _, rfl, lv_sub hl [0] rfl, hP, hS, hI, hfr, (fun k hk => (y_fiZ oY0 (s_sub (by decide) hk)).trans (hz0 k hk)), rfl⟩ (fun n ih0 g H locs hq => ?_)
    obtain ⟨F1, ls, rfl, hl, hP, hS, hI, hfr, hz0, hn⟩ := hq
    obtain ⟨z2, q3, oY4, bz5⟩ := y_opY hI ha0
    have hz0 : ∀ k, k ∈ ([1, 3, 5, 6, 7, 8, 11, 15, 16, 19, 25, 26, 27, 31, 32] : List Nat) → z2 k = z0 k := fun k hk => (y_fiZ oY4 (s_sub (by decide) hk)).symm.trans (hz0 k hk)
    obtain ⟨v6, ev6⟩ : ∃ y : Int32, y = z2 2 := ⟨_, rfl⟩
    have qv6 : 0 ≤ v6.toInt ∧ v6.toInt ≤ 1600 := by rw [ev6]; exact y_bY2 bz5
    have hn : n = (1601 - v6.toInt).toNat := by have q9 := hn; rw [y_fiZ oY4 (k := 2) (by decide), ← ev6] at q9; exact q9
    have hn_6 := hn
    have h7 : (z2 2).toInt = v6.toInt := by rw [ev6]
    refine lv_aload_n hx hb dX7_passes_0 rfl (lv_at hl 0 rfl) ?_
    refine th_get (D := (dC, dI)) (ci := 7) (v := .int (z2 2)) (C := RX7) (T := TX7) (N := 34) hx hb hts inX7 hown hK hP (hLK _ ha0 (by decide)) oY4 rfl 2 (by decide) (hts _ T_272) (fun _ h9 => h9) rfl dX7_passes_1 ?_
    refine ax_eqi (y := v6) ev6.symm ?_
    refine lv_aload_n hx hb dX7_passes_4 rfl (lv_at hl 0 rfl) ?_
    refine th_get (D := (dC, dI)) (ci := 7) (v := .int (z2 3)) (C := RX7) (T := TX7) (N := 34) hx hb hts inX7 hown hK hP (hLK _ ha0 (by decide)) oY4 rfl 3 (by decide) (hts _ T_273) (fun _ h9 => h9) rfl dX7_passes_5 ?_
    refine lv_topi (fun v8 ev8 => ?_)
    have qv8 : 0 ≤ v8.toInt ∧ v8.toInt ≤ 1600 := by rw [ev8]; exact y_bY3 bz5
    refine lv_icmp_ge (tgt := 39) hx hb dX7_passes_8 (by decide) (fun c9 => ?_) (fun c9 => ?_)
    · have c9 := Int32.le_iff_toInt_le.mp c9
      exact K39 _ _ _ ⟨F1, _, rfl, lv_sub hl [0] rfl, hP, hS, hI, hfr, (fun k hk => (y_fiZ oY4 (s_sub (by decide) hk)).trans (hz0 k hk))⟩
    · have c9 := mt Int32.le_iff_toInt_le.mpr c9
      refine lv_aload_n hx hb dX7_passes_11 rfl (lv_at hl 0 rfl) ?_
      refine th_get (D := (dC, dI)) (ci := 7) (v := .ref (A 0)) (C := RX7) (T := TX7) (N := 34) hx hb hts inX7 hown hK hP (hLK _ ha0 (by decide)) oY4 rfl 0 (by decide) (hts _ T_240) (fun _ h9 => h9) rfl dX7_passes_12 ?_
      refine lv_aload_n hx hb dX7_passes_15 rfl (lv_at hl 0 rfl) ?_
      refine th_get (D := (dC, dI)) (ci := 7) (v := .int (z2 2)) (C := RX7) (T := TX7) (N := 34) hx hb hts inX7 hown hK hP (hLK _ ha0 (by decide)) oY4 rfl 2 (by decide) (hts _ T_272) (fun _ h9 => h9) rfl dX7_passes_16 ?_
      refine ax_eqi (y := v6) ev6.symm ?_
      obtain ⟨f10, o11, b12⟩ := y_op0 hI
      refine th_iald hx hb hK hP (hLK _ (y_k0 hA) (by decide)) 0 o11 rfl (th_in ⟨by omega, by omega⟩) dX7_passes_19 ?_
      refine lv_topi (fun v13 ev13 => ?_)
      refine va_calli (va_runS (As := [.int v13]) (rest := []) ⟨hx, hb, hml, hown, hts⟩ (y_X7_isLetter l dC dI H.size F1 v13) (cwS 1 hts (ax_gS T_278 T_279 T_265 T_23) rfl rfl rfl (by decide +kernel) ⟨Nat.le_of_ble_eq_true rfl, Nat.le_of_ble_eq_true rfl⟩) ⟨fun a U g mk q => ⟨q.1, s_pc rfl rfl q.2⟩, fun U hU hW => ⟨rfl, s_pw hU hW hP hK hD hN⟩⟩ rfl rfl hl.1 rfl (lv_room (Nat.le_of_ble_eq_true rfl)) dX7_passes_20 ⟨Nat.zero_le _, Nat.zero_le _⟩) hS (fun q _ h => h) (fun q h => h) (fun r15 F16 t H1 locs ht hvm hw hB hz1 hk1 hS => ?_)
      obtain ⟨hP, hK1⟩ := hB
      rw [ht] at hP
      generalize H1 = H at hP hS ⊢
      obtain ⟨h17, h19, hG9, h18⟩ := hw
      rw [hG9] at hP
      refine lv_if_eq (tgt := 39) hx hb dX7_passes_23 (by decide) (fun c20 => ?_) (fun c20 => ?_)
      · have c20 := (ax_eq (n := 0) (by decide)).mp c20
        exact K39 _ _ _ ⟨F1, _, rfl, lv_sub hl [0] rfl, hP, hS, hI, hfr, (fun k hk => (y_fiZ oY4 (s_sub (by decide) hk)).trans (hz0 k hk))⟩
      · have c20 := mt (ax_eq (n := 0) (by decide)).mpr c20
        have h21 := h19 (fun q => c20 (by rw [q]; decide))
        refine lv_aload_n hx hb dX7_passes_26 rfl (lv_at hl 0 rfl) ?_
        refine lv_dup hx hb dX7_passes_27 rfl ?_
        refine th_get (D := (dC, dI)) (ci := 7) (v := .int (z2 2)) (C := RX7) (T := TX7) (N := 34) hx hb hts inX7 hown hK hP (hLK _ ha0 (by decide)) oY4 rfl 2 (by decide) (hts _ T_272) (fun _ h9 => h9) rfl dX7_passes_28 ?_
        refine ax_eqi (y := v6) ev6.symm ?_
        refine lv_iconst (v := 1) hx hb dX7_passes_31 (by decide) ?_
        refine lv_iadd hx hb dX7_passes_32 ?_
        refine lv_topi (fun v22 ev22 => ?_)
        have qv22 : v22.toInt = v6.toInt + 1 := by rw [ev22]; exact th_add rfl (by decide) ⟨by omega, by omega⟩
        refine th_put (D := (dC, dI)) (ci := 7) (v := .int v22) (ty := .int) (C := RX7) (T := TX7) (N := 34) hx hb hts inX7 tyX7 tyX7_ok nmX7 hown hK hP hD hS (hLK _ ha0 (by decide)) oY4 rfl 2 (by decide) (hts _ T_272) (fun _ h9 => h9) rfl (by decide +kernel) rfl rfl (Nat.le_of_ble_eq_true rfl) dX7_passes_33 (fun H locs hP hS => ?_)
        rw [y_fs2] at hP
        obtain ⟨z23, hz24⟩ : ∃ g : Nat → Int32, g = upd z2 2 v22 := ⟨_, rfl⟩
        rw [← hz24] at hP
        have bz25 : y_bY z23 := by rw [hz24]; exact y_bp2 bz5 ⟨by omega, by omega⟩
        have hP : va_P (dC, dI) vwCl (va_pl L (va_up F1 a0 (.inr (7, y_fl A z23 q3)))) H := hP
        obtain ⟨F26, hF27⟩ : ∃ G : Nat → va_E, G = va_up F1 a0 (.inr (7, y_fl A z23 q3)) := ⟨_, rfl⟩
        rw [← hF27] at hP
        have hI : y_I K cs A F26 := by rw [hF27]; exact y_clY hA hI ha0 bz25
        have hfr : ∀ b, K b ∉ [9] → F26 b = F b := by rw [hF27]; exact s_fr hfr ha0 (by decide)
        have o28 : F26 (A 0) = .inl (cs 0, 1600, .inl f10) := by rw [hF27]; exact th_ne (th_kd (y_k0 hA) ha0 (by decide)) o11
        have oY29 : F26 a0 = .inr (7, y_fl A z23 q3) := by rw [hF27]; exact th_up
        have hz0 : ∀ k, k ∈ ([1, 3, 5, 6, 7, 8, 11, 15, 16, 19, 25, 26, 27, 31, 32] : List Nat) → z23 k = z0 k := fun k hk => by rw [hz24]; exact (y_un (fun q => absurd hk (by rw [q]; decide))).trans (hz0 k hk)
        have ev8 : v8 = z23 3 := by rw [hz24]; exact ev8.trans (y_un (by decide)).symm
        obtain ⟨v30, ev30⟩ : ∃ y : Int32, y = z23 2 := ⟨_, rfl⟩
        have qv30 : v30.toInt = v22.toInt := by rw [ev30, hz24, y_ue]
        refine lv_goto (tgt := 0) hx hb dX7_passes_36 (by decide) ?_
        have h31 : (y_fi F26 a0 2).toInt = v30.toInt := by rw [y_fiZ oY29 (k := 2) (by decide), ← ev30]
        exact ih0 _ _ _ _ (by omega) ⟨F26, _, rfl, lv_sub hl [0] rfl, hP, hS, hI, hfr, (fun k hk => (y_fiZ oY29 (s_sub (by decide) hk)).trans (hz0 k hk)), rfl⟩
  · intro g H locs hq
    obtain ⟨F32, ls, rfl, hl, hP, hS, hI, hfr, hz0⟩ := hq
    obtain ⟨z33, q34, oY35, bz36⟩ := y_opY hI ha0
    have hz0 : ∀ k, k ∈ ([1, 3, 5, 6, 7, 8, 11, 15, 16, 19, 25, 26, 27, 31, 32] : List Nat) → z33 k = z0 k := fun k hk => (y_fiZ oY35 (s_sub (by decide) hk)).symm.trans (hz0 k hk)
    refine lv_aload_n hx hb dX7_passes_39 rfl (lv_at hl 0 rfl) ?_
    refine lv_aload_n hx hb dX7_passes_40 rfl (lv_at hl 0 rfl) ?_
    refine th_get (D := (dC, dI)) (ci := 7) (v := .int (z33 2)) (C := RX7) (T := TX7) (N := 34) hx hb hts inX7 hown hK hP (hLK _ ha0 (by decide)) oY35 rfl 2 (by decide) (hts _ T_272) (fun _ h9 => h9) rfl dX7_passes_41 ?_
    refine lv_topi (fun v37 ev37 => ?_)
    have qv37 : 0 ≤ v37.toInt ∧ v37.toInt ≤ 1600 := by rw [ev37]; exact y_bY2 bz36
    refine th_put (D := (dC, dI)) (ci := 7) (v := .int v37) (ty := .int) (C := RX7) (T := TX7) (N := 34) hx hb hts inX7 tyX7 tyX7_ok nmX7 hown hK hP hD hS (hLK _ ha0 (by decide)) oY35 rfl 4 (by decide) (hts _ T_296) (fun _ h9 => h9) rfl (by decide +kernel) rfl rfl (Nat.le_of_ble_eq_true rfl) dX7_passes_44 (fun H locs hP hS => ?_)
    rw [y_fs4] at hP
    obtain ⟨z38, hz39⟩ : ∃ g : Nat → Int32, g = upd z33 4 v37 := ⟨_, rfl⟩
    rw [← hz39] at hP
    have bz40 : y_bY z38 := by rw [hz39]; exact y_bp4 bz36
    have hP : va_P (dC, dI) vwCl (va_pl L (va_up F32 a0 (.inr (7, y_fl A z38 q34)))) H := hP
    obtain ⟨F41, hF42⟩ : ∃ G : Nat → va_E, G = va_up F32 a0 (.inr (7, y_fl A z38 q34)) := ⟨_, rfl⟩
    rw [← hF42] at hP
    have hI : y_I K cs A F41 := by rw [hF42]; exact y_clY hA hI ha0 bz40
    have hfr : ∀ b, K b ∉ [9] → F41 b = F b := by rw [hF42]; exact s_fr hfr ha0 (by decide)
    have oY43 : F41 a0 = .inr (7, y_fl A z38 q34) := by rw [hF42]; exact th_up
    have hz0 : ∀ k, k ∈ ([1, 3, 5, 6, 7, 8, 11, 15, 16, 19, 25, 26, 27, 31, 32] : List Nat) → z38 k = z0 k := fun k hk => by rw [hz39]; exact (y_un (fun q => absurd hk (by rw [q]; decide))).trans (hz0 k hk)
    have ev37 : v37 = z38 2 := by rw [hz39]; exact ev37.trans (y_un (by decide)).symm
    obtain ⟨v44, ev44⟩ : ∃ y : Int32, y = z38 4 := ⟨_, rfl⟩
    have qv44 : v44.toInt = v37.toInt := by rw [ev44, hz39, y_ue]
    exact W.vret hx hb hr (fun t ht hW => ⟨⟨F41, rfl, ⟨trivial, trivial, hI, hfr, fun k hk => (y_fiZ oY43 (s_sub (by decide) hk)).trans ((hz0 k hk).trans (y_fiZ oY0 (s_sub (by decide) hk)).symm), trivial⟩, by rw [ht]; exact hP, va_K.moved hW.alike hK⟩, hS.F ht⟩) hS.2.2 dX7_passes_47

set_option maxHeartbeats 4000000 in
set_option maxRecDepth 100000 in
theorem y_X7_takes (l : Launch) (dC : Nat → ClassId) (dI : Nat → Nat → Nat) (sz : Nat) {L : List Nat} {K : Nat → Nat} {cs : Nat → ClassId} (hLK : ∀ a {k : Nat}, K a = k → k ≠ 0 → a ∈ L) (A : Nat → Nat) (hA : y_A K A) (F : Nat → va_E) (a0 : Nat) (x1 : Int32) (ha0 : K a0 = 9) (hI : y_I K cs A F) : Met l yX7_takes (Cond.code yX7_takes cX7_takes 2 (some .boolean) :: T0) ({ frames := 3, cells := 0, slots := 0, locals := 64 }) (va_Pc [.ref a0, .int x1] (s_W dC dI sz L F [(cs 0, .int), (cs 1, .byte), (cs 2, .long), (cs 3, .object RX5), (cs 4, .object RX4), (cs 5, .array .int), (cs 6, .char), (cs 7, .boolean)])) (va_Qi (fun (r : Int32) (G : Nat → va_E) => (0 ≤ r.toInt ∧ r.toInt ≤ 1) ∧ True ∧ y_I K cs A G ∧ (∀ b, K b ∉ [9] → G b = F b) ∧ (∀ k, k ∈ ([1, 3, 5, 6, 7, 8, 11, 15, 16, 19, 25, 26, 27, 31, 32] : List Nat) → y_fi G a0 k = y_fi F a0 k) ∧ True) (fun (G : Nat → va_E) (t : State) => va_P (dC, dI) vwCl (va_pl L G) t.heap ∧ va_K (dC, dI) vwCl [(cs 0, .int), (cs 1, .byte), (cs 2, .long), (cs 3, .object RX5), (cs 4, .object RX4), (cs 5, .array .int), (cs 6, .char), (cs 7, .boolean)] t) (fun q => q ∈ L)) 0 0 (fun q => q ∈ L) := by
  refine Met.ofW (cc := cX7_takes) (maxL := 2) (ret := (some .boolean)) (by decide) rfl ?_
  intro p e s m args below meth c s₁ B hml hv
  obtain ⟨rfl, hsz, hP, hK, hD, hN⟩ := hv
  have hx := B.exec
  have hb := B.bytes
  have hr := B.returns
  have hts : ∀ w ∈ T0, w.before _ s = true := fun w h => atoms_spec (ws := Cond.code yX7_takes cX7_takes 2 (some .boolean) :: T0) B.pre w (List.mem_cons_of_mem _ h)
  have hown : s.vm.findClass RX7 = some m.cls := findClass_of_methodNamed B.named
  have hlocks := B.notSynchronized
  have hS : va_S (fun q => q ∈ L) s.heap s.heap [] := va_S.rf
  have hfr : ∀ b, K b ∉ [9] → F b = F b := fun _ _ => rfl
  have hl := lv_entry ([.ref a0, .int x1]) (n := 2) (Nat.le_of_ble_eq_true rfl)
  rw [lg_entry_eq]
  generalize (lg_sl ([.ref a0, .int x1]) ++ List.replicate (2 - (lg_sl ([.ref a0, .int x1])).length) Slot.unset).toArray = ls at hl ⊢
  have hl : lv_has ls 2 [(0, .ref a0), (1, .int x1)] := hl
  refine s_gen hP hS (fun H locs hP hS => ?_)
  obtain ⟨z0, q0, oY0, bz0⟩ := y_opY hI ha0
  have hz0 : ∀ k, k ∈ ([1, 3, 5, 6, 7, 8, 11, 15, 16, 19, 25, 26, 27, 31, 32] : List Nat) → z0 k = z0 k := fun _ _ => rfl
  refine lv_aload_n hx hb dX7_takes_0 rfl (lv_at hl 0 rfl) ?_
  refine va_calli (va_runV (As := []) (rest := []) ⟨hx, hb, hml, hown, hts⟩ (y_X7_ownHere l dC dI H.size hLK A hA F a0 ha0 hI) (cwV 0 hts (ax_gV T_283 T_284 T_285 T_265 T_25) rfl rfl rfl (by decide +kernel) ⟨Nat.le_of_ble_eq_true rfl, Nat.le_of_ble_eq_true rfl⟩) ⟨fun a U g mk q => ⟨q.1, s_pc rfl rfl q.2⟩, s_recv hK hP (hLK _ ha0 (by decide)) (ci := 7) rfl oY0, fun U hU hW => ⟨rfl, s_pw hU hW hP hK hD hN⟩⟩ rfl rfl hl.1 rfl (lv_room (Nat.le_of_ble_eq_true rfl)) dX7_takes_1 ⟨Nat.zero_le _, Nat.zero_le _⟩) hS (fun q _ h => h) (fun q h => h) (fun r2 F3 t H1 locs ht hvm hw hB hz1 hk1 hS => ?_)
  obtain ⟨hP, hK1⟩ := hB
  rw [ht] at hP
  generalize H1 = H at hP hS ⊢
  obtain ⟨h4, h6, hI, hfr1, hzf, h5⟩ := hw
  obtain ⟨z7, q8, oY9, bz10⟩ := y_opY hI ha0
  have hzf : ∀ k, k ∈ ([1, 3, 4, 5, 6, 7, 8, 11, 15, 16, 19, 25, 26, 27, 31, 32] : List Nat) → z7 k = z0 k := fun k hk => by have q9 := hzf k hk; rw [y_fiZ oY9 (s_sub (by decide) hk), y_fiZ oY0 (s_sub (by decide) hk)] at q9; exact q9
  have hz0 : ∀ k, k ∈ ([1, 3, 5, 6, 7, 8, 11, 15, 16, 19, 25, 26, 27, 31, 32] : List Nat) → z7 k = z0 k := fun k hk => (hzf k (s_sub (by decide) hk)).trans (hz0 k hk)
  have hfr : ∀ b, K b ∉ [9] → F3 b = F b := fun b hb9 => (hfr1 b (fun q => hb9 (s_sub (by decide) q))).trans (hfr b hb9)
  refine lv_iload_n hx hb dX7_takes_4 rfl (lv_at hl 1 rfl) ?_
  refine lv_icmp_eq (tgt := 10) hx hb dX7_takes_5 (by decide) (fun c11 => ?_) (fun c11 => ?_)
  · have c11 := Int32.toInt_inj.symm.mp c11
    refine lv_aload_n hx hb dX7_takes_10 rfl (lv_at hl 0 rfl) ?_
    refine va_callv (va_runV (As := []) (rest := []) ⟨hx, hb, hml, hown, hts⟩ (y_X7_passes l dC dI H.size hLK A hA F3 a0 ha0 hI) (cwV 0 hts (ax_gV T_1257 T_1259 T_1260 T_265 T_1258) rfl rfl rfl (by decide +kernel) ⟨Nat.le_of_ble_eq_true rfl, Nat.le_of_ble_eq_true rfl⟩) ⟨fun a U g mk q => ⟨q.1, s_pc rfl rfl q.2⟩, s_recv hK hP (hLK _ ha0 (by decide)) (ci := 7) rfl oY9, fun U hU hW => ⟨rfl, s_pw hU hW hP hK hD hN⟩⟩ rfl rfl hl.1 rfl (lv_room (Nat.le_of_ble_eq_true rfl)) dX7_takes_11 ⟨Nat.zero_le _, Nat.zero_le _⟩) hS (fun q _ h => h) (fun q h => h) (fun F13 t H1 locs ht hvm hw hB hz1 hk1 hS => ?_)
    obtain ⟨hP, hK1⟩ := hB
    rw [ht] at hP
    generalize H1 = H at hP hS ⊢
    obtain ⟨h14, h16, hI, hfr1, hzf, h15⟩ := hw
    obtain ⟨z17, q18, oY19, bz20⟩ := y_opY hI ha0
    have hzf : ∀ k, k ∈ ([1, 3, 5, 6, 7, 8, 11, 15, 16, 19, 25, 26, 27, 31, 32] : List Nat) → z17 k = z7 k := fun k hk => by have q9 := hzf k hk; rw [y_fiZ oY19 (s_sub (by decide) hk), y_fiZ oY9 (s_sub (by decide) hk)] at q9; exact q9
    have hz0 : ∀ k, k ∈ ([1, 3, 5, 6, 7, 8, 11, 15, 16, 19, 25, 26, 27, 31, 32] : List Nat) → z17 k = z0 k := fun k hk => (hzf k (s_sub (by decide) hk)).trans (hz0 k hk)
    have hfr : ∀ b, K b ∉ [9] → F13 b = F b := fun b hb9 => (hfr1 b (fun q => hb9 (s_sub (by decide) q))).trans (hfr b hb9)
    refine lv_iconst (v := 1) hx hb dX7_takes_14 (by decide) ?_
    exact W.zret (v := 1) (ty := .boolean) hx hb hr (by decide) (fun t ht hW => ⟨⟨1, F13, rfl, ⟨(by decide), trivial, hI, hfr, fun k hk => (y_fiZ oY19 (s_sub (by decide) hk)).trans ((hz0 k hk).trans (y_fiZ oY0 (s_sub (by decide) hk)).symm), trivial⟩, by rw [ht]; exact hP, va_K.moved hW.alike hK⟩, hS.F ht⟩) hS.2.2 dX7_takes_15
  · have c11 := mt Int32.toInt_inj.symm.mpr c11
    refine lv_iconst (v := 0) hx hb dX7_takes_8 (by decide) ?_
    exact W.zret (v := 0) (ty := .boolean) hx hb hr (by decide) (fun t ht hW => ⟨⟨0, F3, rfl, ⟨(by decide), trivial, hI, hfr, fun k hk => (y_fiZ oY9 (s_sub (by decide) hk)).trans ((hz0 k hk).trans (y_fiZ oY0 (s_sub (by decide) hk)).symm), trivial⟩, by rw [ht]; exact hP, va_K.moved hW.alike hK⟩, hS.F ht⟩) hS.2.2 dX7_takes_9

set_option maxHeartbeats 4000000 in
set_option maxRecDepth 100000 in
theorem y_X7_asks (l : Launch) (dC : Nat → ClassId) (dI : Nat → Nat → Nat) (sz : Nat) {L : List Nat} {K : Nat → Nat} {cs : Nat → ClassId} (hLK : ∀ a {k : Nat}, K a = k → k ≠ 0 → a ∈ L) (A : Nat → Nat) (hA : y_A K A) (F : Nat → va_E) (a0 : Nat) (x1 : Int32) (ha0 : K a0 = 9) (hI : y_I K cs A F) : Met l yX7_asks (Cond.code yX7_asks cX7_asks 2 none :: T0) ({ frames := 4, cells := 0, slots := 0, locals := 85 }) (va_Pc [.ref a0, .int x1] (s_W dC dI sz L F [(cs 0, .int), (cs 1, .byte), (cs 2, .long), (cs 3, .object RX5), (cs 4, .object RX4), (cs 5, .array .int), (cs 6, .char), (cs 7, .boolean)])) (va_Qv (fun (G : Nat → va_E) => True ∧ True ∧ y_I K cs A G ∧ (∀ b, K b ∉ [9] → G b = F b) ∧ (∀ k, k ∈ ([1, 3, 7, 8, 11, 15, 16, 19, 25, 26, 27, 31, 32] : List Nat) → y_fi G a0 k = y_fi F a0 k) ∧ ((y_fi F a0 5).toInt = 0 ∨ ¬ (y_fi G a0 5).toInt = 0)) (fun (G : Nat → va_E) (t : State) => va_P (dC, dI) vwCl (va_pl L G) t.heap ∧ va_K (dC, dI) vwCl [(cs 0, .int), (cs 1, .byte), (cs 2, .long), (cs 3, .object RX5), (cs 4, .object RX4), (cs 5, .array .int), (cs 6, .char), (cs 7, .boolean)] t) (fun q => q ∈ L)) 0 0 (fun q => q ∈ L) := by
  refine Met.ofW (cc := cX7_asks) (maxL := 2) (ret := none) (by decide) rfl ?_
  intro p e s m args below meth c s₁ B hml hv
  obtain ⟨rfl, hsz, hP, hK, hD, hN⟩ := hv
  have hx := B.exec
  have hb := B.bytes
  have hr := B.returns
  have hts : ∀ w ∈ T0, w.before _ s = true := fun w h => atoms_spec (ws := Cond.code yX7_asks cX7_asks 2 none :: T0) B.pre w (List.mem_cons_of_mem _ h)
  have hown : s.vm.findClass RX7 = some m.cls := findClass_of_methodNamed B.named
  have hlocks := B.notSynchronized
  have hS : va_S (fun q => q ∈ L) s.heap s.heap [] := va_S.rf
  have hfr : ∀ b, K b ∉ [9] → F b = F b := fun _ _ => rfl
  have hl := lv_entry ([.ref a0, .int x1]) (n := 2) (Nat.le_of_ble_eq_true rfl)
  rw [lg_entry_eq]
  generalize (lg_sl ([.ref a0, .int x1]) ++ List.replicate (2 - (lg_sl ([.ref a0, .int x1])).length) Slot.unset).toArray = ls at hl ⊢
  have hl : lv_has ls 2 [(0, .ref a0), (1, .int x1)] := hl
  refine s_gen hP hS (fun H locs hP hS => ?_)
  obtain ⟨z0, q0, oY0, bz0⟩ := y_opY hI ha0
  have hz0 : ∀ k, k ∈ ([1, 3, 7, 8, 11, 15, 16, 19, 25, 26, 27, 31, 32] : List Nat) → z0 k = z0 k := fun _ _ => rfl
  obtain ⟨v1, ev1⟩ : ∃ y : Int32, y = z0 5 := ⟨_, rfl⟩
  have eF_5 := ev1
  have e0_v1 := ev1
  refine lv_aload_n hx hb dX7_asks_0 rfl (lv_at hl 0 rfl) ?_
  refine th_get (D := (dC, dI)) (ci := 7) (v := .int (z0 5)) (C := RX7) (T := TX7) (N := 34) hx hb hts inX7 hown hK hP (hLK _ ha0 (by decide)) oY0 rfl 5 (by decide) (hts _ T_274) (fun _ h9 => h9) rfl dX7_asks_1 ?_
  refine ax_eqi (y := v1) ev1.symm ?_
  refine lv_if_ne (tgt := 24) hx hb dX7_asks_4 (by decide) (fun c2 => ?_) (fun c2 => ?_)
  · have c2 := mt (ax_eq (n := 0) (by decide)).mpr c2
    exact W.vret hx hb hr (fun t ht hW => ⟨⟨F, rfl, ⟨trivial, trivial, hI, hfr, fun k hk => (y_fiZ oY0 (s_sub (by decide) hk)).trans ((hz0 k hk).trans (y_fiZ oY0 (s_sub (by decide) hk)).symm), (by rw [y_fiZ oY0 (k := 5) (by decide), ← eF_5]; omega)⟩, by rw [ht]; exact hP, va_K.moved hW.alike hK⟩, hS.F ht⟩) hS.2.2 dX7_asks_24
  · have c2 := (ax_eq (n := 0) (by decide)).mp c2
    refine lv_aload_n hx hb dX7_asks_7 rfl (lv_at hl 0 rfl) ?_
    refine lv_iload_n hx hb dX7_asks_8 rfl (lv_at hl 1 rfl) ?_
    refine va_calli (va_runV (As := [.int x1]) (rest := []) ⟨hx, hb, hml, hown, hts⟩ (y_X7_takes l dC dI H.size hLK A hA F a0 x1 ha0 hI) (cwV 1 hts (ax_gV T_287 T_288 T_289 T_265 T_26) rfl rfl rfl (by decide +kernel) ⟨Nat.le_of_ble_eq_true rfl, Nat.le_of_ble_eq_true rfl⟩) ⟨fun a U g mk q => ⟨q.1, s_pc rfl rfl q.2⟩, s_recv hK hP (hLK _ ha0 (by decide)) (ci := 7) rfl oY0, fun U hU hW => ⟨rfl, s_pw hU hW hP hK hD hN⟩⟩ rfl rfl hl.1 rfl (lv_room (Nat.le_of_ble_eq_true rfl)) dX7_asks_9 ⟨Nat.zero_le _, Nat.zero_le _⟩) hS (fun q _ h => h) (fun q h => h) (fun r4 F5 t H1 locs ht hvm hw hB hz1 hk1 hS => ?_)
    obtain ⟨hP, hK1⟩ := hB
    rw [ht] at hP
    generalize H1 = H at hP hS ⊢
    obtain ⟨h6, h8, hI, hfr1, hzf, h7⟩ := hw
    obtain ⟨z9, q10, oY11, bz12⟩ := y_opY hI ha0
    have hzf : ∀ k, k ∈ ([1, 3, 5, 6, 7, 8, 11, 15, 16, 19, 25, 26, 27, 31, 32] : List Nat) → z9 k = z0 k := fun k hk => by have q9 := hzf k hk; rw [y_fiZ oY11 (s_sub (by decide) hk), y_fiZ oY0 (s_sub (by decide) hk)] at q9; exact q9
    have hz0 : ∀ k, k ∈ ([1, 3, 7, 8, 11, 15, 16, 19, 25, 26, 27, 31, 32] : List Nat) → z9 k = z0 k := fun k hk => (hzf k (s_sub (by decide) hk)).trans (hz0 k hk)
    have ev1 : v1 = z9 5 := ev1.trans (hzf 5 (by decide)).symm
    have hfr : ∀ b, K b ∉ [9] → F5 b = F b := fun b hb9 => (hfr1 b (fun q => hb9 (s_sub (by decide) q))).trans (hfr b hb9)
    refine lv_if_ne (tgt := 24) hx hb dX7_asks_12 (by decide) (fun c13 => ?_) (fun c13 => ?_)
    · have c13 := mt (ax_eq (n := 0) (by decide)).mpr c13
      exact W.vret hx hb hr (fun t ht hW => ⟨⟨F5, rfl, ⟨trivial, trivial, hI, hfr, fun k hk => (y_fiZ oY11 (s_sub (by decide) hk)).trans ((hz0 k hk).trans (y_fiZ oY0 (s_sub (by decide) hk)).symm), (by rw [y_fiZ oY0 (k := 5) (by decide), ← eF_5, y_fiZ oY11 (k := 5) (by decide), ← ev1]; omega)⟩, by rw [ht]; exact hP, va_K.moved hW.alike hK⟩, hS.F ht⟩) hS.2.2 dX7_asks_24
    · have c13 := (ax_eq (n := 0) (by decide)).mp c13
      refine lv_aload_n hx hb dX7_asks_15 rfl (lv_at hl 0 rfl) ?_
      refine lv_iconst (v := 1) hx hb dX7_asks_16 (by decide) ?_
      refine lv_aload_n hx hb dX7_asks_17 rfl (lv_at hl 0 rfl) ?_
      refine th_get (D := (dC, dI)) (ci := 7) (v := .int (z9 2)) (C := RX7) (T := TX7) (N := 34) hx hb hts inX7 hown hK hP (hLK _ ha0 (by decide)) oY11 rfl 2 (by decide) (hts _ T_272) (fun _ h9 => h9) rfl dX7_asks_18 ?_
      refine lv_topi (fun v14 ev14 => ?_)
      have qv14 : 0 ≤ v14.toInt ∧ v14.toInt ≤ 1600 := by rw [ev14]; exact y_bY2 bz12
      refine va_callv (va_runV (As := [.int 1, .int v14]) (rest := []) ⟨hx, hb, hml, hown, hts⟩ (y_X7_fail l dC dI H.size hLK A hA F5 a0 1 v14 ha0 (by decide) hI) (cwV 2 hts (ax_gV T_290 T_291 T_292 T_265 T_27) rfl rfl rfl (by decide +kernel) ⟨Nat.le_of_ble_eq_true rfl, Nat.le_of_ble_eq_true rfl⟩) ⟨fun a U g mk q => ⟨q.1, s_pc rfl rfl q.2⟩, s_recv hK hP (hLK _ ha0 (by decide)) (ci := 7) rfl oY11, fun U hU hW => ⟨rfl, s_pw hU hW hP hK hD hN⟩⟩ rfl rfl hl.1 rfl (lv_room (Nat.le_of_ble_eq_true rfl)) dX7_asks_21 ⟨Nat.zero_le _, Nat.zero_le _⟩) hS (fun q _ h => h) (fun q h => h) (fun F16 t H1 locs ht hvm hw hB hz1 hk1 hS => ?_)
      obtain ⟨hP, hK1⟩ := hB
      rw [ht] at hP
      generalize H1 = H at hP hS ⊢
      obtain ⟨h17, h19, hI, hfr1, hzf, h18⟩ := hw
      obtain ⟨z20, q21, oY22, bz23⟩ := y_opY hI ha0
      have hzf : ∀ k, k ∈ ([1, 2, 3, 4, 7, 8, 11, 15, 16, 19, 25, 26, 27, 31, 32] : List Nat) → z20 k = z9 k := fun k hk => by have q9 := hzf k hk; rw [y_fiZ oY22 (s_sub (by decide) hk), y_fiZ oY11 (s_sub (by decide) hk)] at q9; exact q9
      have hz0 : ∀ k, k ∈ ([1, 3, 7, 8, 11, 15, 16, 19, 25, 26, 27, 31, 32] : List Nat) → z20 k = z0 k := fun k hk => (hzf k (s_sub (by decide) hk)).trans (hz0 k hk)
      have ev14 : v14 = z20 2 := ev14.trans (hzf 2 (by decide)).symm
      have hfr : ∀ b, K b ∉ [9] → F16 b = F b := fun b hb9 => (hfr1 b (fun q => hb9 (s_sub (by decide) q))).trans (hfr b hb9)
      obtain ⟨v24, ev24⟩ : ∃ y : Int32, y = z20 5 := ⟨_, rfl⟩
      have h18 : (¬ v24.toInt = 0) := by have q9 := h18; rw [y_fiZ oY22 (k := 5) (by decide), ← ev24] at q9; exact q9
      exact W.vret hx hb hr (fun t ht hW => ⟨⟨F16, rfl, ⟨trivial, trivial, hI, hfr, fun k hk => (y_fiZ oY22 (s_sub (by decide) hk)).trans ((hz0 k hk).trans (y_fiZ oY0 (s_sub (by decide) hk)).symm), (by rw [y_fiZ oY0 (k := 5) (by decide), ← eF_5, y_fiZ oY22 (k := 5) (by decide), ← ev24]; omega)⟩, by rw [ht]; exact hP, va_K.moved hW.alike hK⟩, hS.F ht⟩) hS.2.2 dX7_asks_24

set_option maxHeartbeats 4000000 in
set_option maxRecDepth 100000 in
theorem y_X7_name (l : Launch) (dC : Nat → ClassId) (dI : Nat → Nat → Nat) (sz : Nat) {L : List Nat} {K : Nat → Nat} {cs : Nat → ClassId} (hLK : ∀ a {k : Nat}, K a = k → k ≠ 0 → a ∈ L) (A : Nat → Nat) (hA : y_A K A) (F : Nat → va_E) (a0 : Nat) (ha0 : K a0 = 9) (hI : y_I K cs A F) : Met l yX7_name (Cond.code yX7_name cX7_name 2 (some .int) :: T0) ({ frames := 3, cells := 0, slots := 0, locals := 64 }) (va_Pc [.ref a0] (s_W dC dI sz L F [(cs 0, .int), (cs 1, .byte), (cs 2, .long), (cs 3, .object RX5), (cs 4, .object RX4), (cs 5, .array .int), (cs 6, .char), (cs 7, .boolean)])) (va_Qi (fun (r : Int32) (G : Nat → va_E) => True ∧ True ∧ y_I K cs A G ∧ (∀ b, K b ∉ [9] → G b = F b) ∧ (∀ k, k ∈ ([1, 3, 7, 8, 15, 16, 19, 25, 26, 27, 31, 32] : List Nat) → y_fi G a0 k = y_fi F a0 k) ∧ ((y_fi F a0 5).toInt = 0 ∨ ¬ (y_fi G a0 5).toInt = 0)) (fun (G : Nat → va_E) (t : State) => va_P (dC, dI) vwCl (va_pl L G) t.heap ∧ va_K (dC, dI) vwCl [(cs 0, .int), (cs 1, .byte), (cs 2, .long), (cs 3, .object RX5), (cs 4, .object RX4), (cs 5, .array .int), (cs 6, .char), (cs 7, .boolean)] t) (fun q => q ∈ L)) 0 0 (fun q => q ∈ L) := by
  refine Met.ofW (cc := cX7_name) (maxL := 2) (ret := (some .int)) (by decide) rfl ?_
  intro p e s m args below meth c s₁ B hml hv
  obtain ⟨rfl, hsz, hP, hK, hD, hN⟩ := hv
  have hx := B.exec
  have hb := B.bytes
  have hr := B.returns
  have hts : ∀ w ∈ T0, w.before _ s = true := fun w h => atoms_spec (ws := Cond.code yX7_name cX7_name 2 (some .int) :: T0) B.pre w (List.mem_cons_of_mem _ h)
  have hown : s.vm.findClass RX7 = some m.cls := findClass_of_methodNamed B.named
  have hlocks := B.notSynchronized
  have hS : va_S (fun q => q ∈ L) s.heap s.heap [] := va_S.rf
  have hfr : ∀ b, K b ∉ [9] → F b = F b := fun _ _ => rfl
  have hl := lv_entry ([.ref a0]) (n := 2) (Nat.le_of_ble_eq_true rfl)
  rw [lg_entry_eq]
  generalize (lg_sl ([.ref a0]) ++ List.replicate (2 - (lg_sl ([.ref a0])).length) Slot.unset).toArray = ls at hl ⊢
  have hl : lv_has ls 2 [(0, .ref a0)] := hl
  refine s_gen hP hS (fun H locs hP hS => ?_)
  obtain ⟨z0, q0, oY0, bz0⟩ := y_opY hI ha0
  have hz0 : ∀ k, k ∈ ([1, 3, 7, 8, 15, 16, 19, 25, 26, 27, 31, 32] : List Nat) → z0 k = z0 k := fun _ _ => rfl
  obtain ⟨v1, ev1⟩ : ∃ y : Int32, y = z0 5 := ⟨_, rfl⟩
  have eF_5 := ev1
  have e0_v1 := ev1
  refine th_join (fun g H locs => ∃ (G : Nat → va_E) (ls : Array Slot) (w2 : Int32), g = F0 m 129 ls [] ∧ lv_has ls 2 [(0, .ref a0), (1, .int w2)] ∧ va_P (dC, dI) vwCl (va_pl L G) H ∧ va_S (fun q => q ∈ L) s.heap H locs ∧ y_I K cs A G ∧ (∀ b, K b ∉ [9] → G b = F b) ∧ (∀ k, k ∈ ([1, 3, 7, 8, 15, 16, 19, 25, 26, 27, 31, 32] : List Nat) → y_fi G a0 k = z0 k) ∧ True ∧ (v1.toInt = 0)) (fun K129 => ?_) ?_
  refine th_join (fun g H locs => ∃ (G : Nat → va_E) (ls : Array Slot), g = F0 m 24 ls [] ∧ lv_has ls 2 [(0, .ref a0)] ∧ va_P (dC, dI) vwCl (va_pl L G) H ∧ va_S (fun q => q ∈ L) s.heap H locs ∧ y_I K cs A G ∧ (∀ b, K b ∉ [9] → G b = F b) ∧ (∀ k, k ∈ ([1, 3, 7, 8, 15, 16, 19, 25, 26, 27, 31, 32] : List Nat) → y_fi G a0 k = z0 k) ∧ (v1.toInt = 0)) (fun K24 => ?_) ?_
  · refine lv_aload_n hx hb dX7_name_0 rfl (lv_at hl 0 rfl) ?_
    refine th_get (D := (dC, dI)) (ci := 7) (v := .int (z0 5)) (C := RX7) (T := TX7) (N := 34) hx hb hts inX7 hown hK hP (hLK _ ha0 (by decide)) oY0 rfl 5 (by decide) (hts _ T_274) (fun _ h9 => h9) rfl dX7_name_1 ?_
    refine ax_eqi (y := v1) ev1.symm ?_
    refine lv_if_eq (tgt := 9) hx hb dX7_name_4 (by decide) (fun c3 => ?_) (fun c3 => ?_)
    · have c3 := (ax_eq (n := 0) (by decide)).mp c3
      refine lv_aload_n hx hb dX7_name_9 rfl (lv_at hl 0 rfl) ?_
      refine va_calli (va_runV (As := []) (rest := []) ⟨hx, hb, hml, hown, hts⟩ (y_X7_isWordHere l dC dI H.size hLK A hA F a0 ha0 hI) (cwV 0 hts (ax_gV T_280 T_281 T_282 T_265 T_24) rfl rfl rfl (by decide +kernel) ⟨Nat.le_of_ble_eq_true rfl, Nat.le_of_ble_eq_true rfl⟩) ⟨fun a U g mk q => ⟨q.1, s_pc rfl rfl q.2⟩, s_recv hK hP (hLK _ ha0 (by decide)) (ci := 7) rfl oY0, fun U hU hW => ⟨rfl, s_pw hU hW hP hK hD hN⟩⟩ rfl rfl hl.1 rfl (lv_room (Nat.le_of_ble_eq_true rfl)) dX7_name_10 ⟨Nat.zero_le _, Nat.zero_le _⟩) hS (fun q _ h => h) (fun q h => h) (fun r5 F6 t H1 locs ht hvm hw hB hz1 hk1 hS => ?_)
      obtain ⟨hP, hK1⟩ := hB
      rw [ht] at hP
      generalize H1 = H at hP hS ⊢
      obtain ⟨h7, h9, hI, hfr1, hzf, h8⟩ := hw
      obtain ⟨z10, q11, oY12, bz13⟩ := y_opY hI ha0
      have hzf : ∀ k, k ∈ ([1, 3, 4, 5, 6, 7, 8, 11, 15, 16, 19, 25, 26, 27, 31, 32] : List Nat) → z10 k = z0 k := fun k hk => by have q9 := hzf k hk; rw [y_fiZ oY12 (s_sub (by decide) hk), y_fiZ oY0 (s_sub (by decide) hk)] at q9; exact q9
      have hz0 : ∀ k, k ∈ ([1, 3, 7, 8, 15, 16, 19, 25, 26, 27, 31, 32] : List Nat) → z10 k = z0 k := fun k hk => (hzf k (s_sub (by decide) hk)).trans (hz0 k hk)
      have ev1 : v1 = z10 5 := ev1.trans (hzf 5 (by decide)).symm
      have hfr : ∀ b, K b ∉ [9] → F6 b = F b := fun b hb9 => (hfr1 b (fun q => hb9 (s_sub (by decide) q))).trans (hfr b hb9)
      obtain ⟨v14, ev14⟩ : ∃ y : Int32, y = z10 2 := ⟨_, rfl⟩
      have qv14 : 0 ≤ v14.toInt ∧ v14.toInt ≤ 1600 := by rw [ev14]; exact y_bY2 bz13
      obtain ⟨v15, ev15⟩ : ∃ y : Int32, y = z10 3 := ⟨_, rfl⟩
      have qv15 : 0 ≤ v15.toInt ∧ v15.toInt ≤ 1600 := by rw [ev15]; exact y_bY3 bz13
      have h8 : (r5.toInt = 0 ∨ v14.toInt < v15.toInt) := by have q9 := h8; rw [y_fiZ oY12 (k := 2) (by decide), ← ev14, y_fiZ oY12 (k := 3) (by decide), ← ev15] at q9; exact q9
      refine lv_if_eq (tgt := 24) hx hb dX7_name_13 (by decide) (fun c16 => ?_) (fun c16 => ?_)
      · have c16 := (ax_eq (n := 0) (by decide)).mp c16
        exact K24 _ _ _ ⟨F6, _, rfl, lv_sub hl [0] rfl, hP, hS, hI, hfr, (fun k hk => (y_fiZ oY12 (s_sub (by decide) hk)).trans (hz0 k hk)), (by omega)⟩
      · have c16 := mt (ax_eq (n := 0) (by decide)).mpr c16
        refine lv_aload_n hx hb dX7_name_16 rfl (lv_at hl 0 rfl) ?_
        refine va_calli (va_runV (As := []) (rest := []) ⟨hx, hb, hml, hown, hts⟩ (y_X7_ownHere l dC dI H.size hLK A hA F6 a0 ha0 hI) (cwV 0 hts (ax_gV T_283 T_284 T_285 T_265 T_25) rfl rfl rfl (by decide +kernel) ⟨Nat.le_of_ble_eq_true rfl, Nat.le_of_ble_eq_true rfl⟩) ⟨fun a U g mk q => ⟨q.1, s_pc rfl rfl q.2⟩, s_recv hK hP (hLK _ ha0 (by decide)) (ci := 7) rfl oY12, fun U hU hW => ⟨rfl, s_pw hU hW hP hK hD hN⟩⟩ rfl rfl hl.1 rfl (lv_room (Nat.le_of_ble_eq_true rfl)) dX7_name_17 ⟨Nat.zero_le _, Nat.zero_le _⟩) hS (fun q _ h => h) (fun q h => h) (fun r18 F19 t H1 locs ht hvm hw hB hz1 hk1 hS => ?_)
        obtain ⟨hP, hK1⟩ := hB
        rw [ht] at hP
        generalize H1 = H at hP hS ⊢
        obtain ⟨h20, h22, hI, hfr1, hzf, h21⟩ := hw
        obtain ⟨z23, q24, oY25, bz26⟩ := y_opY hI ha0
        have hzf : ∀ k, k ∈ ([1, 3, 4, 5, 6, 7, 8, 11, 15, 16, 19, 25, 26, 27, 31, 32] : List Nat) → z23 k = z10 k := fun k hk => by have q9 := hzf k hk; rw [y_fiZ oY25 (s_sub (by decide) hk), y_fiZ oY12 (s_sub (by decide) hk)] at q9; exact q9
        have hz0 : ∀ k, k ∈ ([1, 3, 7, 8, 15, 16, 19, 25, 26, 27, 31, 32] : List Nat) → z23 k = z0 k := fun k hk => (hzf k (s_sub (by decide) hk)).trans (hz0 k hk)
        have ev1 : v1 = z23 5 := ev1.trans (hzf 5 (by decide)).symm
        have ev15 : v15 = z23 3 := ev15.trans (hzf 3 (by decide)).symm
        have hfr : ∀ b, K b ∉ [9] → F19 b = F b := fun b hb9 => (hfr1 b (fun q => hb9 (s_sub (by decide) q))).trans (hfr b hb9)
        refine lv_iconst (v := (-1)) hx hb dX7_name_20 (by decide) ?_
        refine lv_icmp_eq (tgt := 35) hx hb dX7_name_21 (by decide) (fun c27 => ?_) (fun c27 => ?_)
        · have c27 := (ax_eq (n := (-1)) (by decide)).mp c27
          refine lv_aload_n hx hb dX7_name_35 rfl (lv_at hl 0 rfl) ?_
          refine lv_aload_n hx hb dX7_name_36 rfl (lv_at hl 0 rfl) ?_
          refine th_get (D := (dC, dI)) (ci := 7) (v := .int (z23 2)) (C := RX7) (T := TX7) (N := 34) hx hb hts inX7 hown hK hP (hLK _ ha0 (by decide)) oY25 rfl 2 (by decide) (hts _ T_272) (fun _ h9 => h9) rfl dX7_name_37 ?_
          refine lv_topi (fun v28 ev28 => ?_)
          have qv28 : 0 ≤ v28.toInt ∧ v28.toInt ≤ 1600 := by rw [ev28]; exact y_bY2 bz26
          refine th_put (D := (dC, dI)) (ci := 7) (v := .int v28) (ty := .int) (C := RX7) (T := TX7) (N := 34) hx hb hts inX7 tyX7 tyX7_ok nmX7 hown hK hP hD hS (hLK _ ha0 (by decide)) oY25 rfl 11 (by decide) (hts _ T_1114) (fun _ h9 => h9) rfl (by decide +kernel) rfl rfl (Nat.le_of_ble_eq_true rfl) dX7_name_40 (fun H locs hP hS => ?_)
          rw [y_fs11] at hP
          obtain ⟨z29, hz30⟩ : ∃ g : Nat → Int32, g = upd z23 11 v28 := ⟨_, rfl⟩
          rw [← hz30] at hP
          have bz31 : y_bY z29 := by rw [hz30]; exact y_bp11 bz26
          have hP : va_P (dC, dI) vwCl (va_pl L (va_up F19 a0 (.inr (7, y_fl A z29 q24)))) H := hP
          obtain ⟨F32, hF33⟩ : ∃ G : Nat → va_E, G = va_up F19 a0 (.inr (7, y_fl A z29 q24)) := ⟨_, rfl⟩
          rw [← hF33] at hP
          have hI : y_I K cs A F32 := by rw [hF33]; exact y_clY hA hI ha0 bz31
          have hfr : ∀ b, K b ∉ [9] → F32 b = F b := by rw [hF33]; exact s_fr hfr ha0 (by decide)
          have oY34 : F32 a0 = .inr (7, y_fl A z29 q24) := by rw [hF33]; exact th_up
          have hz0 : ∀ k, k ∈ ([1, 3, 7, 8, 15, 16, 19, 25, 26, 27, 31, 32] : List Nat) → z29 k = z0 k := fun k hk => by rw [hz30]; exact (y_un (fun q => absurd hk (by rw [q]; decide))).trans (hz0 k hk)
          have ev1 : v1 = z29 5 := by rw [hz30]; exact ev1.trans (y_un (by decide)).symm
          have ev15 : v15 = z29 3 := by rw [hz30]; exact ev15.trans (y_un (by decide)).symm
          have ev28 : v28 = z29 2 := by rw [hz30]; exact ev28.trans (y_un (by decide)).symm
          obtain ⟨v35, ev35⟩ : ∃ y : Int32, y = z29 11 := ⟨_, rfl⟩
          have qv35 : v35.toInt = v28.toInt := by rw [ev35, hz30, y_ue]
          refine lv_iconst (v := 0) hx hb dX7_name_43 (by decide) ?_
          refine lv_istore_n (lv' := [(1, .int 0), (0, .ref a0)]) hx hb dX7_name_44 rfl hl (by decide) rfl (fun ls hl => ?_)
          have h37 : (0 : Int32).toInt = 0 := by decide
          refine th_loop (fun n g H locs => ∃ (G : Nat → va_E) (ls : Array Slot) (w36 : Int32), g = F0 m 45 ls [] ∧ lv_has ls 2 [(0, .ref a0), (1, .int w36)] ∧ va_P (dC, dI) vwCl (va_pl L G) H ∧ va_S (fun q => q ∈ L) s.heap H locs ∧ y_I K cs A G ∧ (∀ b, K b ∉ [9] → G b = F b) ∧ (∀ k, k ∈ ([1, 3, 7, 8, 15, 16, 19, 25, 26, 27, 31, 32] : List Nat) → y_fi G a0 k = z0 k) ∧ True ∧ (v1.toInt = 0) ∧ n = (1601 - (y_fi G a0 2).toInt).toNat) _ ⟨F32, _, 0, rfl, lv_sub hl [1, 0] rfl, hP, hS, hI, hfr, (fun k hk => (y_fiZ oY34 (s_sub (by decide) hk)).trans (hz0 k hk)), trivial, (by omega), rfl⟩ (fun n ih45 g H locs hq => ?_)
          obtain ⟨F40, ls, w36, rfl, hl, hP, hS, hI, hfr, hz0, h38, h39, hn⟩ := hq
          obtain ⟨z41, q42, oY43, bz44⟩ := y_opY hI ha0
          have hz0 : ∀ k, k ∈ ([1, 3, 7, 8, 15, 16, 19, 25, 26, 27, 31, 32] : List Nat) → z41 k = z0 k := fun k hk => (y_fiZ oY43 (s_sub (by decide) hk)).symm.trans (hz0 k hk)
          obtain ⟨v45, ev45⟩ : ∃ y : Int32, y = z41 2 := ⟨_, rfl⟩
          have qv45 : 0 ≤ v45.toInt ∧ v45.toInt ≤ 1600 := by rw [ev45]; exact y_bY2 bz44
          have hn : n = (1601 - v45.toInt).toNat := by have q9 := hn; rw [y_fiZ oY43 (k := 2) (by decide), ← ev45] at q9; exact q9
          have hn_45 := hn
          have h46 : (z41 2).toInt = v45.toInt := by rw [ev45]
          refine lv_aload_n hx hb dX7_name_45 rfl (lv_at hl 0 rfl) ?_
          refine th_get (D := (dC, dI)) (ci := 7) (v := .int (z41 2)) (C := RX7) (T := TX7) (N := 34) hx hb hts inX7 hown hK hP (hLK _ ha0 (by decide)) oY43 rfl 2 (by decide) (hts _ T_272) (fun _ h9 => h9) rfl dX7_name_46 ?_
          refine ax_eqi (y := v45) ev45.symm ?_
          refine lv_aload_n hx hb dX7_name_49 rfl (lv_at hl 0 rfl) ?_
          refine th_get (D := (dC, dI)) (ci := 7) (v := .int (z41 3)) (C := RX7) (T := TX7) (N := 34) hx hb hts inX7 hown hK hP (hLK _ ha0 (by decide)) oY43 rfl 3 (by decide) (hts _ T_273) (fun _ h9 => h9) rfl dX7_name_50 ?_
          refine lv_topi (fun v47 ev47 => ?_)
          have qv47 : 0 ≤ v47.toInt ∧ v47.toInt ≤ 1600 := by rw [ev47]; exact y_bY3 bz44
          refine lv_icmp_ge (tgt := 129) hx hb dX7_name_53 (by decide) (fun c48 => ?_) (fun c48 => ?_)
          · have c48 := Int32.le_iff_toInt_le.mp c48
            exact K129 _ _ _ ⟨F40, _, w36, rfl, lv_sub hl [0, 1] rfl, hP, hS, hI, hfr, (fun k hk => (y_fiZ oY43 (s_sub (by decide) hk)).trans (hz0 k hk)), trivial, (by omega)⟩
          · have c48 := mt Int32.le_iff_toInt_le.mpr c48
            refine lv_aload_n hx hb dX7_name_56 rfl (lv_at hl 0 rfl) ?_
            refine th_get (D := (dC, dI)) (ci := 7) (v := .ref (A 0)) (C := RX7) (T := TX7) (N := 34) hx hb hts inX7 hown hK hP (hLK _ ha0 (by decide)) oY43 rfl 0 (by decide) (hts _ T_240) (fun _ h9 => h9) rfl dX7_name_57 ?_
            refine lv_aload_n hx hb dX7_name_60 rfl (lv_at hl 0 rfl) ?_
            refine th_get (D := (dC, dI)) (ci := 7) (v := .int (z41 2)) (C := RX7) (T := TX7) (N := 34) hx hb hts inX7 hown hK hP (hLK _ ha0 (by decide)) oY43 rfl 2 (by decide) (hts _ T_272) (fun _ h9 => h9) rfl dX7_name_61 ?_
            refine ax_eqi (y := v45) ev45.symm ?_
            obtain ⟨f49, o50, b51⟩ := y_op0 hI
            refine th_iald hx hb hK hP (hLK _ (y_k0 hA) (by decide)) 0 o50 rfl (th_in ⟨by omega, by omega⟩) dX7_name_64 ?_
            refine lv_topi (fun v52 ev52 => ?_)
            refine va_calli (va_runS (As := [.int v52]) (rest := []) ⟨hx, hb, hml, hown, hts⟩ (y_X7_isLetter l dC dI H.size F40 v52) (cwS 1 hts (ax_gS T_278 T_279 T_265 T_23) rfl rfl rfl (by decide +kernel) ⟨Nat.le_of_ble_eq_true rfl, Nat.le_of_ble_eq_true rfl⟩) ⟨fun a U g mk q => ⟨q.1, s_pc rfl rfl q.2⟩, fun U hU hW => ⟨rfl, s_pw hU hW hP hK hD hN⟩⟩ rfl rfl hl.1 rfl (lv_room (Nat.le_of_ble_eq_true rfl)) dX7_name_65 ⟨Nat.zero_le _, Nat.zero_le _⟩) hS (fun q _ h => h) (fun q h => h) (fun r54 F55 t H1 locs ht hvm hw hB hz1 hk1 hS => ?_)
            obtain ⟨hP, hK1⟩ := hB
            rw [ht] at hP
            generalize H1 = H at hP hS ⊢
            obtain ⟨h56, h58, hG9, h57⟩ := hw
            rw [hG9] at hP
            refine lv_if_eq (tgt := 129) hx hb dX7_name_68 (by decide) (fun c59 => ?_) (fun c59 => ?_)
            · have c59 := (ax_eq (n := 0) (by decide)).mp c59
              exact K129 _ _ _ ⟨F40, _, w36, rfl, lv_sub hl [0, 1] rfl, hP, hS, hI, hfr, (fun k hk => (y_fiZ oY43 (s_sub (by decide) hk)).trans (hz0 k hk)), trivial, (by omega)⟩
            · have c59 := mt (ax_eq (n := 0) (by decide)).mpr c59
              have h60 := h58 (fun q => c59 (by rw [q]; decide))
              refine lv_aload_n hx hb dX7_name_71 rfl (lv_at hl 0 rfl) ?_
              refine th_get (D := (dC, dI)) (ci := 7) (v := .int (z41 2)) (C := RX7) (T := TX7) (N := 34) hx hb hts inX7 hown hK hP (hLK _ ha0 (by decide)) oY43 rfl 2 (by decide) (hts _ T_272) (fun _ h9 => h9) rfl dX7_name_72 ?_
              refine ax_eqi (y := v45) ev45.symm ?_
              refine lv_aload_n hx hb dX7_name_75 rfl (lv_at hl 0 rfl) ?_
              refine th_get (D := (dC, dI)) (ci := 7) (v := .int (z41 11)) (C := RX7) (T := TX7) (N := 34) hx hb hts inX7 hown hK hP (hLK _ ha0 (by decide)) oY43 rfl 11 (by decide) (hts _ T_1114) (fun _ h9 => h9) rfl dX7_name_76 ?_
              refine lv_topi (fun v61 ev61 => ?_)
              refine lv_isub hx hb dX7_name_79 ?_
              refine lv_topi (fun v62 ev62 => ?_)
              refine lv_bipush (v := 6) hx hb dX7_name_80 (by decide) ?_
              refine lv_icmp_ne (tgt := 96) hx hb dX7_name_82 (by decide) (fun c63 => ?_) (fun c63 => ?_)
              · have c63 := mt (ax_eq (n := 6) (by decide)).mpr c63
                refine lv_bipush (v := 27) hx hb dX7_name_96 (by decide) ?_
                refine lv_iload_n hx hb dX7_name_98 rfl (lv_at hl 1 rfl) ?_
                refine lv_imul hx hb dX7_name_99 ?_
                refine lv_topi (fun v64 ev64 => ?_)
                refine lv_aload_n hx hb dX7_name_100 rfl (lv_at hl 0 rfl) ?_
                refine th_get (D := (dC, dI)) (ci := 7) (v := .ref (A 0)) (C := RX7) (T := TX7) (N := 34) hx hb hts inX7 hown hK hP (hLK _ ha0 (by decide)) oY43 rfl 0 (by decide) (hts _ T_240) (fun _ h9 => h9) rfl dX7_name_101 ?_
                refine lv_aload_n hx hb dX7_name_104 rfl (lv_at hl 0 rfl) ?_
                refine th_get (D := (dC, dI)) (ci := 7) (v := .int (z41 2)) (C := RX7) (T := TX7) (N := 34) hx hb hts inX7 hown hK hP (hLK _ ha0 (by decide)) oY43 rfl 2 (by decide) (hts _ T_272) (fun _ h9 => h9) rfl dX7_name_105 ?_
                refine ax_eqi (y := v45) ev45.symm ?_
                refine th_iald hx hb hK hP (hLK _ (y_k0 hA) (by decide)) 0 o50 rfl (th_in ⟨by omega, by omega⟩) dX7_name_108 ?_
                refine lv_topi (fun v65 ev65 => ?_)
                refine lv_iadd hx hb dX7_name_109 ?_
                refine lv_topi (fun v66 ev66 => ?_)
                refine lv_bipush (v := 97) hx hb dX7_name_110 (by decide) ?_
                refine lv_isub hx hb dX7_name_112 ?_
                refine lv_topi (fun v67 ev67 => ?_)
                refine lv_iconst (v := 1) hx hb dX7_name_113 (by decide) ?_
                refine lv_iadd hx hb dX7_name_114 ?_
                refine lv_topi (fun v68 ev68 => ?_)
                refine lv_istore_n (lv' := [(1, .int v68), (0, .ref a0)]) hx hb dX7_name_115 rfl hl (by decide) rfl (fun ls hl => ?_)
                refine lv_aload_n hx hb dX7_name_116 rfl (lv_at hl 1 rfl) ?_
                refine lv_dup hx hb dX7_name_117 rfl ?_
                refine th_get (D := (dC, dI)) (ci := 7) (v := .int (z41 2)) (C := RX7) (T := TX7) (N := 34) hx hb hts inX7 hown hK hP (hLK _ ha0 (by decide)) oY43 rfl 2 (by decide) (hts _ T_272) (fun _ h9 => h9) rfl dX7_name_118 ?_
                refine ax_eqi (y := v45) ev45.symm ?_
                refine lv_iconst (v := 1) hx hb dX7_name_121 (by decide) ?_
                refine lv_iadd hx hb dX7_name_122 ?_
                refine lv_topi (fun v69 ev69 => ?_)
                have qv69 : v69.toInt = v45.toInt + 1 := by rw [ev69]; exact th_add rfl (by decide) ⟨by omega, by omega⟩
                refine th_put (D := (dC, dI)) (ci := 7) (v := .int v69) (ty := .int) (C := RX7) (T := TX7) (N := 34) hx hb hts inX7 tyX7 tyX7_ok nmX7 hown hK hP hD hS (hLK _ ha0 (by decide)) oY43 rfl 2 (by decide) (hts _ T_272) (fun _ h9 => h9) rfl (by decide +kernel) rfl rfl (Nat.le_of_ble_eq_true rfl) dX7_name_123 (fun H locs hP hS => ?_)
                rw [y_fs2] at hP
                obtain ⟨z70, hz71⟩ : ∃ g : Nat → Int32, g = upd z41 2 v69 := ⟨_, rfl⟩
                rw [← hz71] at hP
                have bz72 : y_bY z70 := by rw [hz71]; exact y_bp2 bz44 ⟨by omega, by omega⟩
                have hP : va_P (dC, dI) vwCl (va_pl L (va_up F40 a0 (.inr (7, y_fl A z70 q42)))) H := hP
                obtain ⟨F73, hF74⟩ : ∃ G : Nat → va_E, G = va_up F40 a0 (.inr (7, y_fl A z70 q42)) := ⟨_, rfl⟩
                rw [← hF74] at hP
                have hI : y_I K cs A F73 := by rw [hF74]; exact y_clY hA hI ha0 bz72
                have hfr : ∀ b, K b ∉ [9] → F73 b = F b := by rw [hF74]; exact s_fr hfr ha0 (by decide)
                have o75 : F73 (A 0) = .inl (cs 0, 1600, .inl f49) := by rw [hF74]; exact th_ne (th_kd (y_k0 hA) ha0 (by decide)) o50
                have oY76 : F73 a0 = .inr (7, y_fl A z70 q42) := by rw [hF74]; exact th_up
                have hz0 : ∀ k, k ∈ ([1, 3, 7, 8, 15, 16, 19, 25, 26, 27, 31, 32] : List Nat) → z70 k = z0 k := fun k hk => by rw [hz71]; exact (y_un (fun q => absurd hk (by rw [q]; decide))).trans (hz0 k hk)
                have ev47 : v47 = z70 3 := by rw [hz71]; exact ev47.trans (y_un (by decide)).symm
                have ev61 : v61 = z70 11 := by rw [hz71]; exact ev61.trans (y_un (by decide)).symm
                obtain ⟨v77, ev77⟩ : ∃ y : Int32, y = z70 2 := ⟨_, rfl⟩
                have qv77 : v77.toInt = v69.toInt := by rw [ev77, hz71, y_ue]
                refine lv_goto (tgt := 45) hx hb dX7_name_126 (by decide) ?_
                have h78 : (y_fi F73 a0 2).toInt = v77.toInt := by rw [y_fiZ oY76 (k := 2) (by decide), ← ev77]
                exact ih45 _ _ _ _ (by omega) ⟨F73, _, v68, rfl, lv_sub hl [1, 0] rfl, hP, hS, hI, hfr, (fun k hk => (y_fiZ oY76 (s_sub (by decide) hk)).trans (hz0 k hk)), trivial, (by omega), rfl⟩
              · have c63 := (ax_eq (n := 6) (by decide)).mp c63
                refine lv_aload_n hx hb dX7_name_85 rfl (lv_at hl 0 rfl) ?_
                refine lv_iconst (v := 1) hx hb dX7_name_86 (by decide) ?_
                refine lv_aload_n hx hb dX7_name_87 rfl (lv_at hl 0 rfl) ?_
                refine th_get (D := (dC, dI)) (ci := 7) (v := .int (z41 2)) (C := RX7) (T := TX7) (N := 34) hx hb hts inX7 hown hK hP (hLK _ ha0 (by decide)) oY43 rfl 2 (by decide) (hts _ T_272) (fun _ h9 => h9) rfl dX7_name_88 ?_
                refine ax_eqi (y := v45) ev45.symm ?_
                refine va_callv (va_runV (As := [.int 1, .int v45]) (rest := []) ⟨hx, hb, hml, hown, hts⟩ (y_X7_fail l dC dI H.size hLK A hA F40 a0 1 v45 ha0 (by decide) hI) (cwV 2 hts (ax_gV T_290 T_291 T_292 T_265 T_27) rfl rfl rfl (by decide +kernel) ⟨Nat.le_of_ble_eq_true rfl, Nat.le_of_ble_eq_true rfl⟩) ⟨fun a U g mk q => ⟨q.1, s_pc rfl rfl q.2⟩, s_recv hK hP (hLK _ ha0 (by decide)) (ci := 7) rfl oY43, fun U hU hW => ⟨rfl, s_pw hU hW hP hK hD hN⟩⟩ rfl rfl hl.1 rfl (lv_room (Nat.le_of_ble_eq_true rfl)) dX7_name_91 ⟨Nat.zero_le _, Nat.zero_le _⟩) hS (fun q _ h => h) (fun q h => h) (fun F80 t H1 locs ht hvm hw hB hz1 hk1 hS => ?_)
                obtain ⟨hP, hK1⟩ := hB
                rw [ht] at hP
                generalize H1 = H at hP hS ⊢
                obtain ⟨h81, h83, hI, hfr1, hzf, h82⟩ := hw
                have o84 : F80 (A 0) = .inl (cs 0, 1600, .inl f49) := (hfr1 _ (by rw [(y_k0 hA)]; decide)).trans o50
                obtain ⟨z85, q86, oY87, bz88⟩ := y_opY hI ha0
                have hzf : ∀ k, k ∈ ([1, 2, 3, 4, 7, 8, 11, 15, 16, 19, 25, 26, 27, 31, 32] : List Nat) → z85 k = z41 k := fun k hk => by have q9 := hzf k hk; rw [y_fiZ oY87 (s_sub (by decide) hk), y_fiZ oY43 (s_sub (by decide) hk)] at q9; exact q9
                have hz0 : ∀ k, k ∈ ([1, 3, 7, 8, 15, 16, 19, 25, 26, 27, 31, 32] : List Nat) → z85 k = z0 k := fun k hk => (hzf k (s_sub (by decide) hk)).trans (hz0 k hk)
                have ev45 : v45 = z85 2 := ev45.trans (hzf 2 (by decide)).symm
                have ev47 : v47 = z85 3 := ev47.trans (hzf 3 (by decide)).symm
                have ev61 : v61 = z85 11 := ev61.trans (hzf 11 (by decide)).symm
                have hfr : ∀ b, K b ∉ [9] → F80 b = F b := fun b hb9 => (hfr1 b (fun q => hb9 (s_sub (by decide) q))).trans (hfr b hb9)
                obtain ⟨v89, ev89⟩ : ∃ y : Int32, y = z85 5 := ⟨_, rfl⟩
                have h82 : (¬ v89.toInt = 0) := by have q9 := h82; rw [y_fiZ oY87 (k := 5) (by decide), ← ev89] at q9; exact q9
                refine lv_iconst (v := 0) hx hb dX7_name_94 (by decide) ?_
                exact W.iret (v := 0) hx hb hr (fun t ht hW => ⟨⟨0, F80, rfl, ⟨trivial, trivial, hI, hfr, fun k hk => (y_fiZ oY87 (s_sub (by decide) hk)).trans ((hz0 k hk).trans (y_fiZ oY0 (s_sub (by decide) hk)).symm), (by rw [y_fiZ oY0 (k := 5) (by decide), ← eF_5, y_fiZ oY87 (k := 5) (by decide), ← ev89]; omega)⟩, by rw [ht]; exact hP, va_K.moved hW.alike hK⟩, hS.F ht⟩) hS.2.2 dX7_name_95
        · have c27 := mt (ax_eq (n := (-1)) (by decide)).mpr c27
          exact K24 _ _ _ ⟨F19, _, rfl, lv_sub hl [0] rfl, hP, hS, hI, hfr, (fun k hk => (y_fiZ oY25 (s_sub (by decide) hk)).trans (hz0 k hk)), (by omega)⟩
    · have c3 := mt (ax_eq (n := 0) (by decide)).mpr c3
      refine lv_iconst (v := 0) hx hb dX7_name_7 (by decide) ?_
      exact W.iret (v := 0) hx hb hr (fun t ht hW => ⟨⟨0, F, rfl, ⟨trivial, trivial, hI, hfr, fun k hk => (y_fiZ oY0 (s_sub (by decide) hk)).trans ((hz0 k hk).trans (y_fiZ oY0 (s_sub (by decide) hk)).symm), (by rw [y_fiZ oY0 (k := 5) (by decide), ← eF_5]; omega)⟩, by rw [ht]; exact hP, va_K.moved hW.alike hK⟩, hS.F ht⟩) hS.2.2 dX7_name_8
  · intro g H locs hq
    obtain ⟨F91, ls, rfl, hl, hP, hS, hI, hfr, hz0, h90⟩ := hq
    obtain ⟨z92, q93, oY94, bz95⟩ := y_opY hI ha0
    have hz0 : ∀ k, k ∈ ([1, 3, 7, 8, 15, 16, 19, 25, 26, 27, 31, 32] : List Nat) → z92 k = z0 k := fun k hk => (y_fiZ oY94 (s_sub (by decide) hk)).symm.trans (hz0 k hk)
    refine lv_aload_n hx hb dX7_name_24 rfl (lv_at hl 0 rfl) ?_
    refine lv_iconst (v := 1) hx hb dX7_name_25 (by decide) ?_
    refine lv_aload_n hx hb dX7_name_26 rfl (lv_at hl 0 rfl) ?_
    refine th_get (D := (dC, dI)) (ci := 7) (v := .int (z92 2)) (C := RX7) (T := TX7) (N := 34) hx hb hts inX7 hown hK hP (hLK _ ha0 (by decide)) oY94 rfl 2 (by decide) (hts _ T_272) (fun _ h9 => h9) rfl dX7_name_27 ?_
    refine lv_topi (fun v96 ev96 => ?_)
    have qv96 : 0 ≤ v96.toInt ∧ v96.toInt ≤ 1600 := by rw [ev96]; exact y_bY2 bz95
    refine va_callv (va_runV (As := [.int 1, .int v96]) (rest := []) ⟨hx, hb, hml, hown, hts⟩ (y_X7_fail l dC dI H.size hLK A hA F91 a0 1 v96 ha0 (by decide) hI) (cwV 2 hts (ax_gV T_290 T_291 T_292 T_265 T_27) rfl rfl rfl (by decide +kernel) ⟨Nat.le_of_ble_eq_true rfl, Nat.le_of_ble_eq_true rfl⟩) ⟨fun a U g mk q => ⟨q.1, s_pc rfl rfl q.2⟩, s_recv hK hP (hLK _ ha0 (by decide)) (ci := 7) rfl oY94, fun U hU hW => ⟨rfl, s_pw hU hW hP hK hD hN⟩⟩ rfl rfl hl.1 rfl (lv_room (Nat.le_of_ble_eq_true rfl)) dX7_name_30 ⟨Nat.zero_le _, Nat.zero_le _⟩) hS (fun q _ h => h) (fun q h => h) (fun F98 t H1 locs ht hvm hw hB hz1 hk1 hS => ?_)
    obtain ⟨hP, hK1⟩ := hB
    rw [ht] at hP
    generalize H1 = H at hP hS ⊢
    obtain ⟨h99, h101, hI, hfr1, hzf, h100⟩ := hw
    obtain ⟨z102, q103, oY104, bz105⟩ := y_opY hI ha0
    have hzf : ∀ k, k ∈ ([1, 2, 3, 4, 7, 8, 11, 15, 16, 19, 25, 26, 27, 31, 32] : List Nat) → z102 k = z92 k := fun k hk => by have q9 := hzf k hk; rw [y_fiZ oY104 (s_sub (by decide) hk), y_fiZ oY94 (s_sub (by decide) hk)] at q9; exact q9
    have hz0 : ∀ k, k ∈ ([1, 3, 7, 8, 15, 16, 19, 25, 26, 27, 31, 32] : List Nat) → z102 k = z0 k := fun k hk => (hzf k (s_sub (by decide) hk)).trans (hz0 k hk)
    have ev96 : v96 = z102 2 := ev96.trans (hzf 2 (by decide)).symm
    have hfr : ∀ b, K b ∉ [9] → F98 b = F b := fun b hb9 => (hfr1 b (fun q => hb9 (s_sub (by decide) q))).trans (hfr b hb9)
    obtain ⟨v106, ev106⟩ : ∃ y : Int32, y = z102 5 := ⟨_, rfl⟩
    have h100 : (¬ v106.toInt = 0) := by have q9 := h100; rw [y_fiZ oY104 (k := 5) (by decide), ← ev106] at q9; exact q9
    refine lv_iconst (v := 0) hx hb dX7_name_33 (by decide) ?_
    exact W.iret (v := 0) hx hb hr (fun t ht hW => ⟨⟨0, F98, rfl, ⟨trivial, trivial, hI, hfr, fun k hk => (y_fiZ oY104 (s_sub (by decide) hk)).trans ((hz0 k hk).trans (y_fiZ oY0 (s_sub (by decide) hk)).symm), (by rw [y_fiZ oY0 (k := 5) (by decide), ← eF_5, y_fiZ oY104 (k := 5) (by decide), ← ev106]; omega)⟩, by rw [ht]; exact hP, va_K.moved hW.alike hK⟩, hS.F ht⟩) hS.2.2 dX7_name_34
  · intro g H locs hq
    obtain ⟨F109, ls, w2, rfl, hl, hP, hS, hI, hfr, hz0, h107, h108⟩ := hq
    obtain ⟨z110, q111, oY112, bz113⟩ := y_opY hI ha0
    have hz0 : ∀ k, k ∈ ([1, 3, 7, 8, 15, 16, 19, 25, 26, 27, 31, 32] : List Nat) → z110 k = z0 k := fun k hk => (y_fiZ oY112 (s_sub (by decide) hk)).symm.trans (hz0 k hk)
    refine lv_aload_n hx hb dX7_name_129 rfl (lv_at hl 0 rfl) ?_
    refine lv_aload_n hx hb dX7_name_130 rfl (lv_at hl 0 rfl) ?_
    refine th_get (D := (dC, dI)) (ci := 7) (v := .int (z110 2)) (C := RX7) (T := TX7) (N := 34) hx hb hts inX7 hown hK hP (hLK _ ha0 (by decide)) oY112 rfl 2 (by decide) (hts _ T_272) (fun _ h9 => h9) rfl dX7_name_131 ?_
    refine lv_topi (fun v114 ev114 => ?_)
    have qv114 : 0 ≤ v114.toInt ∧ v114.toInt ≤ 1600 := by rw [ev114]; exact y_bY2 bz113
    refine th_put (D := (dC, dI)) (ci := 7) (v := .int v114) (ty := .int) (C := RX7) (T := TX7) (N := 34) hx hb hts inX7 tyX7 tyX7_ok nmX7 hown hK hP hD hS (hLK _ ha0 (by decide)) oY112 rfl 4 (by decide) (hts _ T_296) (fun _ h9 => h9) rfl (by decide +kernel) rfl rfl (Nat.le_of_ble_eq_true rfl) dX7_name_134 (fun H locs hP hS => ?_)
    rw [y_fs4] at hP
    obtain ⟨z115, hz116⟩ : ∃ g : Nat → Int32, g = upd z110 4 v114 := ⟨_, rfl⟩
    rw [← hz116] at hP
    have bz117 : y_bY z115 := by rw [hz116]; exact y_bp4 bz113
    have hP : va_P (dC, dI) vwCl (va_pl L (va_up F109 a0 (.inr (7, y_fl A z115 q111)))) H := hP
    obtain ⟨F118, hF119⟩ : ∃ G : Nat → va_E, G = va_up F109 a0 (.inr (7, y_fl A z115 q111)) := ⟨_, rfl⟩
    rw [← hF119] at hP
    have hI : y_I K cs A F118 := by rw [hF119]; exact y_clY hA hI ha0 bz117
    have hfr : ∀ b, K b ∉ [9] → F118 b = F b := by rw [hF119]; exact s_fr hfr ha0 (by decide)
    have oY120 : F118 a0 = .inr (7, y_fl A z115 q111) := by rw [hF119]; exact th_up
    have hz0 : ∀ k, k ∈ ([1, 3, 7, 8, 15, 16, 19, 25, 26, 27, 31, 32] : List Nat) → z115 k = z0 k := fun k hk => by rw [hz116]; exact (y_un (fun q => absurd hk (by rw [q]; decide))).trans (hz0 k hk)
    have ev114 : v114 = z115 2 := by rw [hz116]; exact ev114.trans (y_un (by decide)).symm
    obtain ⟨v121, ev121⟩ : ∃ y : Int32, y = z115 4 := ⟨_, rfl⟩
    have qv121 : v121.toInt = v114.toInt := by rw [ev121, hz116, y_ue]
    refine lv_iload_n hx hb dX7_name_137 rfl (lv_at hl 1 rfl) ?_
    obtain ⟨v122, ev122⟩ : ∃ y : Int32, y = z115 5 := ⟨_, rfl⟩
    exact W.iret (v := w2) hx hb hr (fun t ht hW => ⟨⟨w2, F118, rfl, ⟨trivial, trivial, hI, hfr, fun k hk => (y_fiZ oY120 (s_sub (by decide) hk)).trans ((hz0 k hk).trans (y_fiZ oY0 (s_sub (by decide) hk)).symm), (by rw [y_fiZ oY0 (k := 5) (by decide), ← eF_5, y_fiZ oY120 (k := 5) (by decide), ← ev122]; omega)⟩, by rw [ht]; exact hP, va_K.moved hW.alike hK⟩, hS.F ht⟩) hS.2.2 dX7_name_138
