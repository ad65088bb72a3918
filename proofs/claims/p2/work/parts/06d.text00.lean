set_option maxHeartbeats 4000000 in
set_option maxRecDepth 100000 in
theorem y_X7_isIn (l : Launch) (dC : Nat → ClassId) (dI : Nat → Nat → Nat) (sz : Nat) {L : List Nat} {cs : Nat → ClassId} (F : Nat → va_E) (y0 : Int64) (y1 : Int64) (y2 : Int64)  : Met l yX7_isIn (Cond.code yX7_isIn cX7_isIn 6 (some .boolean) :: T0) ({ frames := 0, cells := 0, slots := 0, locals := 0 }) (va_Pc [.long y0, .long y1, .long y2] (s_W dC dI sz L F [(cs 0, .int), (cs 1, .byte), (cs 2, .long), (cs 3, .object RX5), (cs 4, .object RX4), (cs 5, .array .int), (cs 6, .char), (cs 7, .boolean)])) (va_Qi (fun (r : Int32) (G : Nat → va_E) => (0 ≤ r.toInt ∧ r.toInt ≤ 1) ∧ True ∧ G = F ∧ ((r.toInt = 0 ∧ (y0.toInt < y1.toInt ∨ y2.toInt < y0.toInt)) ∨ (r.toInt = 1 ∧ y1.toInt ≤ y0.toInt ∧ y0.toInt ≤ y2.toInt))) (fun (G : Nat → va_E) (t : State) => va_P (dC, dI) vwCl (va_pl L G) t.heap ∧ va_K (dC, dI) vwCl [(cs 0, .int), (cs 1, .byte), (cs 2, .long), (cs 3, .object RX5), (cs 4, .object RX4), (cs 5, .array .int), (cs 6, .char), (cs 7, .boolean)] t) (fun q => q ∈ L)) 0 0 (fun q => q ∈ L) := by
  refine Met.ofW (cc := cX7_isIn) (maxL := 6) (ret := (some .boolean)) (by decide) rfl ?_
  intro p e s m args below meth c s₁ B hml hv
  obtain ⟨rfl, hsz, hP, hK, hD, hN⟩ := hv
  have hx := B.exec
  have hb := B.bytes
  have hr := B.returns
  have hts : ∀ w ∈ T0, w.before _ s = true := fun w h => atoms_spec (ws := Cond.code yX7_isIn cX7_isIn 6 (some .boolean) :: T0) B.pre w (List.mem_cons_of_mem _ h)
  have hown : s.vm.findClass RX7 = some m.cls := findClass_of_methodNamed B.named
  have hlocks := B.notSynchronized
  have hS : va_S (fun q => q ∈ L) s.heap s.heap [] := va_S.rf
  have hl := lv_entry ([.long y0, .long y1, .long y2]) (n := 6) (Nat.le_of_ble_eq_true rfl)
  rw [lg_entry_eq]
  generalize (lg_sl ([.long y0, .long y1, .long y2]) ++ List.replicate (6 - (lg_sl ([.long y0, .long y1, .long y2])).length) Slot.unset).toArray = ls at hl ⊢
  have hl : lv_has ls 6 [(0, .long y0), (2, .long y1), (4, .long y2)] := hl
  refine s_gen hP hS (fun H locs hP hS => ?_)
  refine lv_lload_n hx hb dX7_isIn_0 rfl (lv_at hl 0 rfl) ?_
  refine lv_lload_n hx hb dX7_isIn_1 rfl (lv_at hl 1 rfl) ?_
  refine W.lcmp hx hb dX7_isIn_2 ?_
  refine lv_topi (fun v1 ev1 => ?_)
  have qv1 : (v1.toInt < 0 ↔ y0.toInt < y1.toInt) ∧ (0 < v1.toInt ↔ y1.toInt < y0.toInt) := by rw [ev1]; exact y_cmp
  refine lv_if_lt (tgt := 17) hx hb dX7_isIn_3 (by decide) (fun c2 => ?_) (fun c2 => ?_)
  · have c2 := (ax_lt (n := 0) (by decide)).mp c2
    refine lv_iconst (v := 0) hx hb dX7_isIn_17 (by decide) ?_
    have h3 : (0 : Int32).toInt = 0 := by decide
    exact W.zret (v := 0) (ty := .boolean) hx hb hr (by decide) (fun t ht hW => ⟨⟨0, F, rfl, ⟨(by decide), trivial, rfl, (show ((0 = 0 ∧ (y0.toInt < y1.toInt ∨ y2.toInt < y0.toInt)) ∨ (0 = 1 ∧ y1.toInt ≤ y0.toInt ∧ y0.toInt ≤ y2.toInt)) from (Or.inl ⟨by decide, by omega⟩))⟩, by rw [ht]; exact hP, va_K.moved hW.alike hK⟩, hS.F ht⟩) hS.2.2 dX7_isIn_18
  · have c2 := mt (ax_lt (n := 0) (by decide)).mpr c2
    refine lv_lload_n hx hb dX7_isIn_6 rfl (lv_at hl 0 rfl) ?_
    refine lv_lload hx hb dX7_isIn_7 (lv_at hl 2 rfl) ?_
    refine W.lcmp hx hb dX7_isIn_9 ?_
    refine lv_topi (fun v4 ev4 => ?_)
    have qv4 : (v4.toInt < 0 ↔ y0.toInt < y2.toInt) ∧ (0 < v4.toInt ↔ y2.toInt < y0.toInt) := by rw [ev4]; exact y_cmp
    refine lv_if_gt (tgt := 17) hx hb dX7_isIn_10 (by decide) (fun c5 => ?_) (fun c5 => ?_)
    · have c5 := (ax_gt (n := 0) (by decide)).mp c5
      refine lv_iconst (v := 0) hx hb dX7_isIn_17 (by decide) ?_
      have h6 : (0 : Int32).toInt = 0 := by decide
      exact W.zret (v := 0) (ty := .boolean) hx hb hr (by decide) (fun t ht hW => ⟨⟨0, F, rfl, ⟨(by decide), trivial, rfl, (show ((0 = 0 ∧ (y0.toInt < y1.toInt ∨ y2.toInt < y0.toInt)) ∨ (0 = 1 ∧ y1.toInt ≤ y0.toInt ∧ y0.toInt ≤ y2.toInt)) from (Or.inl ⟨by decide, by omega⟩))⟩, by rw [ht]; exact hP, va_K.moved hW.alike hK⟩, hS.F ht⟩) hS.2.2 dX7_isIn_18
    · have c5 := mt (ax_gt (n := 0) (by decide)).mpr c5
      refine lv_iconst (v := 1) hx hb dX7_isIn_13 (by decide) ?_
      refine lv_goto (tgt := 18) hx hb dX7_isIn_14 (by decide) ?_
      have h7 : (1 : Int32).toInt = 1 := by decide
      exact W.zret (v := 1) (ty := .boolean) hx hb hr (by decide) (fun t ht hW => ⟨⟨1, F, rfl, ⟨(by decide), trivial, rfl, (show ((1 = 0 ∧ (y0.toInt < y1.toInt ∨ y2.toInt < y0.toInt)) ∨ (1 = 1 ∧ y1.toInt ≤ y0.toInt ∧ y0.toInt ≤ y2.toInt)) from (Or.inr ⟨by decide, by omega⟩))⟩, by rw [ht]; exact hP, va_K.moved hW.alike hK⟩, hS.F ht⟩) hS.2.2 dX7_isIn_18

set_option maxHeartbeats 4000000 in
set_option maxRecDepth 100000 in
theorem y_X7_flag (l : Launch) (dC : Nat → ClassId) (dI : Nat → Nat → Nat) (sz : Nat) {L : List Nat} {cs : Nat → ClassId} (F : Nat → va_E) (x0 : Int32) (hx0 : 0 ≤ x0.toInt ∧ x0.toInt ≤ 1) : Met l yX7_flag (Cond.code yX7_flag cX7_flag 1 (some .int) :: T0) ({ frames := 0, cells := 0, slots := 0, locals := 0 }) (va_Pc [.int x0] (s_W dC dI sz L F [(cs 0, .int), (cs 1, .byte), (cs 2, .long), (cs 3, .object RX5), (cs 4, .object RX4), (cs 5, .array .int), (cs 6, .char), (cs 7, .boolean)])) (va_Qi (fun (r : Int32) (G : Nat → va_E) => (0 ≤ r.toInt ∧ r.toInt ≤ 1) ∧ (¬ r = 0 → 1 ≤ x0.toInt ∧ x0.toInt ≤ 1) ∧ G = F ∧ True) (fun (G : Nat → va_E) (t : State) => va_P (dC, dI) vwCl (va_pl L G) t.heap ∧ va_K (dC, dI) vwCl [(cs 0, .int), (cs 1, .byte), (cs 2, .long), (cs 3, .object RX5), (cs 4, .object RX4), (cs 5, .array .int), (cs 6, .char), (cs 7, .boolean)] t) (fun q => q ∈ L)) 0 0 (fun q => q ∈ L) := by
  refine Met.ofW (cc := cX7_flag) (maxL := 1) (ret := (some .int)) (by decide) rfl ?_
  intro p e s m args below meth c s₁ B hml hv
  obtain ⟨rfl, hsz, hP, hK, hD, hN⟩ := hv
  have hx := B.exec
  have hb := B.bytes
  have hr := B.returns
  have hts : ∀ w ∈ T0, w.before _ s = true := fun w h => atoms_spec (ws := Cond.code yX7_flag cX7_flag 1 (some .int) :: T0) B.pre w (List.mem_cons_of_mem _ h)
  have hown : s.vm.findClass RX7 = some m.cls := findClass_of_methodNamed B.named
  have hlocks := B.notSynchronized
  have hS : va_S (fun q => q ∈ L) s.heap s.heap [] := va_S.rf
  have hl := lv_entry ([.int x0]) (n := 1) (Nat.le_of_ble_eq_true rfl)
  rw [lg_entry_eq]
  generalize (lg_sl ([.int x0]) ++ List.replicate (1 - (lg_sl ([.int x0])).length) Slot.unset).toArray = ls at hl ⊢
  have hl : lv_has ls 1 [(0, .int x0)] := hl
  refine s_gen hP hS (fun H locs hP hS => ?_)
  refine lv_iload_n hx hb dX7_flag_0 rfl (lv_at hl 0 rfl) ?_
  refine lv_if_eq (tgt := 8) hx hb dX7_flag_1 (by decide) (fun c1 => ?_) (fun c1 => ?_)
  · have c1 := (ax_eq (n := 0) (by decide)).mp c1
    refine lv_iconst (v := 0) hx hb dX7_flag_8 (by decide) ?_
    have h2 : (0 : Int32).toInt = 0 := by decide
    exact W.iret (v := 0) hx hb hr (fun t ht hW => ⟨⟨0, F, rfl, ⟨(by decide), (fun q => absurd (by decide) q), rfl, trivial⟩, by rw [ht]; exact hP, va_K.moved hW.alike hK⟩, hS.F ht⟩) hS.2.2 dX7_flag_9
  · have c1 := mt (ax_eq (n := 0) (by decide)).mpr c1
    refine lv_iconst (v := 1) hx hb dX7_flag_4 (by decide) ?_
    refine lv_goto (tgt := 9) hx hb dX7_flag_5 (by decide) ?_
    have h3 : (1 : Int32).toInt = 1 := by decide
    exact W.iret (v := 1) hx hb hr (fun t ht hW => ⟨⟨1, F, rfl, ⟨(by decide), (fun q => ⟨by omega, by omega⟩), rfl, trivial⟩, by rw [ht]; exact hP, va_K.moved hW.alike hK⟩, hS.F ht⟩) hS.2.2 dX7_flag_9

set_option maxHeartbeats 4000000 in
set_option maxRecDepth 100000 in
theorem y_X7_isLetter (l : Launch) (dC : Nat → ClassId) (dI : Nat → Nat → Nat) (sz : Nat) {L : List Nat} {cs : Nat → ClassId} (F : Nat → va_E) (x0 : Int32)  : Met l yX7_isLetter (Cond.code yX7_isLetter cX7_isLetter 1 (some .boolean) :: T0) ({ frames := 0, cells := 0, slots := 0, locals := 0 }) (va_Pc [.int x0] (s_W dC dI sz L F [(cs 0, .int), (cs 1, .byte), (cs 2, .long), (cs 3, .object RX5), (cs 4, .object RX4), (cs 5, .array .int), (cs 6, .char), (cs 7, .boolean)])) (va_Qi (fun (r : Int32) (G : Nat → va_E) => (0 ≤ r.toInt ∧ r.toInt ≤ 1) ∧ (¬ r = 0 → 97 ≤ x0.toInt ∧ x0.toInt ≤ 122) ∧ G = F ∧ True) (fun (G : Nat → va_E) (t : State) => va_P (dC, dI) vwCl (va_pl L G) t.heap ∧ va_K (dC, dI) vwCl [(cs 0, .int), (cs 1, .byte), (cs 2, .long), (cs 3, .object RX5), (cs 4, .object RX4), (cs 5, .array .int), (cs 6, .char), (cs 7, .boolean)] t) (fun q => q ∈ L)) 0 0 (fun q => q ∈ L) := by
  refine Met.ofW (cc := cX7_isLetter) (maxL := 1) (ret := (some .boolean)) (by decide) rfl ?_
  intro p e s m args below meth c s₁ B hml hv
  obtain ⟨rfl, hsz, hP, hK, hD, hN⟩ := hv
  have hx := B.exec
  have hb := B.bytes
  have hr := B.returns
  have hts : ∀ w ∈ T0, w.before _ s = true := fun w h => atoms_spec (ws := Cond.code yX7_isLetter cX7_isLetter 1 (some .boolean) :: T0) B.pre w (List.mem_cons_of_mem _ h)
  have hown : s.vm.findClass RX7 = some m.cls := findClass_of_methodNamed B.named
  have hlocks := B.notSynchronized
  have hS : va_S (fun q => q ∈ L) s.heap s.heap [] := va_S.rf
  have hl := lv_entry ([.int x0]) (n := 1) (Nat.le_of_ble_eq_true rfl)
  rw [lg_entry_eq]
  generalize (lg_sl ([.int x0]) ++ List.replicate (1 - (lg_sl ([.int x0])).length) Slot.unset).toArray = ls at hl ⊢
  have hl : lv_has ls 1 [(0, .int x0)] := hl
  refine s_gen hP hS (fun H locs hP hS => ?_)
  refine lv_iload_n hx hb dX7_isLetter_0 rfl (lv_at hl 0 rfl) ?_
  refine lv_bipush (v := 97) hx hb dX7_isLetter_1 (by decide) ?_
  refine lv_icmp_lt (tgt := 16) hx hb dX7_isLetter_3 (by decide) (fun c1 => ?_) (fun c1 => ?_)
  · have c1 := (ax_lt (n := 97) (by decide)).mp c1
    refine lv_iconst (v := 0) hx hb dX7_isLetter_16 (by decide) ?_
    have h2 : (0 : Int32).toInt = 0 := by decide
    exact W.zret (v := 0) (ty := .boolean) hx hb hr (by decide) (fun t ht hW => ⟨⟨0, F, rfl, ⟨(by decide), (fun q => absurd (by decide) q), rfl, trivial⟩, by rw [ht]; exact hP, va_K.moved hW.alike hK⟩, hS.F ht⟩) hS.2.2 dX7_isLetter_17
  · have c1 := mt (ax_lt (n := 97) (by decide)).mpr c1
    refine lv_iload_n hx hb dX7_isLetter_6 rfl (lv_at hl 0 rfl) ?_
    refine lv_bipush (v := 122) hx hb dX7_isLetter_7 (by decide) ?_
    refine lv_icmp_gt (tgt := 16) hx hb dX7_isLetter_9 (by decide) (fun c3 => ?_) (fun c3 => ?_)
    · have c3 := (ax_gt (n := 122) (by decide)).mp c3
      refine lv_iconst (v := 0) hx hb dX7_isLetter_16 (by decide) ?_
      have h4 : (0 : Int32).toInt = 0 := by decide
      exact W.zret (v := 0) (ty := .boolean) hx hb hr (by decide) (fun t ht hW => ⟨⟨0, F, rfl, ⟨(by decide), (fun q => absurd (by decide) q), rfl, trivial⟩, by rw [ht]; exact hP, va_K.moved hW.alike hK⟩, hS.F ht⟩) hS.2.2 dX7_isLetter_17
    · have c3 := mt (ax_gt (n := 122) (by decide)).mpr c3
      refine lv_iconst (v := 1) hx hb dX7_isLetter_12 (by decide) ?_
      refine lv_goto (tgt := 17) hx hb dX7_isLetter_13 (by decide) ?_
      have h5 : (1 : Int32).toInt = 1 := by decide
      exact W.zret (v := 1) (ty := .boolean) hx hb hr (by decide) (fun t ht hW => ⟨⟨1, F, rfl, ⟨(by decide), (fun q => ⟨by omega, by omega⟩), rfl, trivial⟩, by rw [ht]; exact hP, va_K.moved hW.alike hK⟩, hS.F ht⟩) hS.2.2 dX7_isLetter_17

set_option maxHeartbeats 4000000 in
set_option maxRecDepth 100000 in
theorem y_X7_isDigit (l : Launch) (dC : Nat → ClassId) (dI : Nat → Nat → Nat) (sz : Nat) {L : List Nat} {cs : Nat → ClassId} (F : Nat → va_E) (x0 : Int32)  : Met l yX7_isDigit (Cond.code yX7_isDigit cX7_isDigit 1 (some .boolean) :: T0) ({ frames := 0, cells := 0, slots := 0, locals := 0 }) (va_Pc [.int x0] (s_W dC dI sz L F [(cs 0, .int), (cs 1, .byte), (cs 2, .long), (cs 3, .object RX5), (cs 4, .object RX4), (cs 5, .array .int), (cs 6, .char), (cs 7, .boolean)])) (va_Qi (fun (r : Int32) (G : Nat → va_E) => (0 ≤ r.toInt ∧ r.toInt ≤ 1) ∧ (¬ r = 0 → 48 ≤ x0.toInt ∧ x0.toInt ≤ 57) ∧ G = F ∧ True) (fun (G : Nat → va_E) (t : State) => va_P (dC, dI) vwCl (va_pl L G) t.heap ∧ va_K (dC, dI) vwCl [(cs 0, .int), (cs 1, .byte), (cs 2, .long), (cs 3, .object RX5), (cs 4, .object RX4), (cs 5, .array .int), (cs 6, .char), (cs 7, .boolean)] t) (fun q => q ∈ L)) 0 0 (fun q => q ∈ L) := by
  refine Met.ofW (cc := cX7_isDigit) (maxL := 1) (ret := (some .boolean)) (by decide) rfl ?_
  intro p e s m args below meth c s₁ B hml hv
  obtain ⟨rfl, hsz, hP, hK, hD, hN⟩ := hv
  have hx := B.exec
  have hb := B.bytes
  have hr := B.returns
  have hts : ∀ w ∈ T0, w.before _ s = true := fun w h => atoms_spec (ws := Cond.code yX7_isDigit cX7_isDigit 1 (some .boolean) :: T0) B.pre w (List.mem_cons_of_mem _ h)
  have hown : s.vm.findClass RX7 = some m.cls := findClass_of_methodNamed B.named
  have hlocks := B.notSynchronized
  have hS : va_S (fun q => q ∈ L) s.heap s.heap [] := va_S.rf
  have hl := lv_entry ([.int x0]) (n := 1) (Nat.le_of_ble_eq_true rfl)
  rw [lg_entry_eq]
  generalize (lg_sl ([.int x0]) ++ List.replicate (1 - (lg_sl ([.int x0])).length) Slot.unset).toArray = ls at hl ⊢
  have hl : lv_has ls 1 [(0, .int x0)] := hl
  refine s_gen hP hS (fun H locs hP hS => ?_)
  refine lv_iload_n hx hb dX7_isDigit_0 rfl (lv_at hl 0 rfl) ?_
  refine lv_bipush (v := 48) hx hb dX7_isDigit_1 (by decide) ?_
  refine lv_icmp_lt (tgt := 16) hx hb dX7_isDigit_3 (by decide) (fun c1 => ?_) (fun c1 => ?_)
  · have c1 := (ax_lt (n := 48) (by decide)).mp c1
    refine lv_iconst (v := 0) hx hb dX7_isDigit_16 (by decide) ?_
    have h2 : (0 : Int32).toInt = 0 := by decide
    exact W.zret (v := 0) (ty := .boolean) hx hb hr (by decide) (fun t ht hW => ⟨⟨0, F, rfl, ⟨(by decide), (fun q => absurd (by decide) q), rfl, trivial⟩, by rw [ht]; exact hP, va_K.moved hW.alike hK⟩, hS.F ht⟩) hS.2.2 dX7_isDigit_17
  · have c1 := mt (ax_lt (n := 48) (by decide)).mpr c1
    refine lv_iload_n hx hb dX7_isDigit_6 rfl (lv_at hl 0 rfl) ?_
    refine lv_bipush (v := 57) hx hb dX7_isDigit_7 (by decide) ?_
    refine lv_icmp_gt (tgt := 16) hx hb dX7_isDigit_9 (by decide) (fun c3 => ?_) (fun c3 => ?_)
    · have c3 := (ax_gt (n := 57) (by decide)).mp c3
      refine lv_iconst (v := 0) hx hb dX7_isDigit_16 (by decide) ?_
      have h4 : (0 : Int32).toInt = 0 := by decide
      exact W.zret (v := 0) (ty := .boolean) hx hb hr (by decide) (fun t ht hW => ⟨⟨0, F, rfl, ⟨(by decide), (fun q => absurd (by decide) q), rfl, trivial⟩, by rw [ht]; exact hP, va_K.moved hW.alike hK⟩, hS.F ht⟩) hS.2.2 dX7_isDigit_17
    · have c3 := mt (ax_gt (n := 57) (by decide)).mpr c3
      refine lv_iconst (v := 1) hx hb dX7_isDigit_12 (by decide) ?_
      refine lv_goto (tgt := 17) hx hb dX7_isDigit_13 (by decide) ?_
      have h5 : (1 : Int32).toInt = 1 := by decide
      exact W.zret (v := 1) (ty := .boolean) hx hb hr (by decide) (fun t ht hW => ⟨⟨1, F, rfl, ⟨(by decide), (fun q => ⟨by omega, by omega⟩), rfl, trivial⟩, by rw [ht]; exact hP, va_K.moved hW.alike hK⟩, hS.F ht⟩) hS.2.2 dX7_isDigit_17

set_option maxHeartbeats 4000000 in
set_option maxRecDepth 100000 in
theorem y_X7_refuses (l : Launch) (dC : Nat → ClassId) (dI : Nat → Nat → Nat) (sz : Nat) {L : List Nat} {K : Nat → Nat} {cs : Nat → ClassId} (hLK : ∀ a {k : Nat}, K a = k → k ≠ 0 → a ∈ L) (A : Nat → Nat) (hA : y_A K A) (F : Nat → va_E) (a0 : Nat) (x1 : Int32) (ha0 : K a0 = 9) (hx1 : 0 ≤ x1.toInt ∧ x1.toInt ≤ 5) (hI : y_I K cs A F) : Met l yX7_refuses (Cond.code yX7_refuses cX7_refuses 2 (some .int) :: T0) ({ frames := 0, cells := 0, slots := 0, locals := 0 }) (va_Pc [.ref a0, .int x1] (s_W dC dI sz L F [(cs 0, .int), (cs 1, .byte), (cs 2, .long), (cs 3, .object RX5), (cs 4, .object RX4), (cs 5, .array .int), (cs 6, .char), (cs 7, .boolean)])) (va_Qi (fun (r : Int32) (G : Nat → va_E) => (-1 ≤ r.toInt ∧ r.toInt ≤ -1) ∧ True ∧ y_I K cs A G ∧ (∀ b, K b ∉ [59] → G b = F b) ∧ (∀ k, k ∈ ([1, 2, 3, 4, 5, 6, 7, 8, 11, 15, 16, 19, 25, 26, 27, 31, 32] : List Nat) → y_fi G a0 k = y_fi F a0 k) ∧ True) (fun (G : Nat → va_E) (t : State) => va_P (dC, dI) vwCl (va_pl L G) t.heap ∧ va_K (dC, dI) vwCl [(cs 0, .int), (cs 1, .byte), (cs 2, .long), (cs 3, .object RX5), (cs 4, .object RX4), (cs 5, .array .int), (cs 6, .char), (cs 7, .boolean)] t) (fun q => q ∈ L)) 0 0 (fun q => q ∈ L) := by
  refine Met.ofW (cc := cX7_refuses) (maxL := 2) (ret := (some .int)) (by decide) rfl ?_
  intro p e s m args below meth c s₁ B hml hv
  obtain ⟨rfl, hsz, hP, hK, hD, hN⟩ := hv
  have hx := B.exec
  have hb := B.bytes
  have hr := B.returns
  have hts : ∀ w ∈ T0, w.before _ s = true := fun w h => atoms_spec (ws := Cond.code yX7_refuses cX7_refuses 2 (some .int) :: T0) B.pre w (List.mem_cons_of_mem _ h)
  have hown : s.vm.findClass RX7 = some m.cls := findClass_of_methodNamed B.named
  have hlocks := B.notSynchronized
  have hS : va_S (fun q => q ∈ L) s.heap s.heap [] := va_S.rf
  have hfr : ∀ b, K b ∉ [59] → F b = F b := fun _ _ => rfl
  have hl := lv_entry ([.ref a0, .int x1]) (n := 2) (Nat.le_of_ble_eq_true rfl)
  rw [lg_entry_eq]
  generalize (lg_sl ([.ref a0, .int x1]) ++ List.replicate (2 - (lg_sl ([.ref a0, .int x1])).length) Slot.unset).toArray = ls at hl ⊢
  have hl : lv_has ls 2 [(0, .ref a0), (1, .int x1)] := hl
  refine s_gen hP hS (fun H locs hP hS => ?_)
  obtain ⟨z0, q0, oY0, bz0, bq0⟩ := y_opY hI ha0
  have hz0 : ∀ k, k ∈ ([1, 2, 3, 4, 5, 6, 7, 8, 11, 15, 16, 19, 25, 26, 27, 31, 32] : List Nat) → z0 k = z0 k := fun _ _ => rfl
  refine lv_aload_n hx hb dX7_refuses_0 rfl (lv_at hl 0 rfl) ?_
  refine th_get (D := (dC, dI)) (ci := 7) (v := .ref (A 9)) (C := RX7) (T := TX7) (N := 34) hx hb hts inX7 hown hK hP (hLK _ ha0 (by decide)) oY0 rfl 9 (by decide) (hts _ T_242) (fun _ h9 => h9) rfl dX7_refuses_1 ?_
  refine lv_iload_n hx hb dX7_refuses_4 rfl (lv_at hl 1 rfl) ?_
  refine lv_dup2_11 hx hb dX7_refuses_5 rfl rfl ?_
  obtain ⟨f1, o2, b3⟩ := y_op9 hI
  refine th_iald hx hb hK hP (hLK _ (y_k9 hA) (by decide)) 0 o2 rfl (th_in ⟨by omega, by omega⟩) dX7_refuses_6 ?_
  refine lv_topi (fun v4 ev4 => ?_)
  refine lv_iconst (v := 1) hx hb dX7_refuses_7 (by decide) ?_
  refine lv_iadd hx hb dX7_refuses_8 ?_
  refine lv_topi (fun v5 ev5 => ?_)
  refine th_iast hx hb hK hP hD hS (hLK _ (y_k9 hA) (by decide)) 0 o2 rfl (th_in ⟨by omega, by omega⟩) dX7_refuses_9 (fun H locs hP hS => ?_)
  obtain ⟨f6, u7⟩ : ∃ g : Nat → Int32, g = upd f1 (x1 : Int32).toNatClampNeg v5 := ⟨_, rfl⟩
  rw [← u7] at hP
  have b8 : y_bd 9 f6 := trivial
  have hP : va_P (dC, dI) vwCl (va_pl L (va_up F (A 9) (.inl (cs 0, 6, .inl f6)))) H := hP
  obtain ⟨F9, hF10⟩ : ∃ G : Nat → va_E, G = va_up F (A 9) (.inl (cs 0, 6, .inl f6)) := ⟨_, rfl⟩
  rw [← hF10] at hP
  have hI : y_I K cs A F9 := by rw [hF10]; exact y_clA (i := 9) hA hI (by decide) b8
  have hfr : ∀ b, K b ∉ [59] → F9 b = F b := by rw [hF10]; exact s_fr hfr (y_k9 hA) (by decide)
  have oY11 : F9 a0 = .inr (7, y_fl A z0 q0) := by rw [hF10]; exact th_ne (th_kd ha0 (y_k9 hA) (by decide)) oY0
  have o12 : F9 (A 9) = .inl (cs 0, 6, .inl f6) := by rw [hF10]; exact th_up
  have u13 : ∀ j : Int, 0 ≤ j → y_c f6 j = if j = x1.toInt then v5 else y_c f1 j := by rw [u7]; exact y_cu rfl (by omega)
  refine lv_iconst (v := (-1)) hx hb dX7_refuses_10 (by decide) ?_
  have h14 : ((-1) : Int32).toInt = (-1) := by decide
  exact W.iret (v := (-1)) hx hb hr (fun t ht hW => ⟨⟨(-1), F9, rfl, ⟨(by decide), trivial, hI, hfr, fun k hk => (y_fiZ oY11 (s_sub (by decide) hk)).trans ((hz0 k hk).trans (y_fiZ oY0 (s_sub (by decide) hk)).symm), trivial⟩, by rw [ht]; exact hP, va_K.moved hW.alike hK⟩, hS.F ht⟩) hS.2.2 dX7_refuses_11

set_option maxHeartbeats 4000000 in
set_option maxRecDepth 100000 in
theorem y_X7_isRefused (l : Launch) (dC : Nat → ClassId) (dI : Nat → Nat → Nat) (sz : Nat) {L : List Nat} {K : Nat → Nat} {cs : Nat → ClassId} (hLK : ∀ a {k : Nat}, K a = k → k ≠ 0 → a ∈ L) (A : Nat → Nat) (hA : y_A K A) (F : Nat → va_E) (a0 : Nat) (x1 : Int32) (ha0 : K a0 = 9) (hx1 : 0 ≤ x1.toInt ∧ x1.toInt ≤ 5) (hI : y_I K cs A F) : Met l yX7_isRefused (Cond.code yX7_isRefused cX7_isRefused 2 (some .boolean) :: T0) ({ frames := 0, cells := 0, slots := 0, locals := 0 }) (va_Pc [.ref a0, .int x1] (s_W dC dI sz L F [(cs 0, .int), (cs 1, .byte), (cs 2, .long), (cs 3, .object RX5), (cs 4, .object RX4), (cs 5, .array .int), (cs 6, .char), (cs 7, .boolean)])) (va_Qi (fun (r : Int32) (G : Nat → va_E) => (0 ≤ r.toInt ∧ r.toInt ≤ 0) ∧ True ∧ y_I K cs A G ∧ (∀ b, K b ∉ [59] → G b = F b) ∧ (∀ k, k ∈ ([1, 2, 3, 4, 5, 6, 7, 8, 11, 15, 16, 19, 25, 26, 27, 31, 32] : List Nat) → y_fi G a0 k = y_fi F a0 k) ∧ True) (fun (G : Nat → va_E) (t : State) => va_P (dC, dI) vwCl (va_pl L G) t.heap ∧ va_K (dC, dI) vwCl [(cs 0, .int), (cs 1, .byte), (cs 2, .long), (cs 3, .object RX5), (cs 4, .object RX4), (cs 5, .array .int), (cs 6, .char), (cs 7, .boolean)] t) (fun q => q ∈ L)) 0 0 (fun q => q ∈ L) := by
  refine Met.ofW (cc := cX7_isRefused) (maxL := 2) (ret := (some .boolean)) (by decide) rfl ?_
  intro p e s m args below meth c s₁ B hml hv
  obtain ⟨rfl, hsz, hP, hK, hD, hN⟩ := hv
  have hx := B.exec
  have hb := B.bytes
  have hr := B.returns
  have hts : ∀ w ∈ T0, w.before _ s = true := fun w h => atoms_spec (ws := Cond.code yX7_isRefused cX7_isRefused 2 (some .boolean) :: T0) B.pre w (List.mem_cons_of_mem _ h)
  have hown : s.vm.findClass RX7 = some m.cls := findClass_of_methodNamed B.named
  have hlocks := B.notSynchronized
  have hS : va_S (fun q => q ∈ L) s.heap s.heap [] := va_S.rf
  have hfr : ∀ b, K b ∉ [59] → F b = F b := fun _ _ => rfl
  have hl := lv_entry ([.ref a0, .int x1]) (n := 2) (Nat.le_of_ble_eq_true rfl)
  rw [lg_entry_eq]
  generalize (lg_sl ([.ref a0, .int x1]) ++ List.replicate (2 - (lg_sl ([.ref a0, .int x1])).length) Slot.unset).toArray = ls at hl ⊢
  have hl : lv_has ls 2 [(0, .ref a0), (1, .int x1)] := hl
  refine s_gen hP hS (fun H locs hP hS => ?_)
  obtain ⟨z0, q0, oY0, bz0, bq0⟩ := y_opY hI ha0
  have hz0 : ∀ k, k ∈ ([1, 2, 3, 4, 5, 6, 7, 8, 11, 15, 16, 19, 25, 26, 27, 31, 32] : List Nat) → z0 k = z0 k := fun _ _ => rfl
  refine lv_aload_n hx hb dX7_isRefused_0 rfl (lv_at hl 0 rfl) ?_
  refine th_get (D := (dC, dI)) (ci := 7) (v := .ref (A 9)) (C := RX7) (T := TX7) (N := 34) hx hb hts inX7 hown hK hP (hLK _ ha0 (by decide)) oY0 rfl 9 (by decide) (hts _ T_242) (fun _ h9 => h9) rfl dX7_isRefused_1 ?_
  refine lv_iload_n hx hb dX7_isRefused_4 rfl (lv_at hl 1 rfl) ?_
  refine lv_dup2_11 hx hb dX7_isRefused_5 rfl rfl ?_
  obtain ⟨f1, o2, b3⟩ := y_op9 hI
  refine th_iald hx hb hK hP (hLK _ (y_k9 hA) (by decide)) 0 o2 rfl (th_in ⟨by omega, by omega⟩) dX7_isRefused_6 ?_
  refine lv_topi (fun v4 ev4 => ?_)
  refine lv_iconst (v := 1) hx hb dX7_isRefused_7 (by decide) ?_
  refine lv_iadd hx hb dX7_isRefused_8 ?_
  refine lv_topi (fun v5 ev5 => ?_)
  refine th_iast hx hb hK hP hD hS (hLK _ (y_k9 hA) (by decide)) 0 o2 rfl (th_in ⟨by omega, by omega⟩) dX7_isRefused_9 (fun H locs hP hS => ?_)
  obtain ⟨f6, u7⟩ : ∃ g : Nat → Int32, g = upd f1 (x1 : Int32).toNatClampNeg v5 := ⟨_, rfl⟩
  rw [← u7] at hP
  have b8 : y_bd 9 f6 := trivial
  have hP : va_P (dC, dI) vwCl (va_pl L (va_up F (A 9) (.inl (cs 0, 6, .inl f6)))) H := hP
  obtain ⟨F9, hF10⟩ : ∃ G : Nat → va_E, G = va_up F (A 9) (.inl (cs 0, 6, .inl f6)) := ⟨_, rfl⟩
  rw [← hF10] at hP
  have hI : y_I K cs A F9 := by rw [hF10]; exact y_clA (i := 9) hA hI (by decide) b8
  have hfr : ∀ b, K b ∉ [59] → F9 b = F b := by rw [hF10]; exact s_fr hfr (y_k9 hA) (by decide)
  have oY11 : F9 a0 = .inr (7, y_fl A z0 q0) := by rw [hF10]; exact th_ne (th_kd ha0 (y_k9 hA) (by decide)) oY0
  have o12 : F9 (A 9) = .inl (cs 0, 6, .inl f6) := by rw [hF10]; exact th_up
  have u13 : ∀ j : Int, 0 ≤ j → y_c f6 j = if j = x1.toInt then v5 else y_c f1 j := by rw [u7]; exact y_cu rfl (by omega)
  refine lv_iconst (v := 0) hx hb dX7_isRefused_10 (by decide) ?_
  have h14 : (0 : Int32).toInt = 0 := by decide
  exact W.zret (v := 0) (ty := .boolean) hx hb hr (by decide) (fun t ht hW => ⟨⟨0, F9, rfl, ⟨(by decide), trivial, hI, hfr, fun k hk => (y_fiZ oY11 (s_sub (by decide) hk)).trans ((hz0 k hk).trans (y_fiZ oY0 (s_sub (by decide) hk)).symm), trivial⟩, by rw [ht]; exact hP, va_K.moved hW.alike hK⟩, hS.F ht⟩) hS.2.2 dX7_isRefused_11

set_option maxHeartbeats 4000000 in
set_option maxRecDepth 100000 in
theorem y_X7_feed (l : Launch) (dC : Nat → ClassId) (dI : Nat → Nat → Nat) (sz : Nat) {L : List Nat} {K : Nat → Nat} {cs : Nat → ClassId} (hLK : ∀ a {k : Nat}, K a = k → k ≠ 0 → a ∈ L) (A : Nat → Nat) (hA : y_A K A) (F : Nat → va_E) (a0 : Nat) (x1 : Int32) (x2 : Int32) (x3 : Int32) (x4 : Int32) (x5 : Int32) (ha0 : K a0 = 9) (hI : y_I K cs A F) : Met l yX7_feed (Cond.code yX7_feed cX7_feed 8 (some .int) :: T0) ({ frames := 1, cells := 0, slots := 0, locals := 21 }) (va_Pc [.ref a0, .int x1, .int x2, .int x3, .int x4, .int x5] (s_W dC dI sz L F [(cs 0, .int), (cs 1, .byte), (cs 2, .long), (cs 3, .object RX5), (cs 4, .object RX4), (cs 5, .array .int), (cs 6, .char), (cs 7, .boolean)])) (va_Qi (fun (r : Int32) (G : Nat → va_E) => (-1 ≤ r.toInt ∧ r.toInt ≤ 1600) ∧ True ∧ y_I K cs A G ∧ (∀ b, K b ∉ [9, 50, 59] → G b = F b) ∧ (∀ k, k ∈ ([2, 3, 4, 5, 6, 7, 8, 11, 15, 16, 19, 25, 26, 27, 31, 32] : List Nat) → y_fi G a0 k = y_fi F a0 k) ∧ (((y_fi F a0 1).toInt ≤ 1580 ∧ r.toInt = (y_fi F a0 1).toInt + 20 ∧ (y_fi G a0 1).toInt = (y_fi F a0 1).toInt + 20) ∨ (1580 < (y_fi F a0 1).toInt ∧ r.toInt = -1 ∧ (y_fi G a0 1).toInt = (y_fi F a0 1).toInt))) (fun (G : Nat → va_E) (t : State) => va_P (dC, dI) vwCl (va_pl L G) t.heap ∧ va_K (dC, dI) vwCl [(cs 0, .int), (cs 1, .byte), (cs 2, .long), (cs 3, .object RX5), (cs 4, .object RX4), (cs 5, .array .int), (cs 6, .char), (cs 7, .boolean)] t) (fun q => q ∈ L)) 0 0 (fun q => q ∈ L) := by
  refine Met.ofW (cc := cX7_feed) (maxL := 8) (ret := (some .int)) (by decide) rfl ?_
  intro p e s m args below meth c s₁ B hml hv
  obtain ⟨rfl, hsz, hP, hK, hD, hN⟩ := hv
  have hx := B.exec
  have hb := B.bytes
  have hr := B.returns
  have hts : ∀ w ∈ T0, w.before _ s = true := fun w h => atoms_spec (ws := Cond.code yX7_feed cX7_feed 8 (some .int) :: T0) B.pre w (List.mem_cons_of_mem _ h)
  have hown : s.vm.findClass RX7 = some m.cls := findClass_of_methodNamed B.named
  have hlocks := B.notSynchronized
  have hS : va_S (fun q => q ∈ L) s.heap s.heap [] := va_S.rf
  have hfr : ∀ b, K b ∉ [9, 50, 59] → F b = F b := fun _ _ => rfl
  have hl := lv_entry ([.ref a0, .int x1, .int x2, .int x3, .int x4, .int x5]) (n := 8) (Nat.le_of_ble_eq_true rfl)
  rw [lg_entry_eq]
  generalize (lg_sl ([.ref a0, .int x1, .int x2, .int x3, .int x4, .int x5]) ++ List.replicate (8 - (lg_sl ([.ref a0, .int x1, .int x2, .int x3, .int x4, .int x5])).length) Slot.unset).toArray = ls at hl ⊢
  have hl : lv_has ls 8 [(0, .ref a0), (1, .int x1), (2, .int x2), (3, .int x3), (4, .int x4), (5, .int x5)] := hl
  refine s_gen hP hS (fun H locs hP hS => ?_)
  obtain ⟨z0, q0, oY0, bz0, bq0⟩ := y_opY hI ha0
  have hz0 : ∀ k, k ∈ ([2, 3, 4, 5, 6, 7, 8, 11, 15, 16, 19, 25, 26, 27, 31, 32] : List Nat) → z0 k = z0 k := fun _ _ => rfl
  obtain ⟨v1, ev1⟩ : ∃ y : Int32, y = z0 1 := ⟨_, rfl⟩
  have qv1 : 0 ≤ v1.toInt ∧ v1.toInt ≤ 1600 := by rw [ev1]; exact y_bY1 bz0
  have eF_1 := ev1
  have e0_v1 := ev1
  refine lv_aload_n hx hb dX7_feed_0 rfl (lv_at hl 0 rfl) ?_
  refine th_get (D := (dC, dI)) (ci := 7) (v := .int (z0 1)) (C := RX7) (T := TX7) (N := 34) hx hb hts inX7 hown hK hP (hLK _ ha0 (by decide)) oY0 rfl 1 (by decide) (hts _ T_261) (fun _ h9 => h9) rfl dX7_feed_1 ?_
  refine ax_eqi (y := v1) ev1.symm ?_
  refine lv_bipush (v := 20) hx hb dX7_feed_4 (by decide) ?_
  refine lv_iadd hx hb dX7_feed_6 ?_
  refine lv_topi (fun v2 ev2 => ?_)
  have qv2 : v2.toInt = v1.toInt + 20 := by rw [ev2]; exact th_add rfl (by decide) ⟨by omega, by omega⟩
  refine lv_sipush (v := 1600) hx hb dX7_feed_7 (by decide) ?_
  refine lv_icmp_le (tgt := 19) hx hb dX7_feed_10 (by decide) (fun c3 => ?_) (fun c3 => ?_)
  · have c3 := (ax_le (n := 1600) (by decide)).mp c3
    refine lv_iconst (v := 0) hx hb dX7_feed_19 (by decide) ?_
    refine lv_istore (lv' := [(6, .int 0), (0, .ref a0), (1, .int x1), (2, .int x2), (3, .int x3), (4, .int x4), (5, .int x5)]) hx hb dX7_feed_20 hl (by decide) rfl (fun ls hl => ?_)
    have h5 : (0 : Int32).toInt = 0 := by decide
    refine th_loop (fun n g H locs => ∃ (G : Nat → va_E) (ls : Array Slot) (w4 : Int32), g = F0 m 22 ls [] ∧ lv_has ls 8 [(0, .ref a0), (1, .int x1), (2, .int x2), (3, .int x3), (4, .int x4), (5, .int x5), (6, .int w4)] ∧ va_P (dC, dI) vwCl (va_pl L G) H ∧ va_S (fun q => q ∈ L) s.heap H locs ∧ y_I K cs A G ∧ (∀ b, K b ∉ [9, 50, 59] → G b = F b) ∧ (∀ k, k ∈ ([2, 3, 4, 5, 6, 7, 8, 11, 15, 16, 19, 25, 26, 27, 31, 32] : List Nat) → y_fi G a0 k = z0 k) ∧ (0 ≤ w4.toInt ∧ w4.toInt ≤ 20) ∧ ((y_fi G a0 1).toInt = v1.toInt + w4.toInt ∧ v1.toInt ≤ 1580) ∧ n = (21 - w4.toInt).toNat) _ ⟨F, _, 0, rfl, lv_sub hl [1, 2, 3, 4, 5, 6, 0] rfl, hP, hS, hI, hfr, (fun k hk => (y_fiZ oY0 (s_sub (by decide) hk)).trans (hz0 k hk)), (by decide), (by first | (rw [y_fiZ oY0 (k := 1) (by decide), ← ev1]; omega) | rw [y_fiZ oY0 (k := 1) (by decide), ← ev1]), rfl⟩ (fun n ih22 g H locs hq => ?_)
    obtain ⟨F8, ls, w4, rfl, hl, hP, hS, hI, hfr, hz0, h6, h7, hn⟩ := hq
    obtain ⟨z9, q10, oY11, bz12, bq13⟩ := y_opY hI ha0
    have hz0 : ∀ k, k ∈ ([2, 3, 4, 5, 6, 7, 8, 11, 15, 16, 19, 25, 26, 27, 31, 32] : List Nat) → z9 k = z0 k := fun k hk => (y_fiZ oY11 (s_sub (by decide) hk)).symm.trans (hz0 k hk)
    obtain ⟨v14, ev14⟩ : ∃ y : Int32, y = z9 1 := ⟨_, rfl⟩
    have qv14 : 0 ≤ v14.toInt ∧ v14.toInt ≤ 1600 := by rw [ev14]; exact y_bY1 bz12
    replace h7 : (v14.toInt = v1.toInt + w4.toInt ∧ v1.toInt ≤ 1580) := by have q9 := h7; rw [y_fiZ oY11 (k := 1) (by decide), ← ev14] at q9; exact q9
    have hn_14 := hn
    refine th_join (fun g H locs => ∃ (G : Nat → va_E) (ls : Array Slot) (w15 : Int32), g = F0 m 75 ls [.int w15] ∧ lv_has ls 8 [(0, .ref a0), (1, .int x1), (2, .int x2), (3, .int x3), (4, .int x4), (5, .int x5), (6, .int w4)] ∧ va_P (dC, dI) vwCl (va_pl L G) H ∧ va_S (fun q => q ∈ L) s.heap H locs ∧ y_I K cs A G ∧ (∀ b, K b ∉ [9, 50, 59] → G b = F b) ∧ (∀ k, k ∈ ([2, 3, 4, 5, 6, 7, 8, 11, 15, 16, 19, 25, 26, 27, 31, 32] : List Nat) → y_fi G a0 k = z0 k) ∧ True ∧ (0 ≤ w4.toInt ∧ w4.toInt ≤ 19) ∧ ((y_fi G a0 1).toInt = v1.toInt + w4.toInt ∧ v1.toInt ≤ 1580)) (fun K75 => ?_) ?_
    · refine lv_iload hx hb dX7_feed_22 (lv_at hl 6 rfl) ?_
      refine lv_bipush (v := 20) hx hb dX7_feed_24 (by decide) ?_
      refine lv_icmp_ge (tgt := 118) hx hb dX7_feed_26 (by decide) (fun c16 => ?_) (fun c16 => ?_)
      · have c16 := (ax_ge (n := 20) (by decide)).mp c16
        refine lv_aload_n hx hb dX7_feed_118 rfl (lv_at hl 0 rfl) ?_
        refine th_get (D := (dC, dI)) (ci := 7) (v := .int (z9 1)) (C := RX7) (T := TX7) (N := 34) hx hb hts inX7 hown hK hP (hLK _ ha0 (by decide)) oY11 rfl 1 (by decide) (hts _ T_261) (fun _ h9 => h9) rfl dX7_feed_119 ?_
        refine ax_eqi (y := v14) ev14.symm ?_
        exact W.iret (v := v14) hx hb hr (fun t ht hW => ⟨⟨v14, F8, rfl, ⟨⟨by omega, by omega⟩, trivial, hI, hfr, fun k hk => (y_fiZ oY11 (s_sub (by decide) hk)).trans ((hz0 k hk).trans (y_fiZ oY0 (s_sub (by decide) hk)).symm), (by first | (rw [y_fiZ oY0 (k := 1) (by decide), ← eF_1, y_fiZ oY11 (k := 1) (by decide), ← ev14]; omega) | rw [y_fiZ oY0 (k := 1) (by decide), ← eF_1, y_fiZ oY11 (k := 1) (by decide), ← ev14])⟩, by rw [ht]; exact hP, va_K.moved hW.alike hK⟩, hS.F ht⟩) hS.2.2 dX7_feed_122
      · have c16 := mt (ax_ge (n := 20) (by decide)).mpr c16
        refine lv_iload hx hb dX7_feed_29 (lv_at hl 6 rfl) ?_
        refine lv_iconst (v := 4) hx hb dX7_feed_31 (by decide) ?_
        refine lv_icmp_ge (tgt := 39) hx hb dX7_feed_32 (by decide) (fun c17 => ?_) (fun c17 => ?_)
        · have c17 := (ax_ge (n := 4) (by decide)).mp c17
          refine lv_iload hx hb dX7_feed_39 (lv_at hl 6 rfl) ?_
          refine lv_bipush (v := 8) hx hb dX7_feed_41 (by decide) ?_
          refine lv_icmp_ge (tgt := 50) hx hb dX7_feed_43 (by decide) (fun c18 => ?_) (fun c18 => ?_)
          · have c18 := (ax_ge (n := 8) (by decide)).mp c18
            refine lv_iload hx hb dX7_feed_50 (lv_at hl 6 rfl) ?_
            refine lv_bipush (v := 12) hx hb dX7_feed_52 (by decide) ?_
            refine lv_icmp_ge (tgt := 61) hx hb dX7_feed_54 (by decide) (fun c19 => ?_) (fun c19 => ?_)
            · have c19 := (ax_ge (n := 12) (by decide)).mp c19
              refine lv_iload hx hb dX7_feed_61 (lv_at hl 6 rfl) ?_
              refine lv_bipush (v := 16) hx hb dX7_feed_63 (by decide) ?_
              refine lv_icmp_ge (tgt := 73) hx hb dX7_feed_65 (by decide) (fun c20 => ?_) (fun c20 => ?_)
              · have c20 := (ax_ge (n := 16) (by decide)).mp c20
                refine lv_iload hx hb dX7_feed_73 (lv_at hl 5 rfl) ?_
                exact K75 _ _ _ ⟨F8, _, x5, rfl, lv_sub hl [0, 1, 2, 3, 4, 5, 6] rfl, hP, hS, hI, hfr, (fun k hk => (y_fiZ oY11 (s_sub (by decide) hk)).trans (hz0 k hk)), trivial, ⟨by omega, by omega⟩, (by first | (rw [y_fiZ oY11 (k := 1) (by decide), ← ev14]; omega) | rw [y_fiZ oY11 (k := 1) (by decide), ← ev14])⟩
              · have c20 := mt (ax_ge (n := 16) (by decide)).mpr c20
                refine lv_iload hx hb dX7_feed_68 (lv_at hl 4 rfl) ?_
                refine lv_goto (tgt := 75) hx hb dX7_feed_70 (by decide) ?_
                exact K75 _ _ _ ⟨F8, _, x4, rfl, lv_sub hl [0, 1, 2, 3, 4, 5, 6] rfl, hP, hS, hI, hfr, (fun k hk => (y_fiZ oY11 (s_sub (by decide) hk)).trans (hz0 k hk)), trivial, ⟨by omega, by omega⟩, (by first | (rw [y_fiZ oY11 (k := 1) (by decide), ← ev14]; omega) | rw [y_fiZ oY11 (k := 1) (by decide), ← ev14])⟩
            · have c19 := mt (ax_ge (n := 12) (by decide)).mpr c19
              refine lv_iload_n hx hb dX7_feed_57 rfl (lv_at hl 3 rfl) ?_
              refine lv_goto (tgt := 75) hx hb dX7_feed_58 (by decide) ?_
              exact K75 _ _ _ ⟨F8, _, x3, rfl, lv_sub hl [0, 1, 2, 3, 4, 5, 6] rfl, hP, hS, hI, hfr, (fun k hk => (y_fiZ oY11 (s_sub (by decide) hk)).trans (hz0 k hk)), trivial, ⟨by omega, by omega⟩, (by first | (rw [y_fiZ oY11 (k := 1) (by decide), ← ev14]; omega) | rw [y_fiZ oY11 (k := 1) (by decide), ← ev14])⟩
          · have c18 := mt (ax_ge (n := 8) (by decide)).mpr c18
            refine lv_iload_n hx hb dX7_feed_46 rfl (lv_at hl 2 rfl) ?_
            refine lv_goto (tgt := 75) hx hb dX7_feed_47 (by decide) ?_
            exact K75 _ _ _ ⟨F8, _, x2, rfl, lv_sub hl [0, 1, 2, 3, 4, 5, 6] rfl, hP, hS, hI, hfr, (fun k hk => (y_fiZ oY11 (s_sub (by decide) hk)).trans (hz0 k hk)), trivial, ⟨by omega, by omega⟩, (by first | (rw [y_fiZ oY11 (k := 1) (by decide), ← ev14]; omega) | rw [y_fiZ oY11 (k := 1) (by decide), ← ev14])⟩
        · have c17 := mt (ax_ge (n := 4) (by decide)).mpr c17
          refine lv_iload_n hx hb dX7_feed_35 rfl (lv_at hl 1 rfl) ?_
          refine lv_goto (tgt := 75) hx hb dX7_feed_36 (by decide) ?_
          exact K75 _ _ _ ⟨F8, _, x1, rfl, lv_sub hl [0, 1, 2, 3, 4, 5, 6] rfl, hP, hS, hI, hfr, (fun k hk => (y_fiZ oY11 (s_sub (by decide) hk)).trans (hz0 k hk)), trivial, ⟨by omega, by omega⟩, (by first | (rw [y_fiZ oY11 (k := 1) (by decide), ← ev14]; omega) | rw [y_fiZ oY11 (k := 1) (by decide), ← ev14])⟩
    · intro g H locs hq
      obtain ⟨F24, ls, w15, rfl, hl, hP, hS, hI, hfr, hz0, h21, h22, h23⟩ := hq
      obtain ⟨z25, q26, oY27, bz28, bq29⟩ := y_opY hI ha0
      have hz0 : ∀ k, k ∈ ([2, 3, 4, 5, 6, 7, 8, 11, 15, 16, 19, 25, 26, 27, 31, 32] : List Nat) → z25 k = z0 k := fun k hk => (y_fiZ oY27 (s_sub (by decide) hk)).symm.trans (hz0 k hk)
      obtain ⟨v30, ev30⟩ : ∃ y : Int32, y = z25 1 := ⟨_, rfl⟩
      have qv30 : 0 ≤ v30.toInt ∧ v30.toInt ≤ 1600 := by rw [ev30]; exact y_bY1 bz28
      replace h23 : (v30.toInt = v1.toInt + w4.toInt ∧ v1.toInt ≤ 1580) := by have q9 := h23; rw [y_fiZ oY27 (k := 1) (by decide), ← ev30] at q9; exact q9
      refine lv_istore (lv' := [(7, .int w15), (0, .ref a0), (1, .int x1), (2, .int x2), (3, .int x3), (4, .int x4), (5, .int x5), (6, .int w4)]) hx hb dX7_feed_75 hl (by decide) rfl (fun ls hl => ?_)
      refine lv_aload_n hx hb dX7_feed_77 rfl (lv_at hl 1 rfl) ?_
      refine th_get (D := (dC, dI)) (ci := 7) (v := .ref (A 0)) (C := RX7) (T := TX7) (N := 34) hx hb hts inX7 hown hK hP (hLK _ ha0 (by decide)) oY27 rfl 0 (by decide) (hts _ T_240) (fun _ h9 => h9) rfl dX7_feed_78 ?_
      refine lv_aload_n hx hb dX7_feed_81 rfl (lv_at hl 1 rfl) ?_
      refine th_get (D := (dC, dI)) (ci := 7) (v := .int (z25 1)) (C := RX7) (T := TX7) (N := 34) hx hb hts inX7 hown hK hP (hLK _ ha0 (by decide)) oY27 rfl 1 (by decide) (hts _ T_261) (fun _ h9 => h9) rfl dX7_feed_82 ?_
      refine ax_eqi (y := v30) ev30.symm ?_
      refine lv_iload hx hb dX7_feed_85 (lv_at hl 0 rfl) ?_
      refine lv_bipush (v := 8) hx hb dX7_feed_87 (by decide) ?_
      refine lv_iconst (v := 3) hx hb dX7_feed_89 (by decide) ?_
      refine lv_iload hx hb dX7_feed_90 (lv_at hl 7 rfl) ?_
      refine lv_iconst (v := 4) hx hb dX7_feed_92 (by decide) ?_
      refine lv_irem hx hb dX7_feed_93 (by decide) ?_
      refine lv_topi (fun v31 ev31 => ?_)
      have qv31 : v31.toInt = w4.toInt % 4 := by rw [ev31]; exact th_rem rfl (by decide) (by omega) (by decide)
      refine lv_isub hx hb dX7_feed_94 ?_
      refine lv_topi (fun v32 ev32 => ?_)
      have qv32 : v32.toInt = 3 - v31.toInt := by rw [ev32]; exact th_sub (by decide) rfl ⟨by omega, by omega⟩
      refine lv_imul hx hb dX7_feed_95 ?_
      refine lv_topi (fun v33 ev33 => ?_)
      have qv33 : v33.toInt = 8 * v32.toInt := by rw [ev33]; exact th_mul (by decide) rfl ⟨by omega, by omega⟩
      refine lv_ishr hx hb dX7_feed_96 ?_
      refine lv_topi (fun v34 ev34 => ?_)
      refine lv_sipush (v := 255) hx hb dX7_feed_97 (by decide) ?_
      refine lv_iand hx hb dX7_feed_100 ?_
      refine lv_topi (fun v35 ev35 => ?_)
      have qv35 : 0 ≤ v35.toInt ∧ v35.toInt ≤ 255 := by rw [ev35]; exact th_and 8 (by decide) (by decide)
      obtain ⟨f36, o37, b38⟩ := y_op0 hI
      refine th_iast hx hb hK hP hD hS (hLK _ (y_k0 hA) (by decide)) 0 o37 rfl (th_in ⟨by omega, by omega⟩) dX7_feed_101 (fun H locs hP hS => ?_)
      obtain ⟨f39, u40⟩ : ∃ g : Nat → Int32, g = upd f36 (v30 : Int32).toNatClampNeg v35 := ⟨_, rfl⟩
      rw [← u40] at hP
      have b41 : y_bd 0 f39 := trivial
      have hP : va_P (dC, dI) vwCl (va_pl L (va_up F24 (A 0) (.inl (cs 0, 1600, .inl f39)))) H := hP
      obtain ⟨F42, hF43⟩ : ∃ G : Nat → va_E, G = va_up F24 (A 0) (.inl (cs 0, 1600, .inl f39)) := ⟨_, rfl⟩
      rw [← hF43] at hP
      have hI : y_I K cs A F42 := by rw [hF43]; exact y_clA (i := 0) hA hI (by decide) b41
      have hfr : ∀ b, K b ∉ [9, 50, 59] → F42 b = F b := by rw [hF43]; exact s_fr hfr (y_k0 hA) (by decide)
      have oY44 : F42 a0 = .inr (7, y_fl A z25 q26) := by rw [hF43]; exact th_ne (th_kd ha0 (y_k0 hA) (by decide)) oY27
      have o45 : F42 (A 0) = .inl (cs 0, 1600, .inl f39) := by rw [hF43]; exact th_up
      have u46 : ∀ j : Int, 0 ≤ j → y_c f39 j = if j = v30.toInt then v35 else y_c f36 j := by rw [u40]; exact y_cu rfl (by omega)
      refine lv_aload_n hx hb dX7_feed_102 rfl (lv_at hl 1 rfl) ?_
      refine lv_dup hx hb dX7_feed_103 rfl ?_
      refine th_get (D := (dC, dI)) (ci := 7) (v := .int (z25 1)) (C := RX7) (T := TX7) (N := 34) hx hb hts inX7 hown hK hP (hLK _ ha0 (by decide)) oY44 rfl 1 (by decide) (hts _ T_261) (fun _ h9 => h9) rfl dX7_feed_104 ?_
      refine ax_eqi (y := v30) ev30.symm ?_
      refine lv_iconst (v := 1) hx hb dX7_feed_107 (by decide) ?_
      refine lv_iadd hx hb dX7_feed_108 ?_
      refine lv_topi (fun v47 ev47 => ?_)
      have qv47 : v47.toInt = v30.toInt + 1 := by rw [ev47]; exact th_add rfl (by decide) ⟨by omega, by omega⟩
      refine th_put (D := (dC, dI)) (ci := 7) (v := .int v47) (ty := .int) (C := RX7) (T := TX7) (N := 34) hx hb hts inX7 tyX7 tyX7_ok nmX7 hown hK hP hD hS (hLK _ ha0 (by decide)) oY44 rfl 1 (by decide) (hts _ T_261) (fun _ h9 => h9) rfl (by decide +kernel) rfl rfl (Nat.le_of_ble_eq_true rfl) dX7_feed_109 (fun H locs hP hS => ?_)
      rw [y_fs1] at hP
      obtain ⟨z48, hz49⟩ : ∃ g : Nat → Int32, g = upd z25 1 v47 := ⟨_, rfl⟩
      rw [← hz49] at hP
      have bz50 : y_bY z48 := by rw [hz49]; exact y_bp1 bz28 ⟨by omega, by omega⟩
      have hP : va_P (dC, dI) vwCl (va_pl L (va_up F42 a0 (.inr (7, y_fl A z48 q26)))) H := hP
      obtain ⟨F51, hF52⟩ : ∃ G : Nat → va_E, G = va_up F42 a0 (.inr (7, y_fl A z48 q26)) := ⟨_, rfl⟩
      rw [← hF52] at hP
      have hI : y_I K cs A F51 := by rw [hF52]; exact y_clY hA hI ha0 bz50 bq29
      have hfr : ∀ b, K b ∉ [9, 50, 59] → F51 b = F b := by rw [hF52]; exact s_fr hfr ha0 (by decide)
      have o53 : F51 (A 0) = .inl (cs 0, 1600, .inl f39) := by rw [hF52]; exact th_ne (th_kd (y_k0 hA) ha0 (by decide)) o45
      have oY54 : F51 a0 = .inr (7, y_fl A z48 q26) := by rw [hF52]; exact th_up
      have hz0 : ∀ k, k ∈ ([2, 3, 4, 5, 6, 7, 8, 11, 15, 16, 19, 25, 26, 27, 31, 32] : List Nat) → z48 k = z0 k := fun k hk => by rw [hz49]; exact (y_un (fun q => absurd hk (by rw [q]; decide))).trans (hz0 k hk)
      obtain ⟨v55, ev55⟩ : ∃ y : Int32, y = z48 1 := ⟨_, rfl⟩
      have qv55 : v55.toInt = v47.toInt := by rw [ev55, hz49, y_ue]
      obtain ⟨v56, ev56⟩ : ∃ y : Int32, w4 + 1 = y := ⟨_, rfl⟩
      have qv56 : v56.toInt = w4.toInt + 1 := by rw [← ev56]; exact th_add rfl (by decide) ⟨by omega, by omega⟩
      refine lv_iinc (v := v56) (lv' := [(6, .int v56), (7, .int w15), (0, .ref a0), (1, .int x1), (2, .int x2), (3, .int x3), (4, .int x4), (5, .int x5)]) hx hb dX7_feed_112 hl (k := 7) rfl ev56 (by decide) rfl (fun ls hl => ?_)
      refine lv_goto (tgt := 22) hx hb dX7_feed_115 (by decide) ?_
      exact ih22 _ _ _ _ (by omega) ⟨F51, _, v56, rfl, lv_sub hl [2, 3, 4, 5, 6, 7, 0] rfl, hP, hS, hI, hfr, (fun k hk => (y_fiZ oY54 (s_sub (by decide) hk)).trans (hz0 k hk)), ⟨by omega, by omega⟩, (by first | (rw [y_fiZ oY54 (k := 1) (by decide), ← ev55]; omega) | rw [y_fiZ oY54 (k := 1) (by decide), ← ev55]), rfl⟩
  · have c3 := mt (ax_le (n := 1600) (by decide)).mpr c3
    refine lv_aload_n hx hb dX7_feed_13 rfl (lv_at hl 0 rfl) ?_
    refine lv_iconst (v := 0) hx hb dX7_feed_14 (by decide) ?_
    refine va_calli (va_runV (As := [.int 0]) (rest := []) ⟨hx, hb, hml, hown, hts⟩ (y_X7_refuses l dC dI H.size hLK A hA F a0 0 ha0 (by decide) hI) (cwV 1 hts (ax_gV T_310 T_311 T_312 T_265 T_33) rfl rfl rfl (by decide +kernel) ⟨Nat.le_of_ble_eq_true rfl, Nat.le_of_ble_eq_true rfl⟩) ⟨fun a U g mk q => ⟨q.1, s_pc (U := U) rfl rfl q.2⟩, s_recv hK hP (hLK _ ha0 (by decide)) (ci := 7) rfl oY0, fun U hU hW => ⟨rfl, s_pw hU hW hP hK hD hN⟩⟩ rfl rfl hl.1 rfl (lv_room (Nat.le_of_ble_eq_true rfl)) dX7_feed_15 ⟨Nat.zero_le _, Nat.zero_le _⟩) hS (fun q _ h => h) (fun q h => h) (fun r58 F59 t H1 locs ht hvm hw hB hz1 hk1 hS => ?_)
    obtain ⟨hP, hK1⟩ := hB
    rw [ht] at hP
    generalize H1 = H at hP hS ⊢
    clear hz1 hk1 hvm hK1
    obtain ⟨h60, h62, hI, hfr1, hzf, h61⟩ := hw
    have oY63 : F59 a0 = .inr (7, y_fl A z0 q0) := (hfr1 _ (by rw [ha0]; decide)).trans oY0
    have hfr : ∀ b, K b ∉ [9, 50, 59] → F59 b = F b := fun b hb9 => (hfr1 b (fun q => hb9 (s_sub (by decide) q))).trans (hfr b hb9)
    exact W.iret (v := r58) hx hb hr (fun t ht hW => ⟨⟨r58, F59, rfl, ⟨⟨by omega, by omega⟩, trivial, hI, hfr, fun k hk => (y_fiZ oY63 (s_sub (by decide) hk)).trans ((hz0 k hk).trans (y_fiZ oY0 (s_sub (by decide) hk)).symm), (by first | (rw [y_fiZ oY0 (k := 1) (by decide), ← eF_1, y_fiZ oY63 (k := 1) (by decide), ← ev1]; omega) | rw [y_fiZ oY0 (k := 1) (by decide), ← eF_1, y_fiZ oY63 (k := 1) (by decide), ← ev1])⟩, by rw [ht]; exact hP, va_K.moved hW.alike hK⟩, hS.F ht⟩) hS.2.2 dX7_feed_18

set_option maxHeartbeats 4000000 in
set_option maxRecDepth 100000 in
theorem y_X7_end (l : Launch) (dC : Nat → ClassId) (dI : Nat → Nat → Nat) (sz : Nat) {L : List Nat} {K : Nat → Nat} {cs : Nat → ClassId} (hLK : ∀ a {k : Nat}, K a = k → k ≠ 0 → a ∈ L) (A : Nat → Nat) (hA : y_A K A) (F : Nat → va_E) (a0 : Nat) (x1 : Int32) (ha0 : K a0 = 9) (hI : y_I K cs A F) : Met l yX7_end (Cond.code yX7_end cX7_end 2 (some .boolean) :: T0) ({ frames := 1, cells := 0, slots := 0, locals := 21 }) (va_Pc [.ref a0, .int x1] (s_W dC dI sz L F [(cs 0, .int), (cs 1, .byte), (cs 2, .long), (cs 3, .object RX5), (cs 4, .object RX4), (cs 5, .array .int), (cs 6, .char), (cs 7, .boolean)])) (va_Qi (fun (r : Int32) (G : Nat → va_E) => (0 ≤ r.toInt ∧ r.toInt ≤ 1) ∧ (¬ r = 0 → 0 ≤ x1.toInt ∧ x1.toInt ≤ 1600) ∧ y_I K cs A G ∧ (∀ b, K b ∉ [9, 59] → G b = F b) ∧ (∀ k, k ∈ ([2, 3, 4, 5, 6, 7, 8, 11, 15, 16, 19, 25, 26, 27, 31, 32] : List Nat) → y_fi G a0 k = y_fi F a0 k) ∧ ((0 ≤ x1.toInt ∧ x1.toInt ≤ (y_fi F a0 1).toInt ∧ r.toInt = 1 ∧ (y_fi G a0 1).toInt = x1.toInt) ∨ ((x1.toInt < 0 ∨ (y_fi F a0 1).toInt < x1.toInt) ∧ r.toInt = 0 ∧ (y_fi G a0 1).toInt = (y_fi F a0 1).toInt))) (fun (G : Nat → va_E) (t : State) => va_P (dC, dI) vwCl (va_pl L G) t.heap ∧ va_K (dC, dI) vwCl [(cs 0, .int), (cs 1, .byte), (cs 2, .long), (cs 3, .object RX5), (cs 4, .object RX4), (cs 5, .array .int), (cs 6, .char), (cs 7, .boolean)] t) (fun q => q ∈ L)) 0 0 (fun q => q ∈ L) := by
  refine Met.ofW (cc := cX7_end) (maxL := 2) (ret := (some .boolean)) (by decide) rfl ?_
  intro p e s m args below meth c s₁ B hml hv
  obtain ⟨rfl, hsz, hP, hK, hD, hN⟩ := hv
  have hx := B.exec
  have hb := B.bytes
  have hr := B.returns
  have hts : ∀ w ∈ T0, w.before _ s = true := fun w h => atoms_spec (ws := Cond.code yX7_end cX7_end 2 (some .boolean) :: T0) B.pre w (List.mem_cons_of_mem _ h)
  have hown : s.vm.findClass RX7 = some m.cls := findClass_of_methodNamed B.named
  have hlocks := B.notSynchronized
  have hS : va_S (fun q => q ∈ L) s.heap s.heap [] := va_S.rf
  have hfr : ∀ b, K b ∉ [9, 59] → F b = F b := fun _ _ => rfl
  have hl := lv_entry ([.ref a0, .int x1]) (n := 2) (Nat.le_of_ble_eq_true rfl)
  rw [lg_entry_eq]
  generalize (lg_sl ([.ref a0, .int x1]) ++ List.replicate (2 - (lg_sl ([.ref a0, .int x1])).length) Slot.unset).toArray = ls at hl ⊢
  have hl : lv_has ls 2 [(0, .ref a0), (1, .int x1)] := hl
  refine s_gen hP hS (fun H locs hP hS => ?_)
  obtain ⟨z0, q0, oY0, bz0, bq0⟩ := y_opY hI ha0
  have hz0 : ∀ k, k ∈ ([2, 3, 4, 5, 6, 7, 8, 11, 15, 16, 19, 25, 26, 27, 31, 32] : List Nat) → z0 k = z0 k := fun _ _ => rfl
  obtain ⟨v1, ev1⟩ : ∃ y : Int32, y = z0 1 := ⟨_, rfl⟩
  have qv1 : 0 ≤ v1.toInt ∧ v1.toInt ≤ 1600 := by rw [ev1]; exact y_bY1 bz0
  have eF_1 := ev1
  have e0_v1 := ev1
  refine lv_iload_n hx hb dX7_end_0 rfl (lv_at hl 1 rfl) ?_
  refine lv_if_lt (tgt := 12) hx hb dX7_end_1 (by decide) (fun c2 => ?_) (fun c2 => ?_)
  · have c2 := (ax_lt (n := 0) (by decide)).mp c2
    refine lv_aload_n hx hb dX7_end_12 rfl (lv_at hl 0 rfl) ?_
    refine lv_iconst (v := 0) hx hb dX7_end_13 (by decide) ?_
    refine va_calli (va_runV (As := [.int 0]) (rest := []) ⟨hx, hb, hml, hown, hts⟩ (y_X7_isRefused l dC dI H.size hLK A hA F a0 0 ha0 (by decide) hI) (cwV 1 hts (ax_gV T_262 T_263 T_264 T_265 T_20) rfl rfl rfl (by decide +kernel) ⟨Nat.le_of_ble_eq_true rfl, Nat.le_of_ble_eq_true rfl⟩) ⟨fun a U g mk q => ⟨q.1, s_pc (U := U) rfl rfl q.2⟩, s_recv hK hP (hLK _ ha0 (by decide)) (ci := 7) rfl oY0, fun U hU hW => ⟨rfl, s_pw hU hW hP hK hD hN⟩⟩ rfl rfl hl.1 rfl (lv_room (Nat.le_of_ble_eq_true rfl)) dX7_end_14 ⟨Nat.zero_le _, Nat.zero_le _⟩) hS (fun q _ h => h) (fun q h => h) (fun r4 F5 t H1 locs ht hvm hw hB hz1 hk1 hS => ?_)
    obtain ⟨hP, hK1⟩ := hB
    rw [ht] at hP
    generalize H1 = H at hP hS ⊢
    clear hz1 hk1 hvm hK1
    obtain ⟨h6, h8, hI, hfr1, hzf, h7⟩ := hw
    have oY9 : F5 a0 = .inr (7, y_fl A z0 q0) := (hfr1 _ (by rw [ha0]; decide)).trans oY0
    have hfr : ∀ b, K b ∉ [9, 59] → F5 b = F b := fun b hb9 => (hfr1 b (fun q => hb9 (s_sub (by decide) q))).trans (hfr b hb9)
    exact W.zret (v := r4) (ty := .boolean) hx hb hr (th_nz ⟨by omega, by omega⟩) (fun t ht hW => ⟨⟨r4, F5, rfl, ⟨⟨by omega, by omega⟩, (fun q => absurd (y_z0 ⟨by omega, by omega⟩) q), hI, hfr, fun k hk => (y_fiZ oY9 (s_sub (by decide) hk)).trans ((hz0 k hk).trans (y_fiZ oY0 (s_sub (by decide) hk)).symm), (by first | (rw [y_fiZ oY0 (k := 1) (by decide), ← eF_1, y_fiZ oY9 (k := 1) (by decide), ← ev1]; omega) | rw [y_fiZ oY0 (k := 1) (by decide), ← eF_1, y_fiZ oY9 (k := 1) (by decide), ← ev1])⟩, by rw [ht]; exact hP, va_K.moved hW.alike hK⟩, hS.F ht⟩) hS.2.2 dX7_end_17
  · have c2 := mt (ax_lt (n := 0) (by decide)).mpr c2
    refine lv_iload_n hx hb dX7_end_4 rfl (lv_at hl 1 rfl) ?_
    refine lv_aload_n hx hb dX7_end_5 rfl (lv_at hl 0 rfl) ?_
    refine th_get (D := (dC, dI)) (ci := 7) (v := .int (z0 1)) (C := RX7) (T := TX7) (N := 34) hx hb hts inX7 hown hK hP (hLK _ ha0 (by decide)) oY0 rfl 1 (by decide) (hts _ T_261) (fun _ h9 => h9) rfl dX7_end_6 ?_
    refine ax_eqi (y := v1) ev1.symm ?_
    refine lv_icmp_le (tgt := 18) hx hb dX7_end_9 (by decide) (fun c10 => ?_) (fun c10 => ?_)
    · have c10 := Int32.le_iff_toInt_le.mp c10
      refine lv_aload_n hx hb dX7_end_18 rfl (lv_at hl 0 rfl) ?_
      refine lv_iload_n hx hb dX7_end_19 rfl (lv_at hl 1 rfl) ?_
      refine th_put (D := (dC, dI)) (ci := 7) (v := .int x1) (ty := .int) (C := RX7) (T := TX7) (N := 34) hx hb hts inX7 tyX7 tyX7_ok nmX7 hown hK hP hD hS (hLK _ ha0 (by decide)) oY0 rfl 1 (by decide) (hts _ T_261) (fun _ h9 => h9) rfl (by decide +kernel) rfl rfl (Nat.le_of_ble_eq_true rfl) dX7_end_20 (fun H locs hP hS => ?_)
      rw [y_fs1] at hP
      obtain ⟨z11, hz12⟩ : ∃ g : Nat → Int32, g = upd z0 1 x1 := ⟨_, rfl⟩
      rw [← hz12] at hP
      have bz13 : y_bY z11 := by rw [hz12]; exact y_bp1 bz0 ⟨by omega, by omega⟩
      have hP : va_P (dC, dI) vwCl (va_pl L (va_up F a0 (.inr (7, y_fl A z11 q0)))) H := hP
      obtain ⟨F14, hF15⟩ : ∃ G : Nat → va_E, G = va_up F a0 (.inr (7, y_fl A z11 q0)) := ⟨_, rfl⟩
      rw [← hF15] at hP
      have hI : y_I K cs A F14 := by rw [hF15]; exact y_clY hA hI ha0 bz13 bq0
      have hfr : ∀ b, K b ∉ [9, 59] → F14 b = F b := by rw [hF15]; exact s_fr hfr ha0 (by decide)
      have oY16 : F14 a0 = .inr (7, y_fl A z11 q0) := by rw [hF15]; exact th_up
      have hz0 : ∀ k, k ∈ ([2, 3, 4, 5, 6, 7, 8, 11, 15, 16, 19, 25, 26, 27, 31, 32] : List Nat) → z11 k = z0 k := fun k hk => by rw [hz12]; exact (y_un (fun q => absurd hk (by rw [q]; decide))).trans (hz0 k hk)
      obtain ⟨v17, ev17⟩ : ∃ y : Int32, y = z11 1 := ⟨_, rfl⟩
      have qv17 : v17.toInt = x1.toInt := by rw [ev17, hz12, y_ue]
      refine lv_iconst (v := 1) hx hb dX7_end_23 (by decide) ?_
      have h18 : (1 : Int32).toInt = 1 := by decide
      exact W.zret (v := 1) (ty := .boolean) hx hb hr (by decide) (fun t ht hW => ⟨⟨1, F14, rfl, ⟨(by decide), (fun q => ⟨by omega, by omega⟩), hI, hfr, fun k hk => (y_fiZ oY16 (s_sub (by decide) hk)).trans ((hz0 k hk).trans (y_fiZ oY0 (s_sub (by decide) hk)).symm), (by first | (rw [y_fiZ oY0 (k := 1) (by decide), ← eF_1, y_fiZ oY16 (k := 1) (by decide), ← ev17]; omega) | rw [y_fiZ oY0 (k := 1) (by decide), ← eF_1, y_fiZ oY16 (k := 1) (by decide), ← ev17])⟩, by rw [ht]; exact hP, va_K.moved hW.alike hK⟩, hS.F ht⟩) hS.2.2 dX7_end_24
    · have c10 := mt Int32.le_iff_toInt_le.mpr c10
      refine lv_aload_n hx hb dX7_end_12 rfl (lv_at hl 0 rfl) ?_
      refine lv_iconst (v := 0) hx hb dX7_end_13 (by decide) ?_
      refine va_calli (va_runV (As := [.int 0]) (rest := []) ⟨hx, hb, hml, hown, hts⟩ (y_X7_isRefused l dC dI H.size hLK A hA F a0 0 ha0 (by decide) hI) (cwV 1 hts (ax_gV T_262 T_263 T_264 T_265 T_20) rfl rfl rfl (by decide +kernel) ⟨Nat.le_of_ble_eq_true rfl, Nat.le_of_ble_eq_true rfl⟩) ⟨fun a U g mk q => ⟨q.1, s_pc (U := U) rfl rfl q.2⟩, s_recv hK hP (hLK _ ha0 (by decide)) (ci := 7) rfl oY0, fun U hU hW => ⟨rfl, s_pw hU hW hP hK hD hN⟩⟩ rfl rfl hl.1 rfl (lv_room (Nat.le_of_ble_eq_true rfl)) dX7_end_14 ⟨Nat.zero_le _, Nat.zero_le _⟩) hS (fun q _ h => h) (fun q h => h) (fun r20 F21 t H1 locs ht hvm hw hB hz1 hk1 hS => ?_)
      obtain ⟨hP, hK1⟩ := hB
      rw [ht] at hP
      generalize H1 = H at hP hS ⊢
      clear hz1 hk1 hvm hK1
      obtain ⟨h22, h24, hI, hfr1, hzf, h23⟩ := hw
      have oY25 : F21 a0 = .inr (7, y_fl A z0 q0) := (hfr1 _ (by rw [ha0]; decide)).trans oY0
      have hfr : ∀ b, K b ∉ [9, 59] → F21 b = F b := fun b hb9 => (hfr1 b (fun q => hb9 (s_sub (by decide) q))).trans (hfr b hb9)
      exact W.zret (v := r20) (ty := .boolean) hx hb hr (th_nz ⟨by omega, by omega⟩) (fun t ht hW => ⟨⟨r20, F21, rfl, ⟨⟨by omega, by omega⟩, (fun q => absurd (y_z0 ⟨by omega, by omega⟩) q), hI, hfr, fun k hk => (y_fiZ oY25 (s_sub (by decide) hk)).trans ((hz0 k hk).trans (y_fiZ oY0 (s_sub (by decide) hk)).symm), (by first | (rw [y_fiZ oY0 (k := 1) (by decide), ← eF_1, y_fiZ oY25 (k := 1) (by decide), ← ev1]; omega) | rw [y_fiZ oY0 (k := 1) (by decide), ← eF_1, y_fiZ oY25 (k := 1) (by decide), ← ev1])⟩, by rw [ht]; exact hP, va_K.moved hW.alike hK⟩, hS.F ht⟩) hS.2.2 dX7_end_17

set_option maxHeartbeats 4000000 in
set_option maxRecDepth 100000 in
theorem y_X7_status (l : Launch) (dC : Nat → ClassId) (dI : Nat → Nat → Nat) (sz : Nat) {L : List Nat} {K : Nat → Nat} {cs : Nat → ClassId} (hLK : ∀ a {k : Nat}, K a = k → k ≠ 0 → a ∈ L) (A : Nat → Nat) (hA : y_A K A) (F : Nat → va_E) (a0 : Nat) (x1 : Int32) (ha0 : K a0 = 9) (hI : y_I K cs A F) : Met l yX7_status (Cond.code yX7_status cX7_status 2 (some .int) :: T0) ({ frames := 1, cells := 0, slots := 0, locals := 25 }) (va_Pc [.ref a0, .int x1] (s_W dC dI sz L F [(cs 0, .int), (cs 1, .byte), (cs 2, .long), (cs 3, .object RX5), (cs 4, .object RX4), (cs 5, .array .int), (cs 6, .char), (cs 7, .boolean)])) (va_Qi (fun (r : Int32) (G : Nat → va_E) => True ∧ True ∧ y_I K cs A G ∧ (∀ b, K b ∉ ([] : List Nat) → G b = F b) ∧ (∀ k, k ∈ ([1, 2, 3, 4, 5, 6, 7, 8, 11, 15, 16, 19, 25, 26, 27, 31, 32] : List Nat) → y_fi G a0 k = y_fi F a0 k) ∧ True) (fun (G : Nat → va_E) (t : State) => va_P (dC, dI) vwCl (va_pl L G) t.heap ∧ va_K (dC, dI) vwCl [(cs 0, .int), (cs 1, .byte), (cs 2, .long), (cs 3, .object RX5), (cs 4, .object RX4), (cs 5, .array .int), (cs 6, .char), (cs 7, .boolean)] t) (fun q => q ∈ L)) 0 0 (fun q => q ∈ L) := by
  refine Met.ofW (cc := cX7_status) (maxL := 2) (ret := (some .int)) (by decide) rfl ?_
  intro p e s m args below meth c s₁ B hml hv
  obtain ⟨rfl, hsz, hP, hK, hD, hN⟩ := hv
  have hx := B.exec
  have hb := B.bytes
  have hr := B.returns
  have hts : ∀ w ∈ T0, w.before _ s = true := fun w h => atoms_spec (ws := Cond.code yX7_status cX7_status 2 (some .int) :: T0) B.pre w (List.mem_cons_of_mem _ h)
  have hown : s.vm.findClass RX7 = some m.cls := findClass_of_methodNamed B.named
  have hlocks := B.notSynchronized
  have hS : va_S (fun q => q ∈ L) s.heap s.heap [] := va_S.rf
  have hfr : ∀ b, K b ∉ ([] : List Nat) → F b = F b := fun _ _ => rfl
  have hl := lv_entry ([.ref a0, .int x1]) (n := 2) (Nat.le_of_ble_eq_true rfl)
  rw [lg_entry_eq]
  generalize (lg_sl ([.ref a0, .int x1]) ++ List.replicate (2 - (lg_sl ([.ref a0, .int x1])).length) Slot.unset).toArray = ls at hl ⊢
  have hl : lv_has ls 2 [(0, .ref a0), (1, .int x1)] := hl
  refine s_gen hP hS (fun H locs hP hS => ?_)
  obtain ⟨z0, q0, oY0, bz0, bq0⟩ := y_opY hI ha0
  have hz0 : ∀ k, k ∈ ([1, 2, 3, 4, 5, 6, 7, 8, 11, 15, 16, 19, 25, 26, 27, 31, 32] : List Nat) → z0 k = z0 k := fun _ _ => rfl
  refine lv_iload_n hx hb dX7_status_0 rfl (lv_at hl 1 rfl) ?_
  refine lv_i2l hx hb dX7_status_1 rfl ?_
  refine lv_topl (fun v1 ev1 => ?_)
  have qv1 : v1.toInt = x1.toInt := y_i2l ev1
  refine lv_lconst (v := 0) hx hb dX7_status_2 (by decide) ?_
  refine lv_ldc2 hx hb hown (hts _ T_266) dX7_status_3 ?_
  refine va_calli (va_runS (As := [.long v1, .long 0, .long 5]) (rest := []) ⟨hx, hb, hml, hown, hts⟩ (y_X7_isIn l dC dI H.size F v1 0 5) (cwS 3 hts (ax_gS T_267 T_268 T_265 T_21) rfl rfl rfl (by decide +kernel) ⟨Nat.le_of_ble_eq_true rfl, Nat.le_of_ble_eq_true rfl⟩) ⟨fun a U g mk q => ⟨q.1, s_pc (U := U) rfl rfl q.2⟩, fun U hU hW => ⟨rfl, s_pw hU hW hP hK hD hN⟩⟩ rfl rfl hl.1 rfl (lv_room (Nat.le_of_ble_eq_true rfl)) dX7_status_6 ⟨Nat.zero_le _, Nat.zero_le _⟩) hS (fun q _ h => h) (fun q h => h) (fun r3 F4 t H1 locs ht hvm hw hB hz1 hk1 hS => ?_)
  obtain ⟨hP, hK1⟩ := hB
  rw [ht] at hP
  generalize H1 = H at hP hS ⊢
  clear hz1 hk1 hvm hK1
  obtain ⟨h5, h7, hG9, h6⟩ := hw
  rw [hG9] at hP
  replace h6 : ((r3.toInt = 0 ∧ (v1.toInt < 0 ∨ 5 < v1.toInt)) ∨ (r3.toInt = 1 ∧ 0 ≤ v1.toInt ∧ v1.toInt ≤ 5)) := by have q9 := h6; exact q9
  refine lv_if_eq (tgt := 21) hx hb dX7_status_9 (by decide) (fun c8 => ?_) (fun c8 => ?_)
  · have c8 := (ax_eq (n := 0) (by decide)).mp c8
    refine lv_iconst (v := (-1)) hx hb dX7_status_21 (by decide) ?_
    have h9 : ((-1) : Int32).toInt = (-1) := by decide
    exact W.iret (v := (-1)) hx hb hr (fun t ht hW => ⟨⟨(-1), F, rfl, ⟨trivial, trivial, hI, hfr, fun k hk => (y_fiZ oY0 (s_sub (by decide) hk)).trans ((hz0 k hk).trans (y_fiZ oY0 (s_sub (by decide) hk)).symm), trivial⟩, by rw [ht]; exact hP, va_K.moved hW.alike hK⟩, hS.F ht⟩) hS.2.2 dX7_status_22
  · have c8 := mt (ax_eq (n := 0) (by decide)).mpr c8
    refine lv_aload_n hx hb dX7_status_12 rfl (lv_at hl 0 rfl) ?_
    refine th_get (D := (dC, dI)) (ci := 7) (v := .ref (A 9)) (C := RX7) (T := TX7) (N := 34) hx hb hts inX7 hown hK hP (hLK _ ha0 (by decide)) oY0 rfl 9 (by decide) (hts _ T_242) (fun _ h9 => h9) rfl dX7_status_13 ?_
    refine lv_iload_n hx hb dX7_status_16 rfl (lv_at hl 1 rfl) ?_
    obtain ⟨f10, o11, b12⟩ := y_op9 hI
    refine th_iald hx hb hK hP (hLK _ (y_k9 hA) (by decide)) 0 o11 rfl (th_in ⟨by omega, by omega⟩) dX7_status_17 ?_
    refine lv_topi (fun v13 ev13 => ?_)
    refine lv_goto (tgt := 22) hx hb dX7_status_18 (by decide) ?_
    exact W.iret (v := v13) hx hb hr (fun t ht hW => ⟨⟨v13, F, rfl, ⟨trivial, trivial, hI, hfr, fun k hk => (y_fiZ oY0 (s_sub (by decide) hk)).trans ((hz0 k hk).trans (y_fiZ oY0 (s_sub (by decide) hk)).symm), trivial⟩, by rw [ht]; exact hP, va_K.moved hW.alike hK⟩, hS.F ht⟩) hS.2.2 dX7_status_22

set_option maxHeartbeats 4000000 in
set_option maxRecDepth 100000 in
theorem y_X7_fault (l : Launch) (dC : Nat → ClassId) (dI : Nat → Nat → Nat) (sz : Nat) {L : List Nat} {K : Nat → Nat} {cs : Nat → ClassId} (hLK : ∀ a {k : Nat}, K a = k → k ≠ 0 → a ∈ L) (A : Nat → Nat) (hA : y_A K A) (F : Nat → va_E) (a0 : Nat) (x1 : Int32) (ha0 : K a0 = 9) (hI : y_I K cs A F) : Met l yX7_fault (Cond.code yX7_fault cX7_fault 2 (some .int) :: T0) ({ frames := 0, cells := 0, slots := 0, locals := 0 }) (va_Pc [.ref a0, .int x1] (s_W dC dI sz L F [(cs 0, .int), (cs 1, .byte), (cs 2, .long), (cs 3, .object RX5), (cs 4, .object RX4), (cs 5, .array .int), (cs 6, .char), (cs 7, .boolean)])) (va_Qi (fun (r : Int32) (G : Nat → va_E) => True ∧ True ∧ y_I K cs A G ∧ (∀ b, K b ∉ ([] : List Nat) → G b = F b) ∧ (∀ k, k ∈ ([1, 2, 3, 4, 5, 6, 7, 8, 11, 15, 16, 19, 25, 26, 27, 31, 32] : List Nat) → y_fi G a0 k = y_fi F a0 k) ∧ True) (fun (G : Nat → va_E) (t : State) => va_P (dC, dI) vwCl (va_pl L G) t.heap ∧ va_K (dC, dI) vwCl [(cs 0, .int), (cs 1, .byte), (cs 2, .long), (cs 3, .object RX5), (cs 4, .object RX4), (cs 5, .array .int), (cs 6, .char), (cs 7, .boolean)] t) (fun q => q ∈ L)) 0 0 (fun q => q ∈ L) := by
  refine Met.ofW (cc := cX7_fault) (maxL := 2) (ret := (some .int)) (by decide) rfl ?_
  intro p e s m args below meth c s₁ B hml hv
  obtain ⟨rfl, hsz, hP, hK, hD, hN⟩ := hv
  have hx := B.exec
  have hb := B.bytes
  have hr := B.returns
  have hts : ∀ w ∈ T0, w.before _ s = true := fun w h => atoms_spec (ws := Cond.code yX7_fault cX7_fault 2 (some .int) :: T0) B.pre w (List.mem_cons_of_mem _ h)
  have hown : s.vm.findClass RX7 = some m.cls := findClass_of_methodNamed B.named
  have hlocks := B.notSynchronized
  have hS : va_S (fun q => q ∈ L) s.heap s.heap [] := va_S.rf
  have hfr : ∀ b, K b ∉ ([] : List Nat) → F b = F b := fun _ _ => rfl
  have hl := lv_entry ([.ref a0, .int x1]) (n := 2) (Nat.le_of_ble_eq_true rfl)
  rw [lg_entry_eq]
  generalize (lg_sl ([.ref a0, .int x1]) ++ List.replicate (2 - (lg_sl ([.ref a0, .int x1])).length) Slot.unset).toArray = ls at hl ⊢
  have hl : lv_has ls 2 [(0, .ref a0), (1, .int x1)] := hl
  refine s_gen hP hS (fun H locs hP hS => ?_)
  obtain ⟨z0, q0, oY0, bz0, bq0⟩ := y_opY hI ha0
  have hz0 : ∀ k, k ∈ ([1, 2, 3, 4, 5, 6, 7, 8, 11, 15, 16, 19, 25, 26, 27, 31, 32] : List Nat) → z0 k = z0 k := fun _ _ => rfl
  refine lv_iload_n hx hb dX7_fault_0 rfl (lv_at hl 1 rfl) ?_
  refine lv_if_ne (tgt := 11) hx hb dX7_fault_1 (by decide) (fun c1 => ?_) (fun c1 => ?_)
  · have c1 := mt (ax_eq (n := 0) (by decide)).mpr c1
    refine lv_iload_n hx hb dX7_fault_11 rfl (lv_at hl 1 rfl) ?_
    refine lv_iconst (v := 1) hx hb dX7_fault_12 (by decide) ?_
    refine lv_icmp_ne (tgt := 23) hx hb dX7_fault_13 (by decide) (fun c2 => ?_) (fun c2 => ?_)
    · have c2 := mt (ax_eq (n := 1) (by decide)).mpr c2
      refine lv_iconst (v := (-1)) hx hb dX7_fault_23 (by decide) ?_
      have h3 : ((-1) : Int32).toInt = (-1) := by decide
      exact W.iret (v := (-1)) hx hb hr (fun t ht hW => ⟨⟨(-1), F, rfl, ⟨trivial, trivial, hI, hfr, fun k hk => (y_fiZ oY0 (s_sub (by decide) hk)).trans ((hz0 k hk).trans (y_fiZ oY0 (s_sub (by decide) hk)).symm), trivial⟩, by rw [ht]; exact hP, va_K.moved hW.alike hK⟩, hS.F ht⟩) hS.2.2 dX7_fault_24
    · have c2 := (ax_eq (n := 1) (by decide)).mp c2
      refine lv_aload_n hx hb dX7_fault_16 rfl (lv_at hl 0 rfl) ?_
      refine th_get (D := (dC, dI)) (ci := 7) (v := .int (z0 8)) (C := RX7) (T := TX7) (N := 34) hx hb hts inX7 hown hK hP (hLK _ ha0 (by decide)) oY0 rfl 8 (by decide) (hts _ T_241) (fun _ h9 => h9) rfl dX7_fault_17 ?_
      refine lv_topi (fun v4 ev4 => ?_)
      refine lv_goto (tgt := 24) hx hb dX7_fault_20 (by decide) ?_
      exact W.iret (v := v4) hx hb hr (fun t ht hW => ⟨⟨v4, F, rfl, ⟨trivial, trivial, hI, hfr, fun k hk => (y_fiZ oY0 (s_sub (by decide) hk)).trans ((hz0 k hk).trans (y_fiZ oY0 (s_sub (by decide) hk)).symm), trivial⟩, by rw [ht]; exact hP, va_K.moved hW.alike hK⟩, hS.F ht⟩) hS.2.2 dX7_fault_24
  · have c1 := (ax_eq (n := 0) (by decide)).mp c1
    refine lv_aload_n hx hb dX7_fault_4 rfl (lv_at hl 0 rfl) ?_
    refine th_get (D := (dC, dI)) (ci := 7) (v := .int (z0 7)) (C := RX7) (T := TX7) (N := 34) hx hb hts inX7 hown hK hP (hLK _ ha0 (by decide)) oY0 rfl 7 (by decide) (hts _ T_269) (fun _ h9 => h9) rfl dX7_fault_5 ?_
    refine lv_topi (fun v5 ev5 => ?_)
    refine lv_goto (tgt := 24) hx hb dX7_fault_8 (by decide) ?_
    exact W.iret (v := v5) hx hb hr (fun t ht hW => ⟨⟨v5, F, rfl, ⟨trivial, trivial, hI, hfr, fun k hk => (y_fiZ oY0 (s_sub (by decide) hk)).trans ((hz0 k hk).trans (y_fiZ oY0 (s_sub (by decide) hk)).symm), trivial⟩, by rw [ht]; exact hP, va_K.moved hW.alike hK⟩, hS.F ht⟩) hS.2.2 dX7_fault_24

set_option maxHeartbeats 4000000 in
set_option maxRecDepth 100000 in
theorem y_X7_fail (l : Launch) (dC : Nat → ClassId) (dI : Nat → Nat → Nat) (sz : Nat) {L : List Nat} {K : Nat → Nat} {cs : Nat → ClassId} (hLK : ∀ a {k : Nat}, K a = k → k ≠ 0 → a ∈ L) (A : Nat → Nat) (hA : y_A K A) (F : Nat → va_E) (a0 : Nat) (x1 : Int32) (x2 : Int32) (ha0 : K a0 = 9) (hx1 : 1 ≤ x1.toInt ∧ x1.toInt ≤ 5) (hI : y_I K cs A F) : Met l yX7_fail (Cond.code yX7_fail cX7_fail 3 none :: T0) ({ frames := 0, cells := 0, slots := 0, locals := 0 }) (va_Pc [.ref a0, .int x1, .int x2] (s_W dC dI sz L F [(cs 0, .int), (cs 1, .byte), (cs 2, .long), (cs 3, .object RX5), (cs 4, .object RX4), (cs 5, .array .int), (cs 6, .char), (cs 7, .boolean)])) (va_Qv (fun (G : Nat → va_E) => True ∧ True ∧ y_I K cs A G ∧ (∀ b, K b ∉ [9] → G b = F b) ∧ (∀ k, k ∈ ([1, 2, 3, 4, 7, 8, 11, 15, 16, 19, 25, 26, 27, 31, 32] : List Nat) → y_fi G a0 k = y_fi F a0 k) ∧ (¬ (y_fi G a0 5).toInt = 0)) (fun (G : Nat → va_E) (t : State) => va_P (dC, dI) vwCl (va_pl L G) t.heap ∧ va_K (dC, dI) vwCl [(cs 0, .int), (cs 1, .byte), (cs 2, .long), (cs 3, .object RX5), (cs 4, .object RX4), (cs 5, .array .int), (cs 6, .char), (cs 7, .boolean)] t) (fun q => q ∈ L)) 0 0 (fun q => q ∈ L) := by
  refine Met.ofW (cc := cX7_fail) (maxL := 3) (ret := none) (by decide) rfl ?_
  intro p e s m args below meth c s₁ B hml hv
  obtain ⟨rfl, hsz, hP, hK, hD, hN⟩ := hv
  have hx := B.exec
  have hb := B.bytes
  have hr := B.returns
  have hts : ∀ w ∈ T0, w.before _ s = true := fun w h => atoms_spec (ws := Cond.code yX7_fail cX7_fail 3 none :: T0) B.pre w (List.mem_cons_of_mem _ h)
  have hown : s.vm.findClass RX7 = some m.cls := findClass_of_methodNamed B.named
  have hlocks := B.notSynchronized
  have hS : va_S (fun q => q ∈ L) s.heap s.heap [] := va_S.rf
  have hfr : ∀ b, K b ∉ [9] → F b = F b := fun _ _ => rfl
  have hl := lv_entry ([.ref a0, .int x1, .int x2]) (n := 3) (Nat.le_of_ble_eq_true rfl)
  rw [lg_entry_eq]
  generalize (lg_sl ([.ref a0, .int x1, .int x2]) ++ List.replicate (3 - (lg_sl ([.ref a0, .int x1, .int x2])).length) Slot.unset).toArray = ls at hl ⊢
  have hl : lv_has ls 3 [(0, .ref a0), (1, .int x1), (2, .int x2)] := hl
  refine s_gen hP hS (fun H locs hP hS => ?_)
  obtain ⟨z0, q0, oY0, bz0, bq0⟩ := y_opY hI ha0
  have hz0 : ∀ k, k ∈ ([1, 2, 3, 4, 7, 8, 11, 15, 16, 19, 25, 26, 27, 31, 32] : List Nat) → z0 k = z0 k := fun _ _ => rfl
  obtain ⟨v1, ev1⟩ : ∃ y : Int32, y = z0 5 := ⟨_, rfl⟩
  have eF_5 := ev1
  have e0_v1 := ev1
  refine lv_aload_n hx hb dX7_fail_0 rfl (lv_at hl 0 rfl) ?_
  refine th_get (D := (dC, dI)) (ci := 7) (v := .int (z0 5)) (C := RX7) (T := TX7) (N := 34) hx hb hts inX7 hown hK hP (hLK _ ha0 (by decide)) oY0 rfl 5 (by decide) (hts _ T_274) (fun _ h9 => h9) rfl dX7_fail_1 ?_
  refine ax_eqi (y := v1) ev1.symm ?_
  refine lv_if_eq (tgt := 8) hx hb dX7_fail_4 (by decide) (fun c2 => ?_) (fun c2 => ?_)
  · have c2 := (ax_eq (n := 0) (by decide)).mp c2
    refine lv_aload_n hx hb dX7_fail_8 rfl (lv_at hl 0 rfl) ?_
    refine lv_iload_n hx hb dX7_fail_9 rfl (lv_at hl 1 rfl) ?_
    refine th_put (D := (dC, dI)) (ci := 7) (v := .int x1) (ty := .int) (C := RX7) (T := TX7) (N := 34) hx hb hts inX7 tyX7 tyX7_ok nmX7 hown hK hP hD hS (hLK _ ha0 (by decide)) oY0 rfl 5 (by decide) (hts _ T_274) (fun _ h9 => h9) rfl (by decide +kernel) rfl rfl (Nat.le_of_ble_eq_true rfl) dX7_fail_10 (fun H locs hP hS => ?_)
    rw [y_fs5] at hP
    obtain ⟨z3, hz4⟩ : ∃ g : Nat → Int32, g = upd z0 5 x1 := ⟨_, rfl⟩
    rw [← hz4] at hP
    have bz5 : y_bY z3 := by rw [hz4]; exact y_bp5 bz0
    have hP : va_P (dC, dI) vwCl (va_pl L (va_up F a0 (.inr (7, y_fl A z3 q0)))) H := hP
    obtain ⟨F6, hF7⟩ : ∃ G : Nat → va_E, G = va_up F a0 (.inr (7, y_fl A z3 q0)) := ⟨_, rfl⟩
    rw [← hF7] at hP
    have hI : y_I K cs A F6 := by rw [hF7]; exact y_clY hA hI ha0 bz5 bq0
    have hfr : ∀ b, K b ∉ [9] → F6 b = F b := by rw [hF7]; exact s_fr hfr ha0 (by decide)
    have oY8 : F6 a0 = .inr (7, y_fl A z3 q0) := by rw [hF7]; exact th_up
    have hz0 : ∀ k, k ∈ ([1, 2, 3, 4, 7, 8, 11, 15, 16, 19, 25, 26, 27, 31, 32] : List Nat) → z3 k = z0 k := fun k hk => by rw [hz4]; exact (y_un (fun q => absurd hk (by rw [q]; decide))).trans (hz0 k hk)
    obtain ⟨v9, ev9⟩ : ∃ y : Int32, y = z3 5 := ⟨_, rfl⟩
    have qv9 : v9.toInt = x1.toInt := by rw [ev9, hz4, y_ue]
    refine lv_aload_n hx hb dX7_fail_13 rfl (lv_at hl 0 rfl) ?_
    refine lv_iload_n hx hb dX7_fail_14 rfl (lv_at hl 2 rfl) ?_
    refine th_put (D := (dC, dI)) (ci := 7) (v := .int x2) (ty := .int) (C := RX7) (T := TX7) (N := 34) hx hb hts inX7 tyX7 tyX7_ok nmX7 hown hK hP hD hS (hLK _ ha0 (by decide)) oY8 rfl 6 (by decide) (hts _ T_286) (fun _ h9 => h9) rfl (by decide +kernel) rfl rfl (Nat.le_of_ble_eq_true rfl) dX7_fail_15 (fun H locs hP hS => ?_)
    rw [y_fs6] at hP
    obtain ⟨z10, hz11⟩ : ∃ g : Nat → Int32, g = upd z3 6 x2 := ⟨_, rfl⟩
    rw [← hz11] at hP
    have bz12 : y_bY z10 := by rw [hz11]; exact y_bp6 bz5
    have hP : va_P (dC, dI) vwCl (va_pl L (va_up F6 a0 (.inr (7, y_fl A z10 q0)))) H := hP
    obtain ⟨F13, hF14⟩ : ∃ G : Nat → va_E, G = va_up F6 a0 (.inr (7, y_fl A z10 q0)) := ⟨_, rfl⟩
    rw [← hF14] at hP
    have hI : y_I K cs A F13 := by rw [hF14]; exact y_clY hA hI ha0 bz12 bq0
    have hfr : ∀ b, K b ∉ [9] → F13 b = F b := by rw [hF14]; exact s_fr hfr ha0 (by decide)
    have oY15 : F13 a0 = .inr (7, y_fl A z10 q0) := by rw [hF14]; exact th_up
    have hz0 : ∀ k, k ∈ ([1, 2, 3, 4, 7, 8, 11, 15, 16, 19, 25, 26, 27, 31, 32] : List Nat) → z10 k = z0 k := fun k hk => by rw [hz11]; exact (y_un (fun q => absurd hk (by rw [q]; decide))).trans (hz0 k hk)
    have ev9 : v9 = z10 5 := by rw [hz11]; exact ev9.trans (y_un (by decide)).symm
    obtain ⟨v16, ev16⟩ : ∃ y : Int32, y = z10 6 := ⟨_, rfl⟩
    have qv16 : v16.toInt = x2.toInt := by rw [ev16, hz11, y_ue]
    exact W.vret hx hb hr (fun t ht hW => ⟨⟨F13, rfl, ⟨trivial, trivial, hI, hfr, fun k hk => (y_fiZ oY15 (s_sub (by decide) hk)).trans ((hz0 k hk).trans (y_fiZ oY0 (s_sub (by decide) hk)).symm), (by first | (rw [y_fiZ oY15 (k := 5) (by decide), ← ev9]; omega) | rw [y_fiZ oY15 (k := 5) (by decide), ← ev9])⟩, by rw [ht]; exact hP, va_K.moved hW.alike hK⟩, hS.F ht⟩) hS.2.2 dX7_fail_18
  · have c2 := mt (ax_eq (n := 0) (by decide)).mpr c2
    exact W.vret hx hb hr (fun t ht hW => ⟨⟨F, rfl, ⟨trivial, trivial, hI, hfr, fun k hk => (y_fiZ oY0 (s_sub (by decide) hk)).trans ((hz0 k hk).trans (y_fiZ oY0 (s_sub (by decide) hk)).symm), (by first | (rw [y_fiZ oY0 (k := 5) (by decide), ← ev1]; omega) | rw [y_fiZ oY0 (k := 5) (by decide), ← ev1])⟩, by rw [ht]; exact hP, va_K.moved hW.alike hK⟩, hS.F ht⟩) hS.2.2 dX7_fail_7
