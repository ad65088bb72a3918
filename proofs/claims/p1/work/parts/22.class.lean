set_option maxHeartbeats 4000000 in
set_option maxRecDepth 100000 in
/-- fault -/
theorem c_X6_fault (l : Launch) (dC : Nat → ClassId) (dI : Nat → Nat → Nat) (sz : Nat) (h0 : Nat) (qt : Nat) (qr : Nat) (qc : Nat) (qs : Nat) (qn : Nat) (qp : Nat) (qm : Nat) (qf : Nat) (qx : Nat) (ra0 : Nat) (ra1 : Nat) (ra2 : Nat) (ra3 : Nat) (p0 : Int32) : Met l yX6_fault (Cond.code yX6_fault cX6_fault 2 (some .int) :: T0) ({ frames := 0, cells := 0, slots := 0, locals := 0 }) (va_Pc [.ref h0, .int p0] (ax_W dC dI sz [(h0, .inr (6, [.ref qt, .int 0, .ref qr, .ref qc, .ref qs, .int 0, .ref qn, .ref qp, .int 0, .int 0, .ref qm, .ref qf, .ref qx, .long 1])), (qr, .inr (3, [.ref ra0, .ref ra1, .ref ra2, .ref ra3, .null, .int 0, .null, .int 0, .int 0, .int 0, .int 0, .int 0, .int 0, .int 0, .int (-1)]))] [])) (va_Qi (fun (r : Int32) (_ : Unit) => r = a_fault p0) (fun (_ : Unit) (t : State) => va_P (dC, dI) vwCl [] t.heap ∧ va_K (dC, dI) vwCl [] t ∧ va_D (va_A [(h0, .inr (6, [.ref qt, .int 0, .ref qr, .ref qc, .ref qs, .int 0, .ref qn, .ref qp, .int 0, .int 0, .ref qm, .ref qf, .ref qx, .long 1])), (qr, .inr (3, [.ref ra0, .ref ra1, .ref ra2, .ref ra3, .null, .int 0, .null, .int 0, .int 0, .int 0, .int 0, .int 0, .int 0, .int 0, .int (-1)]))] sz) []) (va_A [(h0, .inr (6, [.ref qt, .int 0, .ref qr, .ref qc, .ref qs, .int 0, .ref qn, .ref qp, .int 0, .int 0, .ref qm, .ref qf, .ref qx, .long 1])), (qr, .inr (3, [.ref ra0, .ref ra1, .ref ra2, .ref ra3, .null, .int 0, .null, .int 0, .int 0, .int 0, .int 0, .int 0, .int 0, .int 0, .int (-1)]))] sz)) 0 0 (va_A [(h0, .inr (6, [.ref qt, .int 0, .ref qr, .ref qc, .ref qs, .int 0, .ref qn, .ref qp, .int 0, .int 0, .ref qm, .ref qf, .ref qx, .long 1])), (qr, .inr (3, [.ref ra0, .ref ra1, .ref ra2, .ref ra3, .null, .int 0, .null, .int 0, .int 0, .int 0, .int 0, .int 0, .int 0, .int 0, .int (-1)]))] sz) := by
  refine Met.ofW (cc := cX6_fault) (maxL := 2) (ret := (some .int)) (by decide) rfl ?_
  intro p e s m args below meth c s₁ B hml hv
  obtain ⟨rfl, hsz, hP, hK, hD0, hN⟩ := hv
  have hx := B.exec
  have hb := B.bytes
  have hr := B.returns
  have hts : ∀ w ∈ T0, w.before _ s = true := fun w h => atoms_spec (ws := Cond.code yX6_fault cX6_fault 2 (some .int) :: T0) B.pre w (List.mem_cons_of_mem _ h)
  have hown : s.vm.findClass RX6 = some m.cls := findClass_of_methodNamed B.named
  have hlocks := B.notSynchronized
  subst hsz
  have hD := hD0.self (sz := s.heap.size)
  generalize hAe : va_A [(h0, .inr (6, [.ref qt, .int 0, .ref qr, .ref qc, .ref qs, .int 0, .ref qn, .ref qp, .int 0, .int 0, .ref qm, .ref qf, .ref qx, .long 1])), (qr, .inr (3, [.ref ra0, .ref ra1, .ref ra2, .ref ra3, .null, .int 0, .null, .int 0, .int 0, .int 0, .int 0, .int 0, .int 0, .int 0, .int (-1)]))] s.heap.size = A at hD ⊢
  have hA : ∀ q : Nat, s.heap.size ≤ q → A q := fun q h => by rw [← hAe]; exact Or.inr h
  have hS : va_S A s.heap s.heap [] := va_S.rf
  have hP : va_P (dC, dI) vwCl [(h0, .inr (6, [.ref qt, .int 0, .ref qr, .ref qc, .ref qs, .int 0, .ref qn, .ref qp, .int 0, .int 0, .ref qm, .ref qf, .ref qx, .long 1])), (qr, .inr (3, [.ref ra0, .ref ra1, .ref ra2, .ref ra3, .null, .int 0, .null, .int 0, .int 0, .int 0, .int 0, .int 0, .int 0, .int 0, .int (-1)]))] s.heap := hP
  have hl := lv_entry ([.ref h0, .int p0]) (n := 2) (Nat.le_of_ble_eq_true rfl)
  rw [lg_entry_eq]
  generalize (lg_sl ([.ref h0, .int p0]) ++ List.replicate (2 - (lg_sl ([.ref h0, .int p0])).length) Slot.unset).toArray = ls at hl ⊢
  refine ax_gen hP hD hS (fun H locs hP hD hS => ?_)
  have hl : lv_has ls 2 [(0, .ref h0), (1, .int p0)] := hl
  refine lv_iload_n hx hb dX6_fault_0 rfl (lv_at hl 1 rfl) ?_
  refine lv_if_ne (tgt := 12) hx hb dX6_fault_1 (by decide) (fun c1 => ?_) (fun c1 => ?_)
  · refine lv_iload_n hx hb dX6_fault_12 rfl (lv_at hl 1 rfl) ?_
    refine lv_iconst (v := 1) hx hb dX6_fault_13 (by decide) ?_
    refine lv_icmp_ne (tgt := 27) hx hb dX6_fault_14 (by decide) (fun c2 => ?_) (fun c2 => ?_)
    · refine lv_iconst (v := (-1)) hx hb dX6_fault_27 (by decide) ?_
      have hP9 := hP.sub (ws' := []) [] rfl
      have hD9 := hD.sub (ws' := []) [] (by decide) rfl
      have hK9 := hK.sub (tys' := []) [] rfl
      exact W.iret (v := (-1)) hx hb hr (fun t ht hW => ⟨⟨(-1), (), rfl, (by have h_0 := mt (ax_eq (n := 0) (by decide)).mpr c1; have h_1 := mt (ax_eq (n := 1) (by decide)).mpr c2; unfold a_fault; first | (rw [if_pos (by omega)]; done) | (rw [if_neg (by omega)]; done)), by rw [ht]; exact hP9, va_K.moved hW.alike hK9, hD9⟩, hS.F ht⟩) hS.2.2 dX6_fault_28
    · refine lv_aload_n hx hb dX6_fault_17 rfl (lv_at hl 0 rfl) ?_
      refine va_get (D := (dC, dI)) (ci := 6) (v := .ref qr) (C := RX6) (T := TX6) (N := 14) hx hb hts inX6 hown hK hP 0 rfl rfl 2 (by decide) (hts _ T_74) (fun _ h9 => h9) rfl dX6_fault_18 ?_
      refine va_getN (D := (dC, dI)) (ci := 3) (v := .int (-1)) (C := RX3) (T := TX3) (N := 15) hx hb hts inX3 hown hK hP 1 rfl rfl 14 (by decide) (va_Nw.use rfl hN.2.2.2.2.2.2.2.2.2.2.1) (fun _ h9 => h9) rfl dX6_fault_21 ?_
      refine lv_goto (tgt := 28) hx hb dX6_fault_24 (by decide) ?_
      have hP9 := hP.sub (ws' := []) [] rfl
      have hD9 := hD.sub (ws' := []) [] (by decide) rfl
      have hK9 := hK.sub (tys' := []) [] rfl
      exact W.iret (v := (-1)) hx hb hr (fun t ht hW => ⟨⟨(-1), (), rfl, (by have h_0 := mt (ax_eq (n := 0) (by decide)).mpr c1; have h_1 := (ax_eq (n := 1) (by decide)).mp c2; unfold a_fault; first | (rw [if_pos (by omega)]; done) | (rw [if_neg (by omega)]; done)), by rw [ht]; exact hP9, va_K.moved hW.alike hK9, hD9⟩, hS.F ht⟩) hS.2.2 dX6_fault_28
  · refine lv_aload_n hx hb dX6_fault_4 rfl (lv_at hl 0 rfl) ?_
    refine va_get (D := (dC, dI)) (ci := 6) (v := .ref qr) (C := RX6) (T := TX6) (N := 14) hx hb hts inX6 hown hK hP 0 rfl rfl 2 (by decide) (hts _ T_74) (fun _ h9 => h9) rfl dX6_fault_5 ?_
    refine va_getN (D := (dC, dI)) (ci := 3) (v := .int 0) (C := RX3) (T := TX3) (N := 15) hx hb hts inX3 hown hK hP 1 rfl rfl 13 (by decide) (va_Nw.use rfl hN.2.2.2.2.2.2.2.2.2.2.2.1) (fun _ h9 => h9) rfl dX6_fault_8 ?_
    have hP9 := hP.sub (ws' := []) [] rfl
    have hD9 := hD.sub (ws' := []) [] (by decide) rfl
    have hK9 := hK.sub (tys' := []) [] rfl
    exact W.iret (v := 0) hx hb hr (fun t ht hW => ⟨⟨0, (), rfl, (by have h_0 := (ax_eq (n := 0) (by decide)).mp c1; unfold a_fault; first | (rw [if_pos (by omega)]; done) | (rw [if_neg (by omega)]; done)), by rw [ht]; exact hP9, va_K.moved hW.alike hK9, hD9⟩, hS.F ht⟩) hS.2.2 dX6_fault_11

set_option maxHeartbeats 4000000 in
set_option maxRecDepth 100000 in
/-- has -/
theorem c_X6_has (l : Launch) (dC : Nat → ClassId) (dI : Nat → Nat → Nat) (sz : Nat) (h0 : Nat) (qt : Nat) (qr : Nat) (qc : Nat) (qs : Nat) (qn : Nat) (qp : Nat) (qm : Nat) (qf : Nat) (qx : Nat) (p0 : Int32) : Met l yX6_has (Cond.code yX6_has cX6_has 2 (some .int) :: T0) ({ frames := 0, cells := 0, slots := 0, locals := 0 }) (va_Pc [.ref h0, .int p0] (ax_W dC dI sz [(h0, .inr (6, [.ref qt, .int 0, .ref qr, .ref qc, .ref qs, .int 0, .ref qn, .ref qp, .int 0, .int 0, .ref qm, .ref qf, .ref qx, .long 1]))] [])) (va_Qi (fun (r : Int32) (_ : Unit) => r = a_has p0) (fun (_ : Unit) (t : State) => va_P (dC, dI) vwCl [] t.heap ∧ va_K (dC, dI) vwCl [] t ∧ va_D (va_A [(h0, .inr (6, [.ref qt, .int 0, .ref qr, .ref qc, .ref qs, .int 0, .ref qn, .ref qp, .int 0, .int 0, .ref qm, .ref qf, .ref qx, .long 1]))] sz) []) (va_A [(h0, .inr (6, [.ref qt, .int 0, .ref qr, .ref qc, .ref qs, .int 0, .ref qn, .ref qp, .int 0, .int 0, .ref qm, .ref qf, .ref qx, .long 1]))] sz)) 0 0 (va_A [(h0, .inr (6, [.ref qt, .int 0, .ref qr, .ref qc, .ref qs, .int 0, .ref qn, .ref qp, .int 0, .int 0, .ref qm, .ref qf, .ref qx, .long 1]))] sz) := by
  refine Met.ofW (cc := cX6_has) (maxL := 2) (ret := (some .int)) (by decide) rfl ?_
  intro p e s m args below meth c s₁ B hml hv
  obtain ⟨rfl, hsz, hP, hK, hD0, hN⟩ := hv
  have hx := B.exec
  have hb := B.bytes
  have hr := B.returns
  have hts : ∀ w ∈ T0, w.before _ s = true := fun w h => atoms_spec (ws := Cond.code yX6_has cX6_has 2 (some .int) :: T0) B.pre w (List.mem_cons_of_mem _ h)
  have hown : s.vm.findClass RX6 = some m.cls := findClass_of_methodNamed B.named
  have hlocks := B.notSynchronized
  subst hsz
  have hD := hD0.self (sz := s.heap.size)
  generalize hAe : va_A [(h0, .inr (6, [.ref qt, .int 0, .ref qr, .ref qc, .ref qs, .int 0, .ref qn, .ref qp, .int 0, .int 0, .ref qm, .ref qf, .ref qx, .long 1]))] s.heap.size = A at hD ⊢
  have hA : ∀ q : Nat, s.heap.size ≤ q → A q := fun q h => by rw [← hAe]; exact Or.inr h
  have hS : va_S A s.heap s.heap [] := va_S.rf
  have hP : va_P (dC, dI) vwCl [(h0, .inr (6, [.ref qt, .int 0, .ref qr, .ref qc, .ref qs, .int 0, .ref qn, .ref qp, .int 0, .int 0, .ref qm, .ref qf, .ref qx, .long 1]))] s.heap := hP
  have hl := lv_entry ([.ref h0, .int p0]) (n := 2) (Nat.le_of_ble_eq_true rfl)
  rw [lg_entry_eq]
  generalize (lg_sl ([.ref h0, .int p0]) ++ List.replicate (2 - (lg_sl ([.ref h0, .int p0])).length) Slot.unset).toArray = ls at hl ⊢
  refine ax_gen hP hD hS (fun H locs hP hD hS => ?_)
  have hl : lv_has ls 2 [(0, .ref h0), (1, .int p0)] := hl
  refine lv_iload_n hx hb dX6_has_0 rfl (lv_at hl 1 rfl) ?_
  refine lv_if_lt (tgt := 10) hx hb dX6_has_1 (by decide) (fun c1 => ?_) (fun c1 => ?_)
  · refine lv_iconst (v := (-1)) hx hb dX6_has_10 (by decide) ?_
    have hP9 := hP.sub (ws' := []) [] rfl
    have hD9 := hD.sub (ws' := []) [] (by decide) rfl
    have hK9 := hK.sub (tys' := []) [] rfl
    exact W.iret (v := (-1)) hx hb hr (fun t ht hW => ⟨⟨(-1), (), rfl, (by have h_0 := (ax_lt (n := 0) (by decide)).mp c1; unfold a_has; first | (rw [if_pos (by omega)]; done) | (rw [if_neg (by omega)]; done)), by rw [ht]; exact hP9, va_K.moved hW.alike hK9, hD9⟩, hS.F ht⟩) hS.2.2 dX6_has_11
  · refine lv_iload_n hx hb dX6_has_4 rfl (lv_at hl 1 rfl) ?_
    refine lv_bipush (v := 13) hx hb dX6_has_5 (by decide) ?_
    refine lv_icmp_le (tgt := 12) hx hb dX6_has_7 (by decide) (fun c2 => ?_) (fun c2 => ?_)
    · refine lv_aload_n hx hb dX6_has_12 rfl (lv_at hl 0 rfl) ?_
      refine va_get (D := (dC, dI)) (ci := 6) (v := .int 0) (C := RX6) (T := TX6) (N := 14) hx hb hts inX6 hown hK hP 0 rfl rfl 5 (by decide) (hts _ T_143) (fun _ h9 => h9) rfl dX6_has_13 ?_
      refine lv_if_ne (tgt := 21) hx hb dX6_has_16 (by decide) (fun c => absurd (by decide) c) (fun _ => ?_)
      refine lv_iconst (v := 0) hx hb dX6_has_19 (by decide) ?_
      have hP9 := hP.sub (ws' := []) [] rfl
      have hD9 := hD.sub (ws' := []) [] (by decide) rfl
      have hK9 := hK.sub (tys' := []) [] rfl
      exact W.iret (v := 0) hx hb hr (fun t ht hW => ⟨⟨0, (), rfl, (by have h_0 := mt (ax_lt (n := 0) (by decide)).mpr c1; have h_1 := (ax_le (n := 13) (by decide)).mp c2; unfold a_has; first | (rw [if_pos (by omega)]; done) | (rw [if_neg (by omega)]; done)), by rw [ht]; exact hP9, va_K.moved hW.alike hK9, hD9⟩, hS.F ht⟩) hS.2.2 dX6_has_20
    · refine lv_iconst (v := (-1)) hx hb dX6_has_10 (by decide) ?_
      have hP9 := hP.sub (ws' := []) [] rfl
      have hD9 := hD.sub (ws' := []) [] (by decide) rfl
      have hK9 := hK.sub (tys' := []) [] rfl
      exact W.iret (v := (-1)) hx hb hr (fun t ht hW => ⟨⟨(-1), (), rfl, (by have h_0 := mt (ax_lt (n := 0) (by decide)).mpr c1; have h_1 := mt (ax_le (n := 13) (by decide)).mpr c2; unfold a_has; first | (rw [if_pos (by omega)]; done) | (rw [if_neg (by omega)]; done)), by rw [ht]; exact hP9, va_K.moved hW.alike hK9, hD9⟩, hS.F ht⟩) hS.2.2 dX6_has_11

set_option maxHeartbeats 4000000 in
set_option maxRecDepth 100000 in
theorem c_X6_hasWarp (l : Launch) (dC : Nat → ClassId) (dI : Nat → Nat → Nat) (sz : Nat) (h0 : Nat) (qt : Nat) (qr : Nat) (qc : Nat) (qs : Nat) (qn : Nat) (qp : Nat) (qm : Nat) (qf : Nat) (qx : Nat) (p0 : Int32) : Met l yX6_hasWarp (Cond.code yX6_hasWarp cX6_hasWarp 2 (some .boolean) :: T0) ({ frames := 0, cells := 0, slots := 0, locals := 0 }) (va_Pc [.ref h0, .int p0] (ax_W dC dI sz [(h0, .inr (6, [.ref qt, .int 0, .ref qr, .ref qc, .ref qs, .int 0, .ref qn, .ref qp, .int 0, .int 0, .ref qm, .ref qf, .ref qx, .long 1]))] [])) (va_Qi (fun (r : Int32) (_ : Unit) => r = 0) (fun (_ : Unit) (t : State) => va_P (dC, dI) vwCl [(h0, .inr (6, [.ref qt, .int 0, .ref qr, .ref qc, .ref qs, .int 0, .ref qn, .ref qp, .int 0, .int 0, .ref qm, .ref qf, .ref qx, .long 1]))] t.heap ∧ va_K (dC, dI) vwCl [] t ∧ va_D (va_A [(h0, .inr (6, [.ref qt, .int 0, .ref qr, .ref qc, .ref qs, .int 0, .ref qn, .ref qp, .int 0, .int 0, .ref qm, .ref qf, .ref qx, .long 1]))] sz) [(h0, .inr (6, [.ref qt, .int 0, .ref qr, .ref qc, .ref qs, .int 0, .ref qn, .ref qp, .int 0, .int 0, .ref qm, .ref qf, .ref qx, .long 1]))]) (va_A [(h0, .inr (6, [.ref qt, .int 0, .ref qr, .ref qc, .ref qs, .int 0, .ref qn, .ref qp, .int 0, .int 0, .ref qm, .ref qf, .ref qx, .long 1]))] sz)) 0 0 (va_A [(h0, .inr (6, [.ref qt, .int 0, .ref qr, .ref qc, .ref qs, .int 0, .ref qn, .ref qp, .int 0, .int 0, .ref qm, .ref qf, .ref qx, .long 1]))] sz) := by
  refine Met.ofW (cc := cX6_hasWarp) (maxL := 2) (ret := (some .boolean)) (by decide) rfl ?_
  intro p e s m args below meth c s₁ B hml hv
  obtain ⟨rfl, hsz, hP, hK, hD0, hN⟩ := hv
  have hx := B.exec
  have hb := B.bytes
  have hr := B.returns
  have hts : ∀ w ∈ T0, w.before _ s = true := fun w h => atoms_spec (ws := Cond.code yX6_hasWarp cX6_hasWarp 2 (some .boolean) :: T0) B.pre w (List.mem_cons_of_mem _ h)
  have hown : s.vm.findClass RX6 = some m.cls := findClass_of_methodNamed B.named
  have hlocks := B.notSynchronized
  subst hsz
  have hD := hD0.self (sz := s.heap.size)
  generalize hAe : va_A [(h0, .inr (6, [.ref qt, .int 0, .ref qr, .ref qc, .ref qs, .int 0, .ref qn, .ref qp, .int 0, .int 0, .ref qm, .ref qf, .ref qx, .long 1]))] s.heap.size = A at hD ⊢
  have hA : ∀ q : Nat, s.heap.size ≤ q → A q := fun q h => by rw [← hAe]; exact Or.inr h
  have hS : va_S A s.heap s.heap [] := va_S.rf
  have hP : va_P (dC, dI) vwCl [(h0, .inr (6, [.ref qt, .int 0, .ref qr, .ref qc, .ref qs, .int 0, .ref qn, .ref qp, .int 0, .int 0, .ref qm, .ref qf, .ref qx, .long 1]))] s.heap := hP
  have hl := lv_entry ([.ref h0, .int p0]) (n := 2) (Nat.le_of_ble_eq_true rfl)
  rw [lg_entry_eq]
  generalize (lg_sl ([.ref h0, .int p0]) ++ List.replicate (2 - (lg_sl ([.ref h0, .int p0])).length) Slot.unset).toArray = ls at hl ⊢
  refine ax_gen hP hD hS (fun H locs hP hD hS => ?_)
  have hl : lv_has ls 2 [(0, .ref h0), (1, .int p0)] := hl
  refine lv_aload_n hx hb dX6_hasWarp_0 rfl (lv_at hl 0 rfl) ?_
  refine va_get (D := (dC, dI)) (ci := 6) (v := .int 0) (C := RX6) (T := TX6) (N := 14) hx hb hts inX6 hown hK hP 0 rfl rfl 5 (by decide) (hts _ T_143) (fun _ h9 => h9) rfl dX6_hasWarp_1 ?_
  refine lv_if_eq (tgt := 26) hx hb dX6_hasWarp_4 (by decide) (fun _ => ?_) (fun c => absurd (by decide) c)
  refine lv_iconst (v := 0) hx hb dX6_hasWarp_26 (by decide) ?_
  have hP9 := hP.sub (ws' := [(h0, .inr (6, [.ref qt, .int 0, .ref qr, .ref qc, .ref qs, .int 0, .ref qn, .ref qp, .int 0, .int 0, .ref qm, .ref qf, .ref qx, .long 1]))]) [0] rfl
  have hD9 := hD.sub (ws' := [(h0, .inr (6, [.ref qt, .int 0, .ref qr, .ref qc, .ref qs, .int 0, .ref qn, .ref qp, .int 0, .int 0, .ref qm, .ref qf, .ref qx, .long 1]))]) [0] (by decide) rfl
  have hK9 := hK.sub (tys' := []) [] rfl
  exact W.zret (v := 0) (ty := .boolean) hx hb hr (by decide) (fun t ht hW => ⟨⟨0, (), rfl, rfl, by rw [ht]; exact hP9, va_K.moved hW.alike hK9, hD9⟩, hS.F ht⟩) hS.2.2 dX6_hasWarp_27

set_option maxHeartbeats 4000000 in
set_option maxRecDepth 100000 in
theorem c_X6_hasLane (l : Launch) (dC : Nat → ClassId) (dI : Nat → Nat → Nat) (sz : Nat) (h0 : Nat) (qt : Nat) (qr : Nat) (qc : Nat) (qs : Nat) (qn : Nat) (qp : Nat) (qm : Nat) (qf : Nat) (qx : Nat) (p0 : Int32) (p1 : Int32) : Met l yX6_hasLane (Cond.code yX6_hasLane cX6_hasLane 3 (some .boolean) :: T0) ({ frames := 1, cells := 0, slots := 0, locals := 21 }) (va_Pc [.ref h0, .int p0, .int p1] (ax_W dC dI sz [(h0, .inr (6, [.ref qt, .int 0, .ref qr, .ref qc, .ref qs, .int 0, .ref qn, .ref qp, .int 0, .int 0, .ref qm, .ref qf, .ref qx, .long 1]))] [])) (va_Qi (fun (r : Int32) (_ : Unit) => r = 0) (fun (_ : Unit) (t : State) => va_P (dC, dI) vwCl [(h0, .inr (6, [.ref qt, .int 0, .ref qr, .ref qc, .ref qs, .int 0, .ref qn, .ref qp, .int 0, .int 0, .ref qm, .ref qf, .ref qx, .long 1]))] t.heap ∧ va_K (dC, dI) vwCl [] t ∧ va_D (va_A [(h0, .inr (6, [.ref qt, .int 0, .ref qr, .ref qc, .ref qs, .int 0, .ref qn, .ref qp, .int 0, .int 0, .ref qm, .ref qf, .ref qx, .long 1]))] sz) [(h0, .inr (6, [.ref qt, .int 0, .ref qr, .ref qc, .ref qs, .int 0, .ref qn, .ref qp, .int 0, .int 0, .ref qm, .ref qf, .ref qx, .long 1]))]) (va_A [(h0, .inr (6, [.ref qt, .int 0, .ref qr, .ref qc, .ref qs, .int 0, .ref qn, .ref qp, .int 0, .int 0, .ref qm, .ref qf, .ref qx, .long 1]))] sz)) 0 0 (va_A [(h0, .inr (6, [.ref qt, .int 0, .ref qr, .ref qc, .ref qs, .int 0, .ref qn, .ref qp, .int 0, .int 0, .ref qm, .ref qf, .ref qx, .long 1]))] sz) := by
  refine Met.ofW (cc := cX6_hasLane) (maxL := 3) (ret := (some .boolean)) (by decide) rfl ?_
  intro p e s m args below meth c s₁ B hml hv
  obtain ⟨rfl, hsz, hP, hK, hD0, hN⟩ := hv
  have hx := B.exec
  have hb := B.bytes
  have hr := B.returns
  have hts : ∀ w ∈ T0, w.before _ s = true := fun w h => atoms_spec (ws := Cond.code yX6_hasLane cX6_hasLane 3 (some .boolean) :: T0) B.pre w (List.mem_cons_of_mem _ h)
  have hown : s.vm.findClass RX6 = some m.cls := findClass_of_methodNamed B.named
  have hlocks := B.notSynchronized
  subst hsz
  have hD := hD0.self (sz := s.heap.size)
  generalize hAe : va_A [(h0, .inr (6, [.ref qt, .int 0, .ref qr, .ref qc, .ref qs, .int 0, .ref qn, .ref qp, .int 0, .int 0, .ref qm, .ref qf, .ref qx, .long 1]))] s.heap.size = A at hD ⊢
  have hA : ∀ q : Nat, s.heap.size ≤ q → A q := fun q h => by rw [← hAe]; exact Or.inr h
  have hS : va_S A s.heap s.heap [] := va_S.rf
  have hP : va_P (dC, dI) vwCl [(h0, .inr (6, [.ref qt, .int 0, .ref qr, .ref qc, .ref qs, .int 0, .ref qn, .ref qp, .int 0, .int 0, .ref qm, .ref qf, .ref qx, .long 1]))] s.heap := hP
  have hl := lv_entry ([.ref h0, .int p0, .int p1]) (n := 3) (Nat.le_of_ble_eq_true rfl)
  rw [lg_entry_eq]
  generalize (lg_sl ([.ref h0, .int p0, .int p1]) ++ List.replicate (3 - (lg_sl ([.ref h0, .int p0, .int p1])).length) Slot.unset).toArray = ls at hl ⊢
  refine ax_gen hP hD hS (fun H locs hP hD hS => ?_)
  have hl : lv_has ls 3 [(0, .ref h0), (1, .int p0), (2, .int p1)] := hl
  refine lv_aload_n hx hb dX6_hasLane_0 rfl (lv_at hl 0 rfl) ?_
  refine lv_iload_n hx hb dX6_hasLane_1 rfl (lv_at hl 1 rfl) ?_
  have hPc := hP.sub (ws' := [(h0, .inr (6, [.ref qt, .int 0, .ref qr, .ref qc, .ref qs, .int 0, .ref qn, .ref qp, .int 0, .int 0, .ref qm, .ref qf, .ref qx, .long 1]))]) [0] rfl
  have hDc := hD.sub (ws' := [(h0, .inr (6, [.ref qt, .int 0, .ref qr, .ref qc, .ref qs, .int 0, .ref qn, .ref qp, .int 0, .int 0, .ref qm, .ref qf, .ref qx, .long 1]))]) [0] (by decide) rfl
  have hKc := hK.sub (tys' := []) [] rfl
  have hFc := va_free (wc := [(h0, .inr (6, [.ref qt, .int 0, .ref qr, .ref qc, .ref qs, .int 0, .ref qn, .ref qp, .int 0, .int 0, .ref qm, .ref qf, .ref qx, .long 1]))]) hD hS hA [0] rfl
  refine va_calli (va_runV (As := [.int p0]) (rest := []) ⟨hx, hb, hml, hown, hts⟩ (c_X6_hasWarp l dC dI H.size h0 qt qr qc qs qn qp qm qf qx p0) (cwV 1 hts (ax_gV T_145 T_146 T_147 T_106 T_144) rfl rfl rfl (by decide +kernel) ⟨Nat.le_of_ble_eq_true rfl, Nat.le_of_ble_eq_true rfl⟩) ⟨fun a U g mk q => ⟨q.1, ax_pc rfl rfl q.2⟩, va_recv hKc hPc (ci := 6) (q0 := 0) rfl rfl, fun U hU hW => ⟨rfl, ax_pw hU hW hPc hKc hDc hN⟩⟩ rfl rfl hl.1 rfl (lv_room (Nat.le_of_ble_eq_true rfl)) dX6_hasLane_2 ⟨Nat.le_of_ble_eq_true rfl, Nat.le_of_ble_eq_true rfl⟩) hS (fun q _ h => hFc q h) hFc (fun r1 _ t H1 locs ht hvm hw hB hz1 hk1 hS => ?_)
  obtain ⟨hP1, hK1, hD1⟩ := hB
  rw [ht] at hP1
  have hK1 := va_K.moved hvm.symm hK1
  obtain ⟨hP, hD⟩ := va_join (wr := []) (w1 := [(h0, .inr (6, [.ref qt, .int 0, .ref qr, .ref qc, .ref qs, .int 0, .ref qn, .ref qp, .int 0, .int 0, .ref qm, .ref qf, .ref qx, .long 1]))]) hP hD [0] [] rfl rfl (by decide) (by decide) hk1 hFc hP1 hD1
  generalize H1 = H at hP hS ⊢
  have hP : va_P (dC, dI) vwCl [(h0, .inr (6, [.ref qt, .int 0, .ref qr, .ref qc, .ref qs, .int 0, .ref qn, .ref qp, .int 0, .int 0, .ref qm, .ref qf, .ref qx, .long 1]))] H := hP
  have hD : va_D A [(h0, .inr (6, [.ref qt, .int 0, .ref qr, .ref qc, .ref qs, .int 0, .ref qn, .ref qp, .int 0, .int 0, .ref qm, .ref qf, .ref qx, .long 1]))] := hD
  subst hw
  refine lv_if_eq (tgt := 22) hx hb dX6_hasLane_5 (by decide) (fun _ => ?_) (fun c => absurd (by decide) c)
  refine lv_iconst (v := 0) hx hb dX6_hasLane_22 (by decide) ?_
  have hP9 := hP.sub (ws' := [(h0, .inr (6, [.ref qt, .int 0, .ref qr, .ref qc, .ref qs, .int 0, .ref qn, .ref qp, .int 0, .int 0, .ref qm, .ref qf, .ref qx, .long 1]))]) [0] rfl
  have hD9 := hD.sub (ws' := [(h0, .inr (6, [.ref qt, .int 0, .ref qr, .ref qc, .ref qs, .int 0, .ref qn, .ref qp, .int 0, .int 0, .ref qm, .ref qf, .ref qx, .long 1]))]) [0] (by decide) rfl
  have hK9 := hK.sub (tys' := []) [] rfl
  exact W.zret (v := 0) (ty := .boolean) hx hb hr (by decide) (fun t ht hW => ⟨⟨0, (), rfl, rfl, by rw [ht]; exact hP9, va_K.moved hW.alike hK9, hD9⟩, hS.F ht⟩) hS.2.2 dX6_hasLane_23

set_option maxHeartbeats 4000000 in
set_option maxRecDepth 100000 in
theorem c_X6_hasWord (l : Launch) (dC : Nat → ClassId) (dI : Nat → Nat → Nat) (sz : Nat) (h0 : Nat) (qt : Nat) (qr : Nat) (qc : Nat) (qs : Nat) (qn : Nat) (qp : Nat) (qm : Nat) (qf : Nat) (qx : Nat) (p0 : Int32) (p1 : Int32) : Met l yX6_hasWord (Cond.code yX6_hasWord cX6_hasWord 3 (some .boolean) :: T0) ({ frames := 0, cells := 0, slots := 0, locals := 0 }) (va_Pc [.ref h0, .int p0, .int p1] (ax_W dC dI sz [(h0, .inr (6, [.ref qt, .int 0, .ref qr, .ref qc, .ref qs, .int 0, .ref qn, .ref qp, .int 0, .int 0, .ref qm, .ref qf, .ref qx, .long 1]))] [])) (va_Qi (fun (r : Int32) (_ : Unit) => r = 0) (fun (_ : Unit) (t : State) => va_P (dC, dI) vwCl [(h0, .inr (6, [.ref qt, .int 0, .ref qr, .ref qc, .ref qs, .int 0, .ref qn, .ref qp, .int 0, .int 0, .ref qm, .ref qf, .ref qx, .long 1]))] t.heap ∧ va_K (dC, dI) vwCl [] t ∧ va_D (va_A [(h0, .inr (6, [.ref qt, .int 0, .ref qr, .ref qc, .ref qs, .int 0, .ref qn, .ref qp, .int 0, .int 0, .ref qm, .ref qf, .ref qx, .long 1]))] sz) [(h0, .inr (6, [.ref qt, .int 0, .ref qr, .ref qc, .ref qs, .int 0, .ref qn, .ref qp, .int 0, .int 0, .ref qm, .ref qf, .ref qx, .long 1]))]) (va_A [(h0, .inr (6, [.ref qt, .int 0, .ref qr, .ref qc, .ref qs, .int 0, .ref qn, .ref qp, .int 0, .int 0, .ref qm, .ref qf, .ref qx, .long 1]))] sz)) 0 0 (va_A [(h0, .inr (6, [.ref qt, .int 0, .ref qr, .ref qc, .ref qs, .int 0, .ref qn, .ref qp, .int 0, .int 0, .ref qm, .ref qf, .ref qx, .long 1]))] sz) := by
  refine Met.ofW (cc := cX6_hasWord) (maxL := 3) (ret := (some .boolean)) (by decide) rfl ?_
  intro p e s m args below meth c s₁ B hml hv
  obtain ⟨rfl, hsz, hP, hK, hD0, hN⟩ := hv
  have hx := B.exec
  have hb := B.bytes
  have hr := B.returns
  have hts : ∀ w ∈ T0, w.before _ s = true := fun w h => atoms_spec (ws := Cond.code yX6_hasWord cX6_hasWord 3 (some .boolean) :: T0) B.pre w (List.mem_cons_of_mem _ h)
  have hown : s.vm.findClass RX6 = some m.cls := findClass_of_methodNamed B.named
  have hlocks := B.notSynchronized
  subst hsz
  have hD := hD0.self (sz := s.heap.size)
  generalize hAe : va_A [(h0, .inr (6, [.ref qt, .int 0, .ref qr, .ref qc, .ref qs, .int 0, .ref qn, .ref qp, .int 0, .int 0, .ref qm, .ref qf, .ref qx, .long 1]))] s.heap.size = A at hD ⊢
  have hA : ∀ q : Nat, s.heap.size ≤ q → A q := fun q h => by rw [← hAe]; exact Or.inr h
  have hS : va_S A s.heap s.heap [] := va_S.rf
  have hP : va_P (dC, dI) vwCl [(h0, .inr (6, [.ref qt, .int 0, .ref qr, .ref qc, .ref qs, .int 0, .ref qn, .ref qp, .int 0, .int 0, .ref qm, .ref qf, .ref qx, .long 1]))] s.heap := hP
  have hl := lv_entry ([.ref h0, .int p0, .int p1]) (n := 3) (Nat.le_of_ble_eq_true rfl)
  rw [lg_entry_eq]
  generalize (lg_sl ([.ref h0, .int p0, .int p1]) ++ List.replicate (3 - (lg_sl ([.ref h0, .int p0, .int p1])).length) Slot.unset).toArray = ls at hl ⊢
  refine ax_gen hP hD hS (fun H locs hP hD hS => ?_)
  have hl : lv_has ls 3 [(0, .ref h0), (1, .int p0), (2, .int p1)] := hl
  refine lv_aload_n hx hb dX6_hasWord_0 rfl (lv_at hl 0 rfl) ?_
  refine va_get (D := (dC, dI)) (ci := 6) (v := .int 0) (C := RX6) (T := TX6) (N := 14) hx hb hts inX6 hown hK hP 0 rfl rfl 5 (by decide) (hts _ T_143) (fun _ h9 => h9) rfl dX6_hasWord_1 ?_
  refine lv_if_eq (tgt := 30) hx hb dX6_hasWord_4 (by decide) (fun _ => ?_) (fun c => absurd (by decide) c)
  refine lv_iconst (v := 0) hx hb dX6_hasWord_30 (by decide) ?_
  have hP9 := hP.sub (ws' := [(h0, .inr (6, [.ref qt, .int 0, .ref qr, .ref qc, .ref qs, .int 0, .ref qn, .ref qp, .int 0, .int 0, .ref qm, .ref qf, .ref qx, .long 1]))]) [0] rfl
  have hD9 := hD.sub (ws' := [(h0, .inr (6, [.ref qt, .int 0, .ref qr, .ref qc, .ref qs, .int 0, .ref qn, .ref qp, .int 0, .int 0, .ref qm, .ref qf, .ref qx, .long 1]))]) [0] (by decide) rfl
  have hK9 := hK.sub (tys' := []) [] rfl
  exact W.zret (v := 0) (ty := .boolean) hx hb hr (by decide) (fun t ht hW => ⟨⟨0, (), rfl, rfl, by rw [ht]; exact hP9, va_K.moved hW.alike hK9, hD9⟩, hS.F ht⟩) hS.2.2 dX6_hasWord_31

set_option maxHeartbeats 4000000 in
set_option maxRecDepth 100000 in
/-- line -/
theorem c_X6_line (l : Launch) (dC : Nat → ClassId) (dI : Nat → Nat → Nat) (sz : Nat) (h0 : Nat) (qt : Nat) (qr : Nat) (qc : Nat) (qs : Nat) (qn : Nat) (qp : Nat) (qm : Nat) (qf : Nat) (qx : Nat) (p0 : Int32) (p1 : Int32) : Met l yX6_line (Cond.code yX6_line cX6_line 3 (some .int) :: T0) ({ frames := 0, cells := 0, slots := 0, locals := 0 }) (va_Pc [.ref h0, .int p0, .int p1] (ax_W dC dI sz [(h0, .inr (6, [.ref qt, .int 0, .ref qr, .ref qc, .ref qs, .int 0, .ref qn, .ref qp, .int 0, .int 0, .ref qm, .ref qf, .ref qx, .long 1]))] [])) (va_Qi (fun (r : Int32) (_ : Unit) => r = (-1000000)) (fun (_ : Unit) (t : State) => va_P (dC, dI) vwCl [] t.heap ∧ va_K (dC, dI) vwCl [] t ∧ va_D (va_A [(h0, .inr (6, [.ref qt, .int 0, .ref qr, .ref qc, .ref qs, .int 0, .ref qn, .ref qp, .int 0, .int 0, .ref qm, .ref qf, .ref qx, .long 1]))] sz) []) (va_A [(h0, .inr (6, [.ref qt, .int 0, .ref qr, .ref qc, .ref qs, .int 0, .ref qn, .ref qp, .int 0, .int 0, .ref qm, .ref qf, .ref qx, .long 1]))] sz)) 0 0 (va_A [(h0, .inr (6, [.ref qt, .int 0, .ref qr, .ref qc, .ref qs, .int 0, .ref qn, .ref qp, .int 0, .int 0, .ref qm, .ref qf, .ref qx, .long 1]))] sz) := by
  refine Met.ofW (cc := cX6_line) (maxL := 3) (ret := (some .int)) (by decide) rfl ?_
  intro p e s m args below meth c s₁ B hml hv
  obtain ⟨rfl, hsz, hP, hK, hD0, hN⟩ := hv
  have hx := B.exec
  have hb := B.bytes
  have hr := B.returns
  have hts : ∀ w ∈ T0, w.before _ s = true := fun w h => atoms_spec (ws := Cond.code yX6_line cX6_line 3 (some .int) :: T0) B.pre w (List.mem_cons_of_mem _ h)
  have hown : s.vm.findClass RX6 = some m.cls := findClass_of_methodNamed B.named
  have hlocks := B.notSynchronized
  subst hsz
  have hD := hD0.self (sz := s.heap.size)
  generalize hAe : va_A [(h0, .inr (6, [.ref qt, .int 0, .ref qr, .ref qc, .ref qs, .int 0, .ref qn, .ref qp, .int 0, .int 0, .ref qm, .ref qf, .ref qx, .long 1]))] s.heap.size = A at hD ⊢
  have hA : ∀ q : Nat, s.heap.size ≤ q → A q := fun q h => by rw [← hAe]; exact Or.inr h
  have hS : va_S A s.heap s.heap [] := va_S.rf
  have hP : va_P (dC, dI) vwCl [(h0, .inr (6, [.ref qt, .int 0, .ref qr, .ref qc, .ref qs, .int 0, .ref qn, .ref qp, .int 0, .int 0, .ref qm, .ref qf, .ref qx, .long 1]))] s.heap := hP
  have hl := lv_entry ([.ref h0, .int p0, .int p1]) (n := 3) (Nat.le_of_ble_eq_true rfl)
  rw [lg_entry_eq]
  generalize (lg_sl ([.ref h0, .int p0, .int p1]) ++ List.replicate (3 - (lg_sl ([.ref h0, .int p0, .int p1])).length) Slot.unset).toArray = ls at hl ⊢
  refine ax_gen hP hD hS (fun H locs hP hD hS => ?_)
  have hl : lv_has ls 3 [(0, .ref h0), (1, .int p0), (2, .int p1)] := hl
  refine lv_aload_n hx hb dX6_line_0 rfl (lv_at hl 0 rfl) ?_
  refine va_get (D := (dC, dI)) (ci := 6) (v := .int 0) (C := RX6) (T := TX6) (N := 14) hx hb hts inX6 hown hK hP 0 rfl rfl 5 (by decide) (hts _ T_143) (fun _ h9 => h9) rfl dX6_line_1 ?_
  refine lv_if_eq (tgt := 32) hx hb dX6_line_4 (by decide) (fun _ => ?_) (fun c => absurd (by decide) c)
  refine lv_ldc hx hb hown (hts _ T_148) dX6_line_32 ?_
  have hP9 := hP.sub (ws' := []) [] rfl
  have hD9 := hD.sub (ws' := []) [] (by decide) rfl
  have hK9 := hK.sub (tys' := []) [] rfl
  exact W.iret (v := (-1000000)) hx hb hr (fun t ht hW => ⟨⟨(-1000000), (), rfl, rfl, by rw [ht]; exact hP9, va_K.moved hW.alike hK9, hD9⟩, hS.F ht⟩) hS.2.2 dX6_line_34

set_option maxHeartbeats 4000000 in
set_option maxRecDepth 100000 in
/-- lane -/
theorem c_X6_lane (l : Launch) (dC : Nat → ClassId) (dI : Nat → Nat → Nat) (sz : Nat) (h0 : Nat) (qt : Nat) (qr : Nat) (qc : Nat) (qs : Nat) (qn : Nat) (qp : Nat) (qm : Nat) (qf : Nat) (qx : Nat) (p0 : Int32) (p1 : Int32) (p2 : Int32) : Met l yX6_lane (Cond.code yX6_lane cX6_lane 6 (some .int) :: T0) ({ frames := 2, cells := 0, slots := 0, locals := 43 }) (va_Pc [.ref h0, .int p0, .int p1, .int p2] (ax_W dC dI sz [(h0, .inr (6, [.ref qt, .int 0, .ref qr, .ref qc, .ref qs, .int 0, .ref qn, .ref qp, .int 0, .int 0, .ref qm, .ref qf, .ref qx, .long 1]))] [])) (va_Qi (fun (r : Int32) (_ : Unit) => r = (-1000000)) (fun (_ : Unit) (t : State) => va_P (dC, dI) vwCl [] t.heap ∧ va_K (dC, dI) vwCl [] t ∧ va_D (va_A [(h0, .inr (6, [.ref qt, .int 0, .ref qr, .ref qc, .ref qs, .int 0, .ref qn, .ref qp, .int 0, .int 0, .ref qm, .ref qf, .ref qx, .long 1]))] sz) []) (va_A [(h0, .inr (6, [.ref qt, .int 0, .ref qr, .ref qc, .ref qs, .int 0, .ref qn, .ref qp, .int 0, .int 0, .ref qm, .ref qf, .ref qx, .long 1]))] sz)) 0 0 (va_A [(h0, .inr (6, [.ref qt, .int 0, .ref qr, .ref qc, .ref qs, .int 0, .ref qn, .ref qp, .int 0, .int 0, .ref qm, .ref qf, .ref qx, .long 1]))] sz) := by
  refine Met.ofW (cc := cX6_lane) (maxL := 6) (ret := (some .int)) (by decide) rfl ?_
  intro p e s m args below meth c s₁ B hml hv
  obtain ⟨rfl, hsz, hP, hK, hD0, hN⟩ := hv
  have hx := B.exec
  have hb := B.bytes
  have hr := B.returns
  have hts : ∀ w ∈ T0, w.before _ s = true := fun w h => atoms_spec (ws := Cond.code yX6_lane cX6_lane 6 (some .int) :: T0) B.pre w (List.mem_cons_of_mem _ h)
  have hown : s.vm.findClass RX6 = some m.cls := findClass_of_methodNamed B.named
  have hlocks := B.notSynchronized
  subst hsz
  have hD := hD0.self (sz := s.heap.size)
  generalize hAe : va_A [(h0, .inr (6, [.ref qt, .int 0, .ref qr, .ref qc, .ref qs, .int 0, .ref qn, .ref qp, .int 0, .int 0, .ref qm, .ref qf, .ref qx, .long 1]))] s.heap.size = A at hD ⊢
  have hA : ∀ q : Nat, s.heap.size ≤ q → A q := fun q h => by rw [← hAe]; exact Or.inr h
  have hS : va_S A s.heap s.heap [] := va_S.rf
  have hP : va_P (dC, dI) vwCl [(h0, .inr (6, [.ref qt, .int 0, .ref qr, .ref qc, .ref qs, .int 0, .ref qn, .ref qp, .int 0, .int 0, .ref qm, .ref qf, .ref qx, .long 1]))] s.heap := hP
  have hl := lv_entry ([.ref h0, .int p0, .int p1, .int p2]) (n := 6) (Nat.le_of_ble_eq_true rfl)
  rw [lg_entry_eq]
  generalize (lg_sl ([.ref h0, .int p0, .int p1, .int p2]) ++ List.replicate (6 - (lg_sl ([.ref h0, .int p0, .int p1, .int p2])).length) Slot.unset).toArray = ls at hl ⊢
  refine ax_gen hP hD hS (fun H locs hP hD hS => ?_)
  have hl : lv_has ls 6 [(0, .ref h0), (1, .int p0), (2, .int p1), (3, .int p2)] := hl
  refine lv_aload_n hx hb dX6_lane_0 rfl (lv_at hl 0 rfl) ?_
  refine lv_iload_n hx hb dX6_lane_1 rfl (lv_at hl 1 rfl) ?_
  refine lv_iload_n hx hb dX6_lane_2 rfl (lv_at hl 2 rfl) ?_
  have hPc := hP.sub (ws' := [(h0, .inr (6, [.ref qt, .int 0, .ref qr, .ref qc, .ref qs, .int 0, .ref qn, .ref qp, .int 0, .int 0, .ref qm, .ref qf, .ref qx, .long 1]))]) [0] rfl
  have hDc := hD.sub (ws' := [(h0, .inr (6, [.ref qt, .int 0, .ref qr, .ref qc, .ref qs, .int 0, .ref qn, .ref qp, .int 0, .int 0, .ref qm, .ref qf, .ref qx, .long 1]))]) [0] (by decide) rfl
  have hKc := hK.sub (tys' := []) [] rfl
  have hFc := va_free (wc := [(h0, .inr (6, [.ref qt, .int 0, .ref qr, .ref qc, .ref qs, .int 0, .ref qn, .ref qp, .int 0, .int 0, .ref qm, .ref qf, .ref qx, .long 1]))]) hD hS hA [0] rfl
  refine va_calli (va_runV (As := [.int p0, .int p1]) (rest := []) ⟨hx, hb, hml, hown, hts⟩ (c_X6_hasLane l dC dI H.size h0 qt qr qc qs qn qp qm qf qx p0 p1) (cwV 2 hts (ax_gV T_150 T_151 T_152 T_106 T_149) rfl rfl rfl (by decide +kernel) ⟨Nat.le_of_ble_eq_true rfl, Nat.le_of_ble_eq_true rfl⟩) ⟨fun a U g mk q => ⟨q.1, ax_pc rfl rfl q.2⟩, va_recv hKc hPc (ci := 6) (q0 := 0) rfl rfl, fun U hU hW => ⟨rfl, ax_pw hU hW hPc hKc hDc hN⟩⟩ rfl rfl hl.1 rfl (lv_room (Nat.le_of_ble_eq_true rfl)) dX6_lane_3 ⟨Nat.le_of_ble_eq_true rfl, Nat.le_of_ble_eq_true rfl⟩) hS (fun q _ h => hFc q h) hFc (fun r1 _ t H1 locs ht hvm hw hB hz1 hk1 hS => ?_)
  obtain ⟨hP1, hK1, hD1⟩ := hB
  rw [ht] at hP1
  have hK1 := va_K.moved hvm.symm hK1
  obtain ⟨hP, hD⟩ := va_join (wr := []) (w1 := [(h0, .inr (6, [.ref qt, .int 0, .ref qr, .ref qc, .ref qs, .int 0, .ref qn, .ref qp, .int 0, .int 0, .ref qm, .ref qf, .ref qx, .long 1]))]) hP hD [0] [] rfl rfl (by decide) (by decide) hk1 hFc hP1 hD1
  generalize H1 = H at hP hS ⊢
  have hP : va_P (dC, dI) vwCl [(h0, .inr (6, [.ref qt, .int 0, .ref qr, .ref qc, .ref qs, .int 0, .ref qn, .ref qp, .int 0, .int 0, .ref qm, .ref qf, .ref qx, .long 1]))] H := hP
  have hD : va_D A [(h0, .inr (6, [.ref qt, .int 0, .ref qr, .ref qc, .ref qs, .int 0, .ref qn, .ref qp, .int 0, .int 0, .ref qm, .ref qf, .ref qx, .long 1]))] := hD
  subst hw
  refine lv_if_eq (tgt := 19) hx hb dX6_lane_6 (by decide) (fun _ => ?_) (fun c => absurd (by decide) c)
  refine lv_ldc hx hb hown (hts _ T_148) dX6_lane_19 ?_
  have hP9 := hP.sub (ws' := []) [] rfl
  have hD9 := hD.sub (ws' := []) [] (by decide) rfl
  have hK9 := hK.sub (tys' := []) [] rfl
  exact W.iret (v := (-1000000)) hx hb hr (fun t ht hW => ⟨⟨(-1000000), (), rfl, rfl, by rw [ht]; exact hP9, va_K.moved hW.alike hK9, hD9⟩, hS.F ht⟩) hS.2.2 dX6_lane_21

set_option maxHeartbeats 4000000 in
set_option maxRecDepth 100000 in
/-- warp -/
theorem c_X6_warp (l : Launch) (dC : Nat → ClassId) (dI : Nat → Nat → Nat) (sz : Nat) (h0 : Nat) (qt : Nat) (qr : Nat) (qc : Nat) (qs : Nat) (qn : Nat) (qp : Nat) (qm : Nat) (qf : Nat) (qx : Nat) (p0 : Int32) (p1 : Int32) : Met l yX6_warp (Cond.code yX6_warp cX6_warp 4 (some .int) :: T0) ({ frames := 1, cells := 0, slots := 0, locals := 21 }) (va_Pc [.ref h0, .int p0, .int p1] (ax_W dC dI sz [(h0, .inr (6, [.ref qt, .int 0, .ref qr, .ref qc, .ref qs, .int 0, .ref qn, .ref qp, .int 0, .int 0, .ref qm, .ref qf, .ref qx, .long 1]))] [])) (va_Qi (fun (r : Int32) (_ : Unit) => r = (-1)) (fun (_ : Unit) (t : State) => va_P (dC, dI) vwCl [] t.heap ∧ va_K (dC, dI) vwCl [] t ∧ va_D (va_A [(h0, .inr (6, [.ref qt, .int 0, .ref qr, .ref qc, .ref qs, .int 0, .ref qn, .ref qp, .int 0, .int 0, .ref qm, .ref qf, .ref qx, .long 1]))] sz) []) (va_A [(h0, .inr (6, [.ref qt, .int 0, .ref qr, .ref qc, .ref qs, .int 0, .ref qn, .ref qp, .int 0, .int 0, .ref qm, .ref qf, .ref qx, .long 1]))] sz)) 0 0 (va_A [(h0, .inr (6, [.ref qt, .int 0, .ref qr, .ref qc, .ref qs, .int 0, .ref qn, .ref qp, .int 0, .int 0, .ref qm, .ref qf, .ref qx, .long 1]))] sz) := by
  refine Met.ofW (cc := cX6_warp) (maxL := 4) (ret := (some .int)) (by decide) rfl ?_
  intro p e s m args below meth c s₁ B hml hv
  obtain ⟨rfl, hsz, hP, hK, hD0, hN⟩ := hv
  have hx := B.exec
  have hb := B.bytes
  have hr := B.returns
  have hts : ∀ w ∈ T0, w.before _ s = true := fun w h => atoms_spec (ws := Cond.code yX6_warp cX6_warp 4 (some .int) :: T0) B.pre w (List.mem_cons_of_mem _ h)
  have hown : s.vm.findClass RX6 = some m.cls := findClass_of_methodNamed B.named
  have hlocks := B.notSynchronized
  subst hsz
  have hD := hD0.self (sz := s.heap.size)
  generalize hAe : va_A [(h0, .inr (6, [.ref qt, .int 0, .ref qr, .ref qc, .ref qs, .int 0, .ref qn, .ref qp, .int 0, .int 0, .ref qm, .ref qf, .ref qx, .long 1]))] s.heap.size = A at hD ⊢
  have hA : ∀ q : Nat, s.heap.size ≤ q → A q := fun q h => by rw [← hAe]; exact Or.inr h
  have hS : va_S A s.heap s.heap [] := va_S.rf
  have hP : va_P (dC, dI) vwCl [(h0, .inr (6, [.ref qt, .int 0, .ref qr, .ref qc, .ref qs, .int 0, .ref qn, .ref qp, .int 0, .int 0, .ref qm, .ref qf, .ref qx, .long 1]))] s.heap := hP
  have hl := lv_entry ([.ref h0, .int p0, .int p1]) (n := 4) (Nat.le_of_ble_eq_true rfl)
  rw [lg_entry_eq]
  generalize (lg_sl ([.ref h0, .int p0, .int p1]) ++ List.replicate (4 - (lg_sl ([.ref h0, .int p0, .int p1])).length) Slot.unset).toArray = ls at hl ⊢
  refine ax_gen hP hD hS (fun H locs hP hD hS => ?_)
  have hl : lv_has ls 4 [(0, .ref h0), (1, .int p0), (2, .int p1)] := hl
  refine lv_aload_n hx hb dX6_warp_0 rfl (lv_at hl 0 rfl) ?_
  refine lv_iload_n hx hb dX6_warp_1 rfl (lv_at hl 1 rfl) ?_
  have hPc := hP.sub (ws' := [(h0, .inr (6, [.ref qt, .int 0, .ref qr, .ref qc, .ref qs, .int 0, .ref qn, .ref qp, .int 0, .int 0, .ref qm, .ref qf, .ref qx, .long 1]))]) [0] rfl
  have hDc := hD.sub (ws' := [(h0, .inr (6, [.ref qt, .int 0, .ref qr, .ref qc, .ref qs, .int 0, .ref qn, .ref qp, .int 0, .int 0, .ref qm, .ref qf, .ref qx, .long 1]))]) [0] (by decide) rfl
  have hKc := hK.sub (tys' := []) [] rfl
  have hFc := va_free (wc := [(h0, .inr (6, [.ref qt, .int 0, .ref qr, .ref qc, .ref qs, .int 0, .ref qn, .ref qp, .int 0, .int 0, .ref qm, .ref qf, .ref qx, .long 1]))]) hD hS hA [0] rfl
  refine va_calli (va_runV (As := [.int p0]) (rest := []) ⟨hx, hb, hml, hown, hts⟩ (c_X6_hasWarp l dC dI H.size h0 qt qr qc qs qn qp qm qf qx p0) (cwV 1 hts (ax_gV T_145 T_146 T_147 T_106 T_144) rfl rfl rfl (by decide +kernel) ⟨Nat.le_of_ble_eq_true rfl, Nat.le_of_ble_eq_true rfl⟩) ⟨fun a U g mk q => ⟨q.1, ax_pc rfl rfl q.2⟩, va_recv hKc hPc (ci := 6) (q0 := 0) rfl rfl, fun U hU hW => ⟨rfl, ax_pw hU hW hPc hKc hDc hN⟩⟩ rfl rfl hl.1 rfl (lv_room (Nat.le_of_ble_eq_true rfl)) dX6_warp_2 ⟨Nat.le_of_ble_eq_true rfl, Nat.le_of_ble_eq_true rfl⟩) hS (fun q _ h => hFc q h) hFc (fun r1 _ t H1 locs ht hvm hw hB hz1 hk1 hS => ?_)
  obtain ⟨hP1, hK1, hD1⟩ := hB
  rw [ht] at hP1
  have hK1 := va_K.moved hvm.symm hK1
  obtain ⟨hP, hD⟩ := va_join (wr := []) (w1 := [(h0, .inr (6, [.ref qt, .int 0, .ref qr, .ref qc, .ref qs, .int 0, .ref qn, .ref qp, .int 0, .int 0, .ref qm, .ref qf, .ref qx, .long 1]))]) hP hD [0] [] rfl rfl (by decide) (by decide) hk1 hFc hP1 hD1
  generalize H1 = H at hP hS ⊢
  have hP : va_P (dC, dI) vwCl [(h0, .inr (6, [.ref qt, .int 0, .ref qr, .ref qc, .ref qs, .int 0, .ref qn, .ref qp, .int 0, .int 0, .ref qm, .ref qf, .ref qx, .long 1]))] H := hP
  have hD : va_D A [(h0, .inr (6, [.ref qt, .int 0, .ref qr, .ref qc, .ref qs, .int 0, .ref qn, .ref qp, .int 0, .int 0, .ref qm, .ref qf, .ref qx, .long 1]))] := hD
  subst hw
  refine lv_if_ne (tgt := 10) hx hb dX6_warp_5 (by decide) (fun c => absurd (by decide) c) (fun _ => ?_)
  refine lv_iconst (v := (-1)) hx hb dX6_warp_8 (by decide) ?_
  have hP9 := hP.sub (ws' := []) [] rfl
  have hD9 := hD.sub (ws' := []) [] (by decide) rfl
  have hK9 := hK.sub (tys' := []) [] rfl
  exact W.iret (v := (-1)) hx hb hr (fun t ht hW => ⟨⟨(-1), (), rfl, rfl, by rw [ht]; exact hP9, va_K.moved hW.alike hK9, hD9⟩, hS.F ht⟩) hS.2.2 dX6_warp_9

set_option maxHeartbeats 4000000 in
set_option maxRecDepth 100000 in
/-- part -/
theorem c_X6_part (l : Launch) (dC : Nat → ClassId) (dI : Nat → Nat → Nat) (sz : Nat) (h0 : Nat) (qt : Nat) (qr : Nat) (qc : Nat) (qs : Nat) (qn : Nat) (qp : Nat) (qm : Nat) (qf : Nat) (qx : Nat) (p0 : Int32) (p1 : Int32) (p2 : Int32) : Met l yX6_part (Cond.code yX6_part cX6_part 5 (some .int) :: T0) ({ frames := 1, cells := 0, slots := 0, locals := 21 }) (va_Pc [.ref h0, .int p0, .int p1, .int p2] (ax_W dC dI sz [(h0, .inr (6, [.ref qt, .int 0, .ref qr, .ref qc, .ref qs, .int 0, .ref qn, .ref qp, .int 0, .int 0, .ref qm, .ref qf, .ref qx, .long 1]))] [])) (va_Qi (fun (r : Int32) (_ : Unit) => r = (-1)) (fun (_ : Unit) (t : State) => va_P (dC, dI) vwCl [] t.heap ∧ va_K (dC, dI) vwCl [] t ∧ va_D (va_A [(h0, .inr (6, [.ref qt, .int 0, .ref qr, .ref qc, .ref qs, .int 0, .ref qn, .ref qp, .int 0, .int 0, .ref qm, .ref qf, .ref qx, .long 1]))] sz) []) (va_A [(h0, .inr (6, [.ref qt, .int 0, .ref qr, .ref qc, .ref qs, .int 0, .ref qn, .ref qp, .int 0, .int 0, .ref qm, .ref qf, .ref qx, .long 1]))] sz)) 0 0 (va_A [(h0, .inr (6, [.ref qt, .int 0, .ref qr, .ref qc, .ref qs, .int 0, .ref qn, .ref qp, .int 0, .int 0, .ref qm, .ref qf, .ref qx, .long 1]))] sz) := by
  refine Met.ofW (cc := cX6_part) (maxL := 5) (ret := (some .int)) (by decide) rfl ?_
  intro p e s m args below meth c s₁ B hml hv
  obtain ⟨rfl, hsz, hP, hK, hD0, hN⟩ := hv
  have hx := B.exec
  have hb := B.bytes
  have hr := B.returns
  have hts : ∀ w ∈ T0, w.before _ s = true := fun w h => atoms_spec (ws := Cond.code yX6_part cX6_part 5 (some .int) :: T0) B.pre w (List.mem_cons_of_mem _ h)
  have hown : s.vm.findClass RX6 = some m.cls := findClass_of_methodNamed B.named
  have hlocks := B.notSynchronized
  subst hsz
  have hD := hD0.self (sz := s.heap.size)
  generalize hAe : va_A [(h0, .inr (6, [.ref qt, .int 0, .ref qr, .ref qc, .ref qs, .int 0, .ref qn, .ref qp, .int 0, .int 0, .ref qm, .ref qf, .ref qx, .long 1]))] s.heap.size = A at hD ⊢
  have hA : ∀ q : Nat, s.heap.size ≤ q → A q := fun q h => by rw [← hAe]; exact Or.inr h
  have hS : va_S A s.heap s.heap [] := va_S.rf
  have hP : va_P (dC, dI) vwCl [(h0, .inr (6, [.ref qt, .int 0, .ref qr, .ref qc, .ref qs, .int 0, .ref qn, .ref qp, .int 0, .int 0, .ref qm, .ref qf, .ref qx, .long 1]))] s.heap := hP
  have hl := lv_entry ([.ref h0, .int p0, .int p1, .int p2]) (n := 5) (Nat.le_of_ble_eq_true rfl)
  rw [lg_entry_eq]
  generalize (lg_sl ([.ref h0, .int p0, .int p1, .int p2]) ++ List.replicate (5 - (lg_sl ([.ref h0, .int p0, .int p1, .int p2])).length) Slot.unset).toArray = ls at hl ⊢
  refine ax_gen hP hD hS (fun H locs hP hD hS => ?_)
  have hl : lv_has ls 5 [(0, .ref h0), (1, .int p0), (2, .int p1), (3, .int p2)] := hl
  refine lv_aload_n hx hb dX6_part_0 rfl (lv_at hl 0 rfl) ?_
  refine lv_iload_n hx hb dX6_part_1 rfl (lv_at hl 1 rfl) ?_
  have hPc := hP.sub (ws' := [(h0, .inr (6, [.ref qt, .int 0, .ref qr, .ref qc, .ref qs, .int 0, .ref qn, .ref qp, .int 0, .int 0, .ref qm, .ref qf, .ref qx, .long 1]))]) [0] rfl
  have hDc := hD.sub (ws' := [(h0, .inr (6, [.ref qt, .int 0, .ref qr, .ref qc, .ref qs, .int 0, .ref qn, .ref qp, .int 0, .int 0, .ref qm, .ref qf, .ref qx, .long 1]))]) [0] (by decide) rfl
  have hKc := hK.sub (tys' := []) [] rfl
  have hFc := va_free (wc := [(h0, .inr (6, [.ref qt, .int 0, .ref qr, .ref qc, .ref qs, .int 0, .ref qn, .ref qp, .int 0, .int 0, .ref qm, .ref qf, .ref qx, .long 1]))]) hD hS hA [0] rfl
  refine va_calli (va_runV (As := [.int p0]) (rest := []) ⟨hx, hb, hml, hown, hts⟩ (c_X6_hasWarp l dC dI H.size h0 qt qr qc qs qn qp qm qf qx p0) (cwV 1 hts (ax_gV T_145 T_146 T_147 T_106 T_144) rfl rfl rfl (by decide +kernel) ⟨Nat.le_of_ble_eq_true rfl, Nat.le_of_ble_eq_true rfl⟩) ⟨fun a U g mk q => ⟨q.1, ax_pc rfl rfl q.2⟩, va_recv hKc hPc (ci := 6) (q0 := 0) rfl rfl, fun U hU hW => ⟨rfl, ax_pw hU hW hPc hKc hDc hN⟩⟩ rfl rfl hl.1 rfl (lv_room (Nat.le_of_ble_eq_true rfl)) dX6_part_2 ⟨Nat.le_of_ble_eq_true rfl, Nat.le_of_ble_eq_true rfl⟩) hS (fun q _ h => hFc q h) hFc (fun r1 _ t H1 locs ht hvm hw hB hz1 hk1 hS => ?_)
  obtain ⟨hP1, hK1, hD1⟩ := hB
  rw [ht] at hP1
  have hK1 := va_K.moved hvm.symm hK1
  obtain ⟨hP, hD⟩ := va_join (wr := []) (w1 := [(h0, .inr (6, [.ref qt, .int 0, .ref qr, .ref qc, .ref qs, .int 0, .ref qn, .ref qp, .int 0, .int 0, .ref qm, .ref qf, .ref qx, .long 1]))]) hP hD [0] [] rfl rfl (by decide) (by decide) hk1 hFc hP1 hD1
  generalize H1 = H at hP hS ⊢
  have hP : va_P (dC, dI) vwCl [(h0, .inr (6, [.ref qt, .int 0, .ref qr, .ref qc, .ref qs, .int 0, .ref qn, .ref qp, .int 0, .int 0, .ref qm, .ref qf, .ref qx, .long 1]))] H := hP
  have hD : va_D A [(h0, .inr (6, [.ref qt, .int 0, .ref qr, .ref qc, .ref qs, .int 0, .ref qn, .ref qp, .int 0, .int 0, .ref qm, .ref qf, .ref qx, .long 1]))] := hD
  subst hw
  refine lv_if_eq (tgt := 28) hx hb dX6_part_5 (by decide) (fun _ => ?_) (fun c => absurd (by decide) c)
  refine lv_iconst (v := (-1)) hx hb dX6_part_28 (by decide) ?_
  have hP9 := hP.sub (ws' := []) [] rfl
  have hD9 := hD.sub (ws' := []) [] (by decide) rfl
  have hK9 := hK.sub (tys' := []) [] rfl
  exact W.iret (v := (-1)) hx hb hr (fun t ht hW => ⟨⟨(-1), (), rfl, rfl, by rw [ht]; exact hP9, va_K.moved hW.alike hK9, hD9⟩, hS.F ht⟩) hS.2.2 dX6_part_29

set_option maxHeartbeats 4000000 in
set_option maxRecDepth 100000 in
/-- word -/
theorem c_X6_word (l : Launch) (dC : Nat → ClassId) (dI : Nat → Nat → Nat) (sz : Nat) (h0 : Nat) (qt : Nat) (qr : Nat) (qc : Nat) (qs : Nat) (qn : Nat) (qp : Nat) (qm : Nat) (qf : Nat) (qx : Nat) (p0 : Int32) (p1 : Int32) : Met l yX6_word (Cond.code yX6_word cX6_word 3 (some .int) :: T0) ({ frames := 1, cells := 0, slots := 0, locals := 22 }) (va_Pc [.ref h0, .int p0, .int p1] (ax_W dC dI sz [(h0, .inr (6, [.ref qt, .int 0, .ref qr, .ref qc, .ref qs, .int 0, .ref qn, .ref qp, .int 0, .int 0, .ref qm, .ref qf, .ref qx, .long 1]))] [])) (va_Qi (fun (r : Int32) (_ : Unit) => r = (-1000000)) (fun (_ : Unit) (t : State) => va_P (dC, dI) vwCl [] t.heap ∧ va_K (dC, dI) vwCl [] t ∧ va_D (va_A [(h0, .inr (6, [.ref qt, .int 0, .ref qr, .ref qc, .ref qs, .int 0, .ref qn, .ref qp, .int 0, .int 0, .ref qm, .ref qf, .ref qx, .long 1]))] sz) []) (va_A [(h0, .inr (6, [.ref qt, .int 0, .ref qr, .ref qc, .ref qs, .int 0, .ref qn, .ref qp, .int 0, .int 0, .ref qm, .ref qf, .ref qx, .long 1]))] sz)) 0 0 (va_A [(h0, .inr (6, [.ref qt, .int 0, .ref qr, .ref qc, .ref qs, .int 0, .ref qn, .ref qp, .int 0, .int 0, .ref qm, .ref qf, .ref qx, .long 1]))] sz) := by
  refine Met.ofW (cc := cX6_word) (maxL := 3) (ret := (some .int)) (by decide) rfl ?_
  intro p e s m args below meth c s₁ B hml hv
  obtain ⟨rfl, hsz, hP, hK, hD0, hN⟩ := hv
  have hx := B.exec
  have hb := B.bytes
  have hr := B.returns
  have hts : ∀ w ∈ T0, w.before _ s = true := fun w h => atoms_spec (ws := Cond.code yX6_word cX6_word 3 (some .int) :: T0) B.pre w (List.mem_cons_of_mem _ h)
  have hown : s.vm.findClass RX6 = some m.cls := findClass_of_methodNamed B.named
  have hlocks := B.notSynchronized
  subst hsz
  have hD := hD0.self (sz := s.heap.size)
  generalize hAe : va_A [(h0, .inr (6, [.ref qt, .int 0, .ref qr, .ref qc, .ref qs, .int 0, .ref qn, .ref qp, .int 0, .int 0, .ref qm, .ref qf, .ref qx, .long 1]))] s.heap.size = A at hD ⊢
  have hA : ∀ q : Nat, s.heap.size ≤ q → A q := fun q h => by rw [← hAe]; exact Or.inr h
  have hS : va_S A s.heap s.heap [] := va_S.rf
  have hP : va_P (dC, dI) vwCl [(h0, .inr (6, [.ref qt, .int 0, .ref qr, .ref qc, .ref qs, .int 0, .ref qn, .ref qp, .int 0, .int 0, .ref qm, .ref qf, .ref qx, .long 1]))] s.heap := hP
  have hl := lv_entry ([.ref h0, .int p0, .int p1]) (n := 3) (Nat.le_of_ble_eq_true rfl)
  rw [lg_entry_eq]
  generalize (lg_sl ([.ref h0, .int p0, .int p1]) ++ List.replicate (3 - (lg_sl ([.ref h0, .int p0, .int p1])).length) Slot.unset).toArray = ls at hl ⊢
  refine ax_gen hP hD hS (fun H locs hP hD hS => ?_)
  have hl : lv_has ls 3 [(0, .ref h0), (1, .int p0), (2, .int p1)] := hl
  refine lv_aload_n hx hb dX6_word_0 rfl (lv_at hl 0 rfl) ?_
  refine lv_iload_n hx hb dX6_word_1 rfl (lv_at hl 1 rfl) ?_
  refine lv_iload_n hx hb dX6_word_2 rfl (lv_at hl 2 rfl) ?_
  have hPc := hP.sub (ws' := [(h0, .inr (6, [.ref qt, .int 0, .ref qr, .ref qc, .ref qs, .int 0, .ref qn, .ref qp, .int 0, .int 0, .ref qm, .ref qf, .ref qx, .long 1]))]) [0] rfl
  have hDc := hD.sub (ws' := [(h0, .inr (6, [.ref qt, .int 0, .ref qr, .ref qc, .ref qs, .int 0, .ref qn, .ref qp, .int 0, .int 0, .ref qm, .ref qf, .ref qx, .long 1]))]) [0] (by decide) rfl
  have hKc := hK.sub (tys' := []) [] rfl
  have hFc := va_free (wc := [(h0, .inr (6, [.ref qt, .int 0, .ref qr, .ref qc, .ref qs, .int 0, .ref qn, .ref qp, .int 0, .int 0, .ref qm, .ref qf, .ref qx, .long 1]))]) hD hS hA [0] rfl
  refine va_calli (va_runV (As := [.int p0, .int p1]) (rest := []) ⟨hx, hb, hml, hown, hts⟩ (c_X6_hasWord l dC dI H.size h0 qt qr qc qs qn qp qm qf qx p0 p1) (cwV 2 hts (ax_gV T_154 T_155 T_156 T_106 T_153) rfl rfl rfl (by decide +kernel) ⟨Nat.le_of_ble_eq_true rfl, Nat.le_of_ble_eq_true rfl⟩) ⟨fun a U g mk q => ⟨q.1, ax_pc rfl rfl q.2⟩, va_recv hKc hPc (ci := 6) (q0 := 0) rfl rfl, fun U hU hW => ⟨rfl, ax_pw hU hW hPc hKc hDc hN⟩⟩ rfl rfl hl.1 rfl (lv_room (Nat.le_of_ble_eq_true rfl)) dX6_word_3 ⟨Nat.le_of_ble_eq_true rfl, Nat.le_of_ble_eq_true rfl⟩) hS (fun q _ h => hFc q h) hFc (fun r1 _ t H1 locs ht hvm hw hB hz1 hk1 hS => ?_)
  obtain ⟨hP1, hK1, hD1⟩ := hB
  rw [ht] at hP1
  have hK1 := va_K.moved hvm.symm hK1
  obtain ⟨hP, hD⟩ := va_join (wr := []) (w1 := [(h0, .inr (6, [.ref qt, .int 0, .ref qr, .ref qc, .ref qs, .int 0, .ref qn, .ref qp, .int 0, .int 0, .ref qm, .ref qf, .ref qx, .long 1]))]) hP hD [0] [] rfl rfl (by decide) (by decide) hk1 hFc hP1 hD1
  generalize H1 = H at hP hS ⊢
  have hP : va_P (dC, dI) vwCl [(h0, .inr (6, [.ref qt, .int 0, .ref qr, .ref qc, .ref qs, .int 0, .ref qn, .ref qp, .int 0, .int 0, .ref qm, .ref qf, .ref qx, .long 1]))] H := hP
  have hD : va_D A [(h0, .inr (6, [.ref qt, .int 0, .ref qr, .ref qc, .ref qs, .int 0, .ref qn, .ref qp, .int 0, .int 0, .ref qm, .ref qf, .ref qx, .long 1]))] := hD
  subst hw
  refine lv_if_ne (tgt := 12) hx hb dX6_word_6 (by decide) (fun c => absurd (by decide) c) (fun _ => ?_)
  refine lv_ldc hx hb hown (hts _ T_148) dX6_word_9 ?_
  have hP9 := hP.sub (ws' := []) [] rfl
  have hD9 := hD.sub (ws' := []) [] (by decide) rfl
  have hK9 := hK.sub (tys' := []) [] rfl
  exact W.iret (v := (-1000000)) hx hb hr (fun t ht hW => ⟨⟨(-1000000), (), rfl, rfl, by rw [ht]; exact hP9, va_K.moved hW.alike hK9, hD9⟩, hS.F ht⟩) hS.2.2 dX6_word_11

set_option maxHeartbeats 4000000 in
set_option maxRecDepth 100000 in
/-- raced -/
theorem c_X6_raced (l : Launch) (dC : Nat → ClassId) (dI : Nat → Nat → Nat) (sz : Nat) (h0 : Nat) (qt : Nat) (qr : Nat) (qc : Nat) (qs : Nat) (qn : Nat) (qp : Nat) (qm : Nat) (qf : Nat) (qx : Nat) (p0 : Int32) (p1 : Int32) : Met l yX6_raced (Cond.code yX6_raced cX6_raced 3 (some .int) :: T0) ({ frames := 1, cells := 0, slots := 0, locals := 22 }) (va_Pc [.ref h0, .int p0, .int p1] (ax_W dC dI sz [(h0, .inr (6, [.ref qt, .int 0, .ref qr, .ref qc, .ref qs, .int 0, .ref qn, .ref qp, .int 0, .int 0, .ref qm, .ref qf, .ref qx, .long 1]))] [])) (va_Qi (fun (r : Int32) (_ : Unit) => r = (-1)) (fun (_ : Unit) (t : State) => va_P (dC, dI) vwCl [] t.heap ∧ va_K (dC, dI) vwCl [] t ∧ va_D (va_A [(h0, .inr (6, [.ref qt, .int 0, .ref qr, .ref qc, .ref qs, .int 0, .ref qn, .ref qp, .int 0, .int 0, .ref qm, .ref qf, .ref qx, .long 1]))] sz) []) (va_A [(h0, .inr (6, [.ref qt, .int 0, .ref qr, .ref qc, .ref qs, .int 0, .ref qn, .ref qp, .int 0, .int 0, .ref qm, .ref qf, .ref qx, .long 1]))] sz)) 0 0 (va_A [(h0, .inr (6, [.ref qt, .int 0, .ref qr, .ref qc, .ref qs, .int 0, .ref qn, .ref qp, .int 0, .int 0, .ref qm, .ref qf, .ref qx, .long 1]))] sz) := by
  refine Met.ofW (cc := cX6_raced) (maxL := 3) (ret := (some .int)) (by decide) rfl ?_
  intro p e s m args below meth c s₁ B hml hv
  obtain ⟨rfl, hsz, hP, hK, hD0, hN⟩ := hv
  have hx := B.exec
  have hb := B.bytes
  have hr := B.returns
  have hts : ∀ w ∈ T0, w.before _ s = true := fun w h => atoms_spec (ws := Cond.code yX6_raced cX6_raced 3 (some .int) :: T0) B.pre w (List.mem_cons_of_mem _ h)
  have hown : s.vm.findClass RX6 = some m.cls := findClass_of_methodNamed B.named
  have hlocks := B.notSynchronized
  subst hsz
  have hD := hD0.self (sz := s.heap.size)
  generalize hAe : va_A [(h0, .inr (6, [.ref qt, .int 0, .ref qr, .ref qc, .ref qs, .int 0, .ref qn, .ref qp, .int 0, .int 0, .ref qm, .ref qf, .ref qx, .long 1]))] s.heap.size = A at hD ⊢
  have hA : ∀ q : Nat, s.heap.size ≤ q → A q := fun q h => by rw [← hAe]; exact Or.inr h
  have hS : va_S A s.heap s.heap [] := va_S.rf
  have hP : va_P (dC, dI) vwCl [(h0, .inr (6, [.ref qt, .int 0, .ref qr, .ref qc, .ref qs, .int 0, .ref qn, .ref qp, .int 0, .int 0, .ref qm, .ref qf, .ref qx, .long 1]))] s.heap := hP
  have hl := lv_entry ([.ref h0, .int p0, .int p1]) (n := 3) (Nat.le_of_ble_eq_true rfl)
  rw [lg_entry_eq]
  generalize (lg_sl ([.ref h0, .int p0, .int p1]) ++ List.replicate (3 - (lg_sl ([.ref h0, .int p0, .int p1])).length) Slot.unset).toArray = ls at hl ⊢
  refine ax_gen hP hD hS (fun H locs hP hD hS => ?_)
  have hl : lv_has ls 3 [(0, .ref h0), (1, .int p0), (2, .int p1)] := hl
  refine lv_aload_n hx hb dX6_raced_0 rfl (lv_at hl 0 rfl) ?_
  refine lv_iload_n hx hb dX6_raced_1 rfl (lv_at hl 1 rfl) ?_
  refine lv_iload_n hx hb dX6_raced_2 rfl (lv_at hl 2 rfl) ?_
  have hPc := hP.sub (ws' := [(h0, .inr (6, [.ref qt, .int 0, .ref qr, .ref qc, .ref qs, .int 0, .ref qn, .ref qp, .int 0, .int 0, .ref qm, .ref qf, .ref qx, .long 1]))]) [0] rfl
  have hDc := hD.sub (ws' := [(h0, .inr (6, [.ref qt, .int 0, .ref qr, .ref qc, .ref qs, .int 0, .ref qn, .ref qp, .int 0, .int 0, .ref qm, .ref qf, .ref qx, .long 1]))]) [0] (by decide) rfl
  have hKc := hK.sub (tys' := []) [] rfl
  have hFc := va_free (wc := [(h0, .inr (6, [.ref qt, .int 0, .ref qr, .ref qc, .ref qs, .int 0, .ref qn, .ref qp, .int 0, .int 0, .ref qm, .ref qf, .ref qx, .long 1]))]) hD hS hA [0] rfl
  refine va_calli (va_runV (As := [.int p0, .int p1]) (rest := []) ⟨hx, hb, hml, hown, hts⟩ (c_X6_hasWord l dC dI H.size h0 qt qr qc qs qn qp qm qf qx p0 p1) (cwV 2 hts (ax_gV T_154 T_155 T_156 T_106 T_153) rfl rfl rfl (by decide +kernel) ⟨Nat.le_of_ble_eq_true rfl, Nat.le_of_ble_eq_true rfl⟩) ⟨fun a U g mk q => ⟨q.1, ax_pc rfl rfl q.2⟩, va_recv hKc hPc (ci := 6) (q0 := 0) rfl rfl, fun U hU hW => ⟨rfl, ax_pw hU hW hPc hKc hDc hN⟩⟩ rfl rfl hl.1 rfl (lv_room (Nat.le_of_ble_eq_true rfl)) dX6_raced_3 ⟨Nat.le_of_ble_eq_true rfl, Nat.le_of_ble_eq_true rfl⟩) hS (fun q _ h => hFc q h) hFc (fun r1 _ t H1 locs ht hvm hw hB hz1 hk1 hS => ?_)
  obtain ⟨hP1, hK1, hD1⟩ := hB
  rw [ht] at hP1
  have hK1 := va_K.moved hvm.symm hK1
  obtain ⟨hP, hD⟩ := va_join (wr := []) (w1 := [(h0, .inr (6, [.ref qt, .int 0, .ref qr, .ref qc, .ref qs, .int 0, .ref qn, .ref qp, .int 0, .int 0, .ref qm, .ref qf, .ref qx, .long 1]))]) hP hD [0] [] rfl rfl (by decide) (by decide) hk1 hFc hP1 hD1
  generalize H1 = H at hP hS ⊢
  have hP : va_P (dC, dI) vwCl [(h0, .inr (6, [.ref qt, .int 0, .ref qr, .ref qc, .ref qs, .int 0, .ref qn, .ref qp, .int 0, .int 0, .ref qm, .ref qf, .ref qx, .long 1]))] H := hP
  have hD : va_D A [(h0, .inr (6, [.ref qt, .int 0, .ref qr, .ref qc, .ref qs, .int 0, .ref qn, .ref qp, .int 0, .int 0, .ref qm, .ref qf, .ref qx, .long 1]))] := hD
  subst hw
  refine lv_if_ne (tgt := 11) hx hb dX6_raced_6 (by decide) (fun c => absurd (by decide) c) (fun _ => ?_)
  refine lv_iconst (v := (-1)) hx hb dX6_raced_9 (by decide) ?_
  have hP9 := hP.sub (ws' := []) [] rfl
  have hD9 := hD.sub (ws' := []) [] (by decide) rfl
  have hK9 := hK.sub (tys' := []) [] rfl
  exact W.iret (v := (-1)) hx hb hr (fun t ht hW => ⟨⟨(-1), (), rfl, rfl, by rw [ht]; exact hP9, va_K.moved hW.alike hK9, hD9⟩, hS.F ht⟩) hS.2.2 dX6_raced_10

set_option maxHeartbeats 4000000 in
set_option maxRecDepth 100000 in
/-- next -/
theorem c_X6_next (l : Launch) (dC : Nat → ClassId) (dI : Nat → Nat → Nat) (sz : Nat) (h0 : Nat) (qt : Nat) (qr : Nat) (qc : Nat) (qs : Nat) (qn : Nat) (qp : Nat) (qm : Nat) (qf : Nat) (qx : Nat) (p0 : Int32) : Met l yX6_next (Cond.code yX6_next cX6_next 2 (some .int) :: T0) ({ frames := 0, cells := 0, slots := 0, locals := 0 }) (va_Pc [.ref h0, .int p0] (ax_W dC dI sz [(h0, .inr (6, [.ref qt, .int 0, .ref qr, .ref qc, .ref qs, .int 0, .ref qn, .ref qp, .int 0, .int 0, .ref qm, .ref qf, .ref qx, .long 1]))] [])) (va_Qi (fun (r : Int32) (_ : Unit) => r = (-1)) (fun (_ : Unit) (t : State) => va_P (dC, dI) vwCl [] t.heap ∧ va_K (dC, dI) vwCl [] t ∧ va_D (va_A [(h0, .inr (6, [.ref qt, .int 0, .ref qr, .ref qc, .ref qs, .int 0, .ref qn, .ref qp, .int 0, .int 0, .ref qm, .ref qf, .ref qx, .long 1]))] sz) []) (va_A [(h0, .inr (6, [.ref qt, .int 0, .ref qr, .ref qc, .ref qs, .int 0, .ref qn, .ref qp, .int 0, .int 0, .ref qm, .ref qf, .ref qx, .long 1]))] sz)) 0 0 (va_A [(h0, .inr (6, [.ref qt, .int 0, .ref qr, .ref qc, .ref qs, .int 0, .ref qn, .ref qp, .int 0, .int 0, .ref qm, .ref qf, .ref qx, .long 1]))] sz) := by
  refine Met.ofW (cc := cX6_next) (maxL := 2) (ret := (some .int)) (by decide) rfl ?_
  intro p e s m args below meth c s₁ B hml hv
  obtain ⟨rfl, hsz, hP, hK, hD0, hN⟩ := hv
  have hx := B.exec
  have hb := B.bytes
  have hr := B.returns
  have hts : ∀ w ∈ T0, w.before _ s = true := fun w h => atoms_spec (ws := Cond.code yX6_next cX6_next 2 (some .int) :: T0) B.pre w (List.mem_cons_of_mem _ h)
  have hown : s.vm.findClass RX6 = some m.cls := findClass_of_methodNamed B.named
  have hlocks := B.notSynchronized
  subst hsz
  have hD := hD0.self (sz := s.heap.size)
  generalize hAe : va_A [(h0, .inr (6, [.ref qt, .int 0, .ref qr, .ref qc, .ref qs, .int 0, .ref qn, .ref qp, .int 0, .int 0, .ref qm, .ref qf, .ref qx, .long 1]))] s.heap.size = A at hD ⊢
  have hA : ∀ q : Nat, s.heap.size ≤ q → A q := fun q h => by rw [← hAe]; exact Or.inr h
  have hS : va_S A s.heap s.heap [] := va_S.rf
  have hP : va_P (dC, dI) vwCl [(h0, .inr (6, [.ref qt, .int 0, .ref qr, .ref qc, .ref qs, .int 0, .ref qn, .ref qp, .int 0, .int 0, .ref qm, .ref qf, .ref qx, .long 1]))] s.heap := hP
  have hl := lv_entry ([.ref h0, .int p0]) (n := 2) (Nat.le_of_ble_eq_true rfl)
  rw [lg_entry_eq]
  generalize (lg_sl ([.ref h0, .int p0]) ++ List.replicate (2 - (lg_sl ([.ref h0, .int p0])).length) Slot.unset).toArray = ls at hl ⊢
  refine ax_gen hP hD hS (fun H locs hP hD hS => ?_)
  have hl : lv_has ls 2 [(0, .ref h0), (1, .int p0)] := hl
  refine lv_aload_n hx hb dX6_next_0 rfl (lv_at hl 0 rfl) ?_
  refine va_get (D := (dC, dI)) (ci := 6) (v := .int 0) (C := RX6) (T := TX6) (N := 14) hx hb hts inX6 hown hK hP 0 rfl rfl 5 (by decide) (hts _ T_143) (fun _ h9 => h9) rfl dX6_next_1 ?_
  refine lv_if_eq (tgt := 34) hx hb dX6_next_4 (by decide) (fun _ => ?_) (fun c => absurd (by decide) c)
  refine lv_iconst (v := (-1)) hx hb dX6_next_34 (by decide) ?_
  have hP9 := hP.sub (ws' := []) [] rfl
  have hD9 := hD.sub (ws' := []) [] (by decide) rfl
  have hK9 := hK.sub (tys' := []) [] rfl
  exact W.iret (v := (-1)) hx hb hr (fun t ht hW => ⟨⟨(-1), (), rfl, rfl, by rw [ht]; exact hP9, va_K.moved hW.alike hK9, hD9⟩, hS.F ht⟩) hS.2.2 dX6_next_35

set_option maxHeartbeats 4000000 in
set_option maxRecDepth 100000 in
/-- goes -/
theorem c_X6_goes (l : Launch) (dC : Nat → ClassId) (dI : Nat → Nat → Nat) (sz : Nat) (h0 : Nat) (qt : Nat) (qr : Nat) (qc : Nat) (qs : Nat) (qn : Nat) (qp : Nat) (qm : Nat) (qf : Nat) (qx : Nat) (p0 : Int32) : Met l yX6_goes (Cond.code yX6_goes cX6_goes 2 (some .int) :: T0) ({ frames := 0, cells := 0, slots := 0, locals := 0 }) (va_Pc [.ref h0, .int p0] (ax_W dC dI sz [(h0, .inr (6, [.ref qt, .int 0, .ref qr, .ref qc, .ref qs, .int 0, .ref qn, .ref qp, .int 0, .int 0, .ref qm, .ref qf, .ref qx, .long 1]))] [])) (va_Qi (fun (r : Int32) (_ : Unit) => r = (-1)) (fun (_ : Unit) (t : State) => va_P (dC, dI) vwCl [] t.heap ∧ va_K (dC, dI) vwCl [] t ∧ va_D (va_A [(h0, .inr (6, [.ref qt, .int 0, .ref qr, .ref qc, .ref qs, .int 0, .ref qn, .ref qp, .int 0, .int 0, .ref qm, .ref qf, .ref qx, .long 1]))] sz) []) (va_A [(h0, .inr (6, [.ref qt, .int 0, .ref qr, .ref qc, .ref qs, .int 0, .ref qn, .ref qp, .int 0, .int 0, .ref qm, .ref qf, .ref qx, .long 1]))] sz)) 0 0 (va_A [(h0, .inr (6, [.ref qt, .int 0, .ref qr, .ref qc, .ref qs, .int 0, .ref qn, .ref qp, .int 0, .int 0, .ref qm, .ref qf, .ref qx, .long 1]))] sz) := by
  refine Met.ofW (cc := cX6_goes) (maxL := 2) (ret := (some .int)) (by decide) rfl ?_
  intro p e s m args below meth c s₁ B hml hv
  obtain ⟨rfl, hsz, hP, hK, hD0, hN⟩ := hv
  have hx := B.exec
  have hb := B.bytes
  have hr := B.returns
  have hts : ∀ w ∈ T0, w.before _ s = true := fun w h => atoms_spec (ws := Cond.code yX6_goes cX6_goes 2 (some .int) :: T0) B.pre w (List.mem_cons_of_mem _ h)
  have hown : s.vm.findClass RX6 = some m.cls := findClass_of_methodNamed B.named
  have hlocks := B.notSynchronized
  subst hsz
  have hD := hD0.self (sz := s.heap.size)
  generalize hAe : va_A [(h0, .inr (6, [.ref qt, .int 0, .ref qr, .ref qc, .ref qs, .int 0, .ref qn, .ref qp, .int 0, .int 0, .ref qm, .ref qf, .ref qx, .long 1]))] s.heap.size = A at hD ⊢
  have hA : ∀ q : Nat, s.heap.size ≤ q → A q := fun q h => by rw [← hAe]; exact Or.inr h
  have hS : va_S A s.heap s.heap [] := va_S.rf
  have hP : va_P (dC, dI) vwCl [(h0, .inr (6, [.ref qt, .int 0, .ref qr, .ref qc, .ref qs, .int 0, .ref qn, .ref qp, .int 0, .int 0, .ref qm, .ref qf, .ref qx, .long 1]))] s.heap := hP
  have hl := lv_entry ([.ref h0, .int p0]) (n := 2) (Nat.le_of_ble_eq_true rfl)
  rw [lg_entry_eq]
  generalize (lg_sl ([.ref h0, .int p0]) ++ List.replicate (2 - (lg_sl ([.ref h0, .int p0])).length) Slot.unset).toArray = ls at hl ⊢
  refine ax_gen hP hD hS (fun H locs hP hD hS => ?_)
  have hl : lv_has ls 2 [(0, .ref h0), (1, .int p0)] := hl
  refine lv_aload_n hx hb dX6_goes_0 rfl (lv_at hl 0 rfl) ?_
  refine va_get (D := (dC, dI)) (ci := 6) (v := .int 0) (C := RX6) (T := TX6) (N := 14) hx hb hts inX6 hown hK hP 0 rfl rfl 5 (by decide) (hts _ T_143) (fun _ h9 => h9) rfl dX6_goes_1 ?_
  refine lv_if_eq (tgt := 16) hx hb dX6_goes_4 (by decide) (fun _ => ?_) (fun c => absurd (by decide) c)
  refine lv_iconst (v := (-1)) hx hb dX6_goes_16 (by decide) ?_
  have hP9 := hP.sub (ws' := []) [] rfl
  have hD9 := hD.sub (ws' := []) [] (by decide) rfl
  have hK9 := hK.sub (tys' := []) [] rfl
  exact W.iret (v := (-1)) hx hb hr (fun t ht hW => ⟨⟨(-1), (), rfl, rfl, by rw [ht]; exact hP9, va_K.moved hW.alike hK9, hD9⟩, hS.F ht⟩) hS.2.2 dX6_goes_17

set_option maxHeartbeats 4000000 in
set_option maxRecDepth 100000 in
/-- later -/
theorem c_X6_later (l : Launch) (dC : Nat → ClassId) (dI : Nat → Nat → Nat) (sz : Nat) (h0 : Nat) (qt : Nat) (qr : Nat) (qc : Nat) (qs : Nat) (qn : Nat) (qp : Nat) (qm : Nat) (qf : Nat) (qx : Nat) (p0 : Int32) (p1 : Int32) (p2 : Int32) (p3 : Int32) : Met l yX6_later (Cond.code yX6_later cX6_later 6 (some .int) :: T0) ({ frames := 2, cells := 0, slots := 0, locals := 43 }) (va_Pc [.ref h0, .int p0, .int p1, .int p2, .int p3] (ax_W dC dI sz [(h0, .inr (6, [.ref qt, .int 0, .ref qr, .ref qc, .ref qs, .int 0, .ref qn, .ref qp, .int 0, .int 0, .ref qm, .ref qf, .ref qx, .long 1]))] [])) (va_Qi (fun (r : Int32) (_ : Unit) => r = (-1000000)) (fun (_ : Unit) (t : State) => va_P (dC, dI) vwCl [] t.heap ∧ va_K (dC, dI) vwCl [] t ∧ va_D (va_A [(h0, .inr (6, [.ref qt, .int 0, .ref qr, .ref qc, .ref qs, .int 0, .ref qn, .ref qp, .int 0, .int 0, .ref qm, .ref qf, .ref qx, .long 1]))] sz) []) (va_A [(h0, .inr (6, [.ref qt, .int 0, .ref qr, .ref qc, .ref qs, .int 0, .ref qn, .ref qp, .int 0, .int 0, .ref qm, .ref qf, .ref qx, .long 1]))] sz)) 0 0 (va_A [(h0, .inr (6, [.ref qt, .int 0, .ref qr, .ref qc, .ref qs, .int 0, .ref qn, .ref qp, .int 0, .int 0, .ref qm, .ref qf, .ref qx, .long 1]))] sz) := by
  refine Met.ofW (cc := cX6_later) (maxL := 6) (ret := (some .int)) (by decide) rfl ?_
  intro p e s m args below meth c s₁ B hml hv
  obtain ⟨rfl, hsz, hP, hK, hD0, hN⟩ := hv
  have hx := B.exec
  have hb := B.bytes
  have hr := B.returns
  have hts : ∀ w ∈ T0, w.before _ s = true := fun w h => atoms_spec (ws := Cond.code yX6_later cX6_later 6 (some .int) :: T0) B.pre w (List.mem_cons_of_mem _ h)
  have hown : s.vm.findClass RX6 = some m.cls := findClass_of_methodNamed B.named
  have hlocks := B.notSynchronized
  subst hsz
  have hD := hD0.self (sz := s.heap.size)
  generalize hAe : va_A [(h0, .inr (6, [.ref qt, .int 0, .ref qr, .ref qc, .ref qs, .int 0, .ref qn, .ref qp, .int 0, .int 0, .ref qm, .ref qf, .ref qx, .long 1]))] s.heap.size = A at hD ⊢
  have hA : ∀ q : Nat, s.heap.size ≤ q → A q := fun q h => by rw [← hAe]; exact Or.inr h
  have hS : va_S A s.heap s.heap [] := va_S.rf
  have hP : va_P (dC, dI) vwCl [(h0, .inr (6, [.ref qt, .int 0, .ref qr, .ref qc, .ref qs, .int 0, .ref qn, .ref qp, .int 0, .int 0, .ref qm, .ref qf, .ref qx, .long 1]))] s.heap := hP
  have hl := lv_entry ([.ref h0, .int p0, .int p1, .int p2, .int p3]) (n := 6) (Nat.le_of_ble_eq_true rfl)
  rw [lg_entry_eq]
  generalize (lg_sl ([.ref h0, .int p0, .int p1, .int p2, .int p3]) ++ List.replicate (6 - (lg_sl ([.ref h0, .int p0, .int p1, .int p2, .int p3])).length) Slot.unset).toArray = ls at hl ⊢
  refine ax_gen hP hD hS (fun H locs hP hD hS => ?_)
  have hl : lv_has ls 6 [(0, .ref h0), (1, .int p0), (2, .int p1), (3, .int p2), (4, .int p3)] := hl
  refine lv_aload_n hx hb dX6_later_0 rfl (lv_at hl 0 rfl) ?_
  refine lv_iload_n hx hb dX6_later_1 rfl (lv_at hl 2 rfl) ?_
  refine lv_iload_n hx hb dX6_later_2 rfl (lv_at hl 3 rfl) ?_
  have hPc := hP.sub (ws' := [(h0, .inr (6, [.ref qt, .int 0, .ref qr, .ref qc, .ref qs, .int 0, .ref qn, .ref qp, .int 0, .int 0, .ref qm, .ref qf, .ref qx, .long 1]))]) [0] rfl
  have hDc := hD.sub (ws' := [(h0, .inr (6, [.ref qt, .int 0, .ref qr, .ref qc, .ref qs, .int 0, .ref qn, .ref qp, .int 0, .int 0, .ref qm, .ref qf, .ref qx, .long 1]))]) [0] (by decide) rfl
  have hKc := hK.sub (tys' := []) [] rfl
  have hFc := va_free (wc := [(h0, .inr (6, [.ref qt, .int 0, .ref qr, .ref qc, .ref qs, .int 0, .ref qn, .ref qp, .int 0, .int 0, .ref qm, .ref qf, .ref qx, .long 1]))]) hD hS hA [0] rfl
  refine va_calli (va_runV (As := [.int p1, .int p2]) (rest := []) ⟨hx, hb, hml, hown, hts⟩ (c_X6_hasLane l dC dI H.size h0 qt qr qc qs qn qp qm qf qx p1 p2) (cwV 2 hts (ax_gV T_150 T_151 T_152 T_106 T_149) rfl rfl rfl (by decide +kernel) ⟨Nat.le_of_ble_eq_true rfl, Nat.le_of_ble_eq_true rfl⟩) ⟨fun a U g mk q => ⟨q.1, ax_pc rfl rfl q.2⟩, va_recv hKc hPc (ci := 6) (q0 := 0) rfl rfl, fun U hU hW => ⟨rfl, ax_pw hU hW hPc hKc hDc hN⟩⟩ rfl rfl hl.1 rfl (lv_room (Nat.le_of_ble_eq_true rfl)) dX6_later_3 ⟨Nat.le_of_ble_eq_true rfl, Nat.le_of_ble_eq_true rfl⟩) hS (fun q _ h => hFc q h) hFc (fun r1 _ t H1 locs ht hvm hw hB hz1 hk1 hS => ?_)
  obtain ⟨hP1, hK1, hD1⟩ := hB
  rw [ht] at hP1
  have hK1 := va_K.moved hvm.symm hK1
  obtain ⟨hP, hD⟩ := va_join (wr := []) (w1 := [(h0, .inr (6, [.ref qt, .int 0, .ref qr, .ref qc, .ref qs, .int 0, .ref qn, .ref qp, .int 0, .int 0, .ref qm, .ref qf, .ref qx, .long 1]))]) hP hD [0] [] rfl rfl (by decide) (by decide) hk1 hFc hP1 hD1
  generalize H1 = H at hP hS ⊢
  have hP : va_P (dC, dI) vwCl [(h0, .inr (6, [.ref qt, .int 0, .ref qr, .ref qc, .ref qs, .int 0, .ref qn, .ref qp, .int 0, .int 0, .ref qm, .ref qf, .ref qx, .long 1]))] H := hP
  have hD : va_D A [(h0, .inr (6, [.ref qt, .int 0, .ref qr, .ref qc, .ref qs, .int 0, .ref qn, .ref qp, .int 0, .int 0, .ref qm, .ref qf, .ref qx, .long 1]))] := hD
  subst hw
  refine lv_if_eq (tgt := 31) hx hb dX6_later_6 (by decide) (fun _ => ?_) (fun c => absurd (by decide) c)
  refine lv_ldc hx hb hown (hts _ T_148) dX6_later_31 ?_
  have hP9 := hP.sub (ws' := []) [] rfl
  have hD9 := hD.sub (ws' := []) [] (by decide) rfl
  have hK9 := hK.sub (tys' := []) [] rfl
  exact W.iret (v := (-1000000)) hx hb hr (fun t ht hW => ⟨⟨(-1000000), (), rfl, rfl, by rw [ht]; exact hP9, va_K.moved hW.alike hK9, hD9⟩, hS.F ht⟩) hS.2.2 dX6_later_33

set_option maxHeartbeats 4000000 in
set_option maxRecDepth 100000 in
/-- by -/
theorem c_X6_by (l : Launch) (dC : Nat → ClassId) (dI : Nat → Nat → Nat) (sz : Nat) (h0 : Nat) (qt : Nat) (qr : Nat) (qc : Nat) (qs : Nat) (qn : Nat) (qp : Nat) (qm : Nat) (qf : Nat) (qx : Nat) (p0 : Int32) (p1 : Int32) (p2 : Int32) : Met l yX6_by (Cond.code yX6_by cX6_by 4 (some .int) :: T0) ({ frames := 0, cells := 0, slots := 0, locals := 0 }) (va_Pc [.ref h0, .int p0, .int p1, .int p2] (ax_W dC dI sz [(h0, .inr (6, [.ref qt, .int 0, .ref qr, .ref qc, .ref qs, .int 0, .ref qn, .ref qp, .int 0, .int 0, .ref qm, .ref qf, .ref qx, .long 1]))] [])) (va_Qi (fun (r : Int32) (_ : Unit) => r = (-1)) (fun (_ : Unit) (t : State) => va_P (dC, dI) vwCl [] t.heap ∧ va_K (dC, dI) vwCl [] t ∧ va_D (va_A [(h0, .inr (6, [.ref qt, .int 0, .ref qr, .ref qc, .ref qs, .int 0, .ref qn, .ref qp, .int 0, .int 0, .ref qm, .ref qf, .ref qx, .long 1]))] sz) []) (va_A [(h0, .inr (6, [.ref qt, .int 0, .ref qr, .ref qc, .ref qs, .int 0, .ref qn, .ref qp, .int 0, .int 0, .ref qm, .ref qf, .ref qx, .long 1]))] sz)) 0 0 (va_A [(h0, .inr (6, [.ref qt, .int 0, .ref qr, .ref qc, .ref qs, .int 0, .ref qn, .ref qp, .int 0, .int 0, .ref qm, .ref qf, .ref qx, .long 1]))] sz) := by
  refine Met.ofW (cc := cX6_by) (maxL := 4) (ret := (some .int)) (by decide) rfl ?_
  intro p e s m args below meth c s₁ B hml hv
  obtain ⟨rfl, hsz, hP, hK, hD0, hN⟩ := hv
  have hx := B.exec
  have hb := B.bytes
  have hr := B.returns
  have hts : ∀ w ∈ T0, w.before _ s = true := fun w h => atoms_spec (ws := Cond.code yX6_by cX6_by 4 (some .int) :: T0) B.pre w (List.mem_cons_of_mem _ h)
  have hown : s.vm.findClass RX6 = some m.cls := findClass_of_methodNamed B.named
  have hlocks := B.notSynchronized
  subst hsz
  have hD := hD0.self (sz := s.heap.size)
  generalize hAe : va_A [(h0, .inr (6, [.ref qt, .int 0, .ref qr, .ref qc, .ref qs, .int 0, .ref qn, .ref qp, .int 0, .int 0, .ref qm, .ref qf, .ref qx, .long 1]))] s.heap.size = A at hD ⊢
  have hA : ∀ q : Nat, s.heap.size ≤ q → A q := fun q h => by rw [← hAe]; exact Or.inr h
  have hS : va_S A s.heap s.heap [] := va_S.rf
  have hP : va_P (dC, dI) vwCl [(h0, .inr (6, [.ref qt, .int 0, .ref qr, .ref qc, .ref qs, .int 0, .ref qn, .ref qp, .int 0, .int 0, .ref qm, .ref qf, .ref qx, .long 1]))] s.heap := hP
  have hl := lv_entry ([.ref h0, .int p0, .int p1, .int p2]) (n := 4) (Nat.le_of_ble_eq_true rfl)
  rw [lg_entry_eq]
  generalize (lg_sl ([.ref h0, .int p0, .int p1, .int p2]) ++ List.replicate (4 - (lg_sl ([.ref h0, .int p0, .int p1, .int p2])).length) Slot.unset).toArray = ls at hl ⊢
  refine ax_gen hP hD hS (fun H locs hP hD hS => ?_)
  have hl : lv_has ls 4 [(0, .ref h0), (1, .int p0), (2, .int p1), (3, .int p2)] := hl
  refine lv_aload_n hx hb dX6_by_0 rfl (lv_at hl 0 rfl) ?_
  refine va_get (D := (dC, dI)) (ci := 6) (v := .int 0) (C := RX6) (T := TX6) (N := 14) hx hb hts inX6 hown hK hP 0 rfl rfl 5 (by decide) (hts _ T_143) (fun _ h9 => h9) rfl dX6_by_1 ?_
  refine lv_if_eq (tgt := 30) hx hb dX6_by_4 (by decide) (fun _ => ?_) (fun c => absurd (by decide) c)
  refine lv_iconst (v := (-1)) hx hb dX6_by_30 (by decide) ?_
  have hP9 := hP.sub (ws' := []) [] rfl
  have hD9 := hD.sub (ws' := []) [] (by decide) rfl
  have hK9 := hK.sub (tys' := []) [] rfl
  exact W.iret (v := (-1)) hx hb hr (fun t ht hW => ⟨⟨(-1), (), rfl, rfl, by rw [ht]; exact hP9, va_K.moved hW.alike hK9, hD9⟩, hS.F ht⟩) hS.2.2 dX6_by_31

set_option maxHeartbeats 4000000 in
set_option maxRecDepth 100000 in
/-- skew -/
theorem c_X6_skew (l : Launch) (dC : Nat → ClassId) (dI : Nat → Nat → Nat) (sz : Nat) (h0 : Nat) (qt : Nat) (qr : Nat) (qc : Nat) (qs : Nat) (qn : Nat) (qp : Nat) (qm : Nat) (qf : Nat) (qx : Nat) (p0 : Int32) : Met l yX6_skew (Cond.code yX6_skew cX6_skew 9 (some .int) :: T0) ({ frames := 0, cells := 0, slots := 0, locals := 0 }) (va_Pc [.ref h0, .int p0] (ax_W dC dI sz [(h0, .inr (6, [.ref qt, .int 0, .ref qr, .ref qc, .ref qs, .int 0, .ref qn, .ref qp, .int 0, .int 0, .ref qm, .ref qf, .ref qx, .long 1]))] [])) (va_Qi (fun (r : Int32) (_ : Unit) => r = (-1)) (fun (_ : Unit) (t : State) => va_P (dC, dI) vwCl [] t.heap ∧ va_K (dC, dI) vwCl [] t ∧ va_D (va_A [(h0, .inr (6, [.ref qt, .int 0, .ref qr, .ref qc, .ref qs, .int 0, .ref qn, .ref qp, .int 0, .int 0, .ref qm, .ref qf, .ref qx, .long 1]))] sz) []) (va_A [(h0, .inr (6, [.ref qt, .int 0, .ref qr, .ref qc, .ref qs, .int 0, .ref qn, .ref qp, .int 0, .int 0, .ref qm, .ref qf, .ref qx, .long 1]))] sz)) 0 0 (va_A [(h0, .inr (6, [.ref qt, .int 0, .ref qr, .ref qc, .ref qs, .int 0, .ref qn, .ref qp, .int 0, .int 0, .ref qm, .ref qf, .ref qx, .long 1]))] sz) := by
  refine Met.ofW (cc := cX6_skew) (maxL := 9) (ret := (some .int)) (by decide) rfl ?_
  intro p e s m args below meth c s₁ B hml hv
  obtain ⟨rfl, hsz, hP, hK, hD0, hN⟩ := hv
  have hx := B.exec
  have hb := B.bytes
  have hr := B.returns
  have hts : ∀ w ∈ T0, w.before _ s = true := fun w h => atoms_spec (ws := Cond.code yX6_skew cX6_skew 9 (some .int) :: T0) B.pre w (List.mem_cons_of_mem _ h)
  have hown : s.vm.findClass RX6 = some m.cls := findClass_of_methodNamed B.named
  have hlocks := B.notSynchronized
  subst hsz
  have hD := hD0.self (sz := s.heap.size)
  generalize hAe : va_A [(h0, .inr (6, [.ref qt, .int 0, .ref qr, .ref qc, .ref qs, .int 0, .ref qn, .ref qp, .int 0, .int 0, .ref qm, .ref qf, .ref qx, .long 1]))] s.heap.size = A at hD ⊢
  have hA : ∀ q : Nat, s.heap.size ≤ q → A q := fun q h => by rw [← hAe]; exact Or.inr h
  have hS : va_S A s.heap s.heap [] := va_S.rf
  have hP : va_P (dC, dI) vwCl [(h0, .inr (6, [.ref qt, .int 0, .ref qr, .ref qc, .ref qs, .int 0, .ref qn, .ref qp, .int 0, .int 0, .ref qm, .ref qf, .ref qx, .long 1]))] s.heap := hP
  have hl := lv_entry ([.ref h0, .int p0]) (n := 9) (Nat.le_of_ble_eq_true rfl)
  rw [lg_entry_eq]
  generalize (lg_sl ([.ref h0, .int p0]) ++ List.replicate (9 - (lg_sl ([.ref h0, .int p0])).length) Slot.unset).toArray = ls at hl ⊢
  refine ax_gen hP hD hS (fun H locs hP hD hS => ?_)
  have hl : lv_has ls 9 [(0, .ref h0), (1, .int p0)] := hl
  refine lv_aload_n hx hb dX6_skew_0 rfl (lv_at hl 0 rfl) ?_
  refine va_get (D := (dC, dI)) (ci := 6) (v := .int 0) (C := RX6) (T := TX6) (N := 14) hx hb hts inX6 hown hK hP 0 rfl rfl 5 (by decide) (hts _ T_143) (fun _ h9 => h9) rfl dX6_skew_1 ?_
  refine lv_if_eq (tgt := 16) hx hb dX6_skew_4 (by decide) (fun _ => ?_) (fun c => absurd (by decide) c)
  refine lv_iconst (v := (-1)) hx hb dX6_skew_16 (by decide) ?_
  have hP9 := hP.sub (ws' := []) [] rfl
  have hD9 := hD.sub (ws' := []) [] (by decide) rfl
  have hK9 := hK.sub (tys' := []) [] rfl
  exact W.iret (v := (-1)) hx hb hr (fun t ht hW => ⟨⟨(-1), (), rfl, rfl, by rw [ht]; exact hP9, va_K.moved hW.alike hK9, hD9⟩, hS.F ht⟩) hS.2.2 dX6_skew_17

set_option maxHeartbeats 4000000 in
set_option maxRecDepth 100000 in
/-- alone -/
theorem c_X6_alone (l : Launch) (dC : Nat → ClassId) (dI : Nat → Nat → Nat) (sz : Nat) (h0 : Nat) (qt : Nat) (qr : Nat) (qc : Nat) (qs : Nat) (qn : Nat) (qp : Nat) (qm : Nat) (qf : Nat) (qx : Nat) (p0 : Int32) (p1 : Int32) (p2 : Int32) : Met l yX6_alone (Cond.code yX6_alone cX6_alone 4 (some .int) :: T0) ({ frames := 2, cells := 0, slots := 0, locals := 43 }) (va_Pc [.ref h0, .int p0, .int p1, .int p2] (ax_W dC dI sz [(h0, .inr (6, [.ref qt, .int 0, .ref qr, .ref qc, .ref qs, .int 0, .ref qn, .ref qp, .int 0, .int 0, .ref qm, .ref qf, .ref qx, .long 1]))] [])) (va_Qi (fun (r : Int32) (_ : Unit) => r = (-1000000)) (fun (_ : Unit) (t : State) => va_P (dC, dI) vwCl [] t.heap ∧ va_K (dC, dI) vwCl [] t ∧ va_D (va_A [(h0, .inr (6, [.ref qt, .int 0, .ref qr, .ref qc, .ref qs, .int 0, .ref qn, .ref qp, .int 0, .int 0, .ref qm, .ref qf, .ref qx, .long 1]))] sz) []) (va_A [(h0, .inr (6, [.ref qt, .int 0, .ref qr, .ref qc, .ref qs, .int 0, .ref qn, .ref qp, .int 0, .int 0, .ref qm, .ref qf, .ref qx, .long 1]))] sz)) 0 0 (va_A [(h0, .inr (6, [.ref qt, .int 0, .ref qr, .ref qc, .ref qs, .int 0, .ref qn, .ref qp, .int 0, .int 0, .ref qm, .ref qf, .ref qx, .long 1]))] sz) := by
  refine Met.ofW (cc := cX6_alone) (maxL := 4) (ret := (some .int)) (by decide) rfl ?_
  intro p e s m args below meth c s₁ B hml hv
  obtain ⟨rfl, hsz, hP, hK, hD0, hN⟩ := hv
  have hx := B.exec
  have hb := B.bytes
  have hr := B.returns
  have hts : ∀ w ∈ T0, w.before _ s = true := fun w h => atoms_spec (ws := Cond.code yX6_alone cX6_alone 4 (some .int) :: T0) B.pre w (List.mem_cons_of_mem _ h)
  have hown : s.vm.findClass RX6 = some m.cls := findClass_of_methodNamed B.named
  have hlocks := B.notSynchronized
  subst hsz
  have hD := hD0.self (sz := s.heap.size)
  generalize hAe : va_A [(h0, .inr (6, [.ref qt, .int 0, .ref qr, .ref qc, .ref qs, .int 0, .ref qn, .ref qp, .int 0, .int 0, .ref qm, .ref qf, .ref qx, .long 1]))] s.heap.size = A at hD ⊢
  have hA : ∀ q : Nat, s.heap.size ≤ q → A q := fun q h => by rw [← hAe]; exact Or.inr h
  have hS : va_S A s.heap s.heap [] := va_S.rf
  have hP : va_P (dC, dI) vwCl [(h0, .inr (6, [.ref qt, .int 0, .ref qr, .ref qc, .ref qs, .int 0, .ref qn, .ref qp, .int 0, .int 0, .ref qm, .ref qf, .ref qx, .long 1]))] s.heap := hP
  have hl := lv_entry ([.ref h0, .int p0, .int p1, .int p2]) (n := 4) (Nat.le_of_ble_eq_true rfl)
  rw [lg_entry_eq]
  generalize (lg_sl ([.ref h0, .int p0, .int p1, .int p2]) ++ List.replicate (4 - (lg_sl ([.ref h0, .int p0, .int p1, .int p2])).length) Slot.unset).toArray = ls at hl ⊢
  refine ax_gen hP hD hS (fun H locs hP hD hS => ?_)
  have hl : lv_has ls 4 [(0, .ref h0), (1, .int p0), (2, .int p1), (3, .int p2)] := hl
  refine lv_aload_n hx hb dX6_alone_0 rfl (lv_at hl 0 rfl) ?_
  refine lv_iload_n hx hb dX6_alone_1 rfl (lv_at hl 1 rfl) ?_
  refine lv_iload_n hx hb dX6_alone_2 rfl (lv_at hl 2 rfl) ?_
  have hPc := hP.sub (ws' := [(h0, .inr (6, [.ref qt, .int 0, .ref qr, .ref qc, .ref qs, .int 0, .ref qn, .ref qp, .int 0, .int 0, .ref qm, .ref qf, .ref qx, .long 1]))]) [0] rfl
  have hDc := hD.sub (ws' := [(h0, .inr (6, [.ref qt, .int 0, .ref qr, .ref qc, .ref qs, .int 0, .ref qn, .ref qp, .int 0, .int 0, .ref qm, .ref qf, .ref qx, .long 1]))]) [0] (by decide) rfl
  have hKc := hK.sub (tys' := []) [] rfl
  have hFc := va_free (wc := [(h0, .inr (6, [.ref qt, .int 0, .ref qr, .ref qc, .ref qs, .int 0, .ref qn, .ref qp, .int 0, .int 0, .ref qm, .ref qf, .ref qx, .long 1]))]) hD hS hA [0] rfl
  refine va_calli (va_runV (As := [.int p0, .int p1]) (rest := []) ⟨hx, hb, hml, hown, hts⟩ (c_X6_hasLane l dC dI H.size h0 qt qr qc qs qn qp qm qf qx p0 p1) (cwV 2 hts (ax_gV T_150 T_151 T_152 T_106 T_149) rfl rfl rfl (by decide +kernel) ⟨Nat.le_of_ble_eq_true rfl, Nat.le_of_ble_eq_true rfl⟩) ⟨fun a U g mk q => ⟨q.1, ax_pc rfl rfl q.2⟩, va_recv hKc hPc (ci := 6) (q0 := 0) rfl rfl, fun U hU hW => ⟨rfl, ax_pw hU hW hPc hKc hDc hN⟩⟩ rfl rfl hl.1 rfl (lv_room (Nat.le_of_ble_eq_true rfl)) dX6_alone_3 ⟨Nat.le_of_ble_eq_true rfl, Nat.le_of_ble_eq_true rfl⟩) hS (fun q _ h => hFc q h) hFc (fun r1 _ t H1 locs ht hvm hw hB hz1 hk1 hS => ?_)
  obtain ⟨hP1, hK1, hD1⟩ := hB
  rw [ht] at hP1
  have hK1 := va_K.moved hvm.symm hK1
  obtain ⟨hP, hD⟩ := va_join (wr := []) (w1 := [(h0, .inr (6, [.ref qt, .int 0, .ref qr, .ref qc, .ref qs, .int 0, .ref qn, .ref qp, .int 0, .int 0, .ref qm, .ref qf, .ref qx, .long 1]))]) hP hD [0] [] rfl rfl (by decide) (by decide) hk1 hFc hP1 hD1
  generalize H1 = H at hP hS ⊢
  have hP : va_P (dC, dI) vwCl [(h0, .inr (6, [.ref qt, .int 0, .ref qr, .ref qc, .ref qs, .int 0, .ref qn, .ref qp, .int 0, .int 0, .ref qm, .ref qf, .ref qx, .long 1]))] H := hP
  have hD : va_D A [(h0, .inr (6, [.ref qt, .int 0, .ref qr, .ref qc, .ref qs, .int 0, .ref qn, .ref qp, .int 0, .int 0, .ref qm, .ref qf, .ref qx, .long 1]))] := hD
  subst hw
  refine lv_if_eq (tgt := 18) hx hb dX6_alone_6 (by decide) (fun _ => ?_) (fun c => absurd (by decide) c)
  refine lv_ldc hx hb hown (hts _ T_148) dX6_alone_18 ?_
  have hP9 := hP.sub (ws' := []) [] rfl
  have hD9 := hD.sub (ws' := []) [] (by decide) rfl
  have hK9 := hK.sub (tys' := []) [] rfl
  exact W.iret (v := (-1000000)) hx hb hr (fun t ht hW => ⟨⟨(-1000000), (), rfl, rfl, by rw [ht]; exact hP9, va_K.moved hW.alike hK9, hD9⟩, hS.F ht⟩) hS.2.2 dX6_alone_20

set_option maxHeartbeats 4000000 in
set_option maxRecDepth 100000 in
/-- agrees -/
theorem c_X6_agrees (l : Launch) (dC : Nat → ClassId) (dI : Nat → Nat → Nat) (sz : Nat) (h0 : Nat) (qt : Nat) (qr : Nat) (qc : Nat) (qs : Nat) (qn : Nat) (qp : Nat) (qm : Nat) (qf : Nat) (qx : Nat) : Met l yX6_agrees (Cond.code yX6_agrees cX6_agrees 4 (some .int) :: T0) ({ frames := 0, cells := 0, slots := 0, locals := 0 }) (va_Pc [.ref h0] (ax_W dC dI sz [(h0, .inr (6, [.ref qt, .int 0, .ref qr, .ref qc, .ref qs, .int 0, .ref qn, .ref qp, .int 0, .int 0, .ref qm, .ref qf, .ref qx, .long 1]))] [])) (va_Qi (fun (r : Int32) (_ : Unit) => r = (-1)) (fun (_ : Unit) (t : State) => va_P (dC, dI) vwCl [] t.heap ∧ va_K (dC, dI) vwCl [] t ∧ va_D (va_A [(h0, .inr (6, [.ref qt, .int 0, .ref qr, .ref qc, .ref qs, .int 0, .ref qn, .ref qp, .int 0, .int 0, .ref qm, .ref qf, .ref qx, .long 1]))] sz) []) (va_A [(h0, .inr (6, [.ref qt, .int 0, .ref qr, .ref qc, .ref qs, .int 0, .ref qn, .ref qp, .int 0, .int 0, .ref qm, .ref qf, .ref qx, .long 1]))] sz)) 0 0 (va_A [(h0, .inr (6, [.ref qt, .int 0, .ref qr, .ref qc, .ref qs, .int 0, .ref qn, .ref qp, .int 0, .int 0, .ref qm, .ref qf, .ref qx, .long 1]))] sz) := by
  refine Met.ofW (cc := cX6_agrees) (maxL := 4) (ret := (some .int)) (by decide) rfl ?_
  intro p e s m args below meth c s₁ B hml hv
  obtain ⟨rfl, hsz, hP, hK, hD0, hN⟩ := hv
  have hx := B.exec
  have hb := B.bytes
  have hr := B.returns
  have hts : ∀ w ∈ T0, w.before _ s = true := fun w h => atoms_spec (ws := Cond.code yX6_agrees cX6_agrees 4 (some .int) :: T0) B.pre w (List.mem_cons_of_mem _ h)
  have hown : s.vm.findClass RX6 = some m.cls := findClass_of_methodNamed B.named
  have hlocks := B.notSynchronized
  subst hsz
  have hD := hD0.self (sz := s.heap.size)
  generalize hAe : va_A [(h0, .inr (6, [.ref qt, .int 0, .ref qr, .ref qc, .ref qs, .int 0, .ref qn, .ref qp, .int 0, .int 0, .ref qm, .ref qf, .ref qx, .long 1]))] s.heap.size = A at hD ⊢
  have hA : ∀ q : Nat, s.heap.size ≤ q → A q := fun q h => by rw [← hAe]; exact Or.inr h
  have hS : va_S A s.heap s.heap [] := va_S.rf
  have hP : va_P (dC, dI) vwCl [(h0, .inr (6, [.ref qt, .int 0, .ref qr, .ref qc, .ref qs, .int 0, .ref qn, .ref qp, .int 0, .int 0, .ref qm, .ref qf, .ref qx, .long 1]))] s.heap := hP
  have hl := lv_entry ([.ref h0]) (n := 4) (Nat.le_of_ble_eq_true rfl)
  rw [lg_entry_eq]
  generalize (lg_sl ([.ref h0]) ++ List.replicate (4 - (lg_sl ([.ref h0])).length) Slot.unset).toArray = ls at hl ⊢
  refine ax_gen hP hD hS (fun H locs hP hD hS => ?_)
  have hl : lv_has ls 4 [(0, .ref h0)] := hl
  refine lv_aload_n hx hb dX6_agrees_0 rfl (lv_at hl 0 rfl) ?_
  refine va_get (D := (dC, dI)) (ci := 6) (v := .int 0) (C := RX6) (T := TX6) (N := 14) hx hb hts inX6 hown hK hP 0 rfl rfl 5 (by decide) (hts _ T_143) (fun _ h9 => h9) rfl dX6_agrees_1 ?_
  refine lv_if_ne (tgt := 9) hx hb dX6_agrees_4 (by decide) (fun c => absurd (by decide) c) (fun _ => ?_)
  refine lv_iconst (v := (-1)) hx hb dX6_agrees_7 (by decide) ?_
  have hP9 := hP.sub (ws' := []) [] rfl
  have hD9 := hD.sub (ws' := []) [] (by decide) rfl
  have hK9 := hK.sub (tys' := []) [] rfl
  exact W.iret (v := (-1)) hx hb hr (fun t ht hW => ⟨⟨(-1), (), rfl, rfl, by rw [ht]; exact hP9, va_K.moved hW.alike hK9, hD9⟩, hS.F ht⟩) hS.2.2 dX6_agrees_8

set_option maxHeartbeats 4000000 in
set_option maxRecDepth 100000 in
/-- likely -/
theorem c_X6_likely (l : Launch) (dC : Nat → ClassId) (dI : Nat → Nat → Nat) (sz : Nat) (h0 : Nat) (qt : Nat) (qr : Nat) (qc : Nat) (qs : Nat) (qn : Nat) (qp : Nat) (qm : Nat) (qf : Nat) (qx : Nat) (p0 : Int32) (p1 : Int32) (p2 : Int32) : Met l yX6_likely (Cond.code yX6_likely cX6_likely 6 (some .int) :: T0) ({ frames := 0, cells := 0, slots := 0, locals := 0 }) (va_Pc [.ref h0, .int p0, .int p1, .int p2] (ax_W dC dI sz [(h0, .inr (6, [.ref qt, .int 0, .ref qr, .ref qc, .ref qs, .int 0, .ref qn, .ref qp, .int 0, .int 0, .ref qm, .ref qf, .ref qx, .long 1]))] [])) (va_Qi (fun (r : Int32) (_ : Unit) => r = (-1)) (fun (_ : Unit) (t : State) => va_P (dC, dI) vwCl [] t.heap ∧ va_K (dC, dI) vwCl [] t ∧ va_D (va_A [(h0, .inr (6, [.ref qt, .int 0, .ref qr, .ref qc, .ref qs, .int 0, .ref qn, .ref qp, .int 0, .int 0, .ref qm, .ref qf, .ref qx, .long 1]))] sz) []) (va_A [(h0, .inr (6, [.ref qt, .int 0, .ref qr, .ref qc, .ref qs, .int 0, .ref qn, .ref qp, .int 0, .int 0, .ref qm, .ref qf, .ref qx, .long 1]))] sz)) 0 0 (va_A [(h0, .inr (6, [.ref qt, .int 0, .ref qr, .ref qc, .ref qs, .int 0, .ref qn, .ref qp, .int 0, .int 0, .ref qm, .ref qf, .ref qx, .long 1]))] sz) := by
  refine Met.ofW (cc := cX6_likely) (maxL := 6) (ret := (some .int)) (by decide) rfl ?_
  intro p e s m args below meth c s₁ B hml hv
  obtain ⟨rfl, hsz, hP, hK, hD0, hN⟩ := hv
  have hx := B.exec
  have hb := B.bytes
  have hr := B.returns
  have hts : ∀ w ∈ T0, w.before _ s = true := fun w h => atoms_spec (ws := Cond.code yX6_likely cX6_likely 6 (some .int) :: T0) B.pre w (List.mem_cons_of_mem _ h)
  have hown : s.vm.findClass RX6 = some m.cls := findClass_of_methodNamed B.named
  have hlocks := B.notSynchronized
  subst hsz
  have hD := hD0.self (sz := s.heap.size)
  generalize hAe : va_A [(h0, .inr (6, [.ref qt, .int 0, .ref qr, .ref qc, .ref qs, .int 0, .ref qn, .ref qp, .int 0, .int 0, .ref qm, .ref qf, .ref qx, .long 1]))] s.heap.size = A at hD ⊢
  have hA : ∀ q : Nat, s.heap.size ≤ q → A q := fun q h => by rw [← hAe]; exact Or.inr h
  have hS : va_S A s.heap s.heap [] := va_S.rf
  have hP : va_P (dC, dI) vwCl [(h0, .inr (6, [.ref qt, .int 0, .ref qr, .ref qc, .ref qs, .int 0, .ref qn, .ref qp, .int 0, .int 0, .ref qm, .ref qf, .ref qx, .long 1]))] s.heap := hP
  have hl := lv_entry ([.ref h0, .int p0, .int p1, .int p2]) (n := 6) (Nat.le_of_ble_eq_true rfl)
  rw [lg_entry_eq]
  generalize (lg_sl ([.ref h0, .int p0, .int p1, .int p2]) ++ List.replicate (6 - (lg_sl ([.ref h0, .int p0, .int p1, .int p2])).length) Slot.unset).toArray = ls at hl ⊢
  refine ax_gen hP hD hS (fun H locs hP hD hS => ?_)
  have hl : lv_has ls 6 [(0, .ref h0), (1, .int p0), (2, .int p1), (3, .int p2)] := hl
  refine lv_aload_n hx hb dX6_likely_0 rfl (lv_at hl 0 rfl) ?_
  refine va_get (D := (dC, dI)) (ci := 6) (v := .int 0) (C := RX6) (T := TX6) (N := 14) hx hb hts inX6 hown hK hP 0 rfl rfl 5 (by decide) (hts _ T_143) (fun _ h9 => h9) rfl dX6_likely_1 ?_
  refine lv_if_eq (tgt := 33) hx hb dX6_likely_4 (by decide) (fun _ => ?_) (fun c => absurd (by decide) c)
  refine lv_iconst (v := (-1)) hx hb dX6_likely_33 (by decide) ?_
  have hP9 := hP.sub (ws' := []) [] rfl
  have hD9 := hD.sub (ws' := []) [] (by decide) rfl
  have hK9 := hK.sub (tys' := []) [] rfl
  exact W.iret (v := (-1)) hx hb hr (fun t ht hW => ⟨⟨(-1), (), rfl, rfl, by rw [ht]; exact hP9, va_K.moved hW.alike hK9, hD9⟩, hS.F ht⟩) hS.2.2 dX6_likely_34

set_option maxHeartbeats 4000000 in
set_option maxRecDepth 100000 in
/-- tells -/
theorem c_X6_tells (l : Launch) (dC : Nat → ClassId) (dI : Nat → Nat → Nat) (sz : Nat) (h0 : Nat) (qt : Nat) (qr : Nat) (qc : Nat) (qs : Nat) (qn : Nat) (qp : Nat) (qm : Nat) (qf : Nat) (qx : Nat) (p0 : Int32) : Met l yX6_tells (Cond.code yX6_tells cX6_tells 6 (some .int) :: T0) ({ frames := 0, cells := 0, slots := 0, locals := 0 }) (va_Pc [.ref h0, .int p0] (ax_W dC dI sz [(h0, .inr (6, [.ref qt, .int 0, .ref qr, .ref qc, .ref qs, .int 0, .ref qn, .ref qp, .int 0, .int 0, .ref qm, .ref qf, .ref qx, .long 1]))] [])) (va_Qi (fun (r : Int32) (_ : Unit) => r = (-1)) (fun (_ : Unit) (t : State) => va_P (dC, dI) vwCl [] t.heap ∧ va_K (dC, dI) vwCl [] t ∧ va_D (va_A [(h0, .inr (6, [.ref qt, .int 0, .ref qr, .ref qc, .ref qs, .int 0, .ref qn, .ref qp, .int 0, .int 0, .ref qm, .ref qf, .ref qx, .long 1]))] sz) []) (va_A [(h0, .inr (6, [.ref qt, .int 0, .ref qr, .ref qc, .ref qs, .int 0, .ref qn, .ref qp, .int 0, .int 0, .ref qm, .ref qf, .ref qx, .long 1]))] sz)) 0 0 (va_A [(h0, .inr (6, [.ref qt, .int 0, .ref qr, .ref qc, .ref qs, .int 0, .ref qn, .ref qp, .int 0, .int 0, .ref qm, .ref qf, .ref qx, .long 1]))] sz) := by
  refine Met.ofW (cc := cX6_tells) (maxL := 6) (ret := (some .int)) (by decide) rfl ?_
  intro p e s m args below meth c s₁ B hml hv
  obtain ⟨rfl, hsz, hP, hK, hD0, hN⟩ := hv
  have hx := B.exec
  have hb := B.bytes
  have hr := B.returns
  have hts : ∀ w ∈ T0, w.before _ s = true := fun w h => atoms_spec (ws := Cond.code yX6_tells cX6_tells 6 (some .int) :: T0) B.pre w (List.mem_cons_of_mem _ h)
  have hown : s.vm.findClass RX6 = some m.cls := findClass_of_methodNamed B.named
  have hlocks := B.notSynchronized
  subst hsz
  have hD := hD0.self (sz := s.heap.size)
  generalize hAe : va_A [(h0, .inr (6, [.ref qt, .int 0, .ref qr, .ref qc, .ref qs, .int 0, .ref qn, .ref qp, .int 0, .int 0, .ref qm, .ref qf, .ref qx, .long 1]))] s.heap.size = A at hD ⊢
  have hA : ∀ q : Nat, s.heap.size ≤ q → A q := fun q h => by rw [← hAe]; exact Or.inr h
  have hS : va_S A s.heap s.heap [] := va_S.rf
  have hP : va_P (dC, dI) vwCl [(h0, .inr (6, [.ref qt, .int 0, .ref qr, .ref qc, .ref qs, .int 0, .ref qn, .ref qp, .int 0, .int 0, .ref qm, .ref qf, .ref qx, .long 1]))] s.heap := hP
  have hl := lv_entry ([.ref h0, .int p0]) (n := 6) (Nat.le_of_ble_eq_true rfl)
  rw [lg_entry_eq]
  generalize (lg_sl ([.ref h0, .int p0]) ++ List.replicate (6 - (lg_sl ([.ref h0, .int p0])).length) Slot.unset).toArray = ls at hl ⊢
  refine ax_gen hP hD hS (fun H locs hP hD hS => ?_)
  have hl : lv_has ls 6 [(0, .ref h0), (1, .int p0)] := hl
  refine lv_aload_n hx hb dX6_tells_0 rfl (lv_at hl 0 rfl) ?_
  refine va_get (D := (dC, dI)) (ci := 6) (v := .int 0) (C := RX6) (T := TX6) (N := 14) hx hb hts inX6 hown hK hP 0 rfl rfl 5 (by decide) (hts _ T_143) (fun _ h9 => h9) rfl dX6_tells_1 ?_
  refine lv_if_eq (tgt := 16) hx hb dX6_tells_4 (by decide) (fun _ => ?_) (fun c => absurd (by decide) c)
  refine lv_iconst (v := (-1)) hx hb dX6_tells_16 (by decide) ?_
  have hP9 := hP.sub (ws' := []) [] rfl
  have hD9 := hD.sub (ws' := []) [] (by decide) rfl
  have hK9 := hK.sub (tys' := []) [] rfl
  exact W.iret (v := (-1)) hx hb hr (fun t ht hW => ⟨⟨(-1), (), rfl, rfl, by rw [ht]; exact hP9, va_K.moved hW.alike hK9, hD9⟩, hS.F ht⟩) hS.2.2 dX6_tells_17

set_option maxHeartbeats 4000000 in
set_option maxRecDepth 100000 in
/-- kept -/
theorem c_X6_kept (l : Launch) (dC : Nat → ClassId) (dI : Nat → Nat → Nat) (sz : Nat) (h0 : Nat) (qt : Nat) (qr : Nat) (qc : Nat) (qs : Nat) (qn : Nat) (qp : Nat) (qm : Nat) (qf : Nat) (qx : Nat) (na0 : Nat) (na1 : Nat) (na2 : Nat) (na3 : Nat) (na4 : Nat) (na5 : Nat) (na6 : Nat) (p0 : Int32) (p1 : Int32) : Met l yX6_kept (Cond.code yX6_kept cX6_kept 4 (some .int) :: T0) ({ frames := 1, cells := 0, slots := 0, locals := 13 }) (va_Pc [.ref h0, .int p0, .int p1] (ax_W dC dI sz [(h0, .inr (6, [.ref qt, .int 0, .ref qr, .ref qc, .ref qs, .int 0, .ref qn, .ref qp, .int 0, .int 0, .ref qm, .ref qf, .ref qx, .long 1])), (qn, .inr (4, [.ref na0, .ref na1, .ref na2, .ref na3, .ref na4, .ref na5, .ref na6, .int 0, .int 0, .int 0, .int 0, .int 0, .int 0, .int 0, .int (-1)]))] [])) (va_Qi (fun (r : Int32) (_ : Unit) => r = (-1)) (fun (_ : Unit) (t : State) => va_P (dC, dI) vwCl [] t.heap ∧ va_K (dC, dI) vwCl [] t ∧ va_D (va_A [(h0, .inr (6, [.ref qt, .int 0, .ref qr, .ref qc, .ref qs, .int 0, .ref qn, .ref qp, .int 0, .int 0, .ref qm, .ref qf, .ref qx, .long 1])), (qn, .inr (4, [.ref na0, .ref na1, .ref na2, .ref na3, .ref na4, .ref na5, .ref na6, .int 0, .int 0, .int 0, .int 0, .int 0, .int 0, .int 0, .int (-1)]))] sz) []) (va_A [(h0, .inr (6, [.ref qt, .int 0, .ref qr, .ref qc, .ref qs, .int 0, .ref qn, .ref qp, .int 0, .int 0, .ref qm, .ref qf, .ref qx, .long 1])), (qn, .inr (4, [.ref na0, .ref na1, .ref na2, .ref na3, .ref na4, .ref na5, .ref na6, .int 0, .int 0, .int 0, .int 0, .int 0, .int 0, .int 0, .int (-1)]))] sz)) 0 0 (va_A [(h0, .inr (6, [.ref qt, .int 0, .ref qr, .ref qc, .ref qs, .int 0, .ref qn, .ref qp, .int 0, .int 0, .ref qm, .ref qf, .ref qx, .long 1])), (qn, .inr (4, [.ref na0, .ref na1, .ref na2, .ref na3, .ref na4, .ref na5, .ref na6, .int 0, .int 0, .int 0, .int 0, .int 0, .int 0, .int 0, .int (-1)]))] sz) := by
  refine Met.ofW (cc := cX6_kept) (maxL := 4) (ret := (some .int)) (by decide) rfl ?_
  intro p e s m args below meth c s₁ B hml hv
  obtain ⟨rfl, hsz, hP, hK, hD0, hN⟩ := hv
  have hx := B.exec
  have hb := B.bytes
  have hr := B.returns
  have hts : ∀ w ∈ T0, w.before _ s = true := fun w h => atoms_spec (ws := Cond.code yX6_kept cX6_kept 4 (some .int) :: T0) B.pre w (List.mem_cons_of_mem _ h)
  have hown : s.vm.findClass RX6 = some m.cls := findClass_of_methodNamed B.named
  have hlocks := B.notSynchronized
  subst hsz
  have hD := hD0.self (sz := s.heap.size)
  generalize hAe : va_A [(h0, .inr (6, [.ref qt, .int 0, .ref qr, .ref qc, .ref qs, .int 0, .ref qn, .ref qp, .int 0, .int 0, .ref qm, .ref qf, .ref qx, .long 1])), (qn, .inr (4, [.ref na0, .ref na1, .ref na2, .ref na3, .ref na4, .ref na5, .ref na6, .int 0, .int 0, .int 0, .int 0, .int 0, .int 0, .int 0, .int (-1)]))] s.heap.size = A at hD ⊢
  have hA : ∀ q : Nat, s.heap.size ≤ q → A q := fun q h => by rw [← hAe]; exact Or.inr h
  have hS : va_S A s.heap s.heap [] := va_S.rf
  have hP : va_P (dC, dI) vwCl [(h0, .inr (6, [.ref qt, .int 0, .ref qr, .ref qc, .ref qs, .int 0, .ref qn, .ref qp, .int 0, .int 0, .ref qm, .ref qf, .ref qx, .long 1])), (qn, .inr (4, [.ref na0, .ref na1, .ref na2, .ref na3, .ref na4, .ref na5, .ref na6, .int 0, .int 0, .int 0, .int 0, .int 0, .int 0, .int 0, .int (-1)]))] s.heap := hP
  have hl := lv_entry ([.ref h0, .int p0, .int p1]) (n := 4) (Nat.le_of_ble_eq_true rfl)
  rw [lg_entry_eq]
  generalize (lg_sl ([.ref h0, .int p0, .int p1]) ++ List.replicate (4 - (lg_sl ([.ref h0, .int p0, .int p1])).length) Slot.unset).toArray = ls at hl ⊢
  refine ax_gen hP hD hS (fun H locs hP hD hS => ?_)
  have hl : lv_has ls 4 [(0, .ref h0), (1, .int p0), (2, .int p1)] := hl
  refine lv_aload_n hx hb dX6_kept_0 rfl (lv_at hl 0 rfl) ?_
  refine va_get (D := (dC, dI)) (ci := 6) (v := .ref qn) (C := RX6) (T := TX6) (N := 14) hx hb hts inX6 hown hK hP 0 rfl rfl 6 (by decide) (hts _ T_84) (fun _ h9 => h9) rfl dX6_kept_1 ?_
  refine va_getN (D := (dC, dI)) (ci := 4) (v := .int 0) (C := RX4) (T := TX4) (N := 15) hx hb hts inX4 hown hK hP 1 rfl rfl 12 (by decide) (va_Nw.use rfl hN.2.2.2.2.2.2.2.2.2.2.2.2) (fun _ h9 => h9) rfl dX6_kept_4 ?_
  refine lv_bipush (v := 30) hx hb dX6_kept_7 (by decide) ?_
  refine va_mmin hx hb (by rw [hml]; exact hl.1.symm) hown (hts _ T_157) (hts _ T_158) (hts _ T_159) (hts _ T_160) (Nat.le_of_ble_eq_true rfl) (Nat.le_of_ble_eq_true rfl) (Nat.zero_le _) (Nat.zero_le _) dX6_kept_9 ?_
  refine ax_eqi (y := 0) (by decide) ?_
  refine lv_istore_n (lv' := [(3, .int 0), (0, .ref h0), (1, .int p0), (2, .int p1)]) hx hb dX6_kept_12 rfl hl (by decide) rfl (fun ls hl => ?_)
  refine lv_aload_n hx hb dX6_kept_13 rfl (lv_at hl 1 rfl) ?_
  refine va_get (D := (dC, dI)) (ci := 6) (v := .int 0) (C := RX6) (T := TX6) (N := 14) hx hb hts inX6 hown hK hP 0 rfl rfl 5 (by decide) (hts _ T_143) (fun _ h9 => h9) rfl dX6_kept_14 ?_
  refine lv_if_eq (tgt := 38) hx hb dX6_kept_17 (by decide) (fun _ => ?_) (fun c => absurd (by decide) c)
  refine lv_iconst (v := (-1)) hx hb dX6_kept_38 (by decide) ?_
  have hP9 := hP.sub (ws' := []) [] rfl
  have hD9 := hD.sub (ws' := []) [] (by decide) rfl
  have hK9 := hK.sub (tys' := []) [] rfl
  exact W.iret (v := (-1)) hx hb hr (fun t ht hW => ⟨⟨(-1), (), rfl, rfl, by rw [ht]; exact hP9, va_K.moved hW.alike hK9, hD9⟩, hS.F ht⟩) hS.2.2 dX6_kept_39

