set_option maxHeartbeats 4000000 in
set_option maxRecDepth 100000 in
/-- cycles -/
theorem c_X6_cycles (l : Launch) (dC : Nat → ClassId) (dI : Nat → Nat → Nat) (sz : Nat) (h0 : Nat) (qt : Nat) (qr : Nat) (qc : Nat) (qs : Nat) (qn : Nat) (qp : Nat) (qm : Nat) (qf : Nat) (qx : Nat) (kr : ClassId) (p0 : Int32) : Met l yX6_cycles (Cond.code yX6_cycles cX6_cycles 2 (some .int) :: T0) ({ frames := 1, cells := 0, slots := 0, locals := 21 }) (va_Pc [.ref h0, .int p0] (ax_W dC dI sz [(h0, .inr (6, [.ref qt, .int 0, .ref qr, .ref qc, .ref qs, .int 0, .ref qn, .ref qp, .int 0, .int 0, .ref qm, .ref qf, .ref qx, .long 1])), (qx, .inl (kr, 6, .inl (fun _ => 0)))] [(kr, .int)])) (va_Qi (fun (r : Int32) (_ : Unit) => r = (-1)) (fun (_ : Unit) (t : State) => va_P (dC, dI) vwCl [] t.heap ∧ va_K (dC, dI) vwCl [] t ∧ va_D (va_A [(h0, .inr (6, [.ref qt, .int 0, .ref qr, .ref qc, .ref qs, .int 0, .ref qn, .ref qp, .int 0, .int 0, .ref qm, .ref qf, .ref qx, .long 1])), (qx, .inl (kr, 6, .inl (fun _ => 0)))] sz) []) (va_A [(h0, .inr (6, [.ref qt, .int 0, .ref qr, .ref qc, .ref qs, .int 0, .ref qn, .ref qp, .int 0, .int 0, .ref qm, .ref qf, .ref qx, .long 1])), (qx, .inl (kr, 6, .inl (fun _ => 0)))] sz)) 0 0 (va_A [(h0, .inr (6, [.ref qt, .int 0, .ref qr, .ref qc, .ref qs, .int 0, .ref qn, .ref qp, .int 0, .int 0, .ref qm, .ref qf, .ref qx, .long 1])), (qx, .inl (kr, 6, .inl (fun _ => 0)))] sz) := by
  refine Met.ofW (cc := cX6_cycles) (maxL := 2) (ret := (some .int)) (by decide) rfl ?_
  intro p e s m args below meth c s₁ B hml hv
  obtain ⟨rfl, hsz, hP, hK, hD0, hN⟩ := hv
  have hx := B.exec
  have hb := B.bytes
  have hr := B.returns
  have hts : ∀ w ∈ T0, w.before _ s = true := fun w h => atoms_spec (ws := Cond.code yX6_cycles cX6_cycles 2 (some .int) :: T0) B.pre w (List.mem_cons_of_mem _ h)
  have hown : s.vm.findClass RX6 = some m.cls := findClass_of_methodNamed B.named
  have hlocks := B.notSynchronized
  subst hsz
  have hD := hD0.self (sz := s.heap.size)
  generalize hAe : va_A [(h0, .inr (6, [.ref qt, .int 0, .ref qr, .ref qc, .ref qs, .int 0, .ref qn, .ref qp, .int 0, .int 0, .ref qm, .ref qf, .ref qx, .long 1])), (qx, .inl (kr, 6, .inl (fun _ => 0)))] s.heap.size = A at hD ⊢
  have hA : ∀ q : Nat, s.heap.size ≤ q → A q := fun q h => by rw [← hAe]; exact Or.inr h
  have hS : va_S A s.heap s.heap [] := va_S.rf
  have hP : va_P (dC, dI) vwCl [(h0, .inr (6, [.ref qt, .int 0, .ref qr, .ref qc, .ref qs, .int 0, .ref qn, .ref qp, .int 0, .int 0, .ref qm, .ref qf, .ref qx, .long 1])), (qx, .inl (kr, 6, .inl (fun _ => 0)))] s.heap := hP
  have hl := lv_entry ([.ref h0, .int p0]) (n := 2) (Nat.le_of_ble_eq_true rfl)
  rw [lg_entry_eq]
  generalize (lg_sl ([.ref h0, .int p0]) ++ List.replicate (2 - (lg_sl ([.ref h0, .int p0])).length) Slot.unset).toArray = ls at hl ⊢
  refine ax_gen hP hD hS (fun H locs hP hD hS => ?_)
  have hl : lv_has ls 2 [(0, .ref h0), (1, .int p0)] := hl
  refine lv_aload_n hx hb dX6_cycles_0 rfl (lv_at hl 0 rfl) ?_
  refine va_get (D := (dC, dI)) (ci := 6) (v := .int 0) (C := RX6) (T := TX6) (N := 14) hx hb hts inX6 hown hK hP 0 rfl rfl 5 (by decide) (hts _ T_143) (fun _ h9 => h9) rfl dX6_cycles_1 ?_
  refine lv_if_eq (tgt := 34) hx hb dX6_cycles_4 (by decide) (fun _ => ?_) (fun c => absurd (by decide) c)
  refine lv_aload_n hx hb dX6_cycles_34 rfl (lv_at hl 0 rfl) ?_
  refine lv_iconst (v := 2) hx hb dX6_cycles_35 (by decide) ?_
  have hPc := hP.sub (ws' := [(h0, .inr (6, [.ref qt, .int 0, .ref qr, .ref qc, .ref qs, .int 0, .ref qn, .ref qp, .int 0, .int 0, .ref qm, .ref qf, .ref qx, .long 1])), (qx, .inl (kr, 6, .inl (fun _ => 0)))]) [0, 1] rfl
  have hDc := hD.sub (ws' := [(h0, .inr (6, [.ref qt, .int 0, .ref qr, .ref qc, .ref qs, .int 0, .ref qn, .ref qp, .int 0, .int 0, .ref qm, .ref qf, .ref qx, .long 1])), (qx, .inl (kr, 6, .inl (fun _ => 0)))]) [0, 1] (by decide) rfl
  have hKc := hK.sub (tys' := [(kr, .int)]) [0] rfl
  have hFc := va_free (wc := [(h0, .inr (6, [.ref qt, .int 0, .ref qr, .ref qc, .ref qs, .int 0, .ref qn, .ref qp, .int 0, .int 0, .ref qm, .ref qf, .ref qx, .long 1])), (qx, .inl (kr, 6, .inl (fun _ => 0)))]) hD hS hA [0, 1] rfl
  refine va_calli (va_runV (As := [.int 2]) (rest := []) ⟨hx, hb, hml, hown, hts⟩ (c_X6_refuse l dC dI H.size h0 qt qr qc qs qn qp qm qf qx kr (fun _ => 0) 2 (ax_in (by decide))) (cwV 1 hts (ax_gV T_108 T_109 T_110 T_106 T_107) rfl rfl rfl (by decide +kernel) ⟨Nat.le_of_ble_eq_true rfl, Nat.le_of_ble_eq_true rfl⟩) ⟨fun a U g mk q => ⟨q.1, ax_pc rfl rfl q.2⟩, va_recv hKc hPc (ci := 6) (q0 := 0) rfl rfl, fun U hU hW => ⟨rfl, ax_pw hU hW hPc hKc hDc hN⟩⟩ rfl rfl hl.1 rfl (lv_room (Nat.le_of_ble_eq_true rfl)) dX6_cycles_36 ⟨Nat.le_of_ble_eq_true rfl, Nat.le_of_ble_eq_true rfl⟩) hS (fun q _ h => hFc q h) hFc (fun r1 _ t H1 locs ht hvm hw hB hz1 hk1 hS => ?_)
  obtain ⟨hP1, hK1, hD1⟩ := hB
  rw [ht] at hP1
  have hK1 := va_K.moved hvm.symm hK1
  obtain ⟨hP, hD⟩ := va_join (wr := []) (w1 := []) hP hD [0, 1] [] rfl rfl (by decide) (by decide) hk1 hFc hP1 hD1
  generalize H1 = H at hP hS ⊢
  have hP : va_P (dC, dI) vwCl [] H := hP
  have hD : va_D A [] := hD
  subst hw
  have hP9 := hP.sub (ws' := []) [] rfl
  have hD9 := hD.sub (ws' := []) [] (by decide) rfl
  have hK9 := hK.sub (tys' := []) [] rfl
  exact W.iret (v := (-1)) hx hb hr (fun t ht hW => ⟨⟨(-1), (), rfl, rfl, by rw [ht]; exact hP9, va_K.moved hW.alike hK9, hD9⟩, hS.F ht⟩) hS.2.2 dX6_cycles_39

set_option maxHeartbeats 4000000 in
set_option maxRecDepth 100000 in
/-- set -/
theorem c_X6_set (l : Launch) (dC : Nat → ClassId) (dI : Nat → Nat → Nat) (sz : Nat) (h0 : Nat) (qt : Nat) (qr : Nat) (qc : Nat) (qs : Nat) (qn : Nat) (qp : Nat) (qm : Nat) (qf : Nat) (qx : Nat) (kr : ClassId) (p0 : Int32) (p1 : Int32) (p2 : Int32) : Met l yX6_set (Cond.code yX6_set cX6_set 4 (some .boolean) :: T0) ({ frames := 1, cells := 0, slots := 0, locals := 21 }) (va_Pc [.ref h0, .int p0, .int p1, .int p2] (ax_W dC dI sz [(h0, .inr (6, [.ref qt, .int 0, .ref qr, .ref qc, .ref qs, .int 0, .ref qn, .ref qp, .int 0, .int 0, .ref qm, .ref qf, .ref qx, .long 1])), (qx, .inl (kr, 6, .inl (fun _ => 0)))] [(kr, .int)])) (va_Qi (fun (r : Int32) (_ : Unit) => r = 0) (fun (_ : Unit) (t : State) => va_P (dC, dI) vwCl [] t.heap ∧ va_K (dC, dI) vwCl [] t ∧ va_D (va_A [(h0, .inr (6, [.ref qt, .int 0, .ref qr, .ref qc, .ref qs, .int 0, .ref qn, .ref qp, .int 0, .int 0, .ref qm, .ref qf, .ref qx, .long 1])), (qx, .inl (kr, 6, .inl (fun _ => 0)))] sz) []) (va_A [(h0, .inr (6, [.ref qt, .int 0, .ref qr, .ref qc, .ref qs, .int 0, .ref qn, .ref qp, .int 0, .int 0, .ref qm, .ref qf, .ref qx, .long 1])), (qx, .inl (kr, 6, .inl (fun _ => 0)))] sz)) 0 0 (va_A [(h0, .inr (6, [.ref qt, .int 0, .ref qr, .ref qc, .ref qs, .int 0, .ref qn, .ref qp, .int 0, .int 0, .ref qm, .ref qf, .ref qx, .long 1])), (qx, .inl (kr, 6, .inl (fun _ => 0)))] sz) := by
  refine Met.ofW (cc := cX6_set) (maxL := 4) (ret := (some .boolean)) (by decide) rfl ?_
  intro p e s m args below meth c s₁ B hml hv
  obtain ⟨rfl, hsz, hP, hK, hD0, hN⟩ := hv
  have hx := B.exec
  have hb := B.bytes
  have hr := B.returns
  have hts : ∀ w ∈ T0, w.before _ s = true := fun w h => atoms_spec (ws := Cond.code yX6_set cX6_set 4 (some .boolean) :: T0) B.pre w (List.mem_cons_of_mem _ h)
  have hown : s.vm.findClass RX6 = some m.cls := findClass_of_methodNamed B.named
  have hlocks := B.notSynchronized
  subst hsz
  have hD := hD0.self (sz := s.heap.size)
  generalize hAe : va_A [(h0, .inr (6, [.ref qt, .int 0, .ref qr, .ref qc, .ref qs, .int 0, .ref qn, .ref qp, .int 0, .int 0, .ref qm, .ref qf, .ref qx, .long 1])), (qx, .inl (kr, 6, .inl (fun _ => 0)))] s.heap.size = A at hD ⊢
  have hA : ∀ q : Nat, s.heap.size ≤ q → A q := fun q h => by rw [← hAe]; exact Or.inr h
  have hS : va_S A s.heap s.heap [] := va_S.rf
  have hP : va_P (dC, dI) vwCl [(h0, .inr (6, [.ref qt, .int 0, .ref qr, .ref qc, .ref qs, .int 0, .ref qn, .ref qp, .int 0, .int 0, .ref qm, .ref qf, .ref qx, .long 1])), (qx, .inl (kr, 6, .inl (fun _ => 0)))] s.heap := hP
  have hl := lv_entry ([.ref h0, .int p0, .int p1, .int p2]) (n := 4) (Nat.le_of_ble_eq_true rfl)
  rw [lg_entry_eq]
  generalize (lg_sl ([.ref h0, .int p0, .int p1, .int p2]) ++ List.replicate (4 - (lg_sl ([.ref h0, .int p0, .int p1, .int p2])).length) Slot.unset).toArray = ls at hl ⊢
  refine ax_gen hP hD hS (fun H locs hP hD hS => ?_)
  have hl : lv_has ls 4 [(0, .ref h0), (1, .int p0), (2, .int p1), (3, .int p2)] := hl
  refine lv_aload_n hx hb dX6_set_0 rfl (lv_at hl 0 rfl) ?_
  refine va_get (D := (dC, dI)) (ci := 6) (v := .int 0) (C := RX6) (T := TX6) (N := 14) hx hb hts inX6 hown hK hP 0 rfl rfl 5 (by decide) (hts _ T_143) (fun _ h9 => h9) rfl dX6_set_1 ?_
  refine lv_if_eq (tgt := 30) hx hb dX6_set_4 (by decide) (fun _ => ?_) (fun c => absurd (by decide) c)
  refine lv_aload_n hx hb dX6_set_30 rfl (lv_at hl 0 rfl) ?_
  refine lv_iconst (v := 3) hx hb dX6_set_31 (by decide) ?_
  have hPc := hP.sub (ws' := [(h0, .inr (6, [.ref qt, .int 0, .ref qr, .ref qc, .ref qs, .int 0, .ref qn, .ref qp, .int 0, .int 0, .ref qm, .ref qf, .ref qx, .long 1])), (qx, .inl (kr, 6, .inl (fun _ => 0)))]) [0, 1] rfl
  have hDc := hD.sub (ws' := [(h0, .inr (6, [.ref qt, .int 0, .ref qr, .ref qc, .ref qs, .int 0, .ref qn, .ref qp, .int 0, .int 0, .ref qm, .ref qf, .ref qx, .long 1])), (qx, .inl (kr, 6, .inl (fun _ => 0)))]) [0, 1] (by decide) rfl
  have hKc := hK.sub (tys' := [(kr, .int)]) [0] rfl
  have hFc := va_free (wc := [(h0, .inr (6, [.ref qt, .int 0, .ref qr, .ref qc, .ref qs, .int 0, .ref qn, .ref qp, .int 0, .int 0, .ref qm, .ref qf, .ref qx, .long 1])), (qx, .inl (kr, 6, .inl (fun _ => 0)))]) hD hS hA [0, 1] rfl
  refine va_calli (va_runV (As := [.int 3]) (rest := []) ⟨hx, hb, hml, hown, hts⟩ (c_X6_refuse l dC dI H.size h0 qt qr qc qs qn qp qm qf qx kr (fun _ => 0) 3 (ax_in (by decide))) (cwV 1 hts (ax_gV T_108 T_109 T_110 T_106 T_107) rfl rfl rfl (by decide +kernel) ⟨Nat.le_of_ble_eq_true rfl, Nat.le_of_ble_eq_true rfl⟩) ⟨fun a U g mk q => ⟨q.1, ax_pc rfl rfl q.2⟩, va_recv hKc hPc (ci := 6) (q0 := 0) rfl rfl, fun U hU hW => ⟨rfl, ax_pw hU hW hPc hKc hDc hN⟩⟩ rfl rfl hl.1 rfl (lv_room (Nat.le_of_ble_eq_true rfl)) dX6_set_32 ⟨Nat.le_of_ble_eq_true rfl, Nat.le_of_ble_eq_true rfl⟩) hS (fun q _ h => hFc q h) hFc (fun r1 _ t H1 locs ht hvm hw hB hz1 hk1 hS => ?_)
  obtain ⟨hP1, hK1, hD1⟩ := hB
  rw [ht] at hP1
  have hK1 := va_K.moved hvm.symm hK1
  obtain ⟨hP, hD⟩ := va_join (wr := []) (w1 := []) hP hD [0, 1] [] rfl rfl (by decide) (by decide) hk1 hFc hP1 hD1
  generalize H1 = H at hP hS ⊢
  have hP : va_P (dC, dI) vwCl [] H := hP
  have hD : va_D A [] := hD
  subst hw
  refine lv_pop hx hb dX6_set_35 rfl ?_
  refine lv_iconst (v := 0) hx hb dX6_set_36 (by decide) ?_
  have hP9 := hP.sub (ws' := []) [] rfl
  have hD9 := hD.sub (ws' := []) [] (by decide) rfl
  have hK9 := hK.sub (tys' := []) [] rfl
  exact W.zret (v := 0) (ty := .boolean) hx hb hr (by decide) (fun t ht hW => ⟨⟨0, (), rfl, rfl, by rw [ht]; exact hP9, va_K.moved hW.alike hK9, hD9⟩, hS.F ht⟩) hS.2.2 dX6_set_37

set_option maxHeartbeats 4000000 in
set_option maxRecDepth 100000 in
/-- begin -/
theorem c_X6_begin (l : Launch) (dC : Nat → ClassId) (dI : Nat → Nat → Nat) (sz : Nat) (h0 : Nat) (qt : Nat) (qr : Nat) (qc : Nat) (qs : Nat) (qn : Nat) (qp : Nat) (qm : Nat) (qf : Nat) (qx : Nat) (kr : ClassId) : Met l yX6_begin (Cond.code yX6_begin cX6_begin 1 (some .boolean) :: T0) ({ frames := 1, cells := 0, slots := 0, locals := 21 }) (va_Pc [.ref h0] (ax_W dC dI sz [(h0, .inr (6, [.ref qt, .int 0, .ref qr, .ref qc, .ref qs, .int 0, .ref qn, .ref qp, .int 0, .int 0, .ref qm, .ref qf, .ref qx, .long 1])), (qx, .inl (kr, 6, .inl (fun _ => 0)))] [(kr, .int)])) (va_Qi (fun (r : Int32) (_ : Unit) => r = 0) (fun (_ : Unit) (t : State) => va_P (dC, dI) vwCl [] t.heap ∧ va_K (dC, dI) vwCl [] t ∧ va_D (va_A [(h0, .inr (6, [.ref qt, .int 0, .ref qr, .ref qc, .ref qs, .int 0, .ref qn, .ref qp, .int 0, .int 0, .ref qm, .ref qf, .ref qx, .long 1])), (qx, .inl (kr, 6, .inl (fun _ => 0)))] sz) []) (va_A [(h0, .inr (6, [.ref qt, .int 0, .ref qr, .ref qc, .ref qs, .int 0, .ref qn, .ref qp, .int 0, .int 0, .ref qm, .ref qf, .ref qx, .long 1])), (qx, .inl (kr, 6, .inl (fun _ => 0)))] sz)) 0 0 (va_A [(h0, .inr (6, [.ref qt, .int 0, .ref qr, .ref qc, .ref qs, .int 0, .ref qn, .ref qp, .int 0, .int 0, .ref qm, .ref qf, .ref qx, .long 1])), (qx, .inl (kr, 6, .inl (fun _ => 0)))] sz) := by
  refine Met.ofW (cc := cX6_begin) (maxL := 1) (ret := (some .boolean)) (by decide) rfl ?_
  intro p e s m args below meth c s₁ B hml hv
  obtain ⟨rfl, hsz, hP, hK, hD0, hN⟩ := hv
  have hx := B.exec
  have hb := B.bytes
  have hr := B.returns
  have hts : ∀ w ∈ T0, w.before _ s = true := fun w h => atoms_spec (ws := Cond.code yX6_begin cX6_begin 1 (some .boolean) :: T0) B.pre w (List.mem_cons_of_mem _ h)
  have hown : s.vm.findClass RX6 = some m.cls := findClass_of_methodNamed B.named
  have hlocks := B.notSynchronized
  subst hsz
  have hD := hD0.self (sz := s.heap.size)
  generalize hAe : va_A [(h0, .inr (6, [.ref qt, .int 0, .ref qr, .ref qc, .ref qs, .int 0, .ref qn, .ref qp, .int 0, .int 0, .ref qm, .ref qf, .ref qx, .long 1])), (qx, .inl (kr, 6, .inl (fun _ => 0)))] s.heap.size = A at hD ⊢
  have hA : ∀ q : Nat, s.heap.size ≤ q → A q := fun q h => by rw [← hAe]; exact Or.inr h
  have hS : va_S A s.heap s.heap [] := va_S.rf
  have hP : va_P (dC, dI) vwCl [(h0, .inr (6, [.ref qt, .int 0, .ref qr, .ref qc, .ref qs, .int 0, .ref qn, .ref qp, .int 0, .int 0, .ref qm, .ref qf, .ref qx, .long 1])), (qx, .inl (kr, 6, .inl (fun _ => 0)))] s.heap := hP
  have hl := lv_entry ([.ref h0]) (n := 1) (Nat.le_of_ble_eq_true rfl)
  rw [lg_entry_eq]
  generalize (lg_sl ([.ref h0]) ++ List.replicate (1 - (lg_sl ([.ref h0])).length) Slot.unset).toArray = ls at hl ⊢
  refine ax_gen hP hD hS (fun H locs hP hD hS => ?_)
  have hl : lv_has ls 1 [(0, .ref h0)] := hl
  refine lv_aload_n hx hb dX6_begin_0 rfl (lv_at hl 0 rfl) ?_
  refine va_get (D := (dC, dI)) (ci := 6) (v := .int 0) (C := RX6) (T := TX6) (N := 14) hx hb hts inX6 hown hK hP 0 rfl rfl 5 (by decide) (hts _ T_143) (fun _ h9 => h9) rfl dX6_begin_1 ?_
  refine lv_if_ne (tgt := 15) hx hb dX6_begin_4 (by decide) (fun c => absurd (by decide) c) (fun _ => ?_)
  refine lv_aload_n hx hb dX6_begin_7 rfl (lv_at hl 0 rfl) ?_
  refine lv_iconst (v := 3) hx hb dX6_begin_8 (by decide) ?_
  have hPc := hP.sub (ws' := [(h0, .inr (6, [.ref qt, .int 0, .ref qr, .ref qc, .ref qs, .int 0, .ref qn, .ref qp, .int 0, .int 0, .ref qm, .ref qf, .ref qx, .long 1])), (qx, .inl (kr, 6, .inl (fun _ => 0)))]) [0, 1] rfl
  have hDc := hD.sub (ws' := [(h0, .inr (6, [.ref qt, .int 0, .ref qr, .ref qc, .ref qs, .int 0, .ref qn, .ref qp, .int 0, .int 0, .ref qm, .ref qf, .ref qx, .long 1])), (qx, .inl (kr, 6, .inl (fun _ => 0)))]) [0, 1] (by decide) rfl
  have hKc := hK.sub (tys' := [(kr, .int)]) [0] rfl
  have hFc := va_free (wc := [(h0, .inr (6, [.ref qt, .int 0, .ref qr, .ref qc, .ref qs, .int 0, .ref qn, .ref qp, .int 0, .int 0, .ref qm, .ref qf, .ref qx, .long 1])), (qx, .inl (kr, 6, .inl (fun _ => 0)))]) hD hS hA [0, 1] rfl
  refine va_calli (va_runV (As := [.int 3]) (rest := []) ⟨hx, hb, hml, hown, hts⟩ (c_X6_refuse l dC dI H.size h0 qt qr qc qs qn qp qm qf qx kr (fun _ => 0) 3 (ax_in (by decide))) (cwV 1 hts (ax_gV T_108 T_109 T_110 T_106 T_107) rfl rfl rfl (by decide +kernel) ⟨Nat.le_of_ble_eq_true rfl, Nat.le_of_ble_eq_true rfl⟩) ⟨fun a U g mk q => ⟨q.1, ax_pc rfl rfl q.2⟩, va_recv hKc hPc (ci := 6) (q0 := 0) rfl rfl, fun U hU hW => ⟨rfl, ax_pw hU hW hPc hKc hDc hN⟩⟩ rfl rfl hl.1 rfl (lv_room (Nat.le_of_ble_eq_true rfl)) dX6_begin_9 ⟨Nat.le_of_ble_eq_true rfl, Nat.le_of_ble_eq_true rfl⟩) hS (fun q _ h => hFc q h) hFc (fun r1 _ t H1 locs ht hvm hw hB hz1 hk1 hS => ?_)
  obtain ⟨hP1, hK1, hD1⟩ := hB
  rw [ht] at hP1
  have hK1 := va_K.moved hvm.symm hK1
  obtain ⟨hP, hD⟩ := va_join (wr := []) (w1 := []) hP hD [0, 1] [] rfl rfl (by decide) (by decide) hk1 hFc hP1 hD1
  generalize H1 = H at hP hS ⊢
  have hP : va_P (dC, dI) vwCl [] H := hP
  have hD : va_D A [] := hD
  subst hw
  refine lv_pop hx hb dX6_begin_12 rfl ?_
  refine lv_iconst (v := 0) hx hb dX6_begin_13 (by decide) ?_
  have hP9 := hP.sub (ws' := []) [] rfl
  have hD9 := hD.sub (ws' := []) [] (by decide) rfl
  have hK9 := hK.sub (tys' := []) [] rfl
  exact W.zret (v := 0) (ty := .boolean) hx hb hr (by decide) (fun t ht hW => ⟨⟨0, (), rfl, rfl, by rw [ht]; exact hP9, va_K.moved hW.alike hK9, hD9⟩, hS.F ht⟩) hS.2.2 dX6_begin_14

set_option maxHeartbeats 4000000 in
set_option maxRecDepth 100000 in
/-- chance -/
theorem c_X6_chance (l : Launch) (dC : Nat → ClassId) (dI : Nat → Nat → Nat) (sz : Nat) (h0 : Nat) (qt : Nat) (qr : Nat) (qc : Nat) (qs : Nat) (qn : Nat) (qp : Nat) (qm : Nat) (qf : Nat) (qx : Nat) (kr : ClassId) (p0 : Int32) : Met l yX6_chance (Cond.code yX6_chance cX6_chance 6 (some .int) :: T0) ({ frames := 1, cells := 0, slots := 0, locals := 21 }) (va_Pc [.ref h0, .int p0] (ax_W dC dI sz [(h0, .inr (6, [.ref qt, .int 0, .ref qr, .ref qc, .ref qs, .int 0, .ref qn, .ref qp, .int 0, .int 0, .ref qm, .ref qf, .ref qx, .long 1])), (qx, .inl (kr, 6, .inl (fun _ => 0)))] [(kr, .int)])) (va_Qi (fun (r : Int32) (_ : Unit) => r = (-1)) (fun (_ : Unit) (t : State) => va_P (dC, dI) vwCl [] t.heap ∧ va_K (dC, dI) vwCl [] t ∧ va_D (va_A [(h0, .inr (6, [.ref qt, .int 0, .ref qr, .ref qc, .ref qs, .int 0, .ref qn, .ref qp, .int 0, .int 0, .ref qm, .ref qf, .ref qx, .long 1])), (qx, .inl (kr, 6, .inl (fun _ => 0)))] sz) []) (va_A [(h0, .inr (6, [.ref qt, .int 0, .ref qr, .ref qc, .ref qs, .int 0, .ref qn, .ref qp, .int 0, .int 0, .ref qm, .ref qf, .ref qx, .long 1])), (qx, .inl (kr, 6, .inl (fun _ => 0)))] sz)) 0 0 (va_A [(h0, .inr (6, [.ref qt, .int 0, .ref qr, .ref qc, .ref qs, .int 0, .ref qn, .ref qp, .int 0, .int 0, .ref qm, .ref qf, .ref qx, .long 1])), (qx, .inl (kr, 6, .inl (fun _ => 0)))] sz) := by
  refine Met.ofW (cc := cX6_chance) (maxL := 6) (ret := (some .int)) (by decide) rfl ?_
  intro p e s m args below meth c s₁ B hml hv
  obtain ⟨rfl, hsz, hP, hK, hD0, hN⟩ := hv
  have hx := B.exec
  have hb := B.bytes
  have hr := B.returns
  have hts : ∀ w ∈ T0, w.before _ s = true := fun w h => atoms_spec (ws := Cond.code yX6_chance cX6_chance 6 (some .int) :: T0) B.pre w (List.mem_cons_of_mem _ h)
  have hown : s.vm.findClass RX6 = some m.cls := findClass_of_methodNamed B.named
  have hlocks := B.notSynchronized
  subst hsz
  have hD := hD0.self (sz := s.heap.size)
  generalize hAe : va_A [(h0, .inr (6, [.ref qt, .int 0, .ref qr, .ref qc, .ref qs, .int 0, .ref qn, .ref qp, .int 0, .int 0, .ref qm, .ref qf, .ref qx, .long 1])), (qx, .inl (kr, 6, .inl (fun _ => 0)))] s.heap.size = A at hD ⊢
  have hA : ∀ q : Nat, s.heap.size ≤ q → A q := fun q h => by rw [← hAe]; exact Or.inr h
  have hS : va_S A s.heap s.heap [] := va_S.rf
  have hP : va_P (dC, dI) vwCl [(h0, .inr (6, [.ref qt, .int 0, .ref qr, .ref qc, .ref qs, .int 0, .ref qn, .ref qp, .int 0, .int 0, .ref qm, .ref qf, .ref qx, .long 1])), (qx, .inl (kr, 6, .inl (fun _ => 0)))] s.heap := hP
  have hl := lv_entry ([.ref h0, .int p0]) (n := 6) (Nat.le_of_ble_eq_true rfl)
  rw [lg_entry_eq]
  generalize (lg_sl ([.ref h0, .int p0]) ++ List.replicate (6 - (lg_sl ([.ref h0, .int p0])).length) Slot.unset).toArray = ls at hl ⊢
  refine ax_gen hP hD hS (fun H locs hP hD hS => ?_)
  have hl : lv_has ls 6 [(0, .ref h0), (1, .int p0)] := hl
  refine lv_aload_n hx hb dX6_chance_0 rfl (lv_at hl 0 rfl) ?_
  refine va_get (D := (dC, dI)) (ci := 6) (v := .int 0) (C := RX6) (T := TX6) (N := 14) hx hb hts inX6 hown hK hP 0 rfl rfl 5 (by decide) (hts _ T_143) (fun _ h9 => h9) rfl dX6_chance_1 ?_
  refine lv_if_eq (tgt := 18) hx hb dX6_chance_4 (by decide) (fun _ => ?_) (fun c => absurd (by decide) c)
  refine lv_aload_n hx hb dX6_chance_18 rfl (lv_at hl 0 rfl) ?_
  refine lv_iconst (v := 2) hx hb dX6_chance_19 (by decide) ?_
  have hPc := hP.sub (ws' := [(h0, .inr (6, [.ref qt, .int 0, .ref qr, .ref qc, .ref qs, .int 0, .ref qn, .ref qp, .int 0, .int 0, .ref qm, .ref qf, .ref qx, .long 1])), (qx, .inl (kr, 6, .inl (fun _ => 0)))]) [0, 1] rfl
  have hDc := hD.sub (ws' := [(h0, .inr (6, [.ref qt, .int 0, .ref qr, .ref qc, .ref qs, .int 0, .ref qn, .ref qp, .int 0, .int 0, .ref qm, .ref qf, .ref qx, .long 1])), (qx, .inl (kr, 6, .inl (fun _ => 0)))]) [0, 1] (by decide) rfl
  have hKc := hK.sub (tys' := [(kr, .int)]) [0] rfl
  have hFc := va_free (wc := [(h0, .inr (6, [.ref qt, .int 0, .ref qr, .ref qc, .ref qs, .int 0, .ref qn, .ref qp, .int 0, .int 0, .ref qm, .ref qf, .ref qx, .long 1])), (qx, .inl (kr, 6, .inl (fun _ => 0)))]) hD hS hA [0, 1] rfl
  refine va_calli (va_runV (As := [.int 2]) (rest := []) ⟨hx, hb, hml, hown, hts⟩ (c_X6_refuse l dC dI H.size h0 qt qr qc qs qn qp qm qf qx kr (fun _ => 0) 2 (ax_in (by decide))) (cwV 1 hts (ax_gV T_108 T_109 T_110 T_106 T_107) rfl rfl rfl (by decide +kernel) ⟨Nat.le_of_ble_eq_true rfl, Nat.le_of_ble_eq_true rfl⟩) ⟨fun a U g mk q => ⟨q.1, ax_pc rfl rfl q.2⟩, va_recv hKc hPc (ci := 6) (q0 := 0) rfl rfl, fun U hU hW => ⟨rfl, ax_pw hU hW hPc hKc hDc hN⟩⟩ rfl rfl hl.1 rfl (lv_room (Nat.le_of_ble_eq_true rfl)) dX6_chance_20 ⟨Nat.le_of_ble_eq_true rfl, Nat.le_of_ble_eq_true rfl⟩) hS (fun q _ h => hFc q h) hFc (fun r1 _ t H1 locs ht hvm hw hB hz1 hk1 hS => ?_)
  obtain ⟨hP1, hK1, hD1⟩ := hB
  rw [ht] at hP1
  have hK1 := va_K.moved hvm.symm hK1
  obtain ⟨hP, hD⟩ := va_join (wr := []) (w1 := []) hP hD [0, 1] [] rfl rfl (by decide) (by decide) hk1 hFc hP1 hD1
  generalize H1 = H at hP hS ⊢
  have hP : va_P (dC, dI) vwCl [] H := hP
  have hD : va_D A [] := hD
  subst hw
  have hP9 := hP.sub (ws' := []) [] rfl
  have hD9 := hD.sub (ws' := []) [] (by decide) rfl
  have hK9 := hK.sub (tys' := []) [] rfl
  exact W.iret (v := (-1)) hx hb hr (fun t ht hW => ⟨⟨(-1), (), rfl, rfl, by rw [ht]; exact hP9, va_K.moved hW.alike hK9, hD9⟩, hS.F ht⟩) hS.2.2 dX6_chance_23

set_option maxHeartbeats 4000000 in
set_option maxRecDepth 100000 in
/-- undo -/
theorem c_X6_undo (l : Launch) (dC : Nat → ClassId) (dI : Nat → Nat → Nat) (sz : Nat) (h0 : Nat) (qt : Nat) (qr : Nat) (qc : Nat) (qs : Nat) (qn : Nat) (qp : Nat) (qm : Nat) (qf : Nat) (qx : Nat) (kr : ClassId) : Met l yX6_undo (Cond.code yX6_undo cX6_undo 1 (some .boolean) :: T0) ({ frames := 1, cells := 0, slots := 0, locals := 21 }) (va_Pc [.ref h0] (ax_W dC dI sz [(h0, .inr (6, [.ref qt, .int 0, .ref qr, .ref qc, .ref qs, .int 0, .ref qn, .ref qp, .int 0, .int 0, .ref qm, .ref qf, .ref qx, .long 1])), (qx, .inl (kr, 6, .inl (fun _ => 0)))] [(kr, .int)])) (va_Qi (fun (r : Int32) (_ : Unit) => r = 0) (fun (_ : Unit) (t : State) => va_P (dC, dI) vwCl [] t.heap ∧ va_K (dC, dI) vwCl [] t ∧ va_D (va_A [(h0, .inr (6, [.ref qt, .int 0, .ref qr, .ref qc, .ref qs, .int 0, .ref qn, .ref qp, .int 0, .int 0, .ref qm, .ref qf, .ref qx, .long 1])), (qx, .inl (kr, 6, .inl (fun _ => 0)))] sz) []) (va_A [(h0, .inr (6, [.ref qt, .int 0, .ref qr, .ref qc, .ref qs, .int 0, .ref qn, .ref qp, .int 0, .int 0, .ref qm, .ref qf, .ref qx, .long 1])), (qx, .inl (kr, 6, .inl (fun _ => 0)))] sz)) 0 0 (va_A [(h0, .inr (6, [.ref qt, .int 0, .ref qr, .ref qc, .ref qs, .int 0, .ref qn, .ref qp, .int 0, .int 0, .ref qm, .ref qf, .ref qx, .long 1])), (qx, .inl (kr, 6, .inl (fun _ => 0)))] sz) := by
  refine Met.ofW (cc := cX6_undo) (maxL := 1) (ret := (some .boolean)) (by decide) rfl ?_
  intro p e s m args below meth c s₁ B hml hv
  obtain ⟨rfl, hsz, hP, hK, hD0, hN⟩ := hv
  have hx := B.exec
  have hb := B.bytes
  have hr := B.returns
  have hts : ∀ w ∈ T0, w.before _ s = true := fun w h => atoms_spec (ws := Cond.code yX6_undo cX6_undo 1 (some .boolean) :: T0) B.pre w (List.mem_cons_of_mem _ h)
  have hown : s.vm.findClass RX6 = some m.cls := findClass_of_methodNamed B.named
  have hlocks := B.notSynchronized
  subst hsz
  have hD := hD0.self (sz := s.heap.size)
  generalize hAe : va_A [(h0, .inr (6, [.ref qt, .int 0, .ref qr, .ref qc, .ref qs, .int 0, .ref qn, .ref qp, .int 0, .int 0, .ref qm, .ref qf, .ref qx, .long 1])), (qx, .inl (kr, 6, .inl (fun _ => 0)))] s.heap.size = A at hD ⊢
  have hA : ∀ q : Nat, s.heap.size ≤ q → A q := fun q h => by rw [← hAe]; exact Or.inr h
  have hS : va_S A s.heap s.heap [] := va_S.rf
  have hP : va_P (dC, dI) vwCl [(h0, .inr (6, [.ref qt, .int 0, .ref qr, .ref qc, .ref qs, .int 0, .ref qn, .ref qp, .int 0, .int 0, .ref qm, .ref qf, .ref qx, .long 1])), (qx, .inl (kr, 6, .inl (fun _ => 0)))] s.heap := hP
  have hl := lv_entry ([.ref h0]) (n := 1) (Nat.le_of_ble_eq_true rfl)
  rw [lg_entry_eq]
  generalize (lg_sl ([.ref h0]) ++ List.replicate (1 - (lg_sl ([.ref h0])).length) Slot.unset).toArray = ls at hl ⊢
  refine ax_gen hP hD hS (fun H locs hP hD hS => ?_)
  have hl : lv_has ls 1 [(0, .ref h0)] := hl
  refine lv_aload_n hx hb dX6_undo_0 rfl (lv_at hl 0 rfl) ?_
  refine va_get (D := (dC, dI)) (ci := 6) (v := .int 0) (C := RX6) (T := TX6) (N := 14) hx hb hts inX6 hown hK hP 0 rfl rfl 9 (by decide) (hts _ T_161) (fun _ h9 => h9) rfl dX6_undo_1 ?_
  refine lv_if_ne (tgt := 15) hx hb dX6_undo_4 (by decide) (fun c => absurd (by decide) c) (fun _ => ?_)
  refine lv_aload_n hx hb dX6_undo_7 rfl (lv_at hl 0 rfl) ?_
  refine lv_iconst (v := 4) hx hb dX6_undo_8 (by decide) ?_
  have hPc := hP.sub (ws' := [(h0, .inr (6, [.ref qt, .int 0, .ref qr, .ref qc, .ref qs, .int 0, .ref qn, .ref qp, .int 0, .int 0, .ref qm, .ref qf, .ref qx, .long 1])), (qx, .inl (kr, 6, .inl (fun _ => 0)))]) [0, 1] rfl
  have hDc := hD.sub (ws' := [(h0, .inr (6, [.ref qt, .int 0, .ref qr, .ref qc, .ref qs, .int 0, .ref qn, .ref qp, .int 0, .int 0, .ref qm, .ref qf, .ref qx, .long 1])), (qx, .inl (kr, 6, .inl (fun _ => 0)))]) [0, 1] (by decide) rfl
  have hKc := hK.sub (tys' := [(kr, .int)]) [0] rfl
  have hFc := va_free (wc := [(h0, .inr (6, [.ref qt, .int 0, .ref qr, .ref qc, .ref qs, .int 0, .ref qn, .ref qp, .int 0, .int 0, .ref qm, .ref qf, .ref qx, .long 1])), (qx, .inl (kr, 6, .inl (fun _ => 0)))]) hD hS hA [0, 1] rfl
  refine va_calli (va_runV (As := [.int 4]) (rest := []) ⟨hx, hb, hml, hown, hts⟩ (c_X6_refuse l dC dI H.size h0 qt qr qc qs qn qp qm qf qx kr (fun _ => 0) 4 (ax_in (by decide))) (cwV 1 hts (ax_gV T_108 T_109 T_110 T_106 T_107) rfl rfl rfl (by decide +kernel) ⟨Nat.le_of_ble_eq_true rfl, Nat.le_of_ble_eq_true rfl⟩) ⟨fun a U g mk q => ⟨q.1, ax_pc rfl rfl q.2⟩, va_recv hKc hPc (ci := 6) (q0 := 0) rfl rfl, fun U hU hW => ⟨rfl, ax_pw hU hW hPc hKc hDc hN⟩⟩ rfl rfl hl.1 rfl (lv_room (Nat.le_of_ble_eq_true rfl)) dX6_undo_9 ⟨Nat.le_of_ble_eq_true rfl, Nat.le_of_ble_eq_true rfl⟩) hS (fun q _ h => hFc q h) hFc (fun r1 _ t H1 locs ht hvm hw hB hz1 hk1 hS => ?_)
  obtain ⟨hP1, hK1, hD1⟩ := hB
  rw [ht] at hP1
  have hK1 := va_K.moved hvm.symm hK1
  obtain ⟨hP, hD⟩ := va_join (wr := []) (w1 := []) hP hD [0, 1] [] rfl rfl (by decide) (by decide) hk1 hFc hP1 hD1
  generalize H1 = H at hP hS ⊢
  have hP : va_P (dC, dI) vwCl [] H := hP
  have hD : va_D A [] := hD
  subst hw
  refine lv_pop hx hb dX6_undo_12 rfl ?_
  refine lv_iconst (v := 0) hx hb dX6_undo_13 (by decide) ?_
  have hP9 := hP.sub (ws' := []) [] rfl
  have hD9 := hD.sub (ws' := []) [] (by decide) rfl
  have hK9 := hK.sub (tys' := []) [] rfl
  exact W.zret (v := 0) (ty := .boolean) hx hb hr (by decide) (fun t ht hW => ⟨⟨0, (), rfl, rfl, by rw [ht]; exact hP9, va_K.moved hW.alike hK9, hD9⟩, hS.F ht⟩) hS.2.2 dX6_undo_14

set_option maxHeartbeats 4000000 in
set_option maxRecDepth 100000 in
/-- poke -/
theorem c_X6_poke (l : Launch) (dC : Nat → ClassId) (dI : Nat → Nat → Nat) (sz : Nat) (h0 : Nat) (qt : Nat) (qr : Nat) (qc : Nat) (qs : Nat) (qn : Nat) (qp : Nat) (qm : Nat) (qf : Nat) (qx : Nat) (kr : ClassId) (p0 : Int32) (p1 : Int32) (p2 : Int32) : Met l yX6_poke (Cond.code yX6_poke cX6_poke 6 (some .int) :: T0) ({ frames := 1, cells := 0, slots := 0, locals := 22 }) (va_Pc [.ref h0, .int p0, .int p1, .int p2] (ax_W dC dI sz [(h0, .inr (6, [.ref qt, .int 0, .ref qr, .ref qc, .ref qs, .int 0, .ref qn, .ref qp, .int 0, .int 0, .ref qm, .ref qf, .ref qx, .long 1])), (qx, .inl (kr, 6, .inl (fun _ => 0)))] [(kr, .int)])) (va_Qi (fun (r : Int32) (_ : Unit) => r = (-1000000)) (fun (_ : Unit) (t : State) => va_P (dC, dI) vwCl [] t.heap ∧ va_K (dC, dI) vwCl [] t ∧ va_D (va_A [(h0, .inr (6, [.ref qt, .int 0, .ref qr, .ref qc, .ref qs, .int 0, .ref qn, .ref qp, .int 0, .int 0, .ref qm, .ref qf, .ref qx, .long 1])), (qx, .inl (kr, 6, .inl (fun _ => 0)))] sz) []) (va_A [(h0, .inr (6, [.ref qt, .int 0, .ref qr, .ref qc, .ref qs, .int 0, .ref qn, .ref qp, .int 0, .int 0, .ref qm, .ref qf, .ref qx, .long 1])), (qx, .inl (kr, 6, .inl (fun _ => 0)))] sz)) 0 0 (va_A [(h0, .inr (6, [.ref qt, .int 0, .ref qr, .ref qc, .ref qs, .int 0, .ref qn, .ref qp, .int 0, .int 0, .ref qm, .ref qf, .ref qx, .long 1])), (qx, .inl (kr, 6, .inl (fun _ => 0)))] sz) := by
  refine Met.ofW (cc := cX6_poke) (maxL := 6) (ret := (some .int)) (by decide) rfl ?_
  intro p e s m args below meth c s₁ B hml hv
  obtain ⟨rfl, hsz, hP, hK, hD0, hN⟩ := hv
  have hx := B.exec
  have hb := B.bytes
  have hr := B.returns
  have hts : ∀ w ∈ T0, w.before _ s = true := fun w h => atoms_spec (ws := Cond.code yX6_poke cX6_poke 6 (some .int) :: T0) B.pre w (List.mem_cons_of_mem _ h)
  have hown : s.vm.findClass RX6 = some m.cls := findClass_of_methodNamed B.named
  have hlocks := B.notSynchronized
  subst hsz
  have hD := hD0.self (sz := s.heap.size)
  generalize hAe : va_A [(h0, .inr (6, [.ref qt, .int 0, .ref qr, .ref qc, .ref qs, .int 0, .ref qn, .ref qp, .int 0, .int 0, .ref qm, .ref qf, .ref qx, .long 1])), (qx, .inl (kr, 6, .inl (fun _ => 0)))] s.heap.size = A at hD ⊢
  have hA : ∀ q : Nat, s.heap.size ≤ q → A q := fun q h => by rw [← hAe]; exact Or.inr h
  have hS : va_S A s.heap s.heap [] := va_S.rf
  have hP : va_P (dC, dI) vwCl [(h0, .inr (6, [.ref qt, .int 0, .ref qr, .ref qc, .ref qs, .int 0, .ref qn, .ref qp, .int 0, .int 0, .ref qm, .ref qf, .ref qx, .long 1])), (qx, .inl (kr, 6, .inl (fun _ => 0)))] s.heap := hP
  have hl := lv_entry ([.ref h0, .int p0, .int p1, .int p2]) (n := 6) (Nat.le_of_ble_eq_true rfl)
  rw [lg_entry_eq]
  generalize (lg_sl ([.ref h0, .int p0, .int p1, .int p2]) ++ List.replicate (6 - (lg_sl ([.ref h0, .int p0, .int p1, .int p2])).length) Slot.unset).toArray = ls at hl ⊢
  refine ax_gen hP hD hS (fun H locs hP hD hS => ?_)
  have hl : lv_has ls 6 [(0, .ref h0), (1, .int p0), (2, .int p1), (3, .int p2)] := hl
  refine lv_aload_n hx hb dX6_poke_0 rfl (lv_at hl 0 rfl) ?_
  refine lv_iload_n hx hb dX6_poke_1 rfl (lv_at hl 1 rfl) ?_
  refine lv_iload_n hx hb dX6_poke_2 rfl (lv_at hl 2 rfl) ?_
  have hPc := hP.sub (ws' := [(h0, .inr (6, [.ref qt, .int 0, .ref qr, .ref qc, .ref qs, .int 0, .ref qn, .ref qp, .int 0, .int 0, .ref qm, .ref qf, .ref qx, .long 1]))]) [0] rfl
  have hDc := hD.sub (ws' := [(h0, .inr (6, [.ref qt, .int 0, .ref qr, .ref qc, .ref qs, .int 0, .ref qn, .ref qp, .int 0, .int 0, .ref qm, .ref qf, .ref qx, .long 1]))]) [0] (by decide) rfl
  have hKc := hK.sub (tys' := []) [] rfl
  have hFc := va_free (wc := [(h0, .inr (6, [.ref qt, .int 0, .ref qr, .ref qc, .ref qs, .int 0, .ref qn, .ref qp, .int 0, .int 0, .ref qm, .ref qf, .ref qx, .long 1]))]) hD hS hA [0] rfl
  refine va_calli (va_runV (As := [.int p0, .int p1]) (rest := []) ⟨hx, hb, hml, hown, hts⟩ (c_X6_hasWord l dC dI H.size h0 qt qr qc qs qn qp qm qf qx p0 p1) (cwV 2 hts (ax_gV T_154 T_155 T_156 T_106 T_153) rfl rfl rfl (by decide +kernel) ⟨Nat.le_of_ble_eq_true rfl, Nat.le_of_ble_eq_true rfl⟩) ⟨fun a U g mk q => ⟨q.1, ax_pc rfl rfl q.2⟩, va_recv hKc hPc (ci := 6) (q0 := 0) rfl rfl, fun U hU hW => ⟨rfl, ax_pw hU hW hPc hKc hDc hN⟩⟩ rfl rfl hl.1 rfl (lv_room (Nat.le_of_ble_eq_true rfl)) dX6_poke_3 ⟨Nat.le_of_ble_eq_true rfl, Nat.le_of_ble_eq_true rfl⟩) hS (fun q _ h => hFc q h) hFc (fun r1 _ t H1 locs ht hvm hw hB hz1 hk1 hS => ?_)
  obtain ⟨hP1, hK1, hD1⟩ := hB
  rw [ht] at hP1
  have hK1 := va_K.moved hvm.symm hK1
  obtain ⟨hP, hD⟩ := va_join (wr := [(qx, .inl (kr, 6, .inl (fun _ => 0)))]) (w1 := [(h0, .inr (6, [.ref qt, .int 0, .ref qr, .ref qc, .ref qs, .int 0, .ref qn, .ref qp, .int 0, .int 0, .ref qm, .ref qf, .ref qx, .long 1]))]) hP hD [0] [1] rfl rfl (by decide) (by decide) hk1 hFc hP1 hD1
  generalize H1 = H at hP hS ⊢
  have hP : va_P (dC, dI) vwCl [(qx, .inl (kr, 6, .inl (fun _ => 0))), (h0, .inr (6, [.ref qt, .int 0, .ref qr, .ref qc, .ref qs, .int 0, .ref qn, .ref qp, .int 0, .int 0, .ref qm, .ref qf, .ref qx, .long 1]))] H := hP
  have hD : va_D A [(qx, .inl (kr, 6, .inl (fun _ => 0))), (h0, .inr (6, [.ref qt, .int 0, .ref qr, .ref qc, .ref qs, .int 0, .ref qn, .ref qp, .int 0, .int 0, .ref qm, .ref qf, .ref qx, .long 1]))] := hD
  subst hw
  refine lv_if_eq (tgt := 23) hx hb dX6_poke_6 (by decide) (fun _ => ?_) (fun c => absurd (by decide) c)
  refine lv_aload_n hx hb dX6_poke_23 rfl (lv_at hl 0 rfl) ?_
  refine lv_iconst (v := 3) hx hb dX6_poke_24 (by decide) ?_
  have hPc := hP.sub (ws' := [(h0, .inr (6, [.ref qt, .int 0, .ref qr, .ref qc, .ref qs, .int 0, .ref qn, .ref qp, .int 0, .int 0, .ref qm, .ref qf, .ref qx, .long 1])), (qx, .inl (kr, 6, .inl (fun _ => 0)))]) [1, 0] rfl
  have hDc := hD.sub (ws' := [(h0, .inr (6, [.ref qt, .int 0, .ref qr, .ref qc, .ref qs, .int 0, .ref qn, .ref qp, .int 0, .int 0, .ref qm, .ref qf, .ref qx, .long 1])), (qx, .inl (kr, 6, .inl (fun _ => 0)))]) [1, 0] (by decide) rfl
  have hKc := hK.sub (tys' := [(kr, .int)]) [0] rfl
  have hFc := va_free (wc := [(h0, .inr (6, [.ref qt, .int 0, .ref qr, .ref qc, .ref qs, .int 0, .ref qn, .ref qp, .int 0, .int 0, .ref qm, .ref qf, .ref qx, .long 1])), (qx, .inl (kr, 6, .inl (fun _ => 0)))]) hD hS hA [1, 0] rfl
  refine va_calli (va_runV (As := [.int 3]) (rest := []) ⟨hx, hb, hml, hown, hts⟩ (c_X6_refuse l dC dI H.size h0 qt qr qc qs qn qp qm qf qx kr (fun _ => 0) 3 (ax_in (by decide))) (cwV 1 hts (ax_gV T_108 T_109 T_110 T_106 T_107) rfl rfl rfl (by decide +kernel) ⟨Nat.le_of_ble_eq_true rfl, Nat.le_of_ble_eq_true rfl⟩) ⟨fun a U g mk q => ⟨q.1, ax_pc rfl rfl q.2⟩, va_recv hKc hPc (ci := 6) (q0 := 0) rfl rfl, fun U hU hW => ⟨rfl, ax_pw hU hW hPc hKc hDc hN⟩⟩ rfl rfl hl.1 rfl (lv_room (Nat.le_of_ble_eq_true rfl)) dX6_poke_25 ⟨Nat.le_of_ble_eq_true rfl, Nat.le_of_ble_eq_true rfl⟩) hS (fun q _ h => hFc q h) hFc (fun r2 _ t H1 locs ht hvm hw hB hz1 hk1 hS => ?_)
  obtain ⟨hP1, hK1, hD1⟩ := hB
  rw [ht] at hP1
  have hK1 := va_K.moved hvm.symm hK1
  obtain ⟨hP, hD⟩ := va_join (wr := []) (w1 := []) hP hD [1, 0] [] rfl rfl (by decide) (by decide) hk1 hFc hP1 hD1
  generalize H1 = H at hP hS ⊢
  have hP : va_P (dC, dI) vwCl [] H := hP
  have hD : va_D A [] := hD
  subst hw
  refine lv_pop hx hb dX6_poke_28 rfl ?_
  refine lv_ldc hx hb hown (hts _ T_148) dX6_poke_29 ?_
  have hP9 := hP.sub (ws' := []) [] rfl
  have hD9 := hD.sub (ws' := []) [] (by decide) rfl
  have hK9 := hK.sub (tys' := []) [] rfl
  exact W.iret (v := (-1000000)) hx hb hr (fun t ht hW => ⟨⟨(-1000000), (), rfl, rfl, by rw [ht]; exact hP9, va_K.moved hW.alike hK9, hD9⟩, hS.F ht⟩) hS.2.2 dX6_poke_31

set_option maxHeartbeats 4000000 in
set_option maxRecDepth 100000 in
/-- seed -/
theorem c_X6_seed (l : Launch) (dC : Nat → ClassId) (dI : Nat → Nat → Nat) (sz : Nat) (h0 : Nat) (qt : Nat) (qr : Nat) (qc : Nat) (qs : Nat) (qn : Nat) (qp : Nat) (qm : Nat) (qf : Nat) (qx : Nat) (kr : ClassId) (p0 : Int32) : Met l yX6_seed (Cond.code yX6_seed cX6_seed 2 (some .boolean) :: T0) ({ frames := 1, cells := 0, slots := 0, locals := 21 }) (va_Pc [.ref h0, .int p0] (ax_W dC dI sz [(h0, .inr (6, [.ref qt, .int 0, .ref qr, .ref qc, .ref qs, .int 0, .ref qn, .ref qp, .int 0, .int 0, .ref qm, .ref qf, .ref qx, .long 1])), (qx, .inl (kr, 6, .inl (fun _ => 0)))] [(kr, .int)])) (va_Qi (fun (r : Int32) (_ : Unit) => r = a_seed p0) (fun (_ : Unit) (t : State) => va_P (dC, dI) vwCl [] t.heap ∧ va_K (dC, dI) vwCl [] t ∧ va_D (va_A [(h0, .inr (6, [.ref qt, .int 0, .ref qr, .ref qc, .ref qs, .int 0, .ref qn, .ref qp, .int 0, .int 0, .ref qm, .ref qf, .ref qx, .long 1])), (qx, .inl (kr, 6, .inl (fun _ => 0)))] sz) []) (va_A [(h0, .inr (6, [.ref qt, .int 0, .ref qr, .ref qc, .ref qs, .int 0, .ref qn, .ref qp, .int 0, .int 0, .ref qm, .ref qf, .ref qx, .long 1])), (qx, .inl (kr, 6, .inl (fun _ => 0)))] sz)) 0 0 (va_A [(h0, .inr (6, [.ref qt, .int 0, .ref qr, .ref qc, .ref qs, .int 0, .ref qn, .ref qp, .int 0, .int 0, .ref qm, .ref qf, .ref qx, .long 1])), (qx, .inl (kr, 6, .inl (fun _ => 0)))] sz) := by
  refine Met.ofW (cc := cX6_seed) (maxL := 2) (ret := (some .boolean)) (by decide) rfl ?_
  intro p e s m args below meth c s₁ B hml hv
  obtain ⟨rfl, hsz, hP, hK, hD0, hN⟩ := hv
  have hx := B.exec
  have hb := B.bytes
  have hr := B.returns
  have hts : ∀ w ∈ T0, w.before _ s = true := fun w h => atoms_spec (ws := Cond.code yX6_seed cX6_seed 2 (some .boolean) :: T0) B.pre w (List.mem_cons_of_mem _ h)
  have hown : s.vm.findClass RX6 = some m.cls := findClass_of_methodNamed B.named
  have hlocks := B.notSynchronized
  subst hsz
  have hD := hD0.self (sz := s.heap.size)
  generalize hAe : va_A [(h0, .inr (6, [.ref qt, .int 0, .ref qr, .ref qc, .ref qs, .int 0, .ref qn, .ref qp, .int 0, .int 0, .ref qm, .ref qf, .ref qx, .long 1])), (qx, .inl (kr, 6, .inl (fun _ => 0)))] s.heap.size = A at hD ⊢
  have hA : ∀ q : Nat, s.heap.size ≤ q → A q := fun q h => by rw [← hAe]; exact Or.inr h
  have hS : va_S A s.heap s.heap [] := va_S.rf
  have hP : va_P (dC, dI) vwCl [(h0, .inr (6, [.ref qt, .int 0, .ref qr, .ref qc, .ref qs, .int 0, .ref qn, .ref qp, .int 0, .int 0, .ref qm, .ref qf, .ref qx, .long 1])), (qx, .inl (kr, 6, .inl (fun _ => 0)))] s.heap := hP
  have hl := lv_entry ([.ref h0, .int p0]) (n := 2) (Nat.le_of_ble_eq_true rfl)
  rw [lg_entry_eq]
  generalize (lg_sl ([.ref h0, .int p0]) ++ List.replicate (2 - (lg_sl ([.ref h0, .int p0])).length) Slot.unset).toArray = ls at hl ⊢
  refine ax_gen hP hD hS (fun H locs hP hD hS => ?_)
  have hl : lv_has ls 2 [(0, .ref h0), (1, .int p0)] := hl
  refine lv_iload_n hx hb dX6_seed_0 rfl (lv_at hl 1 rfl) ?_
  refine lv_if_ge (tgt := 12) hx hb dX6_seed_1 (by decide) (fun c1 => ?_) (fun c1 => ?_)
  · refine lv_aload_n hx hb dX6_seed_12 rfl (lv_at hl 0 rfl) ?_
    refine lv_iload_n hx hb dX6_seed_13 rfl (lv_at hl 1 rfl) ?_
    refine lv_i2l (v := p0.toInt64) hx hb dX6_seed_14 rfl ?_
    refine va_put (D := (dC, dI)) (ci := 6) (v := .long p0.toInt64) (ty := .long) (C := RX6) (T := TX6) (N := 14) hx hb hts inX6 tyX6 tyX6_ok nmX6 hown hK hP hD hS 0 rfl rfl 13 (by decide) (hts _ T_95) (fun _ h9 => h9) rfl (by decide +kernel) rfl rfl (Nat.le_of_ble_eq_true rfl) dX6_seed_15 (fun H locs hP hD hS => ?_)
    have hP : va_P (dC, dI) vwCl [(h0, .inr (6, [.ref qt, .int 0, .ref qr, .ref qc, .ref qs, .int 0, .ref qn, .ref qp, .int 0, .int 0, .ref qm, .ref qf, .ref qx, .long p0.toInt64])), (qx, .inl (kr, 6, .inl (fun _ => 0)))] H := hP
    have hD : va_D A [(h0, .inr (6, [.ref qt, .int 0, .ref qr, .ref qc, .ref qs, .int 0, .ref qn, .ref qp, .int 0, .int 0, .ref qm, .ref qf, .ref qx, .long p0.toInt64])), (qx, .inl (kr, 6, .inl (fun _ => 0)))] := hD
    refine lv_iconst (v := 1) hx hb dX6_seed_18 (by decide) ?_
    have hP9 := hP.sub (ws' := []) [] rfl
    have hD9 := hD.sub (ws' := []) [] (by decide) rfl
    have hK9 := hK.sub (tys' := []) [] rfl
    exact W.zret (v := 1) (ty := .boolean) hx hb hr (by decide) (fun t ht hW => ⟨⟨1, (), rfl, (by have h_0 := (ax_ge (n := 0) (by decide)).mp c1; unfold a_seed; first | (rw [if_pos (by omega)]; done) | (rw [if_neg (by omega)]; done)), by rw [ht]; exact hP9, va_K.moved hW.alike hK9, hD9⟩, hS.F ht⟩) hS.2.2 dX6_seed_19
  · refine lv_aload_n hx hb dX6_seed_4 rfl (lv_at hl 0 rfl) ?_
    refine lv_iconst (v := 5) hx hb dX6_seed_5 (by decide) ?_
    have hPc := hP.sub (ws' := [(h0, .inr (6, [.ref qt, .int 0, .ref qr, .ref qc, .ref qs, .int 0, .ref qn, .ref qp, .int 0, .int 0, .ref qm, .ref qf, .ref qx, .long 1])), (qx, .inl (kr, 6, .inl (fun _ => 0)))]) [0, 1] rfl
    have hDc := hD.sub (ws' := [(h0, .inr (6, [.ref qt, .int 0, .ref qr, .ref qc, .ref qs, .int 0, .ref qn, .ref qp, .int 0, .int 0, .ref qm, .ref qf, .ref qx, .long 1])), (qx, .inl (kr, 6, .inl (fun _ => 0)))]) [0, 1] (by decide) rfl
    have hKc := hK.sub (tys' := [(kr, .int)]) [0] rfl
    have hFc := va_free (wc := [(h0, .inr (6, [.ref qt, .int 0, .ref qr, .ref qc, .ref qs, .int 0, .ref qn, .ref qp, .int 0, .int 0, .ref qm, .ref qf, .ref qx, .long 1])), (qx, .inl (kr, 6, .inl (fun _ => 0)))]) hD hS hA [0, 1] rfl
    refine va_calli (va_runV (As := [.int 5]) (rest := []) ⟨hx, hb, hml, hown, hts⟩ (c_X6_refuse l dC dI H.size h0 qt qr qc qs qn qp qm qf qx kr (fun _ => 0) 5 (ax_in (by decide))) (cwV 1 hts (ax_gV T_108 T_109 T_110 T_106 T_107) rfl rfl rfl (by decide +kernel) ⟨Nat.le_of_ble_eq_true rfl, Nat.le_of_ble_eq_true rfl⟩) ⟨fun a U g mk q => ⟨q.1, ax_pc rfl rfl q.2⟩, va_recv hKc hPc (ci := 6) (q0 := 0) rfl rfl, fun U hU hW => ⟨rfl, ax_pw hU hW hPc hKc hDc hN⟩⟩ rfl rfl hl.1 rfl (lv_room (Nat.le_of_ble_eq_true rfl)) dX6_seed_6 ⟨Nat.le_of_ble_eq_true rfl, Nat.le_of_ble_eq_true rfl⟩) hS (fun q _ h => hFc q h) hFc (fun r2 _ t H1 locs ht hvm hw hB hz1 hk1 hS => ?_)
    obtain ⟨hP1, hK1, hD1⟩ := hB
    rw [ht] at hP1
    have hK1 := va_K.moved hvm.symm hK1
    obtain ⟨hP, hD⟩ := va_join (wr := []) (w1 := []) hP hD [0, 1] [] rfl rfl (by decide) (by decide) hk1 hFc hP1 hD1
    generalize H1 = H at hP hS ⊢
    have hP : va_P (dC, dI) vwCl [] H := hP
    have hD : va_D A [] := hD
    subst hw
    refine lv_pop hx hb dX6_seed_9 rfl ?_
    refine lv_iconst (v := 0) hx hb dX6_seed_10 (by decide) ?_
    have hP9 := hP.sub (ws' := []) [] rfl
    have hD9 := hD.sub (ws' := []) [] (by decide) rfl
    have hK9 := hK.sub (tys' := []) [] rfl
    exact W.zret (v := 0) (ty := .boolean) hx hb hr (by decide) (fun t ht hW => ⟨⟨0, (), rfl, (by have h_0 := mt (ax_ge (n := 0) (by decide)).mpr c1; unfold a_seed; first | (rw [if_pos (by omega)]; done) | (rw [if_neg (by omega)]; done)), by rw [ht]; exact hP9, va_K.moved hW.alike hK9, hD9⟩, hS.F ht⟩) hS.2.2 dX6_seed_11

set_option maxHeartbeats 4000000 in
set_option maxRecDepth 100000 in
/-- status -/
theorem c_X6_status (l : Launch) (dC : Nat → ClassId) (dI : Nat → Nat → Nat) (sz : Nat) (h0 : Nat) (qt : Nat) (qr : Nat) (qc : Nat) (qs : Nat) (qn : Nat) (qp : Nat) (qm : Nat) (qf : Nat) (qx : Nat) (kr : ClassId) (p0 : Int32) : Met l yX6_status (Cond.code yX6_status cX6_status 2 (some .int) :: T0) ({ frames := 0, cells := 0, slots := 0, locals := 0 }) (va_Pc [.ref h0, .int p0] (ax_W dC dI sz [(h0, .inr (6, [.ref qt, .int 0, .ref qr, .ref qc, .ref qs, .int 0, .ref qn, .ref qp, .int 0, .int 0, .ref qm, .ref qf, .ref qx, .long 1])), (qx, .inl (kr, 6, .inl (fun _ => 0)))] [(kr, .int)])) (va_Qi (fun (r : Int32) (_ : Unit) => r = a_status p0) (fun (_ : Unit) (t : State) => va_P (dC, dI) vwCl [] t.heap ∧ va_K (dC, dI) vwCl [] t ∧ va_D (va_A [(h0, .inr (6, [.ref qt, .int 0, .ref qr, .ref qc, .ref qs, .int 0, .ref qn, .ref qp, .int 0, .int 0, .ref qm, .ref qf, .ref qx, .long 1])), (qx, .inl (kr, 6, .inl (fun _ => 0)))] sz) []) (va_A [(h0, .inr (6, [.ref qt, .int 0, .ref qr, .ref qc, .ref qs, .int 0, .ref qn, .ref qp, .int 0, .int 0, .ref qm, .ref qf, .ref qx, .long 1])), (qx, .inl (kr, 6, .inl (fun _ => 0)))] sz)) 0 0 (va_A [(h0, .inr (6, [.ref qt, .int 0, .ref qr, .ref qc, .ref qs, .int 0, .ref qn, .ref qp, .int 0, .int 0, .ref qm, .ref qf, .ref qx, .long 1])), (qx, .inl (kr, 6, .inl (fun _ => 0)))] sz) := by
  refine Met.ofW (cc := cX6_status) (maxL := 2) (ret := (some .int)) (by decide) rfl ?_
  intro p e s m args below meth c s₁ B hml hv
  obtain ⟨rfl, hsz, hP, hK, hD0, hN⟩ := hv
  have hx := B.exec
  have hb := B.bytes
  have hr := B.returns
  have hts : ∀ w ∈ T0, w.before _ s = true := fun w h => atoms_spec (ws := Cond.code yX6_status cX6_status 2 (some .int) :: T0) B.pre w (List.mem_cons_of_mem _ h)
  have hown : s.vm.findClass RX6 = some m.cls := findClass_of_methodNamed B.named
  have hlocks := B.notSynchronized
  subst hsz
  have hD := hD0.self (sz := s.heap.size)
  generalize hAe : va_A [(h0, .inr (6, [.ref qt, .int 0, .ref qr, .ref qc, .ref qs, .int 0, .ref qn, .ref qp, .int 0, .int 0, .ref qm, .ref qf, .ref qx, .long 1])), (qx, .inl (kr, 6, .inl (fun _ => 0)))] s.heap.size = A at hD ⊢
  have hA : ∀ q : Nat, s.heap.size ≤ q → A q := fun q h => by rw [← hAe]; exact Or.inr h
  have hS : va_S A s.heap s.heap [] := va_S.rf
  have hP : va_P (dC, dI) vwCl [(h0, .inr (6, [.ref qt, .int 0, .ref qr, .ref qc, .ref qs, .int 0, .ref qn, .ref qp, .int 0, .int 0, .ref qm, .ref qf, .ref qx, .long 1])), (qx, .inl (kr, 6, .inl (fun _ => 0)))] s.heap := hP
  have hl := lv_entry ([.ref h0, .int p0]) (n := 2) (Nat.le_of_ble_eq_true rfl)
  rw [lg_entry_eq]
  generalize (lg_sl ([.ref h0, .int p0]) ++ List.replicate (2 - (lg_sl ([.ref h0, .int p0])).length) Slot.unset).toArray = ls at hl ⊢
  refine ax_gen hP hD hS (fun H locs hP hD hS => ?_)
  have hl : lv_has ls 2 [(0, .ref h0), (1, .int p0)] := hl
  refine lv_iload_n hx hb dX6_status_0 rfl (lv_at hl 1 rfl) ?_
  refine lv_if_lt (tgt := 10) hx hb dX6_status_1 (by decide) (fun c1 => ?_) (fun c1 => ?_)
  · refine lv_iconst (v := (-1)) hx hb dX6_status_10 (by decide) ?_
    refine lv_goto (tgt := 20) hx hb dX6_status_11 (by decide) ?_
    have hP9 := hP.sub (ws' := []) [] rfl
    have hD9 := hD.sub (ws' := []) [] (by decide) rfl
    have hK9 := hK.sub (tys' := []) [] rfl
    exact W.iret (v := (-1)) hx hb hr (fun t ht hW => ⟨⟨(-1), (), rfl, (by have h_0 := (ax_lt (n := 0) (by decide)).mp c1; unfold a_status; first | (rw [if_pos (by omega)]; done) | (rw [if_neg (by omega)]; done)), by rw [ht]; exact hP9, va_K.moved hW.alike hK9, hD9⟩, hS.F ht⟩) hS.2.2 dX6_status_20
  · refine lv_iload_n hx hb dX6_status_4 rfl (lv_at hl 1 rfl) ?_
    refine lv_bipush (v := 6) hx hb dX6_status_5 (by decide) ?_
    refine lv_icmp_lt (tgt := 14) hx hb dX6_status_7 (by decide) (fun c2 => ?_) (fun c2 => ?_)
    · refine lv_aload_n hx hb dX6_status_14 rfl (lv_at hl 0 rfl) ?_
      refine va_get (D := (dC, dI)) (ci := 6) (v := .ref qx) (C := RX6) (T := TX6) (N := 14) hx hb hts inX6 hown hK hP 0 rfl rfl 12 (by decide) (hts _ T_94) (fun _ h9 => h9) rfl dX6_status_15 ?_
      refine lv_iload_n hx hb dX6_status_18 rfl (lv_at hl 1 rfl) ?_
      refine va_iald hx hb hK hP 1 0 rfl rfl (by have h_0 := mt (ax_lt (n := 0) (by decide)).mpr c1; have h_1 := (ax_lt (n := 6) (by decide)).mp c2; exact vp_in_iff.mpr ⟨by omega, by omega⟩) dX6_status_19 ?_
      refine ax_eqi (y := 0) rfl ?_
      have hP9 := hP.sub (ws' := []) [] rfl
      have hD9 := hD.sub (ws' := []) [] (by decide) rfl
      have hK9 := hK.sub (tys' := []) [] rfl
      exact W.iret (v := 0) hx hb hr (fun t ht hW => ⟨⟨0, (), rfl, (by have h_0 := mt (ax_lt (n := 0) (by decide)).mpr c1; have h_1 := (ax_lt (n := 6) (by decide)).mp c2; unfold a_status; first | (rw [if_pos (by omega)]; done) | (rw [if_neg (by omega)]; done)), by rw [ht]; exact hP9, va_K.moved hW.alike hK9, hD9⟩, hS.F ht⟩) hS.2.2 dX6_status_20
    · refine lv_iconst (v := (-1)) hx hb dX6_status_10 (by decide) ?_
      refine lv_goto (tgt := 20) hx hb dX6_status_11 (by decide) ?_
      have hP9 := hP.sub (ws' := []) [] rfl
      have hD9 := hD.sub (ws' := []) [] (by decide) rfl
      have hK9 := hK.sub (tys' := []) [] rfl
      exact W.iret (v := (-1)) hx hb hr (fun t ht hW => ⟨⟨(-1), (), rfl, (by have h_0 := mt (ax_lt (n := 0) (by decide)).mpr c1; have h_1 := mt (ax_lt (n := 6) (by decide)).mpr c2; unfold a_status; first | (rw [if_pos (by omega)]; done) | (rw [if_neg (by omega)]; done)), by rw [ht]; exact hP9, va_K.moved hW.alike hK9, hD9⟩, hS.F ht⟩) hS.2.2 dX6_status_20

