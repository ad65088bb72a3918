set_option maxHeartbeats 4000000 in
set_option maxRecDepth 100000 in
/-- refuse: it answers NONE -/
theorem c_X6_refuse (l : Launch) (dC : Nat → ClassId) (dI : Nat → Nat → Nat) (sz : Nat) (h0 : Nat) (qt : Nat) (qr : Nat) (qc : Nat) (qs : Nat) (qn : Nat) (qp : Nat) (qm : Nat) (qf : Nat) (qx : Nat) (kr : ClassId) (f : Nat → Int32) (p0 : Int32) (hp0 : vp_in p0 6) : Met l yX6_refuse (Cond.code yX6_refuse cX6_refuse 2 (some .int) :: T0) ({ frames := 0, cells := 0, slots := 0, locals := 0 }) (va_Pc [.ref h0, .int p0] (ax_W dC dI sz [(h0, .inr (6, [.ref qt, .int 0, .ref qr, .ref qc, .ref qs, .int 0, .ref qn, .ref qp, .int 0, .int 0, .ref qm, .ref qf, .ref qx, .long 1])), (qx, .inl (kr, 6, .inl f))] [(kr, .int)])) (va_Qi (fun (r : Int32) (_ : Unit) => r = (-1)) (fun (_ : Unit) (t : State) => va_P (dC, dI) vwCl [] t.heap ∧ va_K (dC, dI) vwCl [] t ∧ va_D (va_A [(h0, .inr (6, [.ref qt, .int 0, .ref qr, .ref qc, .ref qs, .int 0, .ref qn, .ref qp, .int 0, .int 0, .ref qm, .ref qf, .ref qx, .long 1])), (qx, .inl (kr, 6, .inl f))] sz) []) (va_A [(h0, .inr (6, [.ref qt, .int 0, .ref qr, .ref qc, .ref qs, .int 0, .ref qn, .ref qp, .int 0, .int 0, .ref qm, .ref qf, .ref qx, .long 1])), (qx, .inl (kr, 6, .inl f))] sz)) 0 0 (va_A [(h0, .inr (6, [.ref qt, .int 0, .ref qr, .ref qc, .ref qs, .int 0, .ref qn, .ref qp, .int 0, .int 0, .ref qm, .ref qf, .ref qx, .long 1])), (qx, .inl (kr, 6, .inl f))] sz) := by
  refine Met.ofW (cc := cX6_refuse) (maxL := 2) (ret := (some .int)) (by decide) rfl ?_
  intro p e s m args below meth c s₁ B hml hv
  obtain ⟨rfl, hsz, hP, hK, hD0, hN⟩ := hv
  have hx := B.exec
  have hb := B.bytes
  have hr := B.returns
  have hts : ∀ w ∈ T0, w.before _ s = true := fun w h => atoms_spec (ws := Cond.code yX6_refuse cX6_refuse 2 (some .int) :: T0) B.pre w (List.mem_cons_of_mem _ h)
  have hown : s.vm.findClass RX6 = some m.cls := findClass_of_methodNamed B.named
  have hlocks := B.notSynchronized
  subst hsz
  have hD := hD0.self (sz := s.heap.size)
  generalize hAe : va_A [(h0, .inr (6, [.ref qt, .int 0, .ref qr, .ref qc, .ref qs, .int 0, .ref qn, .ref qp, .int 0, .int 0, .ref qm, .ref qf, .ref qx, .long 1])), (qx, .inl (kr, 6, .inl f))] s.heap.size = A at hD ⊢
  have hA : ∀ q : Nat, s.heap.size ≤ q → A q := fun q h => by rw [← hAe]; exact Or.inr h
  have hS : va_S A s.heap s.heap [] := va_S.rf
  have hP : va_P (dC, dI) vwCl [(h0, .inr (6, [.ref qt, .int 0, .ref qr, .ref qc, .ref qs, .int 0, .ref qn, .ref qp, .int 0, .int 0, .ref qm, .ref qf, .ref qx, .long 1])), (qx, .inl (kr, 6, .inl f))] s.heap := hP
  have hl := lv_entry ([.ref h0, .int p0]) (n := 2) (Nat.le_of_ble_eq_true rfl)
  rw [lg_entry_eq]
  generalize (lg_sl ([.ref h0, .int p0]) ++ List.replicate (2 - (lg_sl ([.ref h0, .int p0])).length) Slot.unset).toArray = ls at hl ⊢
  refine ax_gen hP hD hS (fun H locs hP hD hS => ?_)
  have hl : lv_has ls 2 [(0, .ref h0), (1, .int p0)] := hl
  refine lv_aload_n hx hb dX6_refuse_0 rfl (lv_at hl 0 rfl) ?_
  refine va_get (D := (dC, dI)) (ci := 6) (v := .ref qx) (C := RX6) (T := TX6) (N := 14) hx hb hts inX6 hown hK hP 0 rfl rfl 12 (by decide) (hts _ T_94) (fun _ h9 => h9) rfl dX6_refuse_1 ?_
  refine lv_iload_n hx hb dX6_refuse_4 rfl (lv_at hl 1 rfl) ?_
  refine lv_dup2_11 hx hb dX6_refuse_5 rfl rfl ?_
  refine va_iald hx hb hK hP 1 0 rfl rfl hp0 dX6_refuse_6 ?_
  refine lv_topi (fun v1 ev1 => ?_)
  refine lv_iconst (v := 1) hx hb dX6_refuse_7 (by decide) ?_
  refine lv_iadd hx hb dX6_refuse_8 ?_
  refine lv_topi (fun v2 ev2 => ?_)
  refine va_iast hx hb hK hP hD hS 1 0 rfl rfl hp0 dX6_refuse_9 (fun H locs hP hD hS => ?_)
  have hP : va_P (dC, dI) vwCl [(h0, .inr (6, [.ref qt, .int 0, .ref qr, .ref qc, .ref qs, .int 0, .ref qn, .ref qp, .int 0, .int 0, .ref qm, .ref qf, .ref qx, .long 1])), (qx, .inl (kr, 6, .inl (upd f (p0 : Int32).toNatClampNeg v2)))] H := hP
  have hD : va_D A [(h0, .inr (6, [.ref qt, .int 0, .ref qr, .ref qc, .ref qs, .int 0, .ref qn, .ref qp, .int 0, .int 0, .ref qm, .ref qf, .ref qx, .long 1])), (qx, .inl (kr, 6, .inl (upd f (p0 : Int32).toNatClampNeg v2)))] := hD
  obtain ⟨f3, hP, hD⟩ : ∃ f : Nat → Int32, va_P (dC, dI) vwCl [(h0, .inr (6, [.ref qt, .int 0, .ref qr, .ref qc, .ref qs, .int 0, .ref qn, .ref qp, .int 0, .int 0, .ref qm, .ref qf, .ref qx, .long 1])), (qx, .inl (kr, 6, .inl f))] H ∧ va_D A [(h0, .inr (6, [.ref qt, .int 0, .ref qr, .ref qc, .ref qs, .int 0, .ref qn, .ref qp, .int 0, .int 0, .ref qm, .ref qf, .ref qx, .long 1])), (qx, .inl (kr, 6, .inl f))] := ⟨_, hP, hD⟩
  refine lv_iconst (v := (-1)) hx hb dX6_refuse_10 (by decide) ?_
  have hP9 := hP.sub (ws' := []) [] rfl
  have hD9 := hD.sub (ws' := []) [] (by decide) rfl
  have hK9 := hK.sub (tys' := []) [] rfl
  exact W.iret (v := (-1)) hx hb hr (fun t ht hW => ⟨⟨(-1), (), rfl, rfl, by rw [ht]; exact hP9, va_K.moved hW.alike hK9, hD9⟩, hS.F ht⟩) hS.2.2 dX6_refuse_11

set_option maxHeartbeats 4000000 in
set_option maxRecDepth 100000 in
/-- layBytes behind 0 bytes -/
theorem c_X6_layBytes_0 (l : Launch) (dC : Nat → ClassId) (dI : Nat → Nat → Nat) (sz : Nat) (h0 : Nat) (qt : Nat) (qr : Nat) (qc : Nat) (qs : Nat) (qn : Nat) (qp : Nat) (qm : Nat) (qf : Nat) (qx : Nat) (kt : ClassId) (f : Nat → Int32) (p0 : Int32) : Met l yX6_layBytes (Cond.code yX6_layBytes cX6_layBytes 3 none :: T0) ({ frames := 0, cells := 0, slots := 0, locals := 0 }) (va_Pc [.ref h0, .int p0] (ax_W dC dI sz [(h0, .inr (6, [.ref qt, .int 0, .ref qr, .ref qc, .ref qs, .int 0, .ref qn, .ref qp, .int 0, .int 0, .ref qm, .ref qf, .ref qx, .long 1])), (qt, .inl (kt, 1600, .inl f))] [(kt, .byte)])) (va_Qv (fun (_ : Unit) => True) (fun (_ : Unit) (t : State) => ∃ (f2 : Nat → Int32), va_P (dC, dI) vwCl [(h0, .inr (6, [.ref qt, .int 4, .ref qr, .ref qc, .ref qs, .int 0, .ref qn, .ref qp, .int 0, .int 0, .ref qm, .ref qf, .ref qx, .long 1])), (qt, .inl (kt, 1600, .inl f2))] t.heap ∧ va_K (dC, dI) vwCl [] t ∧ va_D (va_A [(h0, .inr (6, [.ref qt, .int 0, .ref qr, .ref qc, .ref qs, .int 0, .ref qn, .ref qp, .int 0, .int 0, .ref qm, .ref qf, .ref qx, .long 1])), (qt, .inl (kt, 1600, .inl f))] sz) [(h0, .inr (6, [.ref qt, .int 4, .ref qr, .ref qc, .ref qs, .int 0, .ref qn, .ref qp, .int 0, .int 0, .ref qm, .ref qf, .ref qx, .long 1])), (qt, .inl (kt, 1600, .inl f2))]) (va_A [(h0, .inr (6, [.ref qt, .int 0, .ref qr, .ref qc, .ref qs, .int 0, .ref qn, .ref qp, .int 0, .int 0, .ref qm, .ref qf, .ref qx, .long 1])), (qt, .inl (kt, 1600, .inl f))] sz)) 0 0 (va_A [(h0, .inr (6, [.ref qt, .int 0, .ref qr, .ref qc, .ref qs, .int 0, .ref qn, .ref qp, .int 0, .int 0, .ref qm, .ref qf, .ref qx, .long 1])), (qt, .inl (kt, 1600, .inl f))] sz) := by
  refine Met.ofW (cc := cX6_layBytes) (maxL := 3) (ret := none) (by decide) rfl ?_
  intro p e s m args below meth c s₁ B hml hv
  obtain ⟨rfl, hsz, hP, hK, hD0, hN⟩ := hv
  have hx := B.exec
  have hb := B.bytes
  have hr := B.returns
  have hts : ∀ w ∈ T0, w.before _ s = true := fun w h => atoms_spec (ws := Cond.code yX6_layBytes cX6_layBytes 3 none :: T0) B.pre w (List.mem_cons_of_mem _ h)
  have hown : s.vm.findClass RX6 = some m.cls := findClass_of_methodNamed B.named
  have hlocks := B.notSynchronized
  subst hsz
  have hD := hD0.self (sz := s.heap.size)
  generalize hAe : va_A [(h0, .inr (6, [.ref qt, .int 0, .ref qr, .ref qc, .ref qs, .int 0, .ref qn, .ref qp, .int 0, .int 0, .ref qm, .ref qf, .ref qx, .long 1])), (qt, .inl (kt, 1600, .inl f))] s.heap.size = A at hD ⊢
  have hA : ∀ q : Nat, s.heap.size ≤ q → A q := fun q h => by rw [← hAe]; exact Or.inr h
  have hS : va_S A s.heap s.heap [] := va_S.rf
  have hP : va_P (dC, dI) vwCl [(h0, .inr (6, [.ref qt, .int 0, .ref qr, .ref qc, .ref qs, .int 0, .ref qn, .ref qp, .int 0, .int 0, .ref qm, .ref qf, .ref qx, .long 1])), (qt, .inl (kt, 1600, .inl f))] s.heap := hP
  have hl := lv_entry ([.ref h0, .int p0]) (n := 3) (Nat.le_of_ble_eq_true rfl)
  rw [lg_entry_eq]
  generalize (lg_sl ([.ref h0, .int p0]) ++ List.replicate (3 - (lg_sl ([.ref h0, .int p0])).length) Slot.unset).toArray = ls at hl ⊢
  refine ax_gen hP hD hS (fun H locs hP hD hS => ?_)
  have hl : lv_has ls 3 [(0, .ref h0), (1, .int p0)] := hl
  refine lv_bipush (v := 24) hx hb dX6_layBytes_0 (by decide) ?_
  refine lv_istore_n (lv' := [(2, .int 24), (0, .ref h0), (1, .int p0)]) hx hb dX6_layBytes_2 rfl hl (by decide) rfl (fun ls hl => ?_)
  refine lv_iload_n hx hb dX6_layBytes_3 rfl (lv_at hl 0 rfl) ?_
  refine lv_if_lt (tgt := 36) hx hb dX6_layBytes_4 (by decide) (fun c => absurd c (by decide)) (fun _ => ?_)
  refine lv_aload_n hx hb dX6_layBytes_7 rfl (lv_at hl 1 rfl) ?_
  refine va_get (D := (dC, dI)) (ci := 6) (v := .ref qt) (C := RX6) (T := TX6) (N := 14) hx hb hts inX6 hown hK hP 0 rfl rfl 0 (by decide) (hts _ T_68) (fun _ h9 => h9) rfl dX6_layBytes_8 ?_
  refine lv_aload_n hx hb dX6_layBytes_11 rfl (lv_at hl 1 rfl) ?_
  refine va_get (D := (dC, dI)) (ci := 6) (v := .int 0) (C := RX6) (T := TX6) (N := 14) hx hb hts inX6 hown hK hP 0 rfl rfl 1 (by decide) (hts _ T_101) (fun _ h9 => h9) rfl dX6_layBytes_12 ?_
  refine lv_iload_n hx hb dX6_layBytes_15 rfl (lv_at hl 2 rfl) ?_
  refine lv_iload_n hx hb dX6_layBytes_16 rfl (lv_at hl 0 rfl) ?_
  refine lv_ishr hx hb dX6_layBytes_17 ?_
  refine lv_topi (fun v1 ev1 => ?_)
  refine lv_i2b hx hb dX6_layBytes_18 rfl ?_
  refine lv_topi (fun v2 ev2 => ?_)
  refine va_bast hx hb hK hP hD hS 1 0 rfl rfl (ax_in (by decide)) dX6_layBytes_19 (fun H locs hP hD hS => ?_)
  have hP : va_P (dC, dI) vwCl [(h0, .inr (6, [.ref qt, .int 0, .ref qr, .ref qc, .ref qs, .int 0, .ref qn, .ref qp, .int 0, .int 0, .ref qm, .ref qf, .ref qx, .long 1])), (qt, .inl (kt, 1600, .inl (upd f (0 : Int32).toNatClampNeg (vp_nar .byte v2))))] H := hP
  have hD : va_D A [(h0, .inr (6, [.ref qt, .int 0, .ref qr, .ref qc, .ref qs, .int 0, .ref qn, .ref qp, .int 0, .int 0, .ref qm, .ref qf, .ref qx, .long 1])), (qt, .inl (kt, 1600, .inl (upd f (0 : Int32).toNatClampNeg (vp_nar .byte v2))))] := hD
  obtain ⟨f3, hP, hD⟩ : ∃ f : Nat → Int32, va_P (dC, dI) vwCl [(h0, .inr (6, [.ref qt, .int 0, .ref qr, .ref qc, .ref qs, .int 0, .ref qn, .ref qp, .int 0, .int 0, .ref qm, .ref qf, .ref qx, .long 1])), (qt, .inl (kt, 1600, .inl f))] H ∧ va_D A [(h0, .inr (6, [.ref qt, .int 0, .ref qr, .ref qc, .ref qs, .int 0, .ref qn, .ref qp, .int 0, .int 0, .ref qm, .ref qf, .ref qx, .long 1])), (qt, .inl (kt, 1600, .inl f))] := ⟨_, hP, hD⟩
  refine lv_aload_n hx hb dX6_layBytes_20 rfl (lv_at hl 1 rfl) ?_
  refine lv_dup hx hb dX6_layBytes_21 rfl ?_
  refine va_get (D := (dC, dI)) (ci := 6) (v := .int 0) (C := RX6) (T := TX6) (N := 14) hx hb hts inX6 hown hK hP 0 rfl rfl 1 (by decide) (hts _ T_101) (fun _ h9 => h9) rfl dX6_layBytes_22 ?_
  refine lv_iconst (v := 1) hx hb dX6_layBytes_25 (by decide) ?_
  refine lv_iadd hx hb dX6_layBytes_26 ?_
  refine ax_eqi (y := 1) (by decide) ?_
  refine va_put (D := (dC, dI)) (ci := 6) (v := .int 1) (ty := .int) (C := RX6) (T := TX6) (N := 14) hx hb hts inX6 tyX6 tyX6_ok nmX6 hown hK hP hD hS 0 rfl rfl 1 (by decide) (hts _ T_101) (fun _ h9 => h9) rfl (by decide +kernel) rfl rfl (Nat.le_of_ble_eq_true rfl) dX6_layBytes_27 (fun H locs hP hD hS => ?_)
  have hP : va_P (dC, dI) vwCl [(h0, .inr (6, [.ref qt, .int 1, .ref qr, .ref qc, .ref qs, .int 0, .ref qn, .ref qp, .int 0, .int 0, .ref qm, .ref qf, .ref qx, .long 1])), (qt, .inl (kt, 1600, .inl f3))] H := hP
  have hD : va_D A [(h0, .inr (6, [.ref qt, .int 1, .ref qr, .ref qc, .ref qs, .int 0, .ref qn, .ref qp, .int 0, .int 0, .ref qm, .ref qf, .ref qx, .long 1])), (qt, .inl (kt, 1600, .inl f3))] := hD
  refine lv_iinc (v := 16) (lv' := [(2, .int 16), (0, .ref h0), (1, .int p0)]) hx hb dX6_layBytes_30 hl (k := 0) rfl (by decide) (by decide) rfl (fun ls hl => ?_)
  refine lv_goto (tgt := 3) hx hb dX6_layBytes_33 (by decide) ?_
  refine lv_iload_n hx hb dX6_layBytes_3 rfl (lv_at hl 0 rfl) ?_
  refine lv_if_lt (tgt := 36) hx hb dX6_layBytes_4 (by decide) (fun c => absurd c (by decide)) (fun _ => ?_)
  refine lv_aload_n hx hb dX6_layBytes_7 rfl (lv_at hl 1 rfl) ?_
  refine va_get (D := (dC, dI)) (ci := 6) (v := .ref qt) (C := RX6) (T := TX6) (N := 14) hx hb hts inX6 hown hK hP 0 rfl rfl 0 (by decide) (hts _ T_68) (fun _ h9 => h9) rfl dX6_layBytes_8 ?_
  refine lv_aload_n hx hb dX6_layBytes_11 rfl (lv_at hl 1 rfl) ?_
  refine va_get (D := (dC, dI)) (ci := 6) (v := .int 1) (C := RX6) (T := TX6) (N := 14) hx hb hts inX6 hown hK hP 0 rfl rfl 1 (by decide) (hts _ T_101) (fun _ h9 => h9) rfl dX6_layBytes_12 ?_
  refine lv_iload_n hx hb dX6_layBytes_15 rfl (lv_at hl 2 rfl) ?_
  refine lv_iload_n hx hb dX6_layBytes_16 rfl (lv_at hl 0 rfl) ?_
  refine lv_ishr hx hb dX6_layBytes_17 ?_
  refine lv_topi (fun v4 ev4 => ?_)
  refine lv_i2b hx hb dX6_layBytes_18 rfl ?_
  refine lv_topi (fun v5 ev5 => ?_)
  refine va_bast hx hb hK hP hD hS 1 0 rfl rfl (ax_in (by decide)) dX6_layBytes_19 (fun H locs hP hD hS => ?_)
  have hP : va_P (dC, dI) vwCl [(h0, .inr (6, [.ref qt, .int 1, .ref qr, .ref qc, .ref qs, .int 0, .ref qn, .ref qp, .int 0, .int 0, .ref qm, .ref qf, .ref qx, .long 1])), (qt, .inl (kt, 1600, .inl (upd f3 (1 : Int32).toNatClampNeg (vp_nar .byte v5))))] H := hP
  have hD : va_D A [(h0, .inr (6, [.ref qt, .int 1, .ref qr, .ref qc, .ref qs, .int 0, .ref qn, .ref qp, .int 0, .int 0, .ref qm, .ref qf, .ref qx, .long 1])), (qt, .inl (kt, 1600, .inl (upd f3 (1 : Int32).toNatClampNeg (vp_nar .byte v5))))] := hD
  obtain ⟨f6, hP, hD⟩ : ∃ f : Nat → Int32, va_P (dC, dI) vwCl [(h0, .inr (6, [.ref qt, .int 1, .ref qr, .ref qc, .ref qs, .int 0, .ref qn, .ref qp, .int 0, .int 0, .ref qm, .ref qf, .ref qx, .long 1])), (qt, .inl (kt, 1600, .inl f))] H ∧ va_D A [(h0, .inr (6, [.ref qt, .int 1, .ref qr, .ref qc, .ref qs, .int 0, .ref qn, .ref qp, .int 0, .int 0, .ref qm, .ref qf, .ref qx, .long 1])), (qt, .inl (kt, 1600, .inl f))] := ⟨_, hP, hD⟩
  refine lv_aload_n hx hb dX6_layBytes_20 rfl (lv_at hl 1 rfl) ?_
  refine lv_dup hx hb dX6_layBytes_21 rfl ?_
  refine va_get (D := (dC, dI)) (ci := 6) (v := .int 1) (C := RX6) (T := TX6) (N := 14) hx hb hts inX6 hown hK hP 0 rfl rfl 1 (by decide) (hts _ T_101) (fun _ h9 => h9) rfl dX6_layBytes_22 ?_
  refine lv_iconst (v := 1) hx hb dX6_layBytes_25 (by decide) ?_
  refine lv_iadd hx hb dX6_layBytes_26 ?_
  refine ax_eqi (y := 2) (by decide) ?_
  refine va_put (D := (dC, dI)) (ci := 6) (v := .int 2) (ty := .int) (C := RX6) (T := TX6) (N := 14) hx hb hts inX6 tyX6 tyX6_ok nmX6 hown hK hP hD hS 0 rfl rfl 1 (by decide) (hts _ T_101) (fun _ h9 => h9) rfl (by decide +kernel) rfl rfl (Nat.le_of_ble_eq_true rfl) dX6_layBytes_27 (fun H locs hP hD hS => ?_)
  have hP : va_P (dC, dI) vwCl [(h0, .inr (6, [.ref qt, .int 2, .ref qr, .ref qc, .ref qs, .int 0, .ref qn, .ref qp, .int 0, .int 0, .ref qm, .ref qf, .ref qx, .long 1])), (qt, .inl (kt, 1600, .inl f6))] H := hP
  have hD : va_D A [(h0, .inr (6, [.ref qt, .int 2, .ref qr, .ref qc, .ref qs, .int 0, .ref qn, .ref qp, .int 0, .int 0, .ref qm, .ref qf, .ref qx, .long 1])), (qt, .inl (kt, 1600, .inl f6))] := hD
  refine lv_iinc (v := 8) (lv' := [(2, .int 8), (0, .ref h0), (1, .int p0)]) hx hb dX6_layBytes_30 hl (k := 0) rfl (by decide) (by decide) rfl (fun ls hl => ?_)
  refine lv_goto (tgt := 3) hx hb dX6_layBytes_33 (by decide) ?_
  refine lv_iload_n hx hb dX6_layBytes_3 rfl (lv_at hl 0 rfl) ?_
  refine lv_if_lt (tgt := 36) hx hb dX6_layBytes_4 (by decide) (fun c => absurd c (by decide)) (fun _ => ?_)
  refine lv_aload_n hx hb dX6_layBytes_7 rfl (lv_at hl 1 rfl) ?_
  refine va_get (D := (dC, dI)) (ci := 6) (v := .ref qt) (C := RX6) (T := TX6) (N := 14) hx hb hts inX6 hown hK hP 0 rfl rfl 0 (by decide) (hts _ T_68) (fun _ h9 => h9) rfl dX6_layBytes_8 ?_
  refine lv_aload_n hx hb dX6_layBytes_11 rfl (lv_at hl 1 rfl) ?_
  refine va_get (D := (dC, dI)) (ci := 6) (v := .int 2) (C := RX6) (T := TX6) (N := 14) hx hb hts inX6 hown hK hP 0 rfl rfl 1 (by decide) (hts _ T_101) (fun _ h9 => h9) rfl dX6_layBytes_12 ?_
  refine lv_iload_n hx hb dX6_layBytes_15 rfl (lv_at hl 2 rfl) ?_
  refine lv_iload_n hx hb dX6_layBytes_16 rfl (lv_at hl 0 rfl) ?_
  refine lv_ishr hx hb dX6_layBytes_17 ?_
  refine lv_topi (fun v7 ev7 => ?_)
  refine lv_i2b hx hb dX6_layBytes_18 rfl ?_
  refine lv_topi (fun v8 ev8 => ?_)
  refine va_bast hx hb hK hP hD hS 1 0 rfl rfl (ax_in (by decide)) dX6_layBytes_19 (fun H locs hP hD hS => ?_)
  have hP : va_P (dC, dI) vwCl [(h0, .inr (6, [.ref qt, .int 2, .ref qr, .ref qc, .ref qs, .int 0, .ref qn, .ref qp, .int 0, .int 0, .ref qm, .ref qf, .ref qx, .long 1])), (qt, .inl (kt, 1600, .inl (upd f6 (2 : Int32).toNatClampNeg (vp_nar .byte v8))))] H := hP
  have hD : va_D A [(h0, .inr (6, [.ref qt, .int 2, .ref qr, .ref qc, .ref qs, .int 0, .ref qn, .ref qp, .int 0, .int 0, .ref qm, .ref qf, .ref qx, .long 1])), (qt, .inl (kt, 1600, .inl (upd f6 (2 : Int32).toNatClampNeg (vp_nar .byte v8))))] := hD
  obtain ⟨f9, hP, hD⟩ : ∃ f : Nat → Int32, va_P (dC, dI) vwCl [(h0, .inr (6, [.ref qt, .int 2, .ref qr, .ref qc, .ref qs, .int 0, .ref qn, .ref qp, .int 0, .int 0, .ref qm, .ref qf, .ref qx, .long 1])), (qt, .inl (kt, 1600, .inl f))] H ∧ va_D A [(h0, .inr (6, [.ref qt, .int 2, .ref qr, .ref qc, .ref qs, .int 0, .ref qn, .ref qp, .int 0, .int 0, .ref qm, .ref qf, .ref qx, .long 1])), (qt, .inl (kt, 1600, .inl f))] := ⟨_, hP, hD⟩
  refine lv_aload_n hx hb dX6_layBytes_20 rfl (lv_at hl 1 rfl) ?_
  refine lv_dup hx hb dX6_layBytes_21 rfl ?_
  refine va_get (D := (dC, dI)) (ci := 6) (v := .int 2) (C := RX6) (T := TX6) (N := 14) hx hb hts inX6 hown hK hP 0 rfl rfl 1 (by decide) (hts _ T_101) (fun _ h9 => h9) rfl dX6_layBytes_22 ?_
  refine lv_iconst (v := 1) hx hb dX6_layBytes_25 (by decide) ?_
  refine lv_iadd hx hb dX6_layBytes_26 ?_
  refine ax_eqi (y := 3) (by decide) ?_
  refine va_put (D := (dC, dI)) (ci := 6) (v := .int 3) (ty := .int) (C := RX6) (T := TX6) (N := 14) hx hb hts inX6 tyX6 tyX6_ok nmX6 hown hK hP hD hS 0 rfl rfl 1 (by decide) (hts _ T_101) (fun _ h9 => h9) rfl (by decide +kernel) rfl rfl (Nat.le_of_ble_eq_true rfl) dX6_layBytes_27 (fun H locs hP hD hS => ?_)
  have hP : va_P (dC, dI) vwCl [(h0, .inr (6, [.ref qt, .int 3, .ref qr, .ref qc, .ref qs, .int 0, .ref qn, .ref qp, .int 0, .int 0, .ref qm, .ref qf, .ref qx, .long 1])), (qt, .inl (kt, 1600, .inl f9))] H := hP
  have hD : va_D A [(h0, .inr (6, [.ref qt, .int 3, .ref qr, .ref qc, .ref qs, .int 0, .ref qn, .ref qp, .int 0, .int 0, .ref qm, .ref qf, .ref qx, .long 1])), (qt, .inl (kt, 1600, .inl f9))] := hD
  refine lv_iinc (v := 0) (lv' := [(2, .int 0), (0, .ref h0), (1, .int p0)]) hx hb dX6_layBytes_30 hl (k := 0) rfl (by decide) (by decide) rfl (fun ls hl => ?_)
  refine lv_goto (tgt := 3) hx hb dX6_layBytes_33 (by decide) ?_
  refine lv_iload_n hx hb dX6_layBytes_3 rfl (lv_at hl 0 rfl) ?_
  refine lv_if_lt (tgt := 36) hx hb dX6_layBytes_4 (by decide) (fun c => absurd c (by decide)) (fun _ => ?_)
  refine lv_aload_n hx hb dX6_layBytes_7 rfl (lv_at hl 1 rfl) ?_
  refine va_get (D := (dC, dI)) (ci := 6) (v := .ref qt) (C := RX6) (T := TX6) (N := 14) hx hb hts inX6 hown hK hP 0 rfl rfl 0 (by decide) (hts _ T_68) (fun _ h9 => h9) rfl dX6_layBytes_8 ?_
  refine lv_aload_n hx hb dX6_layBytes_11 rfl (lv_at hl 1 rfl) ?_
  refine va_get (D := (dC, dI)) (ci := 6) (v := .int 3) (C := RX6) (T := TX6) (N := 14) hx hb hts inX6 hown hK hP 0 rfl rfl 1 (by decide) (hts _ T_101) (fun _ h9 => h9) rfl dX6_layBytes_12 ?_
  refine lv_iload_n hx hb dX6_layBytes_15 rfl (lv_at hl 2 rfl) ?_
  refine lv_iload_n hx hb dX6_layBytes_16 rfl (lv_at hl 0 rfl) ?_
  refine lv_ishr hx hb dX6_layBytes_17 ?_
  refine lv_topi (fun v10 ev10 => ?_)
  refine lv_i2b hx hb dX6_layBytes_18 rfl ?_
  refine lv_topi (fun v11 ev11 => ?_)
  refine va_bast hx hb hK hP hD hS 1 0 rfl rfl (ax_in (by decide)) dX6_layBytes_19 (fun H locs hP hD hS => ?_)
  have hP : va_P (dC, dI) vwCl [(h0, .inr (6, [.ref qt, .int 3, .ref qr, .ref qc, .ref qs, .int 0, .ref qn, .ref qp, .int 0, .int 0, .ref qm, .ref qf, .ref qx, .long 1])), (qt, .inl (kt, 1600, .inl (upd f9 (3 : Int32).toNatClampNeg (vp_nar .byte v11))))] H := hP
  have hD : va_D A [(h0, .inr (6, [.ref qt, .int 3, .ref qr, .ref qc, .ref qs, .int 0, .ref qn, .ref qp, .int 0, .int 0, .ref qm, .ref qf, .ref qx, .long 1])), (qt, .inl (kt, 1600, .inl (upd f9 (3 : Int32).toNatClampNeg (vp_nar .byte v11))))] := hD
  obtain ⟨f12, hP, hD⟩ : ∃ f : Nat → Int32, va_P (dC, dI) vwCl [(h0, .inr (6, [.ref qt, .int 3, .ref qr, .ref qc, .ref qs, .int 0, .ref qn, .ref qp, .int 0, .int 0, .ref qm, .ref qf, .ref qx, .long 1])), (qt, .inl (kt, 1600, .inl f))] H ∧ va_D A [(h0, .inr (6, [.ref qt, .int 3, .ref qr, .ref qc, .ref qs, .int 0, .ref qn, .ref qp, .int 0, .int 0, .ref qm, .ref qf, .ref qx, .long 1])), (qt, .inl (kt, 1600, .inl f))] := ⟨_, hP, hD⟩
  refine lv_aload_n hx hb dX6_layBytes_20 rfl (lv_at hl 1 rfl) ?_
  refine lv_dup hx hb dX6_layBytes_21 rfl ?_
  refine va_get (D := (dC, dI)) (ci := 6) (v := .int 3) (C := RX6) (T := TX6) (N := 14) hx hb hts inX6 hown hK hP 0 rfl rfl 1 (by decide) (hts _ T_101) (fun _ h9 => h9) rfl dX6_layBytes_22 ?_
  refine lv_iconst (v := 1) hx hb dX6_layBytes_25 (by decide) ?_
  refine lv_iadd hx hb dX6_layBytes_26 ?_
  refine ax_eqi (y := 4) (by decide) ?_
  refine va_put (D := (dC, dI)) (ci := 6) (v := .int 4) (ty := .int) (C := RX6) (T := TX6) (N := 14) hx hb hts inX6 tyX6 tyX6_ok nmX6 hown hK hP hD hS 0 rfl rfl 1 (by decide) (hts _ T_101) (fun _ h9 => h9) rfl (by decide +kernel) rfl rfl (Nat.le_of_ble_eq_true rfl) dX6_layBytes_27 (fun H locs hP hD hS => ?_)
  have hP : va_P (dC, dI) vwCl [(h0, .inr (6, [.ref qt, .int 4, .ref qr, .ref qc, .ref qs, .int 0, .ref qn, .ref qp, .int 0, .int 0, .ref qm, .ref qf, .ref qx, .long 1])), (qt, .inl (kt, 1600, .inl f12))] H := hP
  have hD : va_D A [(h0, .inr (6, [.ref qt, .int 4, .ref qr, .ref qc, .ref qs, .int 0, .ref qn, .ref qp, .int 0, .int 0, .ref qm, .ref qf, .ref qx, .long 1])), (qt, .inl (kt, 1600, .inl f12))] := hD
  refine lv_iinc (v := (-8)) (lv' := [(2, .int (-8)), (0, .ref h0), (1, .int p0)]) hx hb dX6_layBytes_30 hl (k := 0) rfl (by decide) (by decide) rfl (fun ls hl => ?_)
  refine lv_goto (tgt := 3) hx hb dX6_layBytes_33 (by decide) ?_
  refine lv_iload_n hx hb dX6_layBytes_3 rfl (lv_at hl 0 rfl) ?_
  refine lv_if_lt (tgt := 36) hx hb dX6_layBytes_4 (by decide) (fun _ => ?_) (fun c => absurd (by decide) c)
  have hP9 := hP.sub (ws' := [(h0, .inr (6, [.ref qt, .int 4, .ref qr, .ref qc, .ref qs, .int 0, .ref qn, .ref qp, .int 0, .int 0, .ref qm, .ref qf, .ref qx, .long 1])), (qt, .inl (kt, 1600, .inl f12))]) [0, 1] rfl
  have hD9 := hD.sub (ws' := [(h0, .inr (6, [.ref qt, .int 4, .ref qr, .ref qc, .ref qs, .int 0, .ref qn, .ref qp, .int 0, .int 0, .ref qm, .ref qf, .ref qx, .long 1])), (qt, .inl (kt, 1600, .inl f12))]) [0, 1] (by decide) rfl
  have hK9 := hK.sub (tys' := []) [] rfl
  exact W.vret hx hb hr (fun t ht hW => ⟨⟨(), rfl, trivial, f12, by rw [ht]; exact hP9, va_K.moved hW.alike hK9, hD9⟩, hS.F ht⟩) hS.2.2 dX6_layBytes_36

set_option maxHeartbeats 4000000 in
set_option maxRecDepth 100000 in
/-- layBytes behind 4 bytes -/
theorem c_X6_layBytes_4 (l : Launch) (dC : Nat → ClassId) (dI : Nat → Nat → Nat) (sz : Nat) (h0 : Nat) (qt : Nat) (qr : Nat) (qc : Nat) (qs : Nat) (qn : Nat) (qp : Nat) (qm : Nat) (qf : Nat) (qx : Nat) (kt : ClassId) (f : Nat → Int32) (p0 : Int32) : Met l yX6_layBytes (Cond.code yX6_layBytes cX6_layBytes 3 none :: T0) ({ frames := 0, cells := 0, slots := 0, locals := 0 }) (va_Pc [.ref h0, .int p0] (ax_W dC dI sz [(h0, .inr (6, [.ref qt, .int 4, .ref qr, .ref qc, .ref qs, .int 0, .ref qn, .ref qp, .int 0, .int 0, .ref qm, .ref qf, .ref qx, .long 1])), (qt, .inl (kt, 1600, .inl f))] [(kt, .byte)])) (va_Qv (fun (_ : Unit) => True) (fun (_ : Unit) (t : State) => ∃ (f2 : Nat → Int32), va_P (dC, dI) vwCl [(h0, .inr (6, [.ref qt, .int 8, .ref qr, .ref qc, .ref qs, .int 0, .ref qn, .ref qp, .int 0, .int 0, .ref qm, .ref qf, .ref qx, .long 1])), (qt, .inl (kt, 1600, .inl f2))] t.heap ∧ va_K (dC, dI) vwCl [] t ∧ va_D (va_A [(h0, .inr (6, [.ref qt, .int 4, .ref qr, .ref qc, .ref qs, .int 0, .ref qn, .ref qp, .int 0, .int 0, .ref qm, .ref qf, .ref qx, .long 1])), (qt, .inl (kt, 1600, .inl f))] sz) [(h0, .inr (6, [.ref qt, .int 8, .ref qr, .ref qc, .ref qs, .int 0, .ref qn, .ref qp, .int 0, .int 0, .ref qm, .ref qf, .ref qx, .long 1])), (qt, .inl (kt, 1600, .inl f2))]) (va_A [(h0, .inr (6, [.ref qt, .int 4, .ref qr, .ref qc, .ref qs, .int 0, .ref qn, .ref qp, .int 0, .int 0, .ref qm, .ref qf, .ref qx, .long 1])), (qt, .inl (kt, 1600, .inl f))] sz)) 0 0 (va_A [(h0, .inr (6, [.ref qt, .int 4, .ref qr, .ref qc, .ref qs, .int 0, .ref qn, .ref qp, .int 0, .int 0, .ref qm, .ref qf, .ref qx, .long 1])), (qt, .inl (kt, 1600, .inl f))] sz) := by
  refine Met.ofW (cc := cX6_layBytes) (maxL := 3) (ret := none) (by decide) rfl ?_
  intro p e s m args below meth c s₁ B hml hv
  obtain ⟨rfl, hsz, hP, hK, hD0, hN⟩ := hv
  have hx := B.exec
  have hb := B.bytes
  have hr := B.returns
  have hts : ∀ w ∈ T0, w.before _ s = true := fun w h => atoms_spec (ws := Cond.code yX6_layBytes cX6_layBytes 3 none :: T0) B.pre w (List.mem_cons_of_mem _ h)
  have hown : s.vm.findClass RX6 = some m.cls := findClass_of_methodNamed B.named
  have hlocks := B.notSynchronized
  subst hsz
  have hD := hD0.self (sz := s.heap.size)
  generalize hAe : va_A [(h0, .inr (6, [.ref qt, .int 4, .ref qr, .ref qc, .ref qs, .int 0, .ref qn, .ref qp, .int 0, .int 0, .ref qm, .ref qf, .ref qx, .long 1])), (qt, .inl (kt, 1600, .inl f))] s.heap.size = A at hD ⊢
  have hA : ∀ q : Nat, s.heap.size ≤ q → A q := fun q h => by rw [← hAe]; exact Or.inr h
  have hS : va_S A s.heap s.heap [] := va_S.rf
  have hP : va_P (dC, dI) vwCl [(h0, .inr (6, [.ref qt, .int 4, .ref qr, .ref qc, .ref qs, .int 0, .ref qn, .ref qp, .int 0, .int 0, .ref qm, .ref qf, .ref qx, .long 1])), (qt, .inl (kt, 1600, .inl f))] s.heap := hP
  have hl := lv_entry ([.ref h0, .int p0]) (n := 3) (Nat.le_of_ble_eq_true rfl)
  rw [lg_entry_eq]
  generalize (lg_sl ([.ref h0, .int p0]) ++ List.replicate (3 - (lg_sl ([.ref h0, .int p0])).length) Slot.unset).toArray = ls at hl ⊢
  refine ax_gen hP hD hS (fun H locs hP hD hS => ?_)
  have hl : lv_has ls 3 [(0, .ref h0), (1, .int p0)] := hl
  refine lv_bipush (v := 24) hx hb dX6_layBytes_0 (by decide) ?_
  refine lv_istore_n (lv' := [(2, .int 24), (0, .ref h0), (1, .int p0)]) hx hb dX6_layBytes_2 rfl hl (by decide) rfl (fun ls hl => ?_)
  refine lv_iload_n hx hb dX6_layBytes_3 rfl (lv_at hl 0 rfl) ?_
  refine lv_if_lt (tgt := 36) hx hb dX6_layBytes_4 (by decide) (fun c => absurd c (by decide)) (fun _ => ?_)
  refine lv_aload_n hx hb dX6_layBytes_7 rfl (lv_at hl 1 rfl) ?_
  refine va_get (D := (dC, dI)) (ci := 6) (v := .ref qt) (C := RX6) (T := TX6) (N := 14) hx hb hts inX6 hown hK hP 0 rfl rfl 0 (by decide) (hts _ T_68) (fun _ h9 => h9) rfl dX6_layBytes_8 ?_
  refine lv_aload_n hx hb dX6_layBytes_11 rfl (lv_at hl 1 rfl) ?_
  refine va_get (D := (dC, dI)) (ci := 6) (v := .int 4) (C := RX6) (T := TX6) (N := 14) hx hb hts inX6 hown hK hP 0 rfl rfl 1 (by decide) (hts _ T_101) (fun _ h9 => h9) rfl dX6_layBytes_12 ?_
  refine lv_iload_n hx hb dX6_layBytes_15 rfl (lv_at hl 2 rfl) ?_
  refine lv_iload_n hx hb dX6_layBytes_16 rfl (lv_at hl 0 rfl) ?_
  refine lv_ishr hx hb dX6_layBytes_17 ?_
  refine lv_topi (fun v1 ev1 => ?_)
  refine lv_i2b hx hb dX6_layBytes_18 rfl ?_
  refine lv_topi (fun v2 ev2 => ?_)
  refine va_bast hx hb hK hP hD hS 1 0 rfl rfl (ax_in (by decide)) dX6_layBytes_19 (fun H locs hP hD hS => ?_)
  have hP : va_P (dC, dI) vwCl [(h0, .inr (6, [.ref qt, .int 4, .ref qr, .ref qc, .ref qs, .int 0, .ref qn, .ref qp, .int 0, .int 0, .ref qm, .ref qf, .ref qx, .long 1])), (qt, .inl (kt, 1600, .inl (upd f (4 : Int32).toNatClampNeg (vp_nar .byte v2))))] H := hP
  have hD : va_D A [(h0, .inr (6, [.ref qt, .int 4, .ref qr, .ref qc, .ref qs, .int 0, .ref qn, .ref qp, .int 0, .int 0, .ref qm, .ref qf, .ref qx, .long 1])), (qt, .inl (kt, 1600, .inl (upd f (4 : Int32).toNatClampNeg (vp_nar .byte v2))))] := hD
  obtain ⟨f3, hP, hD⟩ : ∃ f : Nat → Int32, va_P (dC, dI) vwCl [(h0, .inr (6, [.ref qt, .int 4, .ref qr, .ref qc, .ref qs, .int 0, .ref qn, .ref qp, .int 0, .int 0, .ref qm, .ref qf, .ref qx, .long 1])), (qt, .inl (kt, 1600, .inl f))] H ∧ va_D A [(h0, .inr (6, [.ref qt, .int 4, .ref qr, .ref qc, .ref qs, .int 0, .ref qn, .ref qp, .int 0, .int 0, .ref qm, .ref qf, .ref qx, .long 1])), (qt, .inl (kt, 1600, .inl f))] := ⟨_, hP, hD⟩
  refine lv_aload_n hx hb dX6_layBytes_20 rfl (lv_at hl 1 rfl) ?_
  refine lv_dup hx hb dX6_layBytes_21 rfl ?_
  refine va_get (D := (dC, dI)) (ci := 6) (v := .int 4) (C := RX6) (T := TX6) (N := 14) hx hb hts inX6 hown hK hP 0 rfl rfl 1 (by decide) (hts _ T_101) (fun _ h9 => h9) rfl dX6_layBytes_22 ?_
  refine lv_iconst (v := 1) hx hb dX6_layBytes_25 (by decide) ?_
  refine lv_iadd hx hb dX6_layBytes_26 ?_
  refine ax_eqi (y := 5) (by decide) ?_
  refine va_put (D := (dC, dI)) (ci := 6) (v := .int 5) (ty := .int) (C := RX6) (T := TX6) (N := 14) hx hb hts inX6 tyX6 tyX6_ok nmX6 hown hK hP hD hS 0 rfl rfl 1 (by decide) (hts _ T_101) (fun _ h9 => h9) rfl (by decide +kernel) rfl rfl (Nat.le_of_ble_eq_true rfl) dX6_layBytes_27 (fun H locs hP hD hS => ?_)
  have hP : va_P (dC, dI) vwCl [(h0, .inr (6, [.ref qt, .int 5, .ref qr, .ref qc, .ref qs, .int 0, .ref qn, .ref qp, .int 0, .int 0, .ref qm, .ref qf, .ref qx, .long 1])), (qt, .inl (kt, 1600, .inl f3))] H := hP
  have hD : va_D A [(h0, .inr (6, [.ref qt, .int 5, .ref qr, .ref qc, .ref qs, .int 0, .ref qn, .ref qp, .int 0, .int 0, .ref qm, .ref qf, .ref qx, .long 1])), (qt, .inl (kt, 1600, .inl f3))] := hD
  refine lv_iinc (v := 16) (lv' := [(2, .int 16), (0, .ref h0), (1, .int p0)]) hx hb dX6_layBytes_30 hl (k := 0) rfl (by decide) (by decide) rfl (fun ls hl => ?_)
  refine lv_goto (tgt := 3) hx hb dX6_layBytes_33 (by decide) ?_
  refine lv_iload_n hx hb dX6_layBytes_3 rfl (lv_at hl 0 rfl) ?_
  refine lv_if_lt (tgt := 36) hx hb dX6_layBytes_4 (by decide) (fun c => absurd c (by decide)) (fun _ => ?_)
  refine lv_aload_n hx hb dX6_layBytes_7 rfl (lv_at hl 1 rfl) ?_
  refine va_get (D := (dC, dI)) (ci := 6) (v := .ref qt) (C := RX6) (T := TX6) (N := 14) hx hb hts inX6 hown hK hP 0 rfl rfl 0 (by decide) (hts _ T_68) (fun _ h9 => h9) rfl dX6_layBytes_8 ?_
  refine lv_aload_n hx hb dX6_layBytes_11 rfl (lv_at hl 1 rfl) ?_
  refine va_get (D := (dC, dI)) (ci := 6) (v := .int 5) (C := RX6) (T := TX6) (N := 14) hx hb hts inX6 hown hK hP 0 rfl rfl 1 (by decide) (hts _ T_101) (fun _ h9 => h9) rfl dX6_layBytes_12 ?_
  refine lv_iload_n hx hb dX6_layBytes_15 rfl (lv_at hl 2 rfl) ?_
  refine lv_iload_n hx hb dX6_layBytes_16 rfl (lv_at hl 0 rfl) ?_
  refine lv_ishr hx hb dX6_layBytes_17 ?_
  refine lv_topi (fun v4 ev4 => ?_)
  refine lv_i2b hx hb dX6_layBytes_18 rfl ?_
  refine lv_topi (fun v5 ev5 => ?_)
  refine va_bast hx hb hK hP hD hS 1 0 rfl rfl (ax_in (by decide)) dX6_layBytes_19 (fun H locs hP hD hS => ?_)
  have hP : va_P (dC, dI) vwCl [(h0, .inr (6, [.ref qt, .int 5, .ref qr, .ref qc, .ref qs, .int 0, .ref qn, .ref qp, .int 0, .int 0, .ref qm, .ref qf, .ref qx, .long 1])), (qt, .inl (kt, 1600, .inl (upd f3 (5 : Int32).toNatClampNeg (vp_nar .byte v5))))] H := hP
  have hD : va_D A [(h0, .inr (6, [.ref qt, .int 5, .ref qr, .ref qc, .ref qs, .int 0, .ref qn, .ref qp, .int 0, .int 0, .ref qm, .ref qf, .ref qx, .long 1])), (qt, .inl (kt, 1600, .inl (upd f3 (5 : Int32).toNatClampNeg (vp_nar .byte v5))))] := hD
  obtain ⟨f6, hP, hD⟩ : ∃ f : Nat → Int32, va_P (dC, dI) vwCl [(h0, .inr (6, [.ref qt, .int 5, .ref qr, .ref qc, .ref qs, .int 0, .ref qn, .ref qp, .int 0, .int 0, .ref qm, .ref qf, .ref qx, .long 1])), (qt, .inl (kt, 1600, .inl f))] H ∧ va_D A [(h0, .inr (6, [.ref qt, .int 5, .ref qr, .ref qc, .ref qs, .int 0, .ref qn, .ref qp, .int 0, .int 0, .ref qm, .ref qf, .ref qx, .long 1])), (qt, .inl (kt, 1600, .inl f))] := ⟨_, hP, hD⟩
  refine lv_aload_n hx hb dX6_layBytes_20 rfl (lv_at hl 1 rfl) ?_
  refine lv_dup hx hb dX6_layBytes_21 rfl ?_
  refine va_get (D := (dC, dI)) (ci := 6) (v := .int 5) (C := RX6) (T := TX6) (N := 14) hx hb hts inX6 hown hK hP 0 rfl rfl 1 (by decide) (hts _ T_101) (fun _ h9 => h9) rfl dX6_layBytes_22 ?_
  refine lv_iconst (v := 1) hx hb dX6_layBytes_25 (by decide) ?_
  refine lv_iadd hx hb dX6_layBytes_26 ?_
  refine ax_eqi (y := 6) (by decide) ?_
  refine va_put (D := (dC, dI)) (ci := 6) (v := .int 6) (ty := .int) (C := RX6) (T := TX6) (N := 14) hx hb hts inX6 tyX6 tyX6_ok nmX6 hown hK hP hD hS 0 rfl rfl 1 (by decide) (hts _ T_101) (fun _ h9 => h9) rfl (by decide +kernel) rfl rfl (Nat.le_of_ble_eq_true rfl) dX6_layBytes_27 (fun H locs hP hD hS => ?_)
  have hP : va_P (dC, dI) vwCl [(h0, .inr (6, [.ref qt, .int 6, .ref qr, .ref qc, .ref qs, .int 0, .ref qn, .ref qp, .int 0, .int 0, .ref qm, .ref qf, .ref qx, .long 1])), (qt, .inl (kt, 1600, .inl f6))] H := hP
  have hD : va_D A [(h0, .inr (6, [.ref qt, .int 6, .ref qr, .ref qc, .ref qs, .int 0, .ref qn, .ref qp, .int 0, .int 0, .ref qm, .ref qf, .ref qx, .long 1])), (qt, .inl (kt, 1600, .inl f6))] := hD
  refine lv_iinc (v := 8) (lv' := [(2, .int 8), (0, .ref h0), (1, .int p0)]) hx hb dX6_layBytes_30 hl (k := 0) rfl (by decide) (by decide) rfl (fun ls hl => ?_)
  refine lv_goto (tgt := 3) hx hb dX6_layBytes_33 (by decide) ?_
  refine lv_iload_n hx hb dX6_layBytes_3 rfl (lv_at hl 0 rfl) ?_
  refine lv_if_lt (tgt := 36) hx hb dX6_layBytes_4 (by decide) (fun c => absurd c (by decide)) (fun _ => ?_)
  refine lv_aload_n hx hb dX6_layBytes_7 rfl (lv_at hl 1 rfl) ?_
  refine va_get (D := (dC, dI)) (ci := 6) (v := .ref qt) (C := RX6) (T := TX6) (N := 14) hx hb hts inX6 hown hK hP 0 rfl rfl 0 (by decide) (hts _ T_68) (fun _ h9 => h9) rfl dX6_layBytes_8 ?_
  refine lv_aload_n hx hb dX6_layBytes_11 rfl (lv_at hl 1 rfl) ?_
  refine va_get (D := (dC, dI)) (ci := 6) (v := .int 6) (C := RX6) (T := TX6) (N := 14) hx hb hts inX6 hown hK hP 0 rfl rfl 1 (by decide) (hts _ T_101) (fun _ h9 => h9) rfl dX6_layBytes_12 ?_
  refine lv_iload_n hx hb dX6_layBytes_15 rfl (lv_at hl 2 rfl) ?_
  refine lv_iload_n hx hb dX6_layBytes_16 rfl (lv_at hl 0 rfl) ?_
  refine lv_ishr hx hb dX6_layBytes_17 ?_
  refine lv_topi (fun v7 ev7 => ?_)
  refine lv_i2b hx hb dX6_layBytes_18 rfl ?_
  refine lv_topi (fun v8 ev8 => ?_)
  refine va_bast hx hb hK hP hD hS 1 0 rfl rfl (ax_in (by decide)) dX6_layBytes_19 (fun H locs hP hD hS => ?_)
  have hP : va_P (dC, dI) vwCl [(h0, .inr (6, [.ref qt, .int 6, .ref qr, .ref qc, .ref qs, .int 0, .ref qn, .ref qp, .int 0, .int 0, .ref qm, .ref qf, .ref qx, .long 1])), (qt, .inl (kt, 1600, .inl (upd f6 (6 : Int32).toNatClampNeg (vp_nar .byte v8))))] H := hP
  have hD : va_D A [(h0, .inr (6, [.ref qt, .int 6, .ref qr, .ref qc, .ref qs, .int 0, .ref qn, .ref qp, .int 0, .int 0, .ref qm, .ref qf, .ref qx, .long 1])), (qt, .inl (kt, 1600, .inl (upd f6 (6 : Int32).toNatClampNeg (vp_nar .byte v8))))] := hD
  obtain ⟨f9, hP, hD⟩ : ∃ f : Nat → Int32, va_P (dC, dI) vwCl [(h0, .inr (6, [.ref qt, .int 6, .ref qr, .ref qc, .ref qs, .int 0, .ref qn, .ref qp, .int 0, .int 0, .ref qm, .ref qf, .ref qx, .long 1])), (qt, .inl (kt, 1600, .inl f))] H ∧ va_D A [(h0, .inr (6, [.ref qt, .int 6, .ref qr, .ref qc, .ref qs, .int 0, .ref qn, .ref qp, .int 0, .int 0, .ref qm, .ref qf, .ref qx, .long 1])), (qt, .inl (kt, 1600, .inl f))] := ⟨_, hP, hD⟩
  refine lv_aload_n hx hb dX6_layBytes_20 rfl (lv_at hl 1 rfl) ?_
  refine lv_dup hx hb dX6_layBytes_21 rfl ?_
  refine va_get (D := (dC, dI)) (ci := 6) (v := .int 6) (C := RX6) (T := TX6) (N := 14) hx hb hts inX6 hown hK hP 0 rfl rfl 1 (by decide) (hts _ T_101) (fun _ h9 => h9) rfl dX6_layBytes_22 ?_
  refine lv_iconst (v := 1) hx hb dX6_layBytes_25 (by decide) ?_
  refine lv_iadd hx hb dX6_layBytes_26 ?_
  refine ax_eqi (y := 7) (by decide) ?_
  refine va_put (D := (dC, dI)) (ci := 6) (v := .int 7) (ty := .int) (C := RX6) (T := TX6) (N := 14) hx hb hts inX6 tyX6 tyX6_ok nmX6 hown hK hP hD hS 0 rfl rfl 1 (by decide) (hts _ T_101) (fun _ h9 => h9) rfl (by decide +kernel) rfl rfl (Nat.le_of_ble_eq_true rfl) dX6_layBytes_27 (fun H locs hP hD hS => ?_)
  have hP : va_P (dC, dI) vwCl [(h0, .inr (6, [.ref qt, .int 7, .ref qr, .ref qc, .ref qs, .int 0, .ref qn, .ref qp, .int 0, .int 0, .ref qm, .ref qf, .ref qx, .long 1])), (qt, .inl (kt, 1600, .inl f9))] H := hP
  have hD : va_D A [(h0, .inr (6, [.ref qt, .int 7, .ref qr, .ref qc, .ref qs, .int 0, .ref qn, .ref qp, .int 0, .int 0, .ref qm, .ref qf, .ref qx, .long 1])), (qt, .inl (kt, 1600, .inl f9))] := hD
  refine lv_iinc (v := 0) (lv' := [(2, .int 0), (0, .ref h0), (1, .int p0)]) hx hb dX6_layBytes_30 hl (k := 0) rfl (by decide) (by decide) rfl (fun ls hl => ?_)
  refine lv_goto (tgt := 3) hx hb dX6_layBytes_33 (by decide) ?_
  refine lv_iload_n hx hb dX6_layBytes_3 rfl (lv_at hl 0 rfl) ?_
  refine lv_if_lt (tgt := 36) hx hb dX6_layBytes_4 (by decide) (fun c => absurd c (by decide)) (fun _ => ?_)
  refine lv_aload_n hx hb dX6_layBytes_7 rfl (lv_at hl 1 rfl) ?_
  refine va_get (D := (dC, dI)) (ci := 6) (v := .ref qt) (C := RX6) (T := TX6) (N := 14) hx hb hts inX6 hown hK hP 0 rfl rfl 0 (by decide) (hts _ T_68) (fun _ h9 => h9) rfl dX6_layBytes_8 ?_
  refine lv_aload_n hx hb dX6_layBytes_11 rfl (lv_at hl 1 rfl) ?_
  refine va_get (D := (dC, dI)) (ci := 6) (v := .int 7) (C := RX6) (T := TX6) (N := 14) hx hb hts inX6 hown hK hP 0 rfl rfl 1 (by decide) (hts _ T_101) (fun _ h9 => h9) rfl dX6_layBytes_12 ?_
  refine lv_iload_n hx hb dX6_layBytes_15 rfl (lv_at hl 2 rfl) ?_
  refine lv_iload_n hx hb dX6_layBytes_16 rfl (lv_at hl 0 rfl) ?_
  refine lv_ishr hx hb dX6_layBytes_17 ?_
  refine lv_topi (fun v10 ev10 => ?_)
  refine lv_i2b hx hb dX6_layBytes_18 rfl ?_
  refine lv_topi (fun v11 ev11 => ?_)
  refine va_bast hx hb hK hP hD hS 1 0 rfl rfl (ax_in (by decide)) dX6_layBytes_19 (fun H locs hP hD hS => ?_)
  have hP : va_P (dC, dI) vwCl [(h0, .inr (6, [.ref qt, .int 7, .ref qr, .ref qc, .ref qs, .int 0, .ref qn, .ref qp, .int 0, .int 0, .ref qm, .ref qf, .ref qx, .long 1])), (qt, .inl (kt, 1600, .inl (upd f9 (7 : Int32).toNatClampNeg (vp_nar .byte v11))))] H := hP
  have hD : va_D A [(h0, .inr (6, [.ref qt, .int 7, .ref qr, .ref qc, .ref qs, .int 0, .ref qn, .ref qp, .int 0, .int 0, .ref qm, .ref qf, .ref qx, .long 1])), (qt, .inl (kt, 1600, .inl (upd f9 (7 : Int32).toNatClampNeg (vp_nar .byte v11))))] := hD
  obtain ⟨f12, hP, hD⟩ : ∃ f : Nat → Int32, va_P (dC, dI) vwCl [(h0, .inr (6, [.ref qt, .int 7, .ref qr, .ref qc, .ref qs, .int 0, .ref qn, .ref qp, .int 0, .int 0, .ref qm, .ref qf, .ref qx, .long 1])), (qt, .inl (kt, 1600, .inl f))] H ∧ va_D A [(h0, .inr (6, [.ref qt, .int 7, .ref qr, .ref qc, .ref qs, .int 0, .ref qn, .ref qp, .int 0, .int 0, .ref qm, .ref qf, .ref qx, .long 1])), (qt, .inl (kt, 1600, .inl f))] := ⟨_, hP, hD⟩
  refine lv_aload_n hx hb dX6_layBytes_20 rfl (lv_at hl 1 rfl) ?_
  refine lv_dup hx hb dX6_layBytes_21 rfl ?_
  refine va_get (D := (dC, dI)) (ci := 6) (v := .int 7) (C := RX6) (T := TX6) (N := 14) hx hb hts inX6 hown hK hP 0 rfl rfl 1 (by decide) (hts _ T_101) (fun _ h9 => h9) rfl dX6_layBytes_22 ?_
  refine lv_iconst (v := 1) hx hb dX6_layBytes_25 (by decide) ?_
  refine lv_iadd hx hb dX6_layBytes_26 ?_
  refine ax_eqi (y := 8) (by decide) ?_
  refine va_put (D := (dC, dI)) (ci := 6) (v := .int 8) (ty := .int) (C := RX6) (T := TX6) (N := 14) hx hb hts inX6 tyX6 tyX6_ok nmX6 hown hK hP hD hS 0 rfl rfl 1 (by decide) (hts _ T_101) (fun _ h9 => h9) rfl (by decide +kernel) rfl rfl (Nat.le_of_ble_eq_true rfl) dX6_layBytes_27 (fun H locs hP hD hS => ?_)
  have hP : va_P (dC, dI) vwCl [(h0, .inr (6, [.ref qt, .int 8, .ref qr, .ref qc, .ref qs, .int 0, .ref qn, .ref qp, .int 0, .int 0, .ref qm, .ref qf, .ref qx, .long 1])), (qt, .inl (kt, 1600, .inl f12))] H := hP
  have hD : va_D A [(h0, .inr (6, [.ref qt, .int 8, .ref qr, .ref qc, .ref qs, .int 0, .ref qn, .ref qp, .int 0, .int 0, .ref qm, .ref qf, .ref qx, .long 1])), (qt, .inl (kt, 1600, .inl f12))] := hD
  refine lv_iinc (v := (-8)) (lv' := [(2, .int (-8)), (0, .ref h0), (1, .int p0)]) hx hb dX6_layBytes_30 hl (k := 0) rfl (by decide) (by decide) rfl (fun ls hl => ?_)
  refine lv_goto (tgt := 3) hx hb dX6_layBytes_33 (by decide) ?_
  refine lv_iload_n hx hb dX6_layBytes_3 rfl (lv_at hl 0 rfl) ?_
  refine lv_if_lt (tgt := 36) hx hb dX6_layBytes_4 (by decide) (fun _ => ?_) (fun c => absurd (by decide) c)
  have hP9 := hP.sub (ws' := [(h0, .inr (6, [.ref qt, .int 8, .ref qr, .ref qc, .ref qs, .int 0, .ref qn, .ref qp, .int 0, .int 0, .ref qm, .ref qf, .ref qx, .long 1])), (qt, .inl (kt, 1600, .inl f12))]) [0, 1] rfl
  have hD9 := hD.sub (ws' := [(h0, .inr (6, [.ref qt, .int 8, .ref qr, .ref qc, .ref qs, .int 0, .ref qn, .ref qp, .int 0, .int 0, .ref qm, .ref qf, .ref qx, .long 1])), (qt, .inl (kt, 1600, .inl f12))]) [0, 1] (by decide) rfl
  have hK9 := hK.sub (tys' := []) [] rfl
  exact W.vret hx hb hr (fun t ht hW => ⟨⟨(), rfl, trivial, f12, by rw [ht]; exact hP9, va_K.moved hW.alike hK9, hD9⟩, hS.F ht⟩) hS.2.2 dX6_layBytes_36

set_option maxHeartbeats 4000000 in
set_option maxRecDepth 100000 in
/-- layBytes behind 8 bytes -/
theorem c_X6_layBytes_8 (l : Launch) (dC : Nat → ClassId) (dI : Nat → Nat → Nat) (sz : Nat) (h0 : Nat) (qt : Nat) (qr : Nat) (qc : Nat) (qs : Nat) (qn : Nat) (qp : Nat) (qm : Nat) (qf : Nat) (qx : Nat) (kt : ClassId) (f : Nat → Int32) (p0 : Int32) : Met l yX6_layBytes (Cond.code yX6_layBytes cX6_layBytes 3 none :: T0) ({ frames := 0, cells := 0, slots := 0, locals := 0 }) (va_Pc [.ref h0, .int p0] (ax_W dC dI sz [(h0, .inr (6, [.ref qt, .int 8, .ref qr, .ref qc, .ref qs, .int 0, .ref qn, .ref qp, .int 0, .int 0, .ref qm, .ref qf, .ref qx, .long 1])), (qt, .inl (kt, 1600, .inl f))] [(kt, .byte)])) (va_Qv (fun (_ : Unit) => True) (fun (_ : Unit) (t : State) => ∃ (f2 : Nat → Int32), va_P (dC, dI) vwCl [(h0, .inr (6, [.ref qt, .int 12, .ref qr, .ref qc, .ref qs, .int 0, .ref qn, .ref qp, .int 0, .int 0, .ref qm, .ref qf, .ref qx, .long 1])), (qt, .inl (kt, 1600, .inl f2))] t.heap ∧ va_K (dC, dI) vwCl [] t ∧ va_D (va_A [(h0, .inr (6, [.ref qt, .int 8, .ref qr, .ref qc, .ref qs, .int 0, .ref qn, .ref qp, .int 0, .int 0, .ref qm, .ref qf, .ref qx, .long 1])), (qt, .inl (kt, 1600, .inl f))] sz) [(h0, .inr (6, [.ref qt, .int 12, .ref qr, .ref qc, .ref qs, .int 0, .ref qn, .ref qp, .int 0, .int 0, .ref qm, .ref qf, .ref qx, .long 1])), (qt, .inl (kt, 1600, .inl f2))]) (va_A [(h0, .inr (6, [.ref qt, .int 8, .ref qr, .ref qc, .ref qs, .int 0, .ref qn, .ref qp, .int 0, .int 0, .ref qm, .ref qf, .ref qx, .long 1])), (qt, .inl (kt, 1600, .inl f))] sz)) 0 0 (va_A [(h0, .inr (6, [.ref qt, .int 8, .ref qr, .ref qc, .ref qs, .int 0, .ref qn, .ref qp, .int 0, .int 0, .ref qm, .ref qf, .ref qx, .long 1])), (qt, .inl (kt, 1600, .inl f))] sz) := by
  refine Met.ofW (cc := cX6_layBytes) (maxL := 3) (ret := none) (by decide) rfl ?_
  intro p e s m args below meth c s₁ B hml hv
  obtain ⟨rfl, hsz, hP, hK, hD0, hN⟩ := hv
  have hx := B.exec
  have hb := B.bytes
  have hr := B.returns
  have hts : ∀ w ∈ T0, w.before _ s = true := fun w h => atoms_spec (ws := Cond.code yX6_layBytes cX6_layBytes 3 none :: T0) B.pre w (List.mem_cons_of_mem _ h)
  have hown : s.vm.findClass RX6 = some m.cls := findClass_of_methodNamed B.named
  have hlocks := B.notSynchronized
  subst hsz
  have hD := hD0.self (sz := s.heap.size)
  generalize hAe : va_A [(h0, .inr (6, [.ref qt, .int 8, .ref qr, .ref qc, .ref qs, .int 0, .ref qn, .ref qp, .int 0, .int 0, .ref qm, .ref qf, .ref qx, .long 1])), (qt, .inl (kt, 1600, .inl f))] s.heap.size = A at hD ⊢
  have hA : ∀ q : Nat, s.heap.size ≤ q → A q := fun q h => by rw [← hAe]; exact Or.inr h
  have hS : va_S A s.heap s.heap [] := va_S.rf
  have hP : va_P (dC, dI) vwCl [(h0, .inr (6, [.ref qt, .int 8, .ref qr, .ref qc, .ref qs, .int 0, .ref qn, .ref qp, .int 0, .int 0, .ref qm, .ref qf, .ref qx, .long 1])), (qt, .inl (kt, 1600, .inl f))] s.heap := hP
  have hl := lv_entry ([.ref h0, .int p0]) (n := 3) (Nat.le_of_ble_eq_true rfl)
  rw [lg_entry_eq]
  generalize (lg_sl ([.ref h0, .int p0]) ++ List.replicate (3 - (lg_sl ([.ref h0, .int p0])).length) Slot.unset).toArray = ls at hl ⊢
  refine ax_gen hP hD hS (fun H locs hP hD hS => ?_)
  have hl : lv_has ls 3 [(0, .ref h0), (1, .int p0)] := hl
  refine lv_bipush (v := 24) hx hb dX6_layBytes_0 (by decide) ?_
  refine lv_istore_n (lv' := [(2, .int 24), (0, .ref h0), (1, .int p0)]) hx hb dX6_layBytes_2 rfl hl (by decide) rfl (fun ls hl => ?_)
  refine lv_iload_n hx hb dX6_layBytes_3 rfl (lv_at hl 0 rfl) ?_
  refine lv_if_lt (tgt := 36) hx hb dX6_layBytes_4 (by decide) (fun c => absurd c (by decide)) (fun _ => ?_)
  refine lv_aload_n hx hb dX6_layBytes_7 rfl (lv_at hl 1 rfl) ?_
  refine va_get (D := (dC, dI)) (ci := 6) (v := .ref qt) (C := RX6) (T := TX6) (N := 14) hx hb hts inX6 hown hK hP 0 rfl rfl 0 (by decide) (hts _ T_68) (fun _ h9 => h9) rfl dX6_layBytes_8 ?_
  refine lv_aload_n hx hb dX6_layBytes_11 rfl (lv_at hl 1 rfl) ?_
  refine va_get (D := (dC, dI)) (ci := 6) (v := .int 8) (C := RX6) (T := TX6) (N := 14) hx hb hts inX6 hown hK hP 0 rfl rfl 1 (by decide) (hts _ T_101) (fun _ h9 => h9) rfl dX6_layBytes_12 ?_
  refine lv_iload_n hx hb dX6_layBytes_15 rfl (lv_at hl 2 rfl) ?_
  refine lv_iload_n hx hb dX6_layBytes_16 rfl (lv_at hl 0 rfl) ?_
  refine lv_ishr hx hb dX6_layBytes_17 ?_
  refine lv_topi (fun v1 ev1 => ?_)
  refine lv_i2b hx hb dX6_layBytes_18 rfl ?_
  refine lv_topi (fun v2 ev2 => ?_)
  refine va_bast hx hb hK hP hD hS 1 0 rfl rfl (ax_in (by decide)) dX6_layBytes_19 (fun H locs hP hD hS => ?_)
  have hP : va_P (dC, dI) vwCl [(h0, .inr (6, [.ref qt, .int 8, .ref qr, .ref qc, .ref qs, .int 0, .ref qn, .ref qp, .int 0, .int 0, .ref qm, .ref qf, .ref qx, .long 1])), (qt, .inl (kt, 1600, .inl (upd f (8 : Int32).toNatClampNeg (vp_nar .byte v2))))] H := hP
  have hD : va_D A [(h0, .inr (6, [.ref qt, .int 8, .ref qr, .ref qc, .ref qs, .int 0, .ref qn, .ref qp, .int 0, .int 0, .ref qm, .ref qf, .ref qx, .long 1])), (qt, .inl (kt, 1600, .inl (upd f (8 : Int32).toNatClampNeg (vp_nar .byte v2))))] := hD
  obtain ⟨f3, hP, hD⟩ : ∃ f : Nat → Int32, va_P (dC, dI) vwCl [(h0, .inr (6, [.ref qt, .int 8, .ref qr, .ref qc, .ref qs, .int 0, .ref qn, .ref qp, .int 0, .int 0, .ref qm, .ref qf, .ref qx, .long 1])), (qt, .inl (kt, 1600, .inl f))] H ∧ va_D A [(h0, .inr (6, [.ref qt, .int 8, .ref qr, .ref qc, .ref qs, .int 0, .ref qn, .ref qp, .int 0, .int 0, .ref qm, .ref qf, .ref qx, .long 1])), (qt, .inl (kt, 1600, .inl f))] := ⟨_, hP, hD⟩
  refine lv_aload_n hx hb dX6_layBytes_20 rfl (lv_at hl 1 rfl) ?_
  refine lv_dup hx hb dX6_layBytes_21 rfl ?_
  refine va_get (D := (dC, dI)) (ci := 6) (v := .int 8) (C := RX6) (T := TX6) (N := 14) hx hb hts inX6 hown hK hP 0 rfl rfl 1 (by decide) (hts _ T_101) (fun _ h9 => h9) rfl dX6_layBytes_22 ?_
  refine lv_iconst (v := 1) hx hb dX6_layBytes_25 (by decide) ?_
  refine lv_iadd hx hb dX6_layBytes_26 ?_
  refine ax_eqi (y := 9) (by decide) ?_
  refine va_put (D := (dC, dI)) (ci := 6) (v := .int 9) (ty := .int) (C := RX6) (T := TX6) (N := 14) hx hb hts inX6 tyX6 tyX6_ok nmX6 hown hK hP hD hS 0 rfl rfl 1 (by decide) (hts _ T_101) (fun _ h9 => h9) rfl (by decide +kernel) rfl rfl (Nat.le_of_ble_eq_true rfl) dX6_layBytes_27 (fun H locs hP hD hS => ?_)
  have hP : va_P (dC, dI) vwCl [(h0, .inr (6, [.ref qt, .int 9, .ref qr, .ref qc, .ref qs, .int 0, .ref qn, .ref qp, .int 0, .int 0, .ref qm, .ref qf, .ref qx, .long 1])), (qt, .inl (kt, 1600, .inl f3))] H := hP
  have hD : va_D A [(h0, .inr (6, [.ref qt, .int 9, .ref qr, .ref qc, .ref qs, .int 0, .ref qn, .ref qp, .int 0, .int 0, .ref qm, .ref qf, .ref qx, .long 1])), (qt, .inl (kt, 1600, .inl f3))] := hD
  refine lv_iinc (v := 16) (lv' := [(2, .int 16), (0, .ref h0), (1, .int p0)]) hx hb dX6_layBytes_30 hl (k := 0) rfl (by decide) (by decide) rfl (fun ls hl => ?_)
  refine lv_goto (tgt := 3) hx hb dX6_layBytes_33 (by decide) ?_
  refine lv_iload_n hx hb dX6_layBytes_3 rfl (lv_at hl 0 rfl) ?_
  refine lv_if_lt (tgt := 36) hx hb dX6_layBytes_4 (by decide) (fun c => absurd c (by decide)) (fun _ => ?_)
  refine lv_aload_n hx hb dX6_layBytes_7 rfl (lv_at hl 1 rfl) ?_
  refine va_get (D := (dC, dI)) (ci := 6) (v := .ref qt) (C := RX6) (T := TX6) (N := 14) hx hb hts inX6 hown hK hP 0 rfl rfl 0 (by decide) (hts _ T_68) (fun _ h9 => h9) rfl dX6_layBytes_8 ?_
  refine lv_aload_n hx hb dX6_layBytes_11 rfl (lv_at hl 1 rfl) ?_
  refine va_get (D := (dC, dI)) (ci := 6) (v := .int 9) (C := RX6) (T := TX6) (N := 14) hx hb hts inX6 hown hK hP 0 rfl rfl 1 (by decide) (hts _ T_101) (fun _ h9 => h9) rfl dX6_layBytes_12 ?_
  refine lv_iload_n hx hb dX6_layBytes_15 rfl (lv_at hl 2 rfl) ?_
  refine lv_iload_n hx hb dX6_layBytes_16 rfl (lv_at hl 0 rfl) ?_
  refine lv_ishr hx hb dX6_layBytes_17 ?_
  refine lv_topi (fun v4 ev4 => ?_)
  refine lv_i2b hx hb dX6_layBytes_18 rfl ?_
  refine lv_topi (fun v5 ev5 => ?_)
  refine va_bast hx hb hK hP hD hS 1 0 rfl rfl (ax_in (by decide)) dX6_layBytes_19 (fun H locs hP hD hS => ?_)
  have hP : va_P (dC, dI) vwCl [(h0, .inr (6, [.ref qt, .int 9, .ref qr, .ref qc, .ref qs, .int 0, .ref qn, .ref qp, .int 0, .int 0, .ref qm, .ref qf, .ref qx, .long 1])), (qt, .inl (kt, 1600, .inl (upd f3 (9 : Int32).toNatClampNeg (vp_nar .byte v5))))] H := hP
  have hD : va_D A [(h0, .inr (6, [.ref qt, .int 9, .ref qr, .ref qc, .ref qs, .int 0, .ref qn, .ref qp, .int 0, .int 0, .ref qm, .ref qf, .ref qx, .long 1])), (qt, .inl (kt, 1600, .inl (upd f3 (9 : Int32).toNatClampNeg (vp_nar .byte v5))))] := hD
  obtain ⟨f6, hP, hD⟩ : ∃ f : Nat → Int32, va_P (dC, dI) vwCl [(h0, .inr (6, [.ref qt, .int 9, .ref qr, .ref qc, .ref qs, .int 0, .ref qn, .ref qp, .int 0, .int 0, .ref qm, .ref qf, .ref qx, .long 1])), (qt, .inl (kt, 1600, .inl f))] H ∧ va_D A [(h0, .inr (6, [.ref qt, .int 9, .ref qr, .ref qc, .ref qs, .int 0, .ref qn, .ref qp, .int 0, .int 0, .ref qm, .ref qf, .ref qx, .long 1])), (qt, .inl (kt, 1600, .inl f))] := ⟨_, hP, hD⟩
  refine lv_aload_n hx hb dX6_layBytes_20 rfl (lv_at hl 1 rfl) ?_
  refine lv_dup hx hb dX6_layBytes_21 rfl ?_
  refine va_get (D := (dC, dI)) (ci := 6) (v := .int 9) (C := RX6) (T := TX6) (N := 14) hx hb hts inX6 hown hK hP 0 rfl rfl 1 (by decide) (hts _ T_101) (fun _ h9 => h9) rfl dX6_layBytes_22 ?_
  refine lv_iconst (v := 1) hx hb dX6_layBytes_25 (by decide) ?_
  refine lv_iadd hx hb dX6_layBytes_26 ?_
  refine ax_eqi (y := 10) (by decide) ?_
  refine va_put (D := (dC, dI)) (ci := 6) (v := .int 10) (ty := .int) (C := RX6) (T := TX6) (N := 14) hx hb hts inX6 tyX6 tyX6_ok nmX6 hown hK hP hD hS 0 rfl rfl 1 (by decide) (hts _ T_101) (fun _ h9 => h9) rfl (by decide +kernel) rfl rfl (Nat.le_of_ble_eq_true rfl) dX6_layBytes_27 (fun H locs hP hD hS => ?_)
  have hP : va_P (dC, dI) vwCl [(h0, .inr (6, [.ref qt, .int 10, .ref qr, .ref qc, .ref qs, .int 0, .ref qn, .ref qp, .int 0, .int 0, .ref qm, .ref qf, .ref qx, .long 1])), (qt, .inl (kt, 1600, .inl f6))] H := hP
  have hD : va_D A [(h0, .inr (6, [.ref qt, .int 10, .ref qr, .ref qc, .ref qs, .int 0, .ref qn, .ref qp, .int 0, .int 0, .ref qm, .ref qf, .ref qx, .long 1])), (qt, .inl (kt, 1600, .inl f6))] := hD
  refine lv_iinc (v := 8) (lv' := [(2, .int 8), (0, .ref h0), (1, .int p0)]) hx hb dX6_layBytes_30 hl (k := 0) rfl (by decide) (by decide) rfl (fun ls hl => ?_)
  refine lv_goto (tgt := 3) hx hb dX6_layBytes_33 (by decide) ?_
  refine lv_iload_n hx hb dX6_layBytes_3 rfl (lv_at hl 0 rfl) ?_
  refine lv_if_lt (tgt := 36) hx hb dX6_layBytes_4 (by decide) (fun c => absurd c (by decide)) (fun _ => ?_)
  refine lv_aload_n hx hb dX6_layBytes_7 rfl (lv_at hl 1 rfl) ?_
  refine va_get (D := (dC, dI)) (ci := 6) (v := .ref qt) (C := RX6) (T := TX6) (N := 14) hx hb hts inX6 hown hK hP 0 rfl rfl 0 (by decide) (hts _ T_68) (fun _ h9 => h9) rfl dX6_layBytes_8 ?_
  refine lv_aload_n hx hb dX6_layBytes_11 rfl (lv_at hl 1 rfl) ?_
  refine va_get (D := (dC, dI)) (ci := 6) (v := .int 10) (C := RX6) (T := TX6) (N := 14) hx hb hts inX6 hown hK hP 0 rfl rfl 1 (by decide) (hts _ T_101) (fun _ h9 => h9) rfl dX6_layBytes_12 ?_
  refine lv_iload_n hx hb dX6_layBytes_15 rfl (lv_at hl 2 rfl) ?_
  refine lv_iload_n hx hb dX6_layBytes_16 rfl (lv_at hl 0 rfl) ?_
  refine lv_ishr hx hb dX6_layBytes_17 ?_
  refine lv_topi (fun v7 ev7 => ?_)
  refine lv_i2b hx hb dX6_layBytes_18 rfl ?_
  refine lv_topi (fun v8 ev8 => ?_)
  refine va_bast hx hb hK hP hD hS 1 0 rfl rfl (ax_in (by decide)) dX6_layBytes_19 (fun H locs hP hD hS => ?_)
  have hP : va_P (dC, dI) vwCl [(h0, .inr (6, [.ref qt, .int 10, .ref qr, .ref qc, .ref qs, .int 0, .ref qn, .ref qp, .int 0, .int 0, .ref qm, .ref qf, .ref qx, .long 1])), (qt, .inl (kt, 1600, .inl (upd f6 (10 : Int32).toNatClampNeg (vp_nar .byte v8))))] H := hP
  have hD : va_D A [(h0, .inr (6, [.ref qt, .int 10, .ref qr, .ref qc, .ref qs, .int 0, .ref qn, .ref qp, .int 0, .int 0, .ref qm, .ref qf, .ref qx, .long 1])), (qt, .inl (kt, 1600, .inl (upd f6 (10 : Int32).toNatClampNeg (vp_nar .byte v8))))] := hD
  obtain ⟨f9, hP, hD⟩ : ∃ f : Nat → Int32, va_P (dC, dI) vwCl [(h0, .inr (6, [.ref qt, .int 10, .ref qr, .ref qc, .ref qs, .int 0, .ref qn, .ref qp, .int 0, .int 0, .ref qm, .ref qf, .ref qx, .long 1])), (qt, .inl (kt, 1600, .inl f))] H ∧ va_D A [(h0, .inr (6, [.ref qt, .int 10, .ref qr, .ref qc, .ref qs, .int 0, .ref qn, .ref qp, .int 0, .int 0, .ref qm, .ref qf, .ref qx, .long 1])), (qt, .inl (kt, 1600, .inl f))] := ⟨_, hP, hD⟩
  refine lv_aload_n hx hb dX6_layBytes_20 rfl (lv_at hl 1 rfl) ?_
  refine lv_dup hx hb dX6_layBytes_21 rfl ?_
  refine va_get (D := (dC, dI)) (ci := 6) (v := .int 10) (C := RX6) (T := TX6) (N := 14) hx hb hts inX6 hown hK hP 0 rfl rfl 1 (by decide) (hts _ T_101) (fun _ h9 => h9) rfl dX6_layBytes_22 ?_
  refine lv_iconst (v := 1) hx hb dX6_layBytes_25 (by decide) ?_
  refine lv_iadd hx hb dX6_layBytes_26 ?_
  refine ax_eqi (y := 11) (by decide) ?_
  refine va_put (D := (dC, dI)) (ci := 6) (v := .int 11) (ty := .int) (C := RX6) (T := TX6) (N := 14) hx hb hts inX6 tyX6 tyX6_ok nmX6 hown hK hP hD hS 0 rfl rfl 1 (by decide) (hts _ T_101) (fun _ h9 => h9) rfl (by decide +kernel) rfl rfl (Nat.le_of_ble_eq_true rfl) dX6_layBytes_27 (fun H locs hP hD hS => ?_)
  have hP : va_P (dC, dI) vwCl [(h0, .inr (6, [.ref qt, .int 11, .ref qr, .ref qc, .ref qs, .int 0, .ref qn, .ref qp, .int 0, .int 0, .ref qm, .ref qf, .ref qx, .long 1])), (qt, .inl (kt, 1600, .inl f9))] H := hP
  have hD : va_D A [(h0, .inr (6, [.ref qt, .int 11, .ref qr, .ref qc, .ref qs, .int 0, .ref qn, .ref qp, .int 0, .int 0, .ref qm, .ref qf, .ref qx, .long 1])), (qt, .inl (kt, 1600, .inl f9))] := hD
  refine lv_iinc (v := 0) (lv' := [(2, .int 0), (0, .ref h0), (1, .int p0)]) hx hb dX6_layBytes_30 hl (k := 0) rfl (by decide) (by decide) rfl (fun ls hl => ?_)
  refine lv_goto (tgt := 3) hx hb dX6_layBytes_33 (by decide) ?_
  refine lv_iload_n hx hb dX6_layBytes_3 rfl (lv_at hl 0 rfl) ?_
  refine lv_if_lt (tgt := 36) hx hb dX6_layBytes_4 (by decide) (fun c => absurd c (by decide)) (fun _ => ?_)
  refine lv_aload_n hx hb dX6_layBytes_7 rfl (lv_at hl 1 rfl) ?_
  refine va_get (D := (dC, dI)) (ci := 6) (v := .ref qt) (C := RX6) (T := TX6) (N := 14) hx hb hts inX6 hown hK hP 0 rfl rfl 0 (by decide) (hts _ T_68) (fun _ h9 => h9) rfl dX6_layBytes_8 ?_
  refine lv_aload_n hx hb dX6_layBytes_11 rfl (lv_at hl 1 rfl) ?_
  refine va_get (D := (dC, dI)) (ci := 6) (v := .int 11) (C := RX6) (T := TX6) (N := 14) hx hb hts inX6 hown hK hP 0 rfl rfl 1 (by decide) (hts _ T_101) (fun _ h9 => h9) rfl dX6_layBytes_12 ?_
  refine lv_iload_n hx hb dX6_layBytes_15 rfl (lv_at hl 2 rfl) ?_
  refine lv_iload_n hx hb dX6_layBytes_16 rfl (lv_at hl 0 rfl) ?_
  refine lv_ishr hx hb dX6_layBytes_17 ?_
  refine lv_topi (fun v10 ev10 => ?_)
  refine lv_i2b hx hb dX6_layBytes_18 rfl ?_
  refine lv_topi (fun v11 ev11 => ?_)
  refine va_bast hx hb hK hP hD hS 1 0 rfl rfl (ax_in (by decide)) dX6_layBytes_19 (fun H locs hP hD hS => ?_)
  have hP : va_P (dC, dI) vwCl [(h0, .inr (6, [.ref qt, .int 11, .ref qr, .ref qc, .ref qs, .int 0, .ref qn, .ref qp, .int 0, .int 0, .ref qm, .ref qf, .ref qx, .long 1])), (qt, .inl (kt, 1600, .inl (upd f9 (11 : Int32).toNatClampNeg (vp_nar .byte v11))))] H := hP
  have hD : va_D A [(h0, .inr (6, [.ref qt, .int 11, .ref qr, .ref qc, .ref qs, .int 0, .ref qn, .ref qp, .int 0, .int 0, .ref qm, .ref qf, .ref qx, .long 1])), (qt, .inl (kt, 1600, .inl (upd f9 (11 : Int32).toNatClampNeg (vp_nar .byte v11))))] := hD
  obtain ⟨f12, hP, hD⟩ : ∃ f : Nat → Int32, va_P (dC, dI) vwCl [(h0, .inr (6, [.ref qt, .int 11, .ref qr, .ref qc, .ref qs, .int 0, .ref qn, .ref qp, .int 0, .int 0, .ref qm, .ref qf, .ref qx, .long 1])), (qt, .inl (kt, 1600, .inl f))] H ∧ va_D A [(h0, .inr (6, [.ref qt, .int 11, .ref qr, .ref qc, .ref qs, .int 0, .ref qn, .ref qp, .int 0, .int 0, .ref qm, .ref qf, .ref qx, .long 1])), (qt, .inl (kt, 1600, .inl f))] := ⟨_, hP, hD⟩
  refine lv_aload_n hx hb dX6_layBytes_20 rfl (lv_at hl 1 rfl) ?_
  refine lv_dup hx hb dX6_layBytes_21 rfl ?_
  refine va_get (D := (dC, dI)) (ci := 6) (v := .int 11) (C := RX6) (T := TX6) (N := 14) hx hb hts inX6 hown hK hP 0 rfl rfl 1 (by decide) (hts _ T_101) (fun _ h9 => h9) rfl dX6_layBytes_22 ?_
  refine lv_iconst (v := 1) hx hb dX6_layBytes_25 (by decide) ?_
  refine lv_iadd hx hb dX6_layBytes_26 ?_
  refine ax_eqi (y := 12) (by decide) ?_
  refine va_put (D := (dC, dI)) (ci := 6) (v := .int 12) (ty := .int) (C := RX6) (T := TX6) (N := 14) hx hb hts inX6 tyX6 tyX6_ok nmX6 hown hK hP hD hS 0 rfl rfl 1 (by decide) (hts _ T_101) (fun _ h9 => h9) rfl (by decide +kernel) rfl rfl (Nat.le_of_ble_eq_true rfl) dX6_layBytes_27 (fun H locs hP hD hS => ?_)
  have hP : va_P (dC, dI) vwCl [(h0, .inr (6, [.ref qt, .int 12, .ref qr, .ref qc, .ref qs, .int 0, .ref qn, .ref qp, .int 0, .int 0, .ref qm, .ref qf, .ref qx, .long 1])), (qt, .inl (kt, 1600, .inl f12))] H := hP
  have hD : va_D A [(h0, .inr (6, [.ref qt, .int 12, .ref qr, .ref qc, .ref qs, .int 0, .ref qn, .ref qp, .int 0, .int 0, .ref qm, .ref qf, .ref qx, .long 1])), (qt, .inl (kt, 1600, .inl f12))] := hD
  refine lv_iinc (v := (-8)) (lv' := [(2, .int (-8)), (0, .ref h0), (1, .int p0)]) hx hb dX6_layBytes_30 hl (k := 0) rfl (by decide) (by decide) rfl (fun ls hl => ?_)
  refine lv_goto (tgt := 3) hx hb dX6_layBytes_33 (by decide) ?_
  refine lv_iload_n hx hb dX6_layBytes_3 rfl (lv_at hl 0 rfl) ?_
  refine lv_if_lt (tgt := 36) hx hb dX6_layBytes_4 (by decide) (fun _ => ?_) (fun c => absurd (by decide) c)
  have hP9 := hP.sub (ws' := [(h0, .inr (6, [.ref qt, .int 12, .ref qr, .ref qc, .ref qs, .int 0, .ref qn, .ref qp, .int 0, .int 0, .ref qm, .ref qf, .ref qx, .long 1])), (qt, .inl (kt, 1600, .inl f12))]) [0, 1] rfl
  have hD9 := hD.sub (ws' := [(h0, .inr (6, [.ref qt, .int 12, .ref qr, .ref qc, .ref qs, .int 0, .ref qn, .ref qp, .int 0, .int 0, .ref qm, .ref qf, .ref qx, .long 1])), (qt, .inl (kt, 1600, .inl f12))]) [0, 1] (by decide) rfl
  have hK9 := hK.sub (tys' := []) [] rfl
  exact W.vret hx hb hr (fun t ht hW => ⟨⟨(), rfl, trivial, f12, by rw [ht]; exact hP9, va_K.moved hW.alike hK9, hD9⟩, hS.F ht⟩) hS.2.2 dX6_layBytes_36

set_option maxHeartbeats 4000000 in
set_option maxRecDepth 100000 in
/-- layBytes behind 12 bytes -/
theorem c_X6_layBytes_12 (l : Launch) (dC : Nat → ClassId) (dI : Nat → Nat → Nat) (sz : Nat) (h0 : Nat) (qt : Nat) (qr : Nat) (qc : Nat) (qs : Nat) (qn : Nat) (qp : Nat) (qm : Nat) (qf : Nat) (qx : Nat) (kt : ClassId) (f : Nat → Int32) (p0 : Int32) : Met l yX6_layBytes (Cond.code yX6_layBytes cX6_layBytes 3 none :: T0) ({ frames := 0, cells := 0, slots := 0, locals := 0 }) (va_Pc [.ref h0, .int p0] (ax_W dC dI sz [(h0, .inr (6, [.ref qt, .int 12, .ref qr, .ref qc, .ref qs, .int 0, .ref qn, .ref qp, .int 0, .int 0, .ref qm, .ref qf, .ref qx, .long 1])), (qt, .inl (kt, 1600, .inl f))] [(kt, .byte)])) (va_Qv (fun (_ : Unit) => True) (fun (_ : Unit) (t : State) => ∃ (f2 : Nat → Int32), va_P (dC, dI) vwCl [(h0, .inr (6, [.ref qt, .int 16, .ref qr, .ref qc, .ref qs, .int 0, .ref qn, .ref qp, .int 0, .int 0, .ref qm, .ref qf, .ref qx, .long 1])), (qt, .inl (kt, 1600, .inl f2))] t.heap ∧ va_K (dC, dI) vwCl [] t ∧ va_D (va_A [(h0, .inr (6, [.ref qt, .int 12, .ref qr, .ref qc, .ref qs, .int 0, .ref qn, .ref qp, .int 0, .int 0, .ref qm, .ref qf, .ref qx, .long 1])), (qt, .inl (kt, 1600, .inl f))] sz) [(h0, .inr (6, [.ref qt, .int 16, .ref qr, .ref qc, .ref qs, .int 0, .ref qn, .ref qp, .int 0, .int 0, .ref qm, .ref qf, .ref qx, .long 1])), (qt, .inl (kt, 1600, .inl f2))]) (va_A [(h0, .inr (6, [.ref qt, .int 12, .ref qr, .ref qc, .ref qs, .int 0, .ref qn, .ref qp, .int 0, .int 0, .ref qm, .ref qf, .ref qx, .long 1])), (qt, .inl (kt, 1600, .inl f))] sz)) 0 0 (va_A [(h0, .inr (6, [.ref qt, .int 12, .ref qr, .ref qc, .ref qs, .int 0, .ref qn, .ref qp, .int 0, .int 0, .ref qm, .ref qf, .ref qx, .long 1])), (qt, .inl (kt, 1600, .inl f))] sz) := by
  refine Met.ofW (cc := cX6_layBytes) (maxL := 3) (ret := none) (by decide) rfl ?_
  intro p e s m args below meth c s₁ B hml hv
  obtain ⟨rfl, hsz, hP, hK, hD0, hN⟩ := hv
  have hx := B.exec
  have hb := B.bytes
  have hr := B.returns
  have hts : ∀ w ∈ T0, w.before _ s = true := fun w h => atoms_spec (ws := Cond.code yX6_layBytes cX6_layBytes 3 none :: T0) B.pre w (List.mem_cons_of_mem _ h)
  have hown : s.vm.findClass RX6 = some m.cls := findClass_of_methodNamed B.named
  have hlocks := B.notSynchronized
  subst hsz
  have hD := hD0.self (sz := s.heap.size)
  generalize hAe : va_A [(h0, .inr (6, [.ref qt, .int 12, .ref qr, .ref qc, .ref qs, .int 0, .ref qn, .ref qp, .int 0, .int 0, .ref qm, .ref qf, .ref qx, .long 1])), (qt, .inl (kt, 1600, .inl f))] s.heap.size = A at hD ⊢
  have hA : ∀ q : Nat, s.heap.size ≤ q → A q := fun q h => by rw [← hAe]; exact Or.inr h
  have hS : va_S A s.heap s.heap [] := va_S.rf
  have hP : va_P (dC, dI) vwCl [(h0, .inr (6, [.ref qt, .int 12, .ref qr, .ref qc, .ref qs, .int 0, .ref qn, .ref qp, .int 0, .int 0, .ref qm, .ref qf, .ref qx, .long 1])), (qt, .inl (kt, 1600, .inl f))] s.heap := hP
  have hl := lv_entry ([.ref h0, .int p0]) (n := 3) (Nat.le_of_ble_eq_true rfl)
  rw [lg_entry_eq]
  generalize (lg_sl ([.ref h0, .int p0]) ++ List.replicate (3 - (lg_sl ([.ref h0, .int p0])).length) Slot.unset).toArray = ls at hl ⊢
  refine ax_gen hP hD hS (fun H locs hP hD hS => ?_)
  have hl : lv_has ls 3 [(0, .ref h0), (1, .int p0)] := hl
  refine lv_bipush (v := 24) hx hb dX6_layBytes_0 (by decide) ?_
  refine lv_istore_n (lv' := [(2, .int 24), (0, .ref h0), (1, .int p0)]) hx hb dX6_layBytes_2 rfl hl (by decide) rfl (fun ls hl => ?_)
  refine lv_iload_n hx hb dX6_layBytes_3 rfl (lv_at hl 0 rfl) ?_
  refine lv_if_lt (tgt := 36) hx hb dX6_layBytes_4 (by decide) (fun c => absurd c (by decide)) (fun _ => ?_)
  refine lv_aload_n hx hb dX6_layBytes_7 rfl (lv_at hl 1 rfl) ?_
  refine va_get (D := (dC, dI)) (ci := 6) (v := .ref qt) (C := RX6) (T := TX6) (N := 14) hx hb hts inX6 hown hK hP 0 rfl rfl 0 (by decide) (hts _ T_68) (fun _ h9 => h9) rfl dX6_layBytes_8 ?_
  refine lv_aload_n hx hb dX6_layBytes_11 rfl (lv_at hl 1 rfl) ?_
  refine va_get (D := (dC, dI)) (ci := 6) (v := .int 12) (C := RX6) (T := TX6) (N := 14) hx hb hts inX6 hown hK hP 0 rfl rfl 1 (by decide) (hts _ T_101) (fun _ h9 => h9) rfl dX6_layBytes_12 ?_
  refine lv_iload_n hx hb dX6_layBytes_15 rfl (lv_at hl 2 rfl) ?_
  refine lv_iload_n hx hb dX6_layBytes_16 rfl (lv_at hl 0 rfl) ?_
  refine lv_ishr hx hb dX6_layBytes_17 ?_
  refine lv_topi (fun v1 ev1 => ?_)
  refine lv_i2b hx hb dX6_layBytes_18 rfl ?_
  refine lv_topi (fun v2 ev2 => ?_)
  refine va_bast hx hb hK hP hD hS 1 0 rfl rfl (ax_in (by decide)) dX6_layBytes_19 (fun H locs hP hD hS => ?_)
  have hP : va_P (dC, dI) vwCl [(h0, .inr (6, [.ref qt, .int 12, .ref qr, .ref qc, .ref qs, .int 0, .ref qn, .ref qp, .int 0, .int 0, .ref qm, .ref qf, .ref qx, .long 1])), (qt, .inl (kt, 1600, .inl (upd f (12 : Int32).toNatClampNeg (vp_nar .byte v2))))] H := hP
  have hD : va_D A [(h0, .inr (6, [.ref qt, .int 12, .ref qr, .ref qc, .ref qs, .int 0, .ref qn, .ref qp, .int 0, .int 0, .ref qm, .ref qf, .ref qx, .long 1])), (qt, .inl (kt, 1600, .inl (upd f (12 : Int32).toNatClampNeg (vp_nar .byte v2))))] := hD
  obtain ⟨f3, hP, hD⟩ : ∃ f : Nat → Int32, va_P (dC, dI) vwCl [(h0, .inr (6, [.ref qt, .int 12, .ref qr, .ref qc, .ref qs, .int 0, .ref qn, .ref qp, .int 0, .int 0, .ref qm, .ref qf, .ref qx, .long 1])), (qt, .inl (kt, 1600, .inl f))] H ∧ va_D A [(h0, .inr (6, [.ref qt, .int 12, .ref qr, .ref qc, .ref qs, .int 0, .ref qn, .ref qp, .int 0, .int 0, .ref qm, .ref qf, .ref qx, .long 1])), (qt, .inl (kt, 1600, .inl f))] := ⟨_, hP, hD⟩
  refine lv_aload_n hx hb dX6_layBytes_20 rfl (lv_at hl 1 rfl) ?_
  refine lv_dup hx hb dX6_layBytes_21 rfl ?_
  refine va_get (D := (dC, dI)) (ci := 6) (v := .int 12) (C := RX6) (T := TX6) (N := 14) hx hb hts inX6 hown hK hP 0 rfl rfl 1 (by decide) (hts _ T_101) (fun _ h9 => h9) rfl dX6_layBytes_22 ?_
  refine lv_iconst (v := 1) hx hb dX6_layBytes_25 (by decide) ?_
  refine lv_iadd hx hb dX6_layBytes_26 ?_
  refine ax_eqi (y := 13) (by decide) ?_
  refine va_put (D := (dC, dI)) (ci := 6) (v := .int 13) (ty := .int) (C := RX6) (T := TX6) (N := 14) hx hb hts inX6 tyX6 tyX6_ok nmX6 hown hK hP hD hS 0 rfl rfl 1 (by decide) (hts _ T_101) (fun _ h9 => h9) rfl (by decide +kernel) rfl rfl (Nat.le_of_ble_eq_true rfl) dX6_layBytes_27 (fun H locs hP hD hS => ?_)
  have hP : va_P (dC, dI) vwCl [(h0, .inr (6, [.ref qt, .int 13, .ref qr, .ref qc, .ref qs, .int 0, .ref qn, .ref qp, .int 0, .int 0, .ref qm, .ref qf, .ref qx, .long 1])), (qt, .inl (kt, 1600, .inl f3))] H := hP
  have hD : va_D A [(h0, .inr (6, [.ref qt, .int 13, .ref qr, .ref qc, .ref qs, .int 0, .ref qn, .ref qp, .int 0, .int 0, .ref qm, .ref qf, .ref qx, .long 1])), (qt, .inl (kt, 1600, .inl f3))] := hD
  refine lv_iinc (v := 16) (lv' := [(2, .int 16), (0, .ref h0), (1, .int p0)]) hx hb dX6_layBytes_30 hl (k := 0) rfl (by decide) (by decide) rfl (fun ls hl => ?_)
  refine lv_goto (tgt := 3) hx hb dX6_layBytes_33 (by decide) ?_
  refine lv_iload_n hx hb dX6_layBytes_3 rfl (lv_at hl 0 rfl) ?_
  refine lv_if_lt (tgt := 36) hx hb dX6_layBytes_4 (by decide) (fun c => absurd c (by decide)) (fun _ => ?_)
  refine lv_aload_n hx hb dX6_layBytes_7 rfl (lv_at hl 1 rfl) ?_
  refine va_get (D := (dC, dI)) (ci := 6) (v := .ref qt) (C := RX6) (T := TX6) (N := 14) hx hb hts inX6 hown hK hP 0 rfl rfl 0 (by decide) (hts _ T_68) (fun _ h9 => h9) rfl dX6_layBytes_8 ?_
  refine lv_aload_n hx hb dX6_layBytes_11 rfl (lv_at hl 1 rfl) ?_
  refine va_get (D := (dC, dI)) (ci := 6) (v := .int 13) (C := RX6) (T := TX6) (N := 14) hx hb hts inX6 hown hK hP 0 rfl rfl 1 (by decide) (hts _ T_101) (fun _ h9 => h9) rfl dX6_layBytes_12 ?_
  refine lv_iload_n hx hb dX6_layBytes_15 rfl (lv_at hl 2 rfl) ?_
  refine lv_iload_n hx hb dX6_layBytes_16 rfl (lv_at hl 0 rfl) ?_
  refine lv_ishr hx hb dX6_layBytes_17 ?_
  refine lv_topi (fun v4 ev4 => ?_)
  refine lv_i2b hx hb dX6_layBytes_18 rfl ?_
  refine lv_topi (fun v5 ev5 => ?_)
  refine va_bast hx hb hK hP hD hS 1 0 rfl rfl (ax_in (by decide)) dX6_layBytes_19 (fun H locs hP hD hS => ?_)
  have hP : va_P (dC, dI) vwCl [(h0, .inr (6, [.ref qt, .int 13, .ref qr, .ref qc, .ref qs, .int 0, .ref qn, .ref qp, .int 0, .int 0, .ref qm, .ref qf, .ref qx, .long 1])), (qt, .inl (kt, 1600, .inl (upd f3 (13 : Int32).toNatClampNeg (vp_nar .byte v5))))] H := hP
  have hD : va_D A [(h0, .inr (6, [.ref qt, .int 13, .ref qr, .ref qc, .ref qs, .int 0, .ref qn, .ref qp, .int 0, .int 0, .ref qm, .ref qf, .ref qx, .long 1])), (qt, .inl (kt, 1600, .inl (upd f3 (13 : Int32).toNatClampNeg (vp_nar .byte v5))))] := hD
  obtain ⟨f6, hP, hD⟩ : ∃ f : Nat → Int32, va_P (dC, dI) vwCl [(h0, .inr (6, [.ref qt, .int 13, .ref qr, .ref qc, .ref qs, .int 0, .ref qn, .ref qp, .int 0, .int 0, .ref qm, .ref qf, .ref qx, .long 1])), (qt, .inl (kt, 1600, .inl f))] H ∧ va_D A [(h0, .inr (6, [.ref qt, .int 13, .ref qr, .ref qc, .ref qs, .int 0, .ref qn, .ref qp, .int 0, .int 0, .ref qm, .ref qf, .ref qx, .long 1])), (qt, .inl (kt, 1600, .inl f))] := ⟨_, hP, hD⟩
  refine lv_aload_n hx hb dX6_layBytes_20 rfl (lv_at hl 1 rfl) ?_
  refine lv_dup hx hb dX6_layBytes_21 rfl ?_
  refine va_get (D := (dC, dI)) (ci := 6) (v := .int 13) (C := RX6) (T := TX6) (N := 14) hx hb hts inX6 hown hK hP 0 rfl rfl 1 (by decide) (hts _ T_101) (fun _ h9 => h9) rfl dX6_layBytes_22 ?_
  refine lv_iconst (v := 1) hx hb dX6_layBytes_25 (by decide) ?_
  refine lv_iadd hx hb dX6_layBytes_26 ?_
  refine ax_eqi (y := 14) (by decide) ?_
  refine va_put (D := (dC, dI)) (ci := 6) (v := .int 14) (ty := .int) (C := RX6) (T := TX6) (N := 14) hx hb hts inX6 tyX6 tyX6_ok nmX6 hown hK hP hD hS 0 rfl rfl 1 (by decide) (hts _ T_101) (fun _ h9 => h9) rfl (by decide +kernel) rfl rfl (Nat.le_of_ble_eq_true rfl) dX6_layBytes_27 (fun H locs hP hD hS => ?_)
  have hP : va_P (dC, dI) vwCl [(h0, .inr (6, [.ref qt, .int 14, .ref qr, .ref qc, .ref qs, .int 0, .ref qn, .ref qp, .int 0, .int 0, .ref qm, .ref qf, .ref qx, .long 1])), (qt, .inl (kt, 1600, .inl f6))] H := hP
  have hD : va_D A [(h0, .inr (6, [.ref qt, .int 14, .ref qr, .ref qc, .ref qs, .int 0, .ref qn, .ref qp, .int 0, .int 0, .ref qm, .ref qf, .ref qx, .long 1])), (qt, .inl (kt, 1600, .inl f6))] := hD
  refine lv_iinc (v := 8) (lv' := [(2, .int 8), (0, .ref h0), (1, .int p0)]) hx hb dX6_layBytes_30 hl (k := 0) rfl (by decide) (by decide) rfl (fun ls hl => ?_)
  refine lv_goto (tgt := 3) hx hb dX6_layBytes_33 (by decide) ?_
  refine lv_iload_n hx hb dX6_layBytes_3 rfl (lv_at hl 0 rfl) ?_
  refine lv_if_lt (tgt := 36) hx hb dX6_layBytes_4 (by decide) (fun c => absurd c (by decide)) (fun _ => ?_)
  refine lv_aload_n hx hb dX6_layBytes_7 rfl (lv_at hl 1 rfl) ?_
  refine va_get (D := (dC, dI)) (ci := 6) (v := .ref qt) (C := RX6) (T := TX6) (N := 14) hx hb hts inX6 hown hK hP 0 rfl rfl 0 (by decide) (hts _ T_68) (fun _ h9 => h9) rfl dX6_layBytes_8 ?_
  refine lv_aload_n hx hb dX6_layBytes_11 rfl (lv_at hl 1 rfl) ?_
  refine va_get (D := (dC, dI)) (ci := 6) (v := .int 14) (C := RX6) (T := TX6) (N := 14) hx hb hts inX6 hown hK hP 0 rfl rfl 1 (by decide) (hts _ T_101) (fun _ h9 => h9) rfl dX6_layBytes_12 ?_
  refine lv_iload_n hx hb dX6_layBytes_15 rfl (lv_at hl 2 rfl) ?_
  refine lv_iload_n hx hb dX6_layBytes_16 rfl (lv_at hl 0 rfl) ?_
  refine lv_ishr hx hb dX6_layBytes_17 ?_
  refine lv_topi (fun v7 ev7 => ?_)
  refine lv_i2b hx hb dX6_layBytes_18 rfl ?_
  refine lv_topi (fun v8 ev8 => ?_)
  refine va_bast hx hb hK hP hD hS 1 0 rfl rfl (ax_in (by decide)) dX6_layBytes_19 (fun H locs hP hD hS => ?_)
  have hP : va_P (dC, dI) vwCl [(h0, .inr (6, [.ref qt, .int 14, .ref qr, .ref qc, .ref qs, .int 0, .ref qn, .ref qp, .int 0, .int 0, .ref qm, .ref qf, .ref qx, .long 1])), (qt, .inl (kt, 1600, .inl (upd f6 (14 : Int32).toNatClampNeg (vp_nar .byte v8))))] H := hP
  have hD : va_D A [(h0, .inr (6, [.ref qt, .int 14, .ref qr, .ref qc, .ref qs, .int 0, .ref qn, .ref qp, .int 0, .int 0, .ref qm, .ref qf, .ref qx, .long 1])), (qt, .inl (kt, 1600, .inl (upd f6 (14 : Int32).toNatClampNeg (vp_nar .byte v8))))] := hD
  obtain ⟨f9, hP, hD⟩ : ∃ f : Nat → Int32, va_P (dC, dI) vwCl [(h0, .inr (6, [.ref qt, .int 14, .ref qr, .ref qc, .ref qs, .int 0, .ref qn, .ref qp, .int 0, .int 0, .ref qm, .ref qf, .ref qx, .long 1])), (qt, .inl (kt, 1600, .inl f))] H ∧ va_D A [(h0, .inr (6, [.ref qt, .int 14, .ref qr, .ref qc, .ref qs, .int 0, .ref qn, .ref qp, .int 0, .int 0, .ref qm, .ref qf, .ref qx, .long 1])), (qt, .inl (kt, 1600, .inl f))] := ⟨_, hP, hD⟩
  refine lv_aload_n hx hb dX6_layBytes_20 rfl (lv_at hl 1 rfl) ?_
  refine lv_dup hx hb dX6_layBytes_21 rfl ?_
  refine va_get (D := (dC, dI)) (ci := 6) (v := .int 14) (C := RX6) (T := TX6) (N := 14) hx hb hts inX6 hown hK hP 0 rfl rfl 1 (by decide) (hts _ T_101) (fun _ h9 => h9) rfl dX6_layBytes_22 ?_
  refine lv_iconst (v := 1) hx hb dX6_layBytes_25 (by decide) ?_
  refine lv_iadd hx hb dX6_layBytes_26 ?_
  refine ax_eqi (y := 15) (by decide) ?_
  refine va_put (D := (dC, dI)) (ci := 6) (v := .int 15) (ty := .int) (C := RX6) (T := TX6) (N := 14) hx hb hts inX6 tyX6 tyX6_ok nmX6 hown hK hP hD hS 0 rfl rfl 1 (by decide) (hts _ T_101) (fun _ h9 => h9) rfl (by decide +kernel) rfl rfl (Nat.le_of_ble_eq_true rfl) dX6_layBytes_27 (fun H locs hP hD hS => ?_)
  have hP : va_P (dC, dI) vwCl [(h0, .inr (6, [.ref qt, .int 15, .ref qr, .ref qc, .ref qs, .int 0, .ref qn, .ref qp, .int 0, .int 0, .ref qm, .ref qf, .ref qx, .long 1])), (qt, .inl (kt, 1600, .inl f9))] H := hP
  have hD : va_D A [(h0, .inr (6, [.ref qt, .int 15, .ref qr, .ref qc, .ref qs, .int 0, .ref qn, .ref qp, .int 0, .int 0, .ref qm, .ref qf, .ref qx, .long 1])), (qt, .inl (kt, 1600, .inl f9))] := hD
  refine lv_iinc (v := 0) (lv' := [(2, .int 0), (0, .ref h0), (1, .int p0)]) hx hb dX6_layBytes_30 hl (k := 0) rfl (by decide) (by decide) rfl (fun ls hl => ?_)
  refine lv_goto (tgt := 3) hx hb dX6_layBytes_33 (by decide) ?_
  refine lv_iload_n hx hb dX6_layBytes_3 rfl (lv_at hl 0 rfl) ?_
  refine lv_if_lt (tgt := 36) hx hb dX6_layBytes_4 (by decide) (fun c => absurd c (by decide)) (fun _ => ?_)
  refine lv_aload_n hx hb dX6_layBytes_7 rfl (lv_at hl 1 rfl) ?_
  refine va_get (D := (dC, dI)) (ci := 6) (v := .ref qt) (C := RX6) (T := TX6) (N := 14) hx hb hts inX6 hown hK hP 0 rfl rfl 0 (by decide) (hts _ T_68) (fun _ h9 => h9) rfl dX6_layBytes_8 ?_
  refine lv_aload_n hx hb dX6_layBytes_11 rfl (lv_at hl 1 rfl) ?_
  refine va_get (D := (dC, dI)) (ci := 6) (v := .int 15) (C := RX6) (T := TX6) (N := 14) hx hb hts inX6 hown hK hP 0 rfl rfl 1 (by decide) (hts _ T_101) (fun _ h9 => h9) rfl dX6_layBytes_12 ?_
  refine lv_iload_n hx hb dX6_layBytes_15 rfl (lv_at hl 2 rfl) ?_
  refine lv_iload_n hx hb dX6_layBytes_16 rfl (lv_at hl 0 rfl) ?_
  refine lv_ishr hx hb dX6_layBytes_17 ?_
  refine lv_topi (fun v10 ev10 => ?_)
  refine lv_i2b hx hb dX6_layBytes_18 rfl ?_
  refine lv_topi (fun v11 ev11 => ?_)
  refine va_bast hx hb hK hP hD hS 1 0 rfl rfl (ax_in (by decide)) dX6_layBytes_19 (fun H locs hP hD hS => ?_)
  have hP : va_P (dC, dI) vwCl [(h0, .inr (6, [.ref qt, .int 15, .ref qr, .ref qc, .ref qs, .int 0, .ref qn, .ref qp, .int 0, .int 0, .ref qm, .ref qf, .ref qx, .long 1])), (qt, .inl (kt, 1600, .inl (upd f9 (15 : Int32).toNatClampNeg (vp_nar .byte v11))))] H := hP
  have hD : va_D A [(h0, .inr (6, [.ref qt, .int 15, .ref qr, .ref qc, .ref qs, .int 0, .ref qn, .ref qp, .int 0, .int 0, .ref qm, .ref qf, .ref qx, .long 1])), (qt, .inl (kt, 1600, .inl (upd f9 (15 : Int32).toNatClampNeg (vp_nar .byte v11))))] := hD
  obtain ⟨f12, hP, hD⟩ : ∃ f : Nat → Int32, va_P (dC, dI) vwCl [(h0, .inr (6, [.ref qt, .int 15, .ref qr, .ref qc, .ref qs, .int 0, .ref qn, .ref qp, .int 0, .int 0, .ref qm, .ref qf, .ref qx, .long 1])), (qt, .inl (kt, 1600, .inl f))] H ∧ va_D A [(h0, .inr (6, [.ref qt, .int 15, .ref qr, .ref qc, .ref qs, .int 0, .ref qn, .ref qp, .int 0, .int 0, .ref qm, .ref qf, .ref qx, .long 1])), (qt, .inl (kt, 1600, .inl f))] := ⟨_, hP, hD⟩
  refine lv_aload_n hx hb dX6_layBytes_20 rfl (lv_at hl 1 rfl) ?_
  refine lv_dup hx hb dX6_layBytes_21 rfl ?_
  refine va_get (D := (dC, dI)) (ci := 6) (v := .int 15) (C := RX6) (T := TX6) (N := 14) hx hb hts inX6 hown hK hP 0 rfl rfl 1 (by decide) (hts _ T_101) (fun _ h9 => h9) rfl dX6_layBytes_22 ?_
  refine lv_iconst (v := 1) hx hb dX6_layBytes_25 (by decide) ?_
  refine lv_iadd hx hb dX6_layBytes_26 ?_
  refine ax_eqi (y := 16) (by decide) ?_
  refine va_put (D := (dC, dI)) (ci := 6) (v := .int 16) (ty := .int) (C := RX6) (T := TX6) (N := 14) hx hb hts inX6 tyX6 tyX6_ok nmX6 hown hK hP hD hS 0 rfl rfl 1 (by decide) (hts _ T_101) (fun _ h9 => h9) rfl (by decide +kernel) rfl rfl (Nat.le_of_ble_eq_true rfl) dX6_layBytes_27 (fun H locs hP hD hS => ?_)
  have hP : va_P (dC, dI) vwCl [(h0, .inr (6, [.ref qt, .int 16, .ref qr, .ref qc, .ref qs, .int 0, .ref qn, .ref qp, .int 0, .int 0, .ref qm, .ref qf, .ref qx, .long 1])), (qt, .inl (kt, 1600, .inl f12))] H := hP
  have hD : va_D A [(h0, .inr (6, [.ref qt, .int 16, .ref qr, .ref qc, .ref qs, .int 0, .ref qn, .ref qp, .int 0, .int 0, .ref qm, .ref qf, .ref qx, .long 1])), (qt, .inl (kt, 1600, .inl f12))] := hD
  refine lv_iinc (v := (-8)) (lv' := [(2, .int (-8)), (0, .ref h0), (1, .int p0)]) hx hb dX6_layBytes_30 hl (k := 0) rfl (by decide) (by decide) rfl (fun ls hl => ?_)
  refine lv_goto (tgt := 3) hx hb dX6_layBytes_33 (by decide) ?_
  refine lv_iload_n hx hb dX6_layBytes_3 rfl (lv_at hl 0 rfl) ?_
  refine lv_if_lt (tgt := 36) hx hb dX6_layBytes_4 (by decide) (fun _ => ?_) (fun c => absurd (by decide) c)
  have hP9 := hP.sub (ws' := [(h0, .inr (6, [.ref qt, .int 16, .ref qr, .ref qc, .ref qs, .int 0, .ref qn, .ref qp, .int 0, .int 0, .ref qm, .ref qf, .ref qx, .long 1])), (qt, .inl (kt, 1600, .inl f12))]) [0, 1] rfl
  have hD9 := hD.sub (ws' := [(h0, .inr (6, [.ref qt, .int 16, .ref qr, .ref qc, .ref qs, .int 0, .ref qn, .ref qp, .int 0, .int 0, .ref qm, .ref qf, .ref qx, .long 1])), (qt, .inl (kt, 1600, .inl f12))]) [0, 1] (by decide) rfl
  have hK9 := hK.sub (tys' := []) [] rfl
  exact W.vret hx hb hr (fun t ht hW => ⟨⟨(), rfl, trivial, f12, by rw [ht]; exact hP9, va_K.moved hW.alike hK9, hD9⟩, hS.F ht⟩) hS.2.2 dX6_layBytes_36

set_option maxHeartbeats 4000000 in
set_option maxRecDepth 100000 in
/-- layBytes behind 16 bytes -/
theorem c_X6_layBytes_16 (l : Launch) (dC : Nat → ClassId) (dI : Nat → Nat → Nat) (sz : Nat) (h0 : Nat) (qt : Nat) (qr : Nat) (qc : Nat) (qs : Nat) (qn : Nat) (qp : Nat) (qm : Nat) (qf : Nat) (qx : Nat) (kt : ClassId) (f : Nat → Int32) (p0 : Int32) : Met l yX6_layBytes (Cond.code yX6_layBytes cX6_layBytes 3 none :: T0) ({ frames := 0, cells := 0, slots := 0, locals := 0 }) (va_Pc [.ref h0, .int p0] (ax_W dC dI sz [(h0, .inr (6, [.ref qt, .int 16, .ref qr, .ref qc, .ref qs, .int 0, .ref qn, .ref qp, .int 0, .int 0, .ref qm, .ref qf, .ref qx, .long 1])), (qt, .inl (kt, 1600, .inl f))] [(kt, .byte)])) (va_Qv (fun (_ : Unit) => True) (fun (_ : Unit) (t : State) => ∃ (f2 : Nat → Int32), va_P (dC, dI) vwCl [(h0, .inr (6, [.ref qt, .int 20, .ref qr, .ref qc, .ref qs, .int 0, .ref qn, .ref qp, .int 0, .int 0, .ref qm, .ref qf, .ref qx, .long 1])), (qt, .inl (kt, 1600, .inl f2))] t.heap ∧ va_K (dC, dI) vwCl [] t ∧ va_D (va_A [(h0, .inr (6, [.ref qt, .int 16, .ref qr, .ref qc, .ref qs, .int 0, .ref qn, .ref qp, .int 0, .int 0, .ref qm, .ref qf, .ref qx, .long 1])), (qt, .inl (kt, 1600, .inl f))] sz) [(h0, .inr (6, [.ref qt, .int 20, .ref qr, .ref qc, .ref qs, .int 0, .ref qn, .ref qp, .int 0, .int 0, .ref qm, .ref qf, .ref qx, .long 1])), (qt, .inl (kt, 1600, .inl f2))]) (va_A [(h0, .inr (6, [.ref qt, .int 16, .ref qr, .ref qc, .ref qs, .int 0, .ref qn, .ref qp, .int 0, .int 0, .ref qm, .ref qf, .ref qx, .long 1])), (qt, .inl (kt, 1600, .inl f))] sz)) 0 0 (va_A [(h0, .inr (6, [.ref qt, .int 16, .ref qr, .ref qc, .ref qs, .int 0, .ref qn, .ref qp, .int 0, .int 0, .ref qm, .ref qf, .ref qx, .long 1])), (qt, .inl (kt, 1600, .inl f))] sz) := by
  refine Met.ofW (cc := cX6_layBytes) (maxL := 3) (ret := none) (by decide) rfl ?_
  intro p e s m args below meth c s₁ B hml hv
  obtain ⟨rfl, hsz, hP, hK, hD0, hN⟩ := hv
  have hx := B.exec
  have hb := B.bytes
  have hr := B.returns
  have hts : ∀ w ∈ T0, w.before _ s = true := fun w h => atoms_spec (ws := Cond.code yX6_layBytes cX6_layBytes 3 none :: T0) B.pre w (List.mem_cons_of_mem _ h)
  have hown : s.vm.findClass RX6 = some m.cls := findClass_of_methodNamed B.named
  have hlocks := B.notSynchronized
  subst hsz
  have hD := hD0.self (sz := s.heap.size)
  generalize hAe : va_A [(h0, .inr (6, [.ref qt, .int 16, .ref qr, .ref qc, .ref qs, .int 0, .ref qn, .ref qp, .int 0, .int 0, .ref qm, .ref qf, .ref qx, .long 1])), (qt, .inl (kt, 1600, .inl f))] s.heap.size = A at hD ⊢
  have hA : ∀ q : Nat, s.heap.size ≤ q → A q := fun q h => by rw [← hAe]; exact Or.inr h
  have hS : va_S A s.heap s.heap [] := va_S.rf
  have hP : va_P (dC, dI) vwCl [(h0, .inr (6, [.ref qt, .int 16, .ref qr, .ref qc, .ref qs, .int 0, .ref qn, .ref qp, .int 0, .int 0, .ref qm, .ref qf, .ref qx, .long 1])), (qt, .inl (kt, 1600, .inl f))] s.heap := hP
  have hl := lv_entry ([.ref h0, .int p0]) (n := 3) (Nat.le_of_ble_eq_true rfl)
  rw [lg_entry_eq]
  generalize (lg_sl ([.ref h0, .int p0]) ++ List.replicate (3 - (lg_sl ([.ref h0, .int p0])).length) Slot.unset).toArray = ls at hl ⊢
  refine ax_gen hP hD hS (fun H locs hP hD hS => ?_)
  have hl : lv_has ls 3 [(0, .ref h0), (1, .int p0)] := hl
  refine lv_bipush (v := 24) hx hb dX6_layBytes_0 (by decide) ?_
  refine lv_istore_n (lv' := [(2, .int 24), (0, .ref h0), (1, .int p0)]) hx hb dX6_layBytes_2 rfl hl (by decide) rfl (fun ls hl => ?_)
  refine lv_iload_n hx hb dX6_layBytes_3 rfl (lv_at hl 0 rfl) ?_
  refine lv_if_lt (tgt := 36) hx hb dX6_layBytes_4 (by decide) (fun c => absurd c (by decide)) (fun _ => ?_)
  refine lv_aload_n hx hb dX6_layBytes_7 rfl (lv_at hl 1 rfl) ?_
  refine va_get (D := (dC, dI)) (ci := 6) (v := .ref qt) (C := RX6) (T := TX6) (N := 14) hx hb hts inX6 hown hK hP 0 rfl rfl 0 (by decide) (hts _ T_68) (fun _ h9 => h9) rfl dX6_layBytes_8 ?_
  refine lv_aload_n hx hb dX6_layBytes_11 rfl (lv_at hl 1 rfl) ?_
  refine va_get (D := (dC, dI)) (ci := 6) (v := .int 16) (C := RX6) (T := TX6) (N := 14) hx hb hts inX6 hown hK hP 0 rfl rfl 1 (by decide) (hts _ T_101) (fun _ h9 => h9) rfl dX6_layBytes_12 ?_
  refine lv_iload_n hx hb dX6_layBytes_15 rfl (lv_at hl 2 rfl) ?_
  refine lv_iload_n hx hb dX6_layBytes_16 rfl (lv_at hl 0 rfl) ?_
  refine lv_ishr hx hb dX6_layBytes_17 ?_
  refine lv_topi (fun v1 ev1 => ?_)
  refine lv_i2b hx hb dX6_layBytes_18 rfl ?_
  refine lv_topi (fun v2 ev2 => ?_)
  refine va_bast hx hb hK hP hD hS 1 0 rfl rfl (ax_in (by decide)) dX6_layBytes_19 (fun H locs hP hD hS => ?_)
  have hP : va_P (dC, dI) vwCl [(h0, .inr (6, [.ref qt, .int 16, .ref qr, .ref qc, .ref qs, .int 0, .ref qn, .ref qp, .int 0, .int 0, .ref qm, .ref qf, .ref qx, .long 1])), (qt, .inl (kt, 1600, .inl (upd f (16 : Int32).toNatClampNeg (vp_nar .byte v2))))] H := hP
  have hD : va_D A [(h0, .inr (6, [.ref qt, .int 16, .ref qr, .ref qc, .ref qs, .int 0, .ref qn, .ref qp, .int 0, .int 0, .ref qm, .ref qf, .ref qx, .long 1])), (qt, .inl (kt, 1600, .inl (upd f (16 : Int32).toNatClampNeg (vp_nar .byte v2))))] := hD
  obtain ⟨f3, hP, hD⟩ : ∃ f : Nat → Int32, va_P (dC, dI) vwCl [(h0, .inr (6, [.ref qt, .int 16, .ref qr, .ref qc, .ref qs, .int 0, .ref qn, .ref qp, .int 0, .int 0, .ref qm, .ref qf, .ref qx, .long 1])), (qt, .inl (kt, 1600, .inl f))] H ∧ va_D A [(h0, .inr (6, [.ref qt, .int 16, .ref qr, .ref qc, .ref qs, .int 0, .ref qn, .ref qp, .int 0, .int 0, .ref qm, .ref qf, .ref qx, .long 1])), (qt, .inl (kt, 1600, .inl f))] := ⟨_, hP, hD⟩
  refine lv_aload_n hx hb dX6_layBytes_20 rfl (lv_at hl 1 rfl) ?_
  refine lv_dup hx hb dX6_layBytes_21 rfl ?_
  refine va_get (D := (dC, dI)) (ci := 6) (v := .int 16) (C := RX6) (T := TX6) (N := 14) hx hb hts inX6 hown hK hP 0 rfl rfl 1 (by decide) (hts _ T_101) (fun _ h9 => h9) rfl dX6_layBytes_22 ?_
  refine lv_iconst (v := 1) hx hb dX6_layBytes_25 (by decide) ?_
  refine lv_iadd hx hb dX6_layBytes_26 ?_
  refine ax_eqi (y := 17) (by decide) ?_
  refine va_put (D := (dC, dI)) (ci := 6) (v := .int 17) (ty := .int) (C := RX6) (T := TX6) (N := 14) hx hb hts inX6 tyX6 tyX6_ok nmX6 hown hK hP hD hS 0 rfl rfl 1 (by decide) (hts _ T_101) (fun _ h9 => h9) rfl (by decide +kernel) rfl rfl (Nat.le_of_ble_eq_true rfl) dX6_layBytes_27 (fun H locs hP hD hS => ?_)
  have hP : va_P (dC, dI) vwCl [(h0, .inr (6, [.ref qt, .int 17, .ref qr, .ref qc, .ref qs, .int 0, .ref qn, .ref qp, .int 0, .int 0, .ref qm, .ref qf, .ref qx, .long 1])), (qt, .inl (kt, 1600, .inl f3))] H := hP
  have hD : va_D A [(h0, .inr (6, [.ref qt, .int 17, .ref qr, .ref qc, .ref qs, .int 0, .ref qn, .ref qp, .int 0, .int 0, .ref qm, .ref qf, .ref qx, .long 1])), (qt, .inl (kt, 1600, .inl f3))] := hD
  refine lv_iinc (v := 16) (lv' := [(2, .int 16), (0, .ref h0), (1, .int p0)]) hx hb dX6_layBytes_30 hl (k := 0) rfl (by decide) (by decide) rfl (fun ls hl => ?_)
  refine lv_goto (tgt := 3) hx hb dX6_layBytes_33 (by decide) ?_
  refine lv_iload_n hx hb dX6_layBytes_3 rfl (lv_at hl 0 rfl) ?_
  refine lv_if_lt (tgt := 36) hx hb dX6_layBytes_4 (by decide) (fun c => absurd c (by decide)) (fun _ => ?_)
  refine lv_aload_n hx hb dX6_layBytes_7 rfl (lv_at hl 1 rfl) ?_
  refine va_get (D := (dC, dI)) (ci := 6) (v := .ref qt) (C := RX6) (T := TX6) (N := 14) hx hb hts inX6 hown hK hP 0 rfl rfl 0 (by decide) (hts _ T_68) (fun _ h9 => h9) rfl dX6_layBytes_8 ?_
  refine lv_aload_n hx hb dX6_layBytes_11 rfl (lv_at hl 1 rfl) ?_
  refine va_get (D := (dC, dI)) (ci := 6) (v := .int 17) (C := RX6) (T := TX6) (N := 14) hx hb hts inX6 hown hK hP 0 rfl rfl 1 (by decide) (hts _ T_101) (fun _ h9 => h9) rfl dX6_layBytes_12 ?_
  refine lv_iload_n hx hb dX6_layBytes_15 rfl (lv_at hl 2 rfl) ?_
  refine lv_iload_n hx hb dX6_layBytes_16 rfl (lv_at hl 0 rfl) ?_
  refine lv_ishr hx hb dX6_layBytes_17 ?_
  refine lv_topi (fun v4 ev4 => ?_)
  refine lv_i2b hx hb dX6_layBytes_18 rfl ?_
  refine lv_topi (fun v5 ev5 => ?_)
  refine va_bast hx hb hK hP hD hS 1 0 rfl rfl (ax_in (by decide)) dX6_layBytes_19 (fun H locs hP hD hS => ?_)
  have hP : va_P (dC, dI) vwCl [(h0, .inr (6, [.ref qt, .int 17, .ref qr, .ref qc, .ref qs, .int 0, .ref qn, .ref qp, .int 0, .int 0, .ref qm, .ref qf, .ref qx, .long 1])), (qt, .inl (kt, 1600, .inl (upd f3 (17 : Int32).toNatClampNeg (vp_nar .byte v5))))] H := hP
  have hD : va_D A [(h0, .inr (6, [.ref qt, .int 17, .ref qr, .ref qc, .ref qs, .int 0, .ref qn, .ref qp, .int 0, .int 0, .ref qm, .ref qf, .ref qx, .long 1])), (qt, .inl (kt, 1600, .inl (upd f3 (17 : Int32).toNatClampNeg (vp_nar .byte v5))))] := hD
  obtain ⟨f6, hP, hD⟩ : ∃ f : Nat → Int32, va_P (dC, dI) vwCl [(h0, .inr (6, [.ref qt, .int 17, .ref qr, .ref qc, .ref qs, .int 0, .ref qn, .ref qp, .int 0, .int 0, .ref qm, .ref qf, .ref qx, .long 1])), (qt, .inl (kt, 1600, .inl f))] H ∧ va_D A [(h0, .inr (6, [.ref qt, .int 17, .ref qr, .ref qc, .ref qs, .int 0, .ref qn, .ref qp, .int 0, .int 0, .ref qm, .ref qf, .ref qx, .long 1])), (qt, .inl (kt, 1600, .inl f))] := ⟨_, hP, hD⟩
  refine lv_aload_n hx hb dX6_layBytes_20 rfl (lv_at hl 1 rfl) ?_
  refine lv_dup hx hb dX6_layBytes_21 rfl ?_
  refine va_get (D := (dC, dI)) (ci := 6) (v := .int 17) (C := RX6) (T := TX6) (N := 14) hx hb hts inX6 hown hK hP 0 rfl rfl 1 (by decide) (hts _ T_101) (fun _ h9 => h9) rfl dX6_layBytes_22 ?_
  refine lv_iconst (v := 1) hx hb dX6_layBytes_25 (by decide) ?_
  refine lv_iadd hx hb dX6_layBytes_26 ?_
  refine ax_eqi (y := 18) (by decide) ?_
  refine va_put (D := (dC, dI)) (ci := 6) (v := .int 18) (ty := .int) (C := RX6) (T := TX6) (N := 14) hx hb hts inX6 tyX6 tyX6_ok nmX6 hown hK hP hD hS 0 rfl rfl 1 (by decide) (hts _ T_101) (fun _ h9 => h9) rfl (by decide +kernel) rfl rfl (Nat.le_of_ble_eq_true rfl) dX6_layBytes_27 (fun H locs hP hD hS => ?_)
  have hP : va_P (dC, dI) vwCl [(h0, .inr (6, [.ref qt, .int 18, .ref qr, .ref qc, .ref qs, .int 0, .ref qn, .ref qp, .int 0, .int 0, .ref qm, .ref qf, .ref qx, .long 1])), (qt, .inl (kt, 1600, .inl f6))] H := hP
  have hD : va_D A [(h0, .inr (6, [.ref qt, .int 18, .ref qr, .ref qc, .ref qs, .int 0, .ref qn, .ref qp, .int 0, .int 0, .ref qm, .ref qf, .ref qx, .long 1])), (qt, .inl (kt, 1600, .inl f6))] := hD
  refine lv_iinc (v := 8) (lv' := [(2, .int 8), (0, .ref h0), (1, .int p0)]) hx hb dX6_layBytes_30 hl (k := 0) rfl (by decide) (by decide) rfl (fun ls hl => ?_)
  refine lv_goto (tgt := 3) hx hb dX6_layBytes_33 (by decide) ?_
  refine lv_iload_n hx hb dX6_layBytes_3 rfl (lv_at hl 0 rfl) ?_
  refine lv_if_lt (tgt := 36) hx hb dX6_layBytes_4 (by decide) (fun c => absurd c (by decide)) (fun _ => ?_)
  refine lv_aload_n hx hb dX6_layBytes_7 rfl (lv_at hl 1 rfl) ?_
  refine va_get (D := (dC, dI)) (ci := 6) (v := .ref qt) (C := RX6) (T := TX6) (N := 14) hx hb hts inX6 hown hK hP 0 rfl rfl 0 (by decide) (hts _ T_68) (fun _ h9 => h9) rfl dX6_layBytes_8 ?_
  refine lv_aload_n hx hb dX6_layBytes_11 rfl (lv_at hl 1 rfl) ?_
  refine va_get (D := (dC, dI)) (ci := 6) (v := .int 18) (C := RX6) (T := TX6) (N := 14) hx hb hts inX6 hown hK hP 0 rfl rfl 1 (by decide) (hts _ T_101) (fun _ h9 => h9) rfl dX6_layBytes_12 ?_
  refine lv_iload_n hx hb dX6_layBytes_15 rfl (lv_at hl 2 rfl) ?_
  refine lv_iload_n hx hb dX6_layBytes_16 rfl (lv_at hl 0 rfl) ?_
  refine lv_ishr hx hb dX6_layBytes_17 ?_
  refine lv_topi (fun v7 ev7 => ?_)
  refine lv_i2b hx hb dX6_layBytes_18 rfl ?_
  refine lv_topi (fun v8 ev8 => ?_)
  refine va_bast hx hb hK hP hD hS 1 0 rfl rfl (ax_in (by decide)) dX6_layBytes_19 (fun H locs hP hD hS => ?_)
  have hP : va_P (dC, dI) vwCl [(h0, .inr (6, [.ref qt, .int 18, .ref qr, .ref qc, .ref qs, .int 0, .ref qn, .ref qp, .int 0, .int 0, .ref qm, .ref qf, .ref qx, .long 1])), (qt, .inl (kt, 1600, .inl (upd f6 (18 : Int32).toNatClampNeg (vp_nar .byte v8))))] H := hP
  have hD : va_D A [(h0, .inr (6, [.ref qt, .int 18, .ref qr, .ref qc, .ref qs, .int 0, .ref qn, .ref qp, .int 0, .int 0, .ref qm, .ref qf, .ref qx, .long 1])), (qt, .inl (kt, 1600, .inl (upd f6 (18 : Int32).toNatClampNeg (vp_nar .byte v8))))] := hD
  obtain ⟨f9, hP, hD⟩ : ∃ f : Nat → Int32, va_P (dC, dI) vwCl [(h0, .inr (6, [.ref qt, .int 18, .ref qr, .ref qc, .ref qs, .int 0, .ref qn, .ref qp, .int 0, .int 0, .ref qm, .ref qf, .ref qx, .long 1])), (qt, .inl (kt, 1600, .inl f))] H ∧ va_D A [(h0, .inr (6, [.ref qt, .int 18, .ref qr, .ref qc, .ref qs, .int 0, .ref qn, .ref qp, .int 0, .int 0, .ref qm, .ref qf, .ref qx, .long 1])), (qt, .inl (kt, 1600, .inl f))] := ⟨_, hP, hD⟩
  refine lv_aload_n hx hb dX6_layBytes_20 rfl (lv_at hl 1 rfl) ?_
  refine lv_dup hx hb dX6_layBytes_21 rfl ?_
  refine va_get (D := (dC, dI)) (ci := 6) (v := .int 18) (C := RX6) (T := TX6) (N := 14) hx hb hts inX6 hown hK hP 0 rfl rfl 1 (by decide) (hts _ T_101) (fun _ h9 => h9) rfl dX6_layBytes_22 ?_
  refine lv_iconst (v := 1) hx hb dX6_layBytes_25 (by decide) ?_
  refine lv_iadd hx hb dX6_layBytes_26 ?_
  refine ax_eqi (y := 19) (by decide) ?_
  refine va_put (D := (dC, dI)) (ci := 6) (v := .int 19) (ty := .int) (C := RX6) (T := TX6) (N := 14) hx hb hts inX6 tyX6 tyX6_ok nmX6 hown hK hP hD hS 0 rfl rfl 1 (by decide) (hts _ T_101) (fun _ h9 => h9) rfl (by decide +kernel) rfl rfl (Nat.le_of_ble_eq_true rfl) dX6_layBytes_27 (fun H locs hP hD hS => ?_)
  have hP : va_P (dC, dI) vwCl [(h0, .inr (6, [.ref qt, .int 19, .ref qr, .ref qc, .ref qs, .int 0, .ref qn, .ref qp, .int 0, .int 0, .ref qm, .ref qf, .ref qx, .long 1])), (qt, .inl (kt, 1600, .inl f9))] H := hP
  have hD : va_D A [(h0, .inr (6, [.ref qt, .int 19, .ref qr, .ref qc, .ref qs, .int 0, .ref qn, .ref qp, .int 0, .int 0, .ref qm, .ref qf, .ref qx, .long 1])), (qt, .inl (kt, 1600, .inl f9))] := hD
  refine lv_iinc (v := 0) (lv' := [(2, .int 0), (0, .ref h0), (1, .int p0)]) hx hb dX6_layBytes_30 hl (k := 0) rfl (by decide) (by decide) rfl (fun ls hl => ?_)
  refine lv_goto (tgt := 3) hx hb dX6_layBytes_33 (by decide) ?_
  refine lv_iload_n hx hb dX6_layBytes_3 rfl (lv_at hl 0 rfl) ?_
  refine lv_if_lt (tgt := 36) hx hb dX6_layBytes_4 (by decide) (fun c => absurd c (by decide)) (fun _ => ?_)
  refine lv_aload_n hx hb dX6_layBytes_7 rfl (lv_at hl 1 rfl) ?_
  refine va_get (D := (dC, dI)) (ci := 6) (v := .ref qt) (C := RX6) (T := TX6) (N := 14) hx hb hts inX6 hown hK hP 0 rfl rfl 0 (by decide) (hts _ T_68) (fun _ h9 => h9) rfl dX6_layBytes_8 ?_
  refine lv_aload_n hx hb dX6_layBytes_11 rfl (lv_at hl 1 rfl) ?_
  refine va_get (D := (dC, dI)) (ci := 6) (v := .int 19) (C := RX6) (T := TX6) (N := 14) hx hb hts inX6 hown hK hP 0 rfl rfl 1 (by decide) (hts _ T_101) (fun _ h9 => h9) rfl dX6_layBytes_12 ?_
  refine lv_iload_n hx hb dX6_layBytes_15 rfl (lv_at hl 2 rfl) ?_
  refine lv_iload_n hx hb dX6_layBytes_16 rfl (lv_at hl 0 rfl) ?_
  refine lv_ishr hx hb dX6_layBytes_17 ?_
  refine lv_topi (fun v10 ev10 => ?_)
  refine lv_i2b hx hb dX6_layBytes_18 rfl ?_
  refine lv_topi (fun v11 ev11 => ?_)
  refine va_bast hx hb hK hP hD hS 1 0 rfl rfl (ax_in (by decide)) dX6_layBytes_19 (fun H locs hP hD hS => ?_)
  have hP : va_P (dC, dI) vwCl [(h0, .inr (6, [.ref qt, .int 19, .ref qr, .ref qc, .ref qs, .int 0, .ref qn, .ref qp, .int 0, .int 0, .ref qm, .ref qf, .ref qx, .long 1])), (qt, .inl (kt, 1600, .inl (upd f9 (19 : Int32).toNatClampNeg (vp_nar .byte v11))))] H := hP
  have hD : va_D A [(h0, .inr (6, [.ref qt, .int 19, .ref qr, .ref qc, .ref qs, .int 0, .ref qn, .ref qp, .int 0, .int 0, .ref qm, .ref qf, .ref qx, .long 1])), (qt, .inl (kt, 1600, .inl (upd f9 (19 : Int32).toNatClampNeg (vp_nar .byte v11))))] := hD
  obtain ⟨f12, hP, hD⟩ : ∃ f : Nat → Int32, va_P (dC, dI) vwCl [(h0, .inr (6, [.ref qt, .int 19, .ref qr, .ref qc, .ref qs, .int 0, .ref qn, .ref qp, .int 0, .int 0, .ref qm, .ref qf, .ref qx, .long 1])), (qt, .inl (kt, 1600, .inl f))] H ∧ va_D A [(h0, .inr (6, [.ref qt, .int 19, .ref qr, .ref qc, .ref qs, .int 0, .ref qn, .ref qp, .int 0, .int 0, .ref qm, .ref qf, .ref qx, .long 1])), (qt, .inl (kt, 1600, .inl f))] := ⟨_, hP, hD⟩
  refine lv_aload_n hx hb dX6_layBytes_20 rfl (lv_at hl 1 rfl) ?_
  refine lv_dup hx hb dX6_layBytes_21 rfl ?_
  refine va_get (D := (dC, dI)) (ci := 6) (v := .int 19) (C := RX6) (T := TX6) (N := 14) hx hb hts inX6 hown hK hP 0 rfl rfl 1 (by decide) (hts _ T_101) (fun _ h9 => h9) rfl dX6_layBytes_22 ?_
  refine lv_iconst (v := 1) hx hb dX6_layBytes_25 (by decide) ?_
  refine lv_iadd hx hb dX6_layBytes_26 ?_
  refine ax_eqi (y := 20) (by decide) ?_
  refine va_put (D := (dC, dI)) (ci := 6) (v := .int 20) (ty := .int) (C := RX6) (T := TX6) (N := 14) hx hb hts inX6 tyX6 tyX6_ok nmX6 hown hK hP hD hS 0 rfl rfl 1 (by decide) (hts _ T_101) (fun _ h9 => h9) rfl (by decide +kernel) rfl rfl (Nat.le_of_ble_eq_true rfl) dX6_layBytes_27 (fun H locs hP hD hS => ?_)
  have hP : va_P (dC, dI) vwCl [(h0, .inr (6, [.ref qt, .int 20, .ref qr, .ref qc, .ref qs, .int 0, .ref qn, .ref qp, .int 0, .int 0, .ref qm, .ref qf, .ref qx, .long 1])), (qt, .inl (kt, 1600, .inl f12))] H := hP
  have hD : va_D A [(h0, .inr (6, [.ref qt, .int 20, .ref qr, .ref qc, .ref qs, .int 0, .ref qn, .ref qp, .int 0, .int 0, .ref qm, .ref qf, .ref qx, .long 1])), (qt, .inl (kt, 1600, .inl f12))] := hD
  refine lv_iinc (v := (-8)) (lv' := [(2, .int (-8)), (0, .ref h0), (1, .int p0)]) hx hb dX6_layBytes_30 hl (k := 0) rfl (by decide) (by decide) rfl (fun ls hl => ?_)
  refine lv_goto (tgt := 3) hx hb dX6_layBytes_33 (by decide) ?_
  refine lv_iload_n hx hb dX6_layBytes_3 rfl (lv_at hl 0 rfl) ?_
  refine lv_if_lt (tgt := 36) hx hb dX6_layBytes_4 (by decide) (fun _ => ?_) (fun c => absurd (by decide) c)
  have hP9 := hP.sub (ws' := [(h0, .inr (6, [.ref qt, .int 20, .ref qr, .ref qc, .ref qs, .int 0, .ref qn, .ref qp, .int 0, .int 0, .ref qm, .ref qf, .ref qx, .long 1])), (qt, .inl (kt, 1600, .inl f12))]) [0, 1] rfl
  have hD9 := hD.sub (ws' := [(h0, .inr (6, [.ref qt, .int 20, .ref qr, .ref qc, .ref qs, .int 0, .ref qn, .ref qp, .int 0, .int 0, .ref qm, .ref qf, .ref qx, .long 1])), (qt, .inl (kt, 1600, .inl f12))]) [0, 1] (by decide) rfl
  have hK9 := hK.sub (tys' := []) [] rfl
  exact W.vret hx hb hr (fun t ht hW => ⟨⟨(), rfl, trivial, f12, by rw [ht]; exact hP9, va_K.moved hW.alike hK9, hD9⟩, hS.F ht⟩) hS.2.2 dX6_layBytes_36

