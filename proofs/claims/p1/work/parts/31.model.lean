set_option maxHeartbeats 4000000 in
set_option maxRecDepth 100000 in
/-- X7_refuses -/
theorem c_X7_refuses (l : Launch) (dC : Nat → ClassId) (dI : Nat → Nat → Nat) (sz : Nat) (h0 : Nat) (m_tape : Nat) (m_refused : Nat) (m_own : Nat) (m_draft : Nat) (m_program : Nat) (m_goPlace : Nat) (m_isCome : Nat) (m_heap : Nat) (m_now : Nat) (m_first : Nat) (m_second : Nat) (m_behind : Nat) (m_states : Nat) (m_alone0 : Nat) (m_endsBy : Nat) (m_kept0 : Nat) (kr : ClassId) (f : Nat → Int32) (p0 : Int32) (hp0 : vp_in p0 6) : Met l yX7_refuses (Cond.code yX7_refuses cX7_refuses 2 (some .int) :: T0) ({ frames := 0, cells := 0, slots := 0, locals := 0 }) (va_Pc [.ref h0, .int p0] (ax_W dC dI sz [(h0, .inr (7, [.ref m_tape, .int 0, .int 0, .int 0, .int 0, .int 0, .int 0, .int 0, .int (-1), .ref m_refused, .ref m_own, .int 0, .ref m_draft, .ref m_program, .ref m_goPlace, .int 0, .int 0, .ref m_isCome, .ref m_heap, .int 0, .ref m_now, .ref m_first, .ref m_second, .ref m_behind, .ref m_states, .int 0, .int 0, .int 0, .ref m_alone0, .ref m_endsBy, .ref m_kept0, .int 0, .int 0, .long 1])), (m_refused, .inl (kr, 6, .inl f))] [(kr, .int)])) (va_Qi (fun (r : Int32) (_ : Unit) => r = (-1)) (fun (_ : Unit) (t : State) => va_P (dC, dI) vwCl [] t.heap ∧ va_K (dC, dI) vwCl [] t ∧ va_D (va_A [(h0, .inr (7, [.ref m_tape, .int 0, .int 0, .int 0, .int 0, .int 0, .int 0, .int 0, .int (-1), .ref m_refused, .ref m_own, .int 0, .ref m_draft, .ref m_program, .ref m_goPlace, .int 0, .int 0, .ref m_isCome, .ref m_heap, .int 0, .ref m_now, .ref m_first, .ref m_second, .ref m_behind, .ref m_states, .int 0, .int 0, .int 0, .ref m_alone0, .ref m_endsBy, .ref m_kept0, .int 0, .int 0, .long 1])), (m_refused, .inl (kr, 6, .inl f))] sz) []) (va_A [(h0, .inr (7, [.ref m_tape, .int 0, .int 0, .int 0, .int 0, .int 0, .int 0, .int 0, .int (-1), .ref m_refused, .ref m_own, .int 0, .ref m_draft, .ref m_program, .ref m_goPlace, .int 0, .int 0, .ref m_isCome, .ref m_heap, .int 0, .ref m_now, .ref m_first, .ref m_second, .ref m_behind, .ref m_states, .int 0, .int 0, .int 0, .ref m_alone0, .ref m_endsBy, .ref m_kept0, .int 0, .int 0, .long 1])), (m_refused, .inl (kr, 6, .inl f))] sz)) 0 0 (va_A [(h0, .inr (7, [.ref m_tape, .int 0, .int 0, .int 0, .int 0, .int 0, .int 0, .int 0, .int (-1), .ref m_refused, .ref m_own, .int 0, .ref m_draft, .ref m_program, .ref m_goPlace, .int 0, .int 0, .ref m_isCome, .ref m_heap, .int 0, .ref m_now, .ref m_first, .ref m_second, .ref m_behind, .ref m_states, .int 0, .int 0, .int 0, .ref m_alone0, .ref m_endsBy, .ref m_kept0, .int 0, .int 0, .long 1])), (m_refused, .inl (kr, 6, .inl f))] sz) := by
  refine Met.ofW (cc := cX7_refuses) (maxL := 2) (ret := (some .int)) (by decide) rfl ?_
  intro p e s m args below meth c s₁ B hml hv
  obtain ⟨rfl, hsz, hP, hK, hD0, hN⟩ := hv
  have hx := B.exec
  have hb := B.bytes
  have hr := B.returns
  have hts : ∀ w ∈ T0, w.before _ s = true := fun w h => atoms_spec (ws := Cond.code yX7_refuses cX7_refuses 2 (some .int) :: T0) B.pre w (List.mem_cons_of_mem _ h)
  have hown : s.vm.findClass RX7 = some m.cls := findClass_of_methodNamed B.named
  have hlocks := B.notSynchronized
  subst hsz
  have hD := hD0.self (sz := s.heap.size)
  generalize hAe : va_A [(h0, .inr (7, [.ref m_tape, .int 0, .int 0, .int 0, .int 0, .int 0, .int 0, .int 0, .int (-1), .ref m_refused, .ref m_own, .int 0, .ref m_draft, .ref m_program, .ref m_goPlace, .int 0, .int 0, .ref m_isCome, .ref m_heap, .int 0, .ref m_now, .ref m_first, .ref m_second, .ref m_behind, .ref m_states, .int 0, .int 0, .int 0, .ref m_alone0, .ref m_endsBy, .ref m_kept0, .int 0, .int 0, .long 1])), (m_refused, .inl (kr, 6, .inl f))] s.heap.size = A at hD ⊢
  have hA : ∀ q : Nat, s.heap.size ≤ q → A q := fun q h => by rw [← hAe]; exact Or.inr h
  have hS : va_S A s.heap s.heap [] := va_S.rf
  have hP : va_P (dC, dI) vwCl [(h0, .inr (7, [.ref m_tape, .int 0, .int 0, .int 0, .int 0, .int 0, .int 0, .int 0, .int (-1), .ref m_refused, .ref m_own, .int 0, .ref m_draft, .ref m_program, .ref m_goPlace, .int 0, .int 0, .ref m_isCome, .ref m_heap, .int 0, .ref m_now, .ref m_first, .ref m_second, .ref m_behind, .ref m_states, .int 0, .int 0, .int 0, .ref m_alone0, .ref m_endsBy, .ref m_kept0, .int 0, .int 0, .long 1])), (m_refused, .inl (kr, 6, .inl f))] s.heap := hP
  have hl := lv_entry ([.ref h0, .int p0]) (n := 2) (Nat.le_of_ble_eq_true rfl)
  rw [lg_entry_eq]
  generalize (lg_sl ([.ref h0, .int p0]) ++ List.replicate (2 - (lg_sl ([.ref h0, .int p0])).length) Slot.unset).toArray = ls at hl ⊢
  refine ax_gen hP hD hS (fun H locs hP hD hS => ?_)
  have hl : lv_has ls 2 [(0, .ref h0), (1, .int p0)] := hl
  refine lv_aload_n hx hb dX7_refuses_0 rfl (lv_at hl 0 rfl) ?_
  refine va_get (D := (dC, dI)) (ci := 7) (v := .ref m_refused) (C := RX7) (T := TX7) (N := 34) hx hb hts inX7 hown hK hP 0 rfl rfl 9 (by decide) (hts _ T_165) (fun _ h9 => h9) rfl dX7_refuses_1 ?_
  refine lv_iload_n hx hb dX7_refuses_4 rfl (lv_at hl 1 rfl) ?_
  refine lv_dup2_11 hx hb dX7_refuses_5 rfl rfl ?_
  refine va_iald hx hb hK hP 1 0 rfl rfl hp0 dX7_refuses_6 ?_
  refine lv_topi (fun v1 ev1 => ?_)
  refine lv_iconst (v := 1) hx hb dX7_refuses_7 (by decide) ?_
  refine lv_iadd hx hb dX7_refuses_8 ?_
  refine lv_topi (fun v2 ev2 => ?_)
  refine va_iast hx hb hK hP hD hS 1 0 rfl rfl hp0 dX7_refuses_9 (fun H locs hP hD hS => ?_)
  have hP : va_P (dC, dI) vwCl [(h0, .inr (7, [.ref m_tape, .int 0, .int 0, .int 0, .int 0, .int 0, .int 0, .int 0, .int (-1), .ref m_refused, .ref m_own, .int 0, .ref m_draft, .ref m_program, .ref m_goPlace, .int 0, .int 0, .ref m_isCome, .ref m_heap, .int 0, .ref m_now, .ref m_first, .ref m_second, .ref m_behind, .ref m_states, .int 0, .int 0, .int 0, .ref m_alone0, .ref m_endsBy, .ref m_kept0, .int 0, .int 0, .long 1])), (m_refused, .inl (kr, 6, .inl (upd f (p0 : Int32).toNatClampNeg v2)))] H := hP
  have hD : va_D A [(h0, .inr (7, [.ref m_tape, .int 0, .int 0, .int 0, .int 0, .int 0, .int 0, .int 0, .int (-1), .ref m_refused, .ref m_own, .int 0, .ref m_draft, .ref m_program, .ref m_goPlace, .int 0, .int 0, .ref m_isCome, .ref m_heap, .int 0, .ref m_now, .ref m_first, .ref m_second, .ref m_behind, .ref m_states, .int 0, .int 0, .int 0, .ref m_alone0, .ref m_endsBy, .ref m_kept0, .int 0, .int 0, .long 1])), (m_refused, .inl (kr, 6, .inl (upd f (p0 : Int32).toNatClampNeg v2)))] := hD
  obtain ⟨f3, hP, hD⟩ : ∃ f : Nat → Int32, va_P (dC, dI) vwCl [(h0, .inr (7, [.ref m_tape, .int 0, .int 0, .int 0, .int 0, .int 0, .int 0, .int 0, .int (-1), .ref m_refused, .ref m_own, .int 0, .ref m_draft, .ref m_program, .ref m_goPlace, .int 0, .int 0, .ref m_isCome, .ref m_heap, .int 0, .ref m_now, .ref m_first, .ref m_second, .ref m_behind, .ref m_states, .int 0, .int 0, .int 0, .ref m_alone0, .ref m_endsBy, .ref m_kept0, .int 0, .int 0, .long 1])), (m_refused, .inl (kr, 6, .inl f))] H ∧ va_D A [(h0, .inr (7, [.ref m_tape, .int 0, .int 0, .int 0, .int 0, .int 0, .int 0, .int 0, .int (-1), .ref m_refused, .ref m_own, .int 0, .ref m_draft, .ref m_program, .ref m_goPlace, .int 0, .int 0, .ref m_isCome, .ref m_heap, .int 0, .ref m_now, .ref m_first, .ref m_second, .ref m_behind, .ref m_states, .int 0, .int 0, .int 0, .ref m_alone0, .ref m_endsBy, .ref m_kept0, .int 0, .int 0, .long 1])), (m_refused, .inl (kr, 6, .inl f))] := ⟨_, hP, hD⟩
  refine lv_iconst (v := (-1)) hx hb dX7_refuses_10 (by decide) ?_
  have hP9 := hP.sub (ws' := []) [] rfl
  have hD9 := hD.sub (ws' := []) [] (by decide) rfl
  have hK9 := hK.sub (tys' := []) [] rfl
  exact W.iret (v := (-1)) hx hb hr (fun t ht hW => ⟨⟨(-1), (), rfl, rfl, by rw [ht]; exact hP9, va_K.moved hW.alike hK9, hD9⟩, hS.F ht⟩) hS.2.2 dX7_refuses_11

set_option maxHeartbeats 4000000 in
set_option maxRecDepth 100000 in
/-- X7_isRefused -/
theorem c_X7_isRefused (l : Launch) (dC : Nat → ClassId) (dI : Nat → Nat → Nat) (sz : Nat) (h0 : Nat) (m_tape : Nat) (m_refused : Nat) (m_own : Nat) (m_draft : Nat) (m_program : Nat) (m_goPlace : Nat) (m_isCome : Nat) (m_heap : Nat) (m_now : Nat) (m_first : Nat) (m_second : Nat) (m_behind : Nat) (m_states : Nat) (m_alone0 : Nat) (m_endsBy : Nat) (m_kept0 : Nat) (kr : ClassId) (f : Nat → Int32) (p0 : Int32) (hp0 : vp_in p0 6) : Met l yX7_isRefused (Cond.code yX7_isRefused cX7_isRefused 2 (some .boolean) :: T0) ({ frames := 0, cells := 0, slots := 0, locals := 0 }) (va_Pc [.ref h0, .int p0] (ax_W dC dI sz [(h0, .inr (7, [.ref m_tape, .int 0, .int 0, .int 0, .int 0, .int 0, .int 0, .int 0, .int (-1), .ref m_refused, .ref m_own, .int 0, .ref m_draft, .ref m_program, .ref m_goPlace, .int 0, .int 0, .ref m_isCome, .ref m_heap, .int 0, .ref m_now, .ref m_first, .ref m_second, .ref m_behind, .ref m_states, .int 0, .int 0, .int 0, .ref m_alone0, .ref m_endsBy, .ref m_kept0, .int 0, .int 0, .long 1])), (m_refused, .inl (kr, 6, .inl f))] [(kr, .int)])) (va_Qi (fun (r : Int32) (_ : Unit) => r = 0) (fun (_ : Unit) (t : State) => va_P (dC, dI) vwCl [] t.heap ∧ va_K (dC, dI) vwCl [] t ∧ va_D (va_A [(h0, .inr (7, [.ref m_tape, .int 0, .int 0, .int 0, .int 0, .int 0, .int 0, .int 0, .int (-1), .ref m_refused, .ref m_own, .int 0, .ref m_draft, .ref m_program, .ref m_goPlace, .int 0, .int 0, .ref m_isCome, .ref m_heap, .int 0, .ref m_now, .ref m_first, .ref m_second, .ref m_behind, .ref m_states, .int 0, .int 0, .int 0, .ref m_alone0, .ref m_endsBy, .ref m_kept0, .int 0, .int 0, .long 1])), (m_refused, .inl (kr, 6, .inl f))] sz) []) (va_A [(h0, .inr (7, [.ref m_tape, .int 0, .int 0, .int 0, .int 0, .int 0, .int 0, .int 0, .int (-1), .ref m_refused, .ref m_own, .int 0, .ref m_draft, .ref m_program, .ref m_goPlace, .int 0, .int 0, .ref m_isCome, .ref m_heap, .int 0, .ref m_now, .ref m_first, .ref m_second, .ref m_behind, .ref m_states, .int 0, .int 0, .int 0, .ref m_alone0, .ref m_endsBy, .ref m_kept0, .int 0, .int 0, .long 1])), (m_refused, .inl (kr, 6, .inl f))] sz)) 0 0 (va_A [(h0, .inr (7, [.ref m_tape, .int 0, .int 0, .int 0, .int 0, .int 0, .int 0, .int 0, .int (-1), .ref m_refused, .ref m_own, .int 0, .ref m_draft, .ref m_program, .ref m_goPlace, .int 0, .int 0, .ref m_isCome, .ref m_heap, .int 0, .ref m_now, .ref m_first, .ref m_second, .ref m_behind, .ref m_states, .int 0, .int 0, .int 0, .ref m_alone0, .ref m_endsBy, .ref m_kept0, .int 0, .int 0, .long 1])), (m_refused, .inl (kr, 6, .inl f))] sz) := by
  refine Met.ofW (cc := cX7_isRefused) (maxL := 2) (ret := (some .boolean)) (by decide) rfl ?_
  intro p e s m args below meth c s₁ B hml hv
  obtain ⟨rfl, hsz, hP, hK, hD0, hN⟩ := hv
  have hx := B.exec
  have hb := B.bytes
  have hr := B.returns
  have hts : ∀ w ∈ T0, w.before _ s = true := fun w h => atoms_spec (ws := Cond.code yX7_isRefused cX7_isRefused 2 (some .boolean) :: T0) B.pre w (List.mem_cons_of_mem _ h)
  have hown : s.vm.findClass RX7 = some m.cls := findClass_of_methodNamed B.named
  have hlocks := B.notSynchronized
  subst hsz
  have hD := hD0.self (sz := s.heap.size)
  generalize hAe : va_A [(h0, .inr (7, [.ref m_tape, .int 0, .int 0, .int 0, .int 0, .int 0, .int 0, .int 0, .int (-1), .ref m_refused, .ref m_own, .int 0, .ref m_draft, .ref m_program, .ref m_goPlace, .int 0, .int 0, .ref m_isCome, .ref m_heap, .int 0, .ref m_now, .ref m_first, .ref m_second, .ref m_behind, .ref m_states, .int 0, .int 0, .int 0, .ref m_alone0, .ref m_endsBy, .ref m_kept0, .int 0, .int 0, .long 1])), (m_refused, .inl (kr, 6, .inl f))] s.heap.size = A at hD ⊢
  have hA : ∀ q : Nat, s.heap.size ≤ q → A q := fun q h => by rw [← hAe]; exact Or.inr h
  have hS : va_S A s.heap s.heap [] := va_S.rf
  have hP : va_P (dC, dI) vwCl [(h0, .inr (7, [.ref m_tape, .int 0, .int 0, .int 0, .int 0, .int 0, .int 0, .int 0, .int (-1), .ref m_refused, .ref m_own, .int 0, .ref m_draft, .ref m_program, .ref m_goPlace, .int 0, .int 0, .ref m_isCome, .ref m_heap, .int 0, .ref m_now, .ref m_first, .ref m_second, .ref m_behind, .ref m_states, .int 0, .int 0, .int 0, .ref m_alone0, .ref m_endsBy, .ref m_kept0, .int 0, .int 0, .long 1])), (m_refused, .inl (kr, 6, .inl f))] s.heap := hP
  have hl := lv_entry ([.ref h0, .int p0]) (n := 2) (Nat.le_of_ble_eq_true rfl)
  rw [lg_entry_eq]
  generalize (lg_sl ([.ref h0, .int p0]) ++ List.replicate (2 - (lg_sl ([.ref h0, .int p0])).length) Slot.unset).toArray = ls at hl ⊢
  refine ax_gen hP hD hS (fun H locs hP hD hS => ?_)
  have hl : lv_has ls 2 [(0, .ref h0), (1, .int p0)] := hl
  refine lv_aload_n hx hb dX7_isRefused_0 rfl (lv_at hl 0 rfl) ?_
  refine va_get (D := (dC, dI)) (ci := 7) (v := .ref m_refused) (C := RX7) (T := TX7) (N := 34) hx hb hts inX7 hown hK hP 0 rfl rfl 9 (by decide) (hts _ T_165) (fun _ h9 => h9) rfl dX7_isRefused_1 ?_
  refine lv_iload_n hx hb dX7_isRefused_4 rfl (lv_at hl 1 rfl) ?_
  refine lv_dup2_11 hx hb dX7_isRefused_5 rfl rfl ?_
  refine va_iald hx hb hK hP 1 0 rfl rfl hp0 dX7_isRefused_6 ?_
  refine lv_topi (fun v1 ev1 => ?_)
  refine lv_iconst (v := 1) hx hb dX7_isRefused_7 (by decide) ?_
  refine lv_iadd hx hb dX7_isRefused_8 ?_
  refine lv_topi (fun v2 ev2 => ?_)
  refine va_iast hx hb hK hP hD hS 1 0 rfl rfl hp0 dX7_isRefused_9 (fun H locs hP hD hS => ?_)
  have hP : va_P (dC, dI) vwCl [(h0, .inr (7, [.ref m_tape, .int 0, .int 0, .int 0, .int 0, .int 0, .int 0, .int 0, .int (-1), .ref m_refused, .ref m_own, .int 0, .ref m_draft, .ref m_program, .ref m_goPlace, .int 0, .int 0, .ref m_isCome, .ref m_heap, .int 0, .ref m_now, .ref m_first, .ref m_second, .ref m_behind, .ref m_states, .int 0, .int 0, .int 0, .ref m_alone0, .ref m_endsBy, .ref m_kept0, .int 0, .int 0, .long 1])), (m_refused, .inl (kr, 6, .inl (upd f (p0 : Int32).toNatClampNeg v2)))] H := hP
  have hD : va_D A [(h0, .inr (7, [.ref m_tape, .int 0, .int 0, .int 0, .int 0, .int 0, .int 0, .int 0, .int (-1), .ref m_refused, .ref m_own, .int 0, .ref m_draft, .ref m_program, .ref m_goPlace, .int 0, .int 0, .ref m_isCome, .ref m_heap, .int 0, .ref m_now, .ref m_first, .ref m_second, .ref m_behind, .ref m_states, .int 0, .int 0, .int 0, .ref m_alone0, .ref m_endsBy, .ref m_kept0, .int 0, .int 0, .long 1])), (m_refused, .inl (kr, 6, .inl (upd f (p0 : Int32).toNatClampNeg v2)))] := hD
  obtain ⟨f3, hP, hD⟩ : ∃ f : Nat → Int32, va_P (dC, dI) vwCl [(h0, .inr (7, [.ref m_tape, .int 0, .int 0, .int 0, .int 0, .int 0, .int 0, .int 0, .int (-1), .ref m_refused, .ref m_own, .int 0, .ref m_draft, .ref m_program, .ref m_goPlace, .int 0, .int 0, .ref m_isCome, .ref m_heap, .int 0, .ref m_now, .ref m_first, .ref m_second, .ref m_behind, .ref m_states, .int 0, .int 0, .int 0, .ref m_alone0, .ref m_endsBy, .ref m_kept0, .int 0, .int 0, .long 1])), (m_refused, .inl (kr, 6, .inl f))] H ∧ va_D A [(h0, .inr (7, [.ref m_tape, .int 0, .int 0, .int 0, .int 0, .int 0, .int 0, .int 0, .int (-1), .ref m_refused, .ref m_own, .int 0, .ref m_draft, .ref m_program, .ref m_goPlace, .int 0, .int 0, .ref m_isCome, .ref m_heap, .int 0, .ref m_now, .ref m_first, .ref m_second, .ref m_behind, .ref m_states, .int 0, .int 0, .int 0, .ref m_alone0, .ref m_endsBy, .ref m_kept0, .int 0, .int 0, .long 1])), (m_refused, .inl (kr, 6, .inl f))] := ⟨_, hP, hD⟩
  refine lv_iconst (v := 0) hx hb dX7_isRefused_10 (by decide) ?_
  have hP9 := hP.sub (ws' := []) [] rfl
  have hD9 := hD.sub (ws' := []) [] (by decide) rfl
  have hK9 := hK.sub (tys' := []) [] rfl
  exact W.zret (v := 0) (ty := .boolean) hx hb hr (by decide) (fun t ht hW => ⟨⟨0, (), rfl, rfl, by rw [ht]; exact hP9, va_K.moved hW.alike hK9, hD9⟩, hS.F ht⟩) hS.2.2 dX7_isRefused_11

set_option maxHeartbeats 4000000 in
set_option maxRecDepth 100000 in
/-- isIn -/
theorem c_X7_isIn (l : Launch) (dC : Nat → ClassId) (dI : Nat → Nat → Nat) (sz : Nat) (v0 : Int64) (v1 : Int64) (v2 : Int64) : Met l yX7_isIn (Cond.code yX7_isIn cX7_isIn 6 (some .boolean) :: T0) ({ frames := 0, cells := 0, slots := 0, locals := 0 }) (va_Pc [.long v0, .long v1, .long v2] (ax_W dC dI sz [] [])) (va_Qi (fun (r : Int32) (_ : Unit) => r = a_isIn v0 v1 v2) (fun (_ : Unit) (t : State) => va_P (dC, dI) vwCl [] t.heap ∧ va_K (dC, dI) vwCl [] t ∧ va_D (va_A [] sz) []) (va_A [] sz)) 0 0 (va_A [] sz) := by
  refine Met.ofW (cc := cX7_isIn) (maxL := 6) (ret := (some .boolean)) (by decide) rfl ?_
  intro p e s m args below meth c s₁ B hml hv
  obtain ⟨rfl, hsz, hP, hK, hD0, hN⟩ := hv
  have hx := B.exec
  have hb := B.bytes
  have hr := B.returns
  have hts : ∀ w ∈ T0, w.before _ s = true := fun w h => atoms_spec (ws := Cond.code yX7_isIn cX7_isIn 6 (some .boolean) :: T0) B.pre w (List.mem_cons_of_mem _ h)
  have hown : s.vm.findClass RX7 = some m.cls := findClass_of_methodNamed B.named
  have hlocks := B.notSynchronized
  subst hsz
  have hD := hD0.self (sz := s.heap.size)
  generalize hAe : va_A [] s.heap.size = A at hD ⊢
  have hA : ∀ q : Nat, s.heap.size ≤ q → A q := fun q h => by rw [← hAe]; exact Or.inr h
  have hS : va_S A s.heap s.heap [] := va_S.rf
  have hP : va_P (dC, dI) vwCl [] s.heap := hP
  have hl := lv_entry ([.long v0, .long v1, .long v2]) (n := 6) (Nat.le_of_ble_eq_true rfl)
  rw [lg_entry_eq]
  generalize (lg_sl ([.long v0, .long v1, .long v2]) ++ List.replicate (6 - (lg_sl ([.long v0, .long v1, .long v2])).length) Slot.unset).toArray = ls at hl ⊢
  refine ax_gen hP hD hS (fun H locs hP hD hS => ?_)
  have hl : lv_has ls 6 [(0, .long v0), (2, .long v1), (4, .long v2)] := hl
  refine lv_lload_n hx hb dX7_isIn_0 rfl (lv_at hl 0 rfl) ?_
  refine lv_lload_n hx hb dX7_isIn_1 rfl (lv_at hl 1 rfl) ?_
  refine W.lcmp hx hb dX7_isIn_2 ?_
  refine lv_if_lt (tgt := 17) hx hb dX7_isIn_3 (by decide) (fun c1 => ?_) (fun c1 => ?_)
  · refine lv_iconst (v := 0) hx hb dX7_isIn_17 (by decide) ?_
    have hP9 := hP.sub (ws' := []) [] rfl
    have hD9 := hD.sub (ws' := []) [] (by decide) rfl
    have hK9 := hK.sub (tys' := []) [] rfl
    exact W.zret (v := 0) (ty := .boolean) hx hb hr (by decide) (fun t ht hW => ⟨⟨0, (), rfl, (by have h_0 := ((lg_cmp_lt _ _).trans Int64.lt_iff_toInt_lt).mp c1; unfold a_isIn; first | (rw [if_pos (by omega)]; done) | (rw [if_neg (by omega)]; done)), by rw [ht]; exact hP9, va_K.moved hW.alike hK9, hD9⟩, hS.F ht⟩) hS.2.2 dX7_isIn_18
  · refine lv_lload_n hx hb dX7_isIn_6 rfl (lv_at hl 0 rfl) ?_
    refine lv_lload hx hb dX7_isIn_7 (lv_at hl 2 rfl) ?_
    refine W.lcmp hx hb dX7_isIn_9 ?_
    refine lv_if_gt (tgt := 17) hx hb dX7_isIn_10 (by decide) (fun c2 => ?_) (fun c2 => ?_)
    · refine lv_iconst (v := 0) hx hb dX7_isIn_17 (by decide) ?_
      have hP9 := hP.sub (ws' := []) [] rfl
      have hD9 := hD.sub (ws' := []) [] (by decide) rfl
      have hK9 := hK.sub (tys' := []) [] rfl
      exact W.zret (v := 0) (ty := .boolean) hx hb hr (by decide) (fun t ht hW => ⟨⟨0, (), rfl, (by have h_0 := mt ((lg_cmp_lt _ _).trans Int64.lt_iff_toInt_lt).mpr c1; have h_1 := ((lg_cmp_gt _ _).trans Int64.lt_iff_toInt_lt).mp c2; unfold a_isIn; first | (rw [if_pos (by omega)]; done) | (rw [if_neg (by omega)]; done)), by rw [ht]; exact hP9, va_K.moved hW.alike hK9, hD9⟩, hS.F ht⟩) hS.2.2 dX7_isIn_18
    · refine lv_iconst (v := 1) hx hb dX7_isIn_13 (by decide) ?_
      refine lv_goto (tgt := 18) hx hb dX7_isIn_14 (by decide) ?_
      have hP9 := hP.sub (ws' := []) [] rfl
      have hD9 := hD.sub (ws' := []) [] (by decide) rfl
      have hK9 := hK.sub (tys' := []) [] rfl
      exact W.zret (v := 1) (ty := .boolean) hx hb hr (by decide) (fun t ht hW => ⟨⟨1, (), rfl, (by have h_0 := mt ((lg_cmp_lt _ _).trans Int64.lt_iff_toInt_lt).mpr c1; have h_1 := mt ((lg_cmp_gt _ _).trans Int64.lt_iff_toInt_lt).mpr c2; unfold a_isIn; first | (rw [if_pos (by omega)]; done) | (rw [if_neg (by omega)]; done)), by rw [ht]; exact hP9, va_K.moved hW.alike hK9, hD9⟩, hS.F ht⟩) hS.2.2 dX7_isIn_18

set_option maxHeartbeats 4000000 in
set_option maxRecDepth 100000 in
/-- feed: 20 -/
theorem c_X7_feed (l : Launch) (dC : Nat → ClassId) (dI : Nat → Nat → Nat) (sz : Nat) (h0 : Nat) (m_tape : Nat) (m_refused : Nat) (m_own : Nat) (m_draft : Nat) (m_program : Nat) (m_goPlace : Nat) (m_isCome : Nat) (m_heap : Nat) (m_now : Nat) (m_first : Nat) (m_second : Nat) (m_behind : Nat) (m_states : Nat) (m_alone0 : Nat) (m_endsBy : Nat) (m_kept0 : Nat) (kt : ClassId) (p0 : Int32) (p1 : Int32) (p2 : Int32) (p3 : Int32) (p4 : Int32) : Met l yX7_feed (Cond.code yX7_feed cX7_feed 8 (some .int) :: T0) ({ frames := 0, cells := 0, slots := 0, locals := 0 }) (va_Pc [.ref h0, .int p0, .int p1, .int p2, .int p3, .int p4] (ax_W dC dI sz [(h0, .inr (7, [.ref m_tape, .int 0, .int 0, .int 0, .int 0, .int 0, .int 0, .int 0, .int (-1), .ref m_refused, .ref m_own, .int 0, .ref m_draft, .ref m_program, .ref m_goPlace, .int 0, .int 0, .ref m_isCome, .ref m_heap, .int 0, .ref m_now, .ref m_first, .ref m_second, .ref m_behind, .ref m_states, .int 0, .int 0, .int 0, .ref m_alone0, .ref m_endsBy, .ref m_kept0, .int 0, .int 0, .long 1])), (m_tape, .inl (kt, 1600, .inl (fun _ => 0)))] [(kt, .int)])) (va_Qi (fun (r : Int32) (_ : Unit) => r = 20) (fun (_ : Unit) (t : State) => va_P (dC, dI) vwCl [] t.heap ∧ va_K (dC, dI) vwCl [] t ∧ va_D (va_A [(h0, .inr (7, [.ref m_tape, .int 0, .int 0, .int 0, .int 0, .int 0, .int 0, .int 0, .int (-1), .ref m_refused, .ref m_own, .int 0, .ref m_draft, .ref m_program, .ref m_goPlace, .int 0, .int 0, .ref m_isCome, .ref m_heap, .int 0, .ref m_now, .ref m_first, .ref m_second, .ref m_behind, .ref m_states, .int 0, .int 0, .int 0, .ref m_alone0, .ref m_endsBy, .ref m_kept0, .int 0, .int 0, .long 1])), (m_tape, .inl (kt, 1600, .inl (fun _ => 0)))] sz) []) (va_A [(h0, .inr (7, [.ref m_tape, .int 0, .int 0, .int 0, .int 0, .int 0, .int 0, .int 0, .int (-1), .ref m_refused, .ref m_own, .int 0, .ref m_draft, .ref m_program, .ref m_goPlace, .int 0, .int 0, .ref m_isCome, .ref m_heap, .int 0, .ref m_now, .ref m_first, .ref m_second, .ref m_behind, .ref m_states, .int 0, .int 0, .int 0, .ref m_alone0, .ref m_endsBy, .ref m_kept0, .int 0, .int 0, .long 1])), (m_tape, .inl (kt, 1600, .inl (fun _ => 0)))] sz)) 0 0 (va_A [(h0, .inr (7, [.ref m_tape, .int 0, .int 0, .int 0, .int 0, .int 0, .int 0, .int 0, .int (-1), .ref m_refused, .ref m_own, .int 0, .ref m_draft, .ref m_program, .ref m_goPlace, .int 0, .int 0, .ref m_isCome, .ref m_heap, .int 0, .ref m_now, .ref m_first, .ref m_second, .ref m_behind, .ref m_states, .int 0, .int 0, .int 0, .ref m_alone0, .ref m_endsBy, .ref m_kept0, .int 0, .int 0, .long 1])), (m_tape, .inl (kt, 1600, .inl (fun _ => 0)))] sz) := by
  refine Met.ofW (cc := cX7_feed) (maxL := 8) (ret := (some .int)) (by decide) rfl ?_
  intro p e s m args below meth c s₁ B hml hv
  obtain ⟨rfl, hsz, hP, hK, hD0, hN⟩ := hv
  have hx := B.exec
  have hb := B.bytes
  have hr := B.returns
  have hts : ∀ w ∈ T0, w.before _ s = true := fun w h => atoms_spec (ws := Cond.code yX7_feed cX7_feed 8 (some .int) :: T0) B.pre w (List.mem_cons_of_mem _ h)
  have hown : s.vm.findClass RX7 = some m.cls := findClass_of_methodNamed B.named
  have hlocks := B.notSynchronized
  subst hsz
  have hD := hD0.self (sz := s.heap.size)
  generalize hAe : va_A [(h0, .inr (7, [.ref m_tape, .int 0, .int 0, .int 0, .int 0, .int 0, .int 0, .int 0, .int (-1), .ref m_refused, .ref m_own, .int 0, .ref m_draft, .ref m_program, .ref m_goPlace, .int 0, .int 0, .ref m_isCome, .ref m_heap, .int 0, .ref m_now, .ref m_first, .ref m_second, .ref m_behind, .ref m_states, .int 0, .int 0, .int 0, .ref m_alone0, .ref m_endsBy, .ref m_kept0, .int 0, .int 0, .long 1])), (m_tape, .inl (kt, 1600, .inl (fun _ => 0)))] s.heap.size = A at hD ⊢
  have hA : ∀ q : Nat, s.heap.size ≤ q → A q := fun q h => by rw [← hAe]; exact Or.inr h
  have hS : va_S A s.heap s.heap [] := va_S.rf
  have hP : va_P (dC, dI) vwCl [(h0, .inr (7, [.ref m_tape, .int 0, .int 0, .int 0, .int 0, .int 0, .int 0, .int 0, .int (-1), .ref m_refused, .ref m_own, .int 0, .ref m_draft, .ref m_program, .ref m_goPlace, .int 0, .int 0, .ref m_isCome, .ref m_heap, .int 0, .ref m_now, .ref m_first, .ref m_second, .ref m_behind, .ref m_states, .int 0, .int 0, .int 0, .ref m_alone0, .ref m_endsBy, .ref m_kept0, .int 0, .int 0, .long 1])), (m_tape, .inl (kt, 1600, .inl (fun _ => 0)))] s.heap := hP
  have hl := lv_entry ([.ref h0, .int p0, .int p1, .int p2, .int p3, .int p4]) (n := 8) (Nat.le_of_ble_eq_true rfl)
  rw [lg_entry_eq]
  generalize (lg_sl ([.ref h0, .int p0, .int p1, .int p2, .int p3, .int p4]) ++ List.replicate (8 - (lg_sl ([.ref h0, .int p0, .int p1, .int p2, .int p3, .int p4])).length) Slot.unset).toArray = ls at hl ⊢
  refine ax_gen hP hD hS (fun H locs hP hD hS => ?_)
  have hl : lv_has ls 8 [(0, .ref h0), (1, .int p0), (2, .int p1), (3, .int p2), (4, .int p3), (5, .int p4)] := hl
  refine lv_aload_n hx hb dX7_feed_0 rfl (lv_at hl 0 rfl) ?_
  refine va_get (D := (dC, dI)) (ci := 7) (v := .int 0) (C := RX7) (T := TX7) (N := 34) hx hb hts inX7 hown hK hP 0 rfl rfl 1 (by decide) (hts _ T_184) (fun _ h9 => h9) rfl dX7_feed_1 ?_
  refine lv_bipush (v := 20) hx hb dX7_feed_4 (by decide) ?_
  refine lv_iadd hx hb dX7_feed_6 ?_
  refine ax_eqi (y := 20) (by decide) ?_
  refine lv_sipush (v := 1600) hx hb dX7_feed_7 (by decide) ?_
  refine lv_icmp_le (tgt := 19) hx hb dX7_feed_10 (by decide) (fun _ => ?_) (fun c => absurd (by decide) c)
  refine lv_iconst (v := 0) hx hb dX7_feed_19 (by decide) ?_
  refine lv_istore (lv' := [(6, .int 0), (0, .ref h0), (1, .int p0), (2, .int p1), (3, .int p2), (4, .int p3), (5, .int p4)]) hx hb dX7_feed_20 hl (by decide) rfl (fun ls hl => ?_)
  refine lv_iload hx hb dX7_feed_22 (lv_at hl 0 rfl) ?_
  refine lv_bipush (v := 20) hx hb dX7_feed_24 (by decide) ?_
  refine lv_icmp_ge (tgt := 118) hx hb dX7_feed_26 (by decide) (fun c => absurd c (by decide)) (fun _ => ?_)
  refine lv_iload hx hb dX7_feed_29 (lv_at hl 0 rfl) ?_
  refine lv_iconst (v := 4) hx hb dX7_feed_31 (by decide) ?_
  refine lv_icmp_ge (tgt := 39) hx hb dX7_feed_32 (by decide) (fun c => absurd c (by decide)) (fun _ => ?_)
  refine lv_iload_n hx hb dX7_feed_35 rfl (lv_at hl 2 rfl) ?_
  refine lv_goto (tgt := 75) hx hb dX7_feed_36 (by decide) ?_
  refine lv_istore (lv' := [(7, .int p0), (6, .int 0), (0, .ref h0), (1, .int p0), (2, .int p1), (3, .int p2), (4, .int p3), (5, .int p4)]) hx hb dX7_feed_75 hl (by decide) rfl (fun ls hl => ?_)
  refine lv_aload_n hx hb dX7_feed_77 rfl (lv_at hl 2 rfl) ?_
  refine va_get (D := (dC, dI)) (ci := 7) (v := .ref m_tape) (C := RX7) (T := TX7) (N := 34) hx hb hts inX7 hown hK hP 0 rfl rfl 0 (by decide) (hts _ T_163) (fun _ h9 => h9) rfl dX7_feed_78 ?_
  refine lv_aload_n hx hb dX7_feed_81 rfl (lv_at hl 2 rfl) ?_
  refine va_get (D := (dC, dI)) (ci := 7) (v := .int 0) (C := RX7) (T := TX7) (N := 34) hx hb hts inX7 hown hK hP 0 rfl rfl 1 (by decide) (hts _ T_184) (fun _ h9 => h9) rfl dX7_feed_82 ?_
  refine lv_iload hx hb dX7_feed_85 (lv_at hl 0 rfl) ?_
  refine lv_bipush (v := 8) hx hb dX7_feed_87 (by decide) ?_
  refine lv_iconst (v := 3) hx hb dX7_feed_89 (by decide) ?_
  refine lv_iload hx hb dX7_feed_90 (lv_at hl 1 rfl) ?_
  refine lv_iconst (v := 4) hx hb dX7_feed_92 (by decide) ?_
  refine lv_irem hx hb dX7_feed_93 (by decide) ?_
  refine ax_eqi (y := 0) (by decide) ?_
  refine lv_isub hx hb dX7_feed_94 ?_
  refine ax_eqi (y := 3) (by decide) ?_
  refine lv_imul hx hb dX7_feed_95 ?_
  refine ax_eqi (y := 24) (by decide) ?_
  refine lv_ishr hx hb dX7_feed_96 ?_
  refine lv_topi (fun v1 ev1 => ?_)
  refine lv_sipush (v := 255) hx hb dX7_feed_97 (by decide) ?_
  refine lv_iand hx hb dX7_feed_100 ?_
  refine lv_topi (fun v2 ev2 => ?_)
  refine va_iast hx hb hK hP hD hS 1 0 rfl rfl (ax_in (by decide)) dX7_feed_101 (fun H locs hP hD hS => ?_)
  have hP : va_P (dC, dI) vwCl [(h0, .inr (7, [.ref m_tape, .int 0, .int 0, .int 0, .int 0, .int 0, .int 0, .int 0, .int (-1), .ref m_refused, .ref m_own, .int 0, .ref m_draft, .ref m_program, .ref m_goPlace, .int 0, .int 0, .ref m_isCome, .ref m_heap, .int 0, .ref m_now, .ref m_first, .ref m_second, .ref m_behind, .ref m_states, .int 0, .int 0, .int 0, .ref m_alone0, .ref m_endsBy, .ref m_kept0, .int 0, .int 0, .long 1])), (m_tape, .inl (kt, 1600, .inl (upd (fun _ => 0) (0 : Int32).toNatClampNeg v2)))] H := hP
  have hD : va_D A [(h0, .inr (7, [.ref m_tape, .int 0, .int 0, .int 0, .int 0, .int 0, .int 0, .int 0, .int (-1), .ref m_refused, .ref m_own, .int 0, .ref m_draft, .ref m_program, .ref m_goPlace, .int 0, .int 0, .ref m_isCome, .ref m_heap, .int 0, .ref m_now, .ref m_first, .ref m_second, .ref m_behind, .ref m_states, .int 0, .int 0, .int 0, .ref m_alone0, .ref m_endsBy, .ref m_kept0, .int 0, .int 0, .long 1])), (m_tape, .inl (kt, 1600, .inl (upd (fun _ => 0) (0 : Int32).toNatClampNeg v2)))] := hD
  obtain ⟨f3, hP, hD⟩ : ∃ f : Nat → Int32, va_P (dC, dI) vwCl [(h0, .inr (7, [.ref m_tape, .int 0, .int 0, .int 0, .int 0, .int 0, .int 0, .int 0, .int (-1), .ref m_refused, .ref m_own, .int 0, .ref m_draft, .ref m_program, .ref m_goPlace, .int 0, .int 0, .ref m_isCome, .ref m_heap, .int 0, .ref m_now, .ref m_first, .ref m_second, .ref m_behind, .ref m_states, .int 0, .int 0, .int 0, .ref m_alone0, .ref m_endsBy, .ref m_kept0, .int 0, .int 0, .long 1])), (m_tape, .inl (kt, 1600, .inl f))] H ∧ va_D A [(h0, .inr (7, [.ref m_tape, .int 0, .int 0, .int 0, .int 0, .int 0, .int 0, .int 0, .int (-1), .ref m_refused, .ref m_own, .int 0, .ref m_draft, .ref m_program, .ref m_goPlace, .int 0, .int 0, .ref m_isCome, .ref m_heap, .int 0, .ref m_now, .ref m_first, .ref m_second, .ref m_behind, .ref m_states, .int 0, .int 0, .int 0, .ref m_alone0, .ref m_endsBy, .ref m_kept0, .int 0, .int 0, .long 1])), (m_tape, .inl (kt, 1600, .inl f))] := ⟨_, hP, hD⟩
  refine lv_aload_n hx hb dX7_feed_102 rfl (lv_at hl 2 rfl) ?_
  refine lv_dup hx hb dX7_feed_103 rfl ?_
  refine va_get (D := (dC, dI)) (ci := 7) (v := .int 0) (C := RX7) (T := TX7) (N := 34) hx hb hts inX7 hown hK hP 0 rfl rfl 1 (by decide) (hts _ T_184) (fun _ h9 => h9) rfl dX7_feed_104 ?_
  refine lv_iconst (v := 1) hx hb dX7_feed_107 (by decide) ?_
  refine lv_iadd hx hb dX7_feed_108 ?_
  refine ax_eqi (y := 1) (by decide) ?_
  refine va_put (D := (dC, dI)) (ci := 7) (v := .int 1) (ty := .int) (C := RX7) (T := TX7) (N := 34) hx hb hts inX7 tyX7 tyX7_ok nmX7 hown hK hP hD hS 0 rfl rfl 1 (by decide) (hts _ T_184) (fun _ h9 => h9) rfl (by decide +kernel) rfl rfl (Nat.le_of_ble_eq_true rfl) dX7_feed_109 (fun H locs hP hD hS => ?_)
  have hP : va_P (dC, dI) vwCl [(h0, .inr (7, [.ref m_tape, .int 1, .int 0, .int 0, .int 0, .int 0, .int 0, .int 0, .int (-1), .ref m_refused, .ref m_own, .int 0, .ref m_draft, .ref m_program, .ref m_goPlace, .int 0, .int 0, .ref m_isCome, .ref m_heap, .int 0, .ref m_now, .ref m_first, .ref m_second, .ref m_behind, .ref m_states, .int 0, .int 0, .int 0, .ref m_alone0, .ref m_endsBy, .ref m_kept0, .int 0, .int 0, .long 1])), (m_tape, .inl (kt, 1600, .inl f3))] H := hP
  have hD : va_D A [(h0, .inr (7, [.ref m_tape, .int 1, .int 0, .int 0, .int 0, .int 0, .int 0, .int 0, .int (-1), .ref m_refused, .ref m_own, .int 0, .ref m_draft, .ref m_program, .ref m_goPlace, .int 0, .int 0, .ref m_isCome, .ref m_heap, .int 0, .ref m_now, .ref m_first, .ref m_second, .ref m_behind, .ref m_states, .int 0, .int 0, .int 0, .ref m_alone0, .ref m_endsBy, .ref m_kept0, .int 0, .int 0, .long 1])), (m_tape, .inl (kt, 1600, .inl f3))] := hD
  refine lv_iinc (v := 1) (lv' := [(6, .int 1), (7, .int p0), (0, .ref h0), (1, .int p0), (2, .int p1), (3, .int p2), (4, .int p3), (5, .int p4)]) hx hb dX7_feed_112 hl (k := 1) rfl (by decide) (by decide) rfl (fun ls hl => ?_)
  refine lv_goto (tgt := 22) hx hb dX7_feed_115 (by decide) ?_
  refine lv_iload hx hb dX7_feed_22 (lv_at hl 0 rfl) ?_
  refine lv_bipush (v := 20) hx hb dX7_feed_24 (by decide) ?_
  refine lv_icmp_ge (tgt := 118) hx hb dX7_feed_26 (by decide) (fun c => absurd c (by decide)) (fun _ => ?_)
  refine lv_iload hx hb dX7_feed_29 (lv_at hl 0 rfl) ?_
  refine lv_iconst (v := 4) hx hb dX7_feed_31 (by decide) ?_
  refine lv_icmp_ge (tgt := 39) hx hb dX7_feed_32 (by decide) (fun c => absurd c (by decide)) (fun _ => ?_)
  refine lv_iload_n hx hb dX7_feed_35 rfl (lv_at hl 3 rfl) ?_
  refine lv_goto (tgt := 75) hx hb dX7_feed_36 (by decide) ?_
  refine lv_istore (lv' := [(7, .int p0), (6, .int 1), (0, .ref h0), (1, .int p0), (2, .int p1), (3, .int p2), (4, .int p3), (5, .int p4)]) hx hb dX7_feed_75 hl (by decide) rfl (fun ls hl => ?_)
  refine lv_aload_n hx hb dX7_feed_77 rfl (lv_at hl 2 rfl) ?_
  refine va_get (D := (dC, dI)) (ci := 7) (v := .ref m_tape) (C := RX7) (T := TX7) (N := 34) hx hb hts inX7 hown hK hP 0 rfl rfl 0 (by decide) (hts _ T_163) (fun _ h9 => h9) rfl dX7_feed_78 ?_
  refine lv_aload_n hx hb dX7_feed_81 rfl (lv_at hl 2 rfl) ?_
  refine va_get (D := (dC, dI)) (ci := 7) (v := .int 1) (C := RX7) (T := TX7) (N := 34) hx hb hts inX7 hown hK hP 0 rfl rfl 1 (by decide) (hts _ T_184) (fun _ h9 => h9) rfl dX7_feed_82 ?_
  refine lv_iload hx hb dX7_feed_85 (lv_at hl 0 rfl) ?_
  refine lv_bipush (v := 8) hx hb dX7_feed_87 (by decide) ?_
  refine lv_iconst (v := 3) hx hb dX7_feed_89 (by decide) ?_
  refine lv_iload hx hb dX7_feed_90 (lv_at hl 1 rfl) ?_
  refine lv_iconst (v := 4) hx hb dX7_feed_92 (by decide) ?_
  refine lv_irem hx hb dX7_feed_93 (by decide) ?_
  refine ax_eqi (y := 1) (by decide) ?_
  refine lv_isub hx hb dX7_feed_94 ?_
  refine ax_eqi (y := 2) (by decide) ?_
  refine lv_imul hx hb dX7_feed_95 ?_
  refine ax_eqi (y := 16) (by decide) ?_
  refine lv_ishr hx hb dX7_feed_96 ?_
  refine lv_topi (fun v4 ev4 => ?_)
  refine lv_sipush (v := 255) hx hb dX7_feed_97 (by decide) ?_
  refine lv_iand hx hb dX7_feed_100 ?_
  refine lv_topi (fun v5 ev5 => ?_)
  refine va_iast hx hb hK hP hD hS 1 0 rfl rfl (ax_in (by decide)) dX7_feed_101 (fun H locs hP hD hS => ?_)
  have hP : va_P (dC, dI) vwCl [(h0, .inr (7, [.ref m_tape, .int 1, .int 0, .int 0, .int 0, .int 0, .int 0, .int 0, .int (-1), .ref m_refused, .ref m_own, .int 0, .ref m_draft, .ref m_program, .ref m_goPlace, .int 0, .int 0, .ref m_isCome, .ref m_heap, .int 0, .ref m_now, .ref m_first, .ref m_second, .ref m_behind, .ref m_states, .int 0, .int 0, .int 0, .ref m_alone0, .ref m_endsBy, .ref m_kept0, .int 0, .int 0, .long 1])), (m_tape, .inl (kt, 1600, .inl (upd f3 (1 : Int32).toNatClampNeg v5)))] H := hP
  have hD : va_D A [(h0, .inr (7, [.ref m_tape, .int 1, .int 0, .int 0, .int 0, .int 0, .int 0, .int 0, .int (-1), .ref m_refused, .ref m_own, .int 0, .ref m_draft, .ref m_program, .ref m_goPlace, .int 0, .int 0, .ref m_isCome, .ref m_heap, .int 0, .ref m_now, .ref m_first, .ref m_second, .ref m_behind, .ref m_states, .int 0, .int 0, .int 0, .ref m_alone0, .ref m_endsBy, .ref m_kept0, .int 0, .int 0, .long 1])), (m_tape, .inl (kt, 1600, .inl (upd f3 (1 : Int32).toNatClampNeg v5)))] := hD
  obtain ⟨f6, hP, hD⟩ : ∃ f : Nat → Int32, va_P (dC, dI) vwCl [(h0, .inr (7, [.ref m_tape, .int 1, .int 0, .int 0, .int 0, .int 0, .int 0, .int 0, .int (-1), .ref m_refused, .ref m_own, .int 0, .ref m_draft, .ref m_program, .ref m_goPlace, .int 0, .int 0, .ref m_isCome, .ref m_heap, .int 0, .ref m_now, .ref m_first, .ref m_second, .ref m_behind, .ref m_states, .int 0, .int 0, .int 0, .ref m_alone0, .ref m_endsBy, .ref m_kept0, .int 0, .int 0, .long 1])), (m_tape, .inl (kt, 1600, .inl f))] H ∧ va_D A [(h0, .inr (7, [.ref m_tape, .int 1, .int 0, .int 0, .int 0, .int 0, .int 0, .int 0, .int (-1), .ref m_refused, .ref m_own, .int 0, .ref m_draft, .ref m_program, .ref m_goPlace, .int 0, .int 0, .ref m_isCome, .ref m_heap, .int 0, .ref m_now, .ref m_first, .ref m_second, .ref m_behind, .ref m_states, .int 0, .int 0, .int 0, .ref m_alone0, .ref m_endsBy, .ref m_kept0, .int 0, .int 0, .long 1])), (m_tape, .inl (kt, 1600, .inl f))] := ⟨_, hP, hD⟩
  refine lv_aload_n hx hb dX7_feed_102 rfl (lv_at hl 2 rfl) ?_
  refine lv_dup hx hb dX7_feed_103 rfl ?_
  refine va_get (D := (dC, dI)) (ci := 7) (v := .int 1) (C := RX7) (T := TX7) (N := 34) hx hb hts inX7 hown hK hP 0 rfl rfl 1 (by decide) (hts _ T_184) (fun _ h9 => h9) rfl dX7_feed_104 ?_
  refine lv_iconst (v := 1) hx hb dX7_feed_107 (by decide) ?_
  refine lv_iadd hx hb dX7_feed_108 ?_
  refine ax_eqi (y := 2) (by decide) ?_
  refine va_put (D := (dC, dI)) (ci := 7) (v := .int 2) (ty := .int) (C := RX7) (T := TX7) (N := 34) hx hb hts inX7 tyX7 tyX7_ok nmX7 hown hK hP hD hS 0 rfl rfl 1 (by decide) (hts _ T_184) (fun _ h9 => h9) rfl (by decide +kernel) rfl rfl (Nat.le_of_ble_eq_true rfl) dX7_feed_109 (fun H locs hP hD hS => ?_)
  have hP : va_P (dC, dI) vwCl [(h0, .inr (7, [.ref m_tape, .int 2, .int 0, .int 0, .int 0, .int 0, .int 0, .int 0, .int (-1), .ref m_refused, .ref m_own, .int 0, .ref m_draft, .ref m_program, .ref m_goPlace, .int 0, .int 0, .ref m_isCome, .ref m_heap, .int 0, .ref m_now, .ref m_first, .ref m_second, .ref m_behind, .ref m_states, .int 0, .int 0, .int 0, .ref m_alone0, .ref m_endsBy, .ref m_kept0, .int 0, .int 0, .long 1])), (m_tape, .inl (kt, 1600, .inl f6))] H := hP
  have hD : va_D A [(h0, .inr (7, [.ref m_tape, .int 2, .int 0, .int 0, .int 0, .int 0, .int 0, .int 0, .int (-1), .ref m_refused, .ref m_own, .int 0, .ref m_draft, .ref m_program, .ref m_goPlace, .int 0, .int 0, .ref m_isCome, .ref m_heap, .int 0, .ref m_now, .ref m_first, .ref m_second, .ref m_behind, .ref m_states, .int 0, .int 0, .int 0, .ref m_alone0, .ref m_endsBy, .ref m_kept0, .int 0, .int 0, .long 1])), (m_tape, .inl (kt, 1600, .inl f6))] := hD
  refine lv_iinc (v := 2) (lv' := [(6, .int 2), (7, .int p0), (0, .ref h0), (1, .int p0), (2, .int p1), (3, .int p2), (4, .int p3), (5, .int p4)]) hx hb dX7_feed_112 hl (k := 1) rfl (by decide) (by decide) rfl (fun ls hl => ?_)
  refine lv_goto (tgt := 22) hx hb dX7_feed_115 (by decide) ?_
  refine lv_iload hx hb dX7_feed_22 (lv_at hl 0 rfl) ?_
  refine lv_bipush (v := 20) hx hb dX7_feed_24 (by decide) ?_
  refine lv_icmp_ge (tgt := 118) hx hb dX7_feed_26 (by decide) (fun c => absurd c (by decide)) (fun _ => ?_)
  refine lv_iload hx hb dX7_feed_29 (lv_at hl 0 rfl) ?_
  refine lv_iconst (v := 4) hx hb dX7_feed_31 (by decide) ?_
  refine lv_icmp_ge (tgt := 39) hx hb dX7_feed_32 (by decide) (fun c => absurd c (by decide)) (fun _ => ?_)
  refine lv_iload_n hx hb dX7_feed_35 rfl (lv_at hl 3 rfl) ?_
  refine lv_goto (tgt := 75) hx hb dX7_feed_36 (by decide) ?_
  refine lv_istore (lv' := [(7, .int p0), (6, .int 2), (0, .ref h0), (1, .int p0), (2, .int p1), (3, .int p2), (4, .int p3), (5, .int p4)]) hx hb dX7_feed_75 hl (by decide) rfl (fun ls hl => ?_)
  refine lv_aload_n hx hb dX7_feed_77 rfl (lv_at hl 2 rfl) ?_
  refine va_get (D := (dC, dI)) (ci := 7) (v := .ref m_tape) (C := RX7) (T := TX7) (N := 34) hx hb hts inX7 hown hK hP 0 rfl rfl 0 (by decide) (hts _ T_163) (fun _ h9 => h9) rfl dX7_feed_78 ?_
  refine lv_aload_n hx hb dX7_feed_81 rfl (lv_at hl 2 rfl) ?_
  refine va_get (D := (dC, dI)) (ci := 7) (v := .int 2) (C := RX7) (T := TX7) (N := 34) hx hb hts inX7 hown hK hP 0 rfl rfl 1 (by decide) (hts _ T_184) (fun _ h9 => h9) rfl dX7_feed_82 ?_
  refine lv_iload hx hb dX7_feed_85 (lv_at hl 0 rfl) ?_
  refine lv_bipush (v := 8) hx hb dX7_feed_87 (by decide) ?_
  refine lv_iconst (v := 3) hx hb dX7_feed_89 (by decide) ?_
  refine lv_iload hx hb dX7_feed_90 (lv_at hl 1 rfl) ?_
  refine lv_iconst (v := 4) hx hb dX7_feed_92 (by decide) ?_
  refine lv_irem hx hb dX7_feed_93 (by decide) ?_
  refine ax_eqi (y := 2) (by decide) ?_
  refine lv_isub hx hb dX7_feed_94 ?_
  refine ax_eqi (y := 1) (by decide) ?_
  refine lv_imul hx hb dX7_feed_95 ?_
  refine ax_eqi (y := 8) (by decide) ?_
  refine lv_ishr hx hb dX7_feed_96 ?_
  refine lv_topi (fun v7 ev7 => ?_)
  refine lv_sipush (v := 255) hx hb dX7_feed_97 (by decide) ?_
  refine lv_iand hx hb dX7_feed_100 ?_
  refine lv_topi (fun v8 ev8 => ?_)
  refine va_iast hx hb hK hP hD hS 1 0 rfl rfl (ax_in (by decide)) dX7_feed_101 (fun H locs hP hD hS => ?_)
  have hP : va_P (dC, dI) vwCl [(h0, .inr (7, [.ref m_tape, .int 2, .int 0, .int 0, .int 0, .int 0, .int 0, .int 0, .int (-1), .ref m_refused, .ref m_own, .int 0, .ref m_draft, .ref m_program, .ref m_goPlace, .int 0, .int 0, .ref m_isCome, .ref m_heap, .int 0, .ref m_now, .ref m_first, .ref m_second, .ref m_behind, .ref m_states, .int 0, .int 0, .int 0, .ref m_alone0, .ref m_endsBy, .ref m_kept0, .int 0, .int 0, .long 1])), (m_tape, .inl (kt, 1600, .inl (upd f6 (2 : Int32).toNatClampNeg v8)))] H := hP
  have hD : va_D A [(h0, .inr (7, [.ref m_tape, .int 2, .int 0, .int 0, .int 0, .int 0, .int 0, .int 0, .int (-1), .ref m_refused, .ref m_own, .int 0, .ref m_draft, .ref m_program, .ref m_goPlace, .int 0, .int 0, .ref m_isCome, .ref m_heap, .int 0, .ref m_now, .ref m_first, .ref m_second, .ref m_behind, .ref m_states, .int 0, .int 0, .int 0, .ref m_alone0, .ref m_endsBy, .ref m_kept0, .int 0, .int 0, .long 1])), (m_tape, .inl (kt, 1600, .inl (upd f6 (2 : Int32).toNatClampNeg v8)))] := hD
  obtain ⟨f9, hP, hD⟩ : ∃ f : Nat → Int32, va_P (dC, dI) vwCl [(h0, .inr (7, [.ref m_tape, .int 2, .int 0, .int 0, .int 0, .int 0, .int 0, .int 0, .int (-1), .ref m_refused, .ref m_own, .int 0, .ref m_draft, .ref m_program, .ref m_goPlace, .int 0, .int 0, .ref m_isCome, .ref m_heap, .int 0, .ref m_now, .ref m_first, .ref m_second, .ref m_behind, .ref m_states, .int 0, .int 0, .int 0, .ref m_alone0, .ref m_endsBy, .ref m_kept0, .int 0, .int 0, .long 1])), (m_tape, .inl (kt, 1600, .inl f))] H ∧ va_D A [(h0, .inr (7, [.ref m_tape, .int 2, .int 0, .int 0, .int 0, .int 0, .int 0, .int 0, .int (-1), .ref m_refused, .ref m_own, .int 0, .ref m_draft, .ref m_program, .ref m_goPlace, .int 0, .int 0, .ref m_isCome, .ref m_heap, .int 0, .ref m_now, .ref m_first, .ref m_second, .ref m_behind, .ref m_states, .int 0, .int 0, .int 0, .ref m_alone0, .ref m_endsBy, .ref m_kept0, .int 0, .int 0, .long 1])), (m_tape, .inl (kt, 1600, .inl f))] := ⟨_, hP, hD⟩
  refine lv_aload_n hx hb dX7_feed_102 rfl (lv_at hl 2 rfl) ?_
  refine lv_dup hx hb dX7_feed_103 rfl ?_
  refine va_get (D := (dC, dI)) (ci := 7) (v := .int 2) (C := RX7) (T := TX7) (N := 34) hx hb hts inX7 hown hK hP 0 rfl rfl 1 (by decide) (hts _ T_184) (fun _ h9 => h9) rfl dX7_feed_104 ?_
  refine lv_iconst (v := 1) hx hb dX7_feed_107 (by decide) ?_
  refine lv_iadd hx hb dX7_feed_108 ?_
  refine ax_eqi (y := 3) (by decide) ?_
  refine va_put (D := (dC, dI)) (ci := 7) (v := .int 3) (ty := .int) (C := RX7) (T := TX7) (N := 34) hx hb hts inX7 tyX7 tyX7_ok nmX7 hown hK hP hD hS 0 rfl rfl 1 (by decide) (hts _ T_184) (fun _ h9 => h9) rfl (by decide +kernel) rfl rfl (Nat.le_of_ble_eq_true rfl) dX7_feed_109 (fun H locs hP hD hS => ?_)
  have hP : va_P (dC, dI) vwCl [(h0, .inr (7, [.ref m_tape, .int 3, .int 0, .int 0, .int 0, .int 0, .int 0, .int 0, .int (-1), .ref m_refused, .ref m_own, .int 0, .ref m_draft, .ref m_program, .ref m_goPlace, .int 0, .int 0, .ref m_isCome, .ref m_heap, .int 0, .ref m_now, .ref m_first, .ref m_second, .ref m_behind, .ref m_states, .int 0, .int 0, .int 0, .ref m_alone0, .ref m_endsBy, .ref m_kept0, .int 0, .int 0, .long 1])), (m_tape, .inl (kt, 1600, .inl f9))] H := hP
  have hD : va_D A [(h0, .inr (7, [.ref m_tape, .int 3, .int 0, .int 0, .int 0, .int 0, .int 0, .int 0, .int (-1), .ref m_refused, .ref m_own, .int 0, .ref m_draft, .ref m_program, .ref m_goPlace, .int 0, .int 0, .ref m_isCome, .ref m_heap, .int 0, .ref m_now, .ref m_first, .ref m_second, .ref m_behind, .ref m_states, .int 0, .int 0, .int 0, .ref m_alone0, .ref m_endsBy, .ref m_kept0, .int 0, .int 0, .long 1])), (m_tape, .inl (kt, 1600, .inl f9))] := hD
  refine lv_iinc (v := 3) (lv' := [(6, .int 3), (7, .int p0), (0, .ref h0), (1, .int p0), (2, .int p1), (3, .int p2), (4, .int p3), (5, .int p4)]) hx hb dX7_feed_112 hl (k := 1) rfl (by decide) (by decide) rfl (fun ls hl => ?_)
  refine lv_goto (tgt := 22) hx hb dX7_feed_115 (by decide) ?_
  refine lv_iload hx hb dX7_feed_22 (lv_at hl 0 rfl) ?_
  refine lv_bipush (v := 20) hx hb dX7_feed_24 (by decide) ?_
  refine lv_icmp_ge (tgt := 118) hx hb dX7_feed_26 (by decide) (fun c => absurd c (by decide)) (fun _ => ?_)
  refine lv_iload hx hb dX7_feed_29 (lv_at hl 0 rfl) ?_
  refine lv_iconst (v := 4) hx hb dX7_feed_31 (by decide) ?_
  refine lv_icmp_ge (tgt := 39) hx hb dX7_feed_32 (by decide) (fun c => absurd c (by decide)) (fun _ => ?_)
  refine lv_iload_n hx hb dX7_feed_35 rfl (lv_at hl 3 rfl) ?_
  refine lv_goto (tgt := 75) hx hb dX7_feed_36 (by decide) ?_
  refine lv_istore (lv' := [(7, .int p0), (6, .int 3), (0, .ref h0), (1, .int p0), (2, .int p1), (3, .int p2), (4, .int p3), (5, .int p4)]) hx hb dX7_feed_75 hl (by decide) rfl (fun ls hl => ?_)
  refine lv_aload_n hx hb dX7_feed_77 rfl (lv_at hl 2 rfl) ?_
  refine va_get (D := (dC, dI)) (ci := 7) (v := .ref m_tape) (C := RX7) (T := TX7) (N := 34) hx hb hts inX7 hown hK hP 0 rfl rfl 0 (by decide) (hts _ T_163) (fun _ h9 => h9) rfl dX7_feed_78 ?_
  refine lv_aload_n hx hb dX7_feed_81 rfl (lv_at hl 2 rfl) ?_
  refine va_get (D := (dC, dI)) (ci := 7) (v := .int 3) (C := RX7) (T := TX7) (N := 34) hx hb hts inX7 hown hK hP 0 rfl rfl 1 (by decide) (hts _ T_184) (fun _ h9 => h9) rfl dX7_feed_82 ?_
  refine lv_iload hx hb dX7_feed_85 (lv_at hl 0 rfl) ?_
  refine lv_bipush (v := 8) hx hb dX7_feed_87 (by decide) ?_
  refine lv_iconst (v := 3) hx hb dX7_feed_89 (by decide) ?_
  refine lv_iload hx hb dX7_feed_90 (lv_at hl 1 rfl) ?_
  refine lv_iconst (v := 4) hx hb dX7_feed_92 (by decide) ?_
  refine lv_irem hx hb dX7_feed_93 (by decide) ?_
  refine ax_eqi (y := 3) (by decide) ?_
  refine lv_isub hx hb dX7_feed_94 ?_
  refine ax_eqi (y := 0) (by decide) ?_
  refine lv_imul hx hb dX7_feed_95 ?_
  refine ax_eqi (y := 0) (by decide) ?_
  refine lv_ishr hx hb dX7_feed_96 ?_
  refine lv_topi (fun v10 ev10 => ?_)
  refine lv_sipush (v := 255) hx hb dX7_feed_97 (by decide) ?_
  refine lv_iand hx hb dX7_feed_100 ?_
  refine lv_topi (fun v11 ev11 => ?_)
  refine va_iast hx hb hK hP hD hS 1 0 rfl rfl (ax_in (by decide)) dX7_feed_101 (fun H locs hP hD hS => ?_)
  have hP : va_P (dC, dI) vwCl [(h0, .inr (7, [.ref m_tape, .int 3, .int 0, .int 0, .int 0, .int 0, .int 0, .int 0, .int (-1), .ref m_refused, .ref m_own, .int 0, .ref m_draft, .ref m_program, .ref m_goPlace, .int 0, .int 0, .ref m_isCome, .ref m_heap, .int 0, .ref m_now, .ref m_first, .ref m_second, .ref m_behind, .ref m_states, .int 0, .int 0, .int 0, .ref m_alone0, .ref m_endsBy, .ref m_kept0, .int 0, .int 0, .long 1])), (m_tape, .inl (kt, 1600, .inl (upd f9 (3 : Int32).toNatClampNeg v11)))] H := hP
  have hD : va_D A [(h0, .inr (7, [.ref m_tape, .int 3, .int 0, .int 0, .int 0, .int 0, .int 0, .int 0, .int (-1), .ref m_refused, .ref m_own, .int 0, .ref m_draft, .ref m_program, .ref m_goPlace, .int 0, .int 0, .ref m_isCome, .ref m_heap, .int 0, .ref m_now, .ref m_first, .ref m_second, .ref m_behind, .ref m_states, .int 0, .int 0, .int 0, .ref m_alone0, .ref m_endsBy, .ref m_kept0, .int 0, .int 0, .long 1])), (m_tape, .inl (kt, 1600, .inl (upd f9 (3 : Int32).toNatClampNeg v11)))] := hD
  obtain ⟨f12, hP, hD⟩ : ∃ f : Nat → Int32, va_P (dC, dI) vwCl [(h0, .inr (7, [.ref m_tape, .int 3, .int 0, .int 0, .int 0, .int 0, .int 0, .int 0, .int (-1), .ref m_refused, .ref m_own, .int 0, .ref m_draft, .ref m_program, .ref m_goPlace, .int 0, .int 0, .ref m_isCome, .ref m_heap, .int 0, .ref m_now, .ref m_first, .ref m_second, .ref m_behind, .ref m_states, .int 0, .int 0, .int 0, .ref m_alone0, .ref m_endsBy, .ref m_kept0, .int 0, .int 0, .long 1])), (m_tape, .inl (kt, 1600, .inl f))] H ∧ va_D A [(h0, .inr (7, [.ref m_tape, .int 3, .int 0, .int 0, .int 0, .int 0, .int 0, .int 0, .int (-1), .ref m_refused, .ref m_own, .int 0, .ref m_draft, .ref m_program, .ref m_goPlace, .int 0, .int 0, .ref m_isCome, .ref m_heap, .int 0, .ref m_now, .ref m_first, .ref m_second, .ref m_behind, .ref m_states, .int 0, .int 0, .int 0, .ref m_alone0, .ref m_endsBy, .ref m_kept0, .int 0, .int 0, .long 1])), (m_tape, .inl (kt, 1600, .inl f))] := ⟨_, hP, hD⟩
  refine lv_aload_n hx hb dX7_feed_102 rfl (lv_at hl 2 rfl) ?_
  refine lv_dup hx hb dX7_feed_103 rfl ?_
  refine va_get (D := (dC, dI)) (ci := 7) (v := .int 3) (C := RX7) (T := TX7) (N := 34) hx hb hts inX7 hown hK hP 0 rfl rfl 1 (by decide) (hts _ T_184) (fun _ h9 => h9) rfl dX7_feed_104 ?_
  refine lv_iconst (v := 1) hx hb dX7_feed_107 (by decide) ?_
  refine lv_iadd hx hb dX7_feed_108 ?_
  refine ax_eqi (y := 4) (by decide) ?_
  refine va_put (D := (dC, dI)) (ci := 7) (v := .int 4) (ty := .int) (C := RX7) (T := TX7) (N := 34) hx hb hts inX7 tyX7 tyX7_ok nmX7 hown hK hP hD hS 0 rfl rfl 1 (by decide) (hts _ T_184) (fun _ h9 => h9) rfl (by decide +kernel) rfl rfl (Nat.le_of_ble_eq_true rfl) dX7_feed_109 (fun H locs hP hD hS => ?_)
  have hP : va_P (dC, dI) vwCl [(h0, .inr (7, [.ref m_tape, .int 4, .int 0, .int 0, .int 0, .int 0, .int 0, .int 0, .int (-1), .ref m_refused, .ref m_own, .int 0, .ref m_draft, .ref m_program, .ref m_goPlace, .int 0, .int 0, .ref m_isCome, .ref m_heap, .int 0, .ref m_now, .ref m_first, .ref m_second, .ref m_behind, .ref m_states, .int 0, .int 0, .int 0, .ref m_alone0, .ref m_endsBy, .ref m_kept0, .int 0, .int 0, .long 1])), (m_tape, .inl (kt, 1600, .inl f12))] H := hP
  have hD : va_D A [(h0, .inr (7, [.ref m_tape, .int 4, .int 0, .int 0, .int 0, .int 0, .int 0, .int 0, .int (-1), .ref m_refused, .ref m_own, .int 0, .ref m_draft, .ref m_program, .ref m_goPlace, .int 0, .int 0, .ref m_isCome, .ref m_heap, .int 0, .ref m_now, .ref m_first, .ref m_second, .ref m_behind, .ref m_states, .int 0, .int 0, .int 0, .ref m_alone0, .ref m_endsBy, .ref m_kept0, .int 0, .int 0, .long 1])), (m_tape, .inl (kt, 1600, .inl f12))] := hD
  refine lv_iinc (v := 4) (lv' := [(6, .int 4), (7, .int p0), (0, .ref h0), (1, .int p0), (2, .int p1), (3, .int p2), (4, .int p3), (5, .int p4)]) hx hb dX7_feed_112 hl (k := 1) rfl (by decide) (by decide) rfl (fun ls hl => ?_)
  refine lv_goto (tgt := 22) hx hb dX7_feed_115 (by decide) ?_
  refine lv_iload hx hb dX7_feed_22 (lv_at hl 0 rfl) ?_
  refine lv_bipush (v := 20) hx hb dX7_feed_24 (by decide) ?_
  refine lv_icmp_ge (tgt := 118) hx hb dX7_feed_26 (by decide) (fun c => absurd c (by decide)) (fun _ => ?_)
  refine lv_iload hx hb dX7_feed_29 (lv_at hl 0 rfl) ?_
  refine lv_iconst (v := 4) hx hb dX7_feed_31 (by decide) ?_
  refine lv_icmp_ge (tgt := 39) hx hb dX7_feed_32 (by decide) (fun _ => ?_) (fun c => absurd (by decide) c)
  refine lv_iload hx hb dX7_feed_39 (lv_at hl 0 rfl) ?_
  refine lv_bipush (v := 8) hx hb dX7_feed_41 (by decide) ?_
  refine lv_icmp_ge (tgt := 50) hx hb dX7_feed_43 (by decide) (fun c => absurd c (by decide)) (fun _ => ?_)
  refine lv_iload_n hx hb dX7_feed_46 rfl (lv_at hl 4 rfl) ?_
  refine lv_goto (tgt := 75) hx hb dX7_feed_47 (by decide) ?_
  refine lv_istore (lv' := [(7, .int p1), (6, .int 4), (0, .ref h0), (1, .int p0), (2, .int p1), (3, .int p2), (4, .int p3), (5, .int p4)]) hx hb dX7_feed_75 hl (by decide) rfl (fun ls hl => ?_)
  refine lv_aload_n hx hb dX7_feed_77 rfl (lv_at hl 2 rfl) ?_
  refine va_get (D := (dC, dI)) (ci := 7) (v := .ref m_tape) (C := RX7) (T := TX7) (N := 34) hx hb hts inX7 hown hK hP 0 rfl rfl 0 (by decide) (hts _ T_163) (fun _ h9 => h9) rfl dX7_feed_78 ?_
  refine lv_aload_n hx hb dX7_feed_81 rfl (lv_at hl 2 rfl) ?_
  refine va_get (D := (dC, dI)) (ci := 7) (v := .int 4) (C := RX7) (T := TX7) (N := 34) hx hb hts inX7 hown hK hP 0 rfl rfl 1 (by decide) (hts _ T_184) (fun _ h9 => h9) rfl dX7_feed_82 ?_
  refine lv_iload hx hb dX7_feed_85 (lv_at hl 0 rfl) ?_
  refine lv_bipush (v := 8) hx hb dX7_feed_87 (by decide) ?_
  refine lv_iconst (v := 3) hx hb dX7_feed_89 (by decide) ?_
  refine lv_iload hx hb dX7_feed_90 (lv_at hl 1 rfl) ?_
  refine lv_iconst (v := 4) hx hb dX7_feed_92 (by decide) ?_
  refine lv_irem hx hb dX7_feed_93 (by decide) ?_
  refine ax_eqi (y := 0) (by decide) ?_
  refine lv_isub hx hb dX7_feed_94 ?_
  refine ax_eqi (y := 3) (by decide) ?_
  refine lv_imul hx hb dX7_feed_95 ?_
  refine ax_eqi (y := 24) (by decide) ?_
  refine lv_ishr hx hb dX7_feed_96 ?_
  refine lv_topi (fun v13 ev13 => ?_)
  refine lv_sipush (v := 255) hx hb dX7_feed_97 (by decide) ?_
  refine lv_iand hx hb dX7_feed_100 ?_
  refine lv_topi (fun v14 ev14 => ?_)
  refine va_iast hx hb hK hP hD hS 1 0 rfl rfl (ax_in (by decide)) dX7_feed_101 (fun H locs hP hD hS => ?_)
  have hP : va_P (dC, dI) vwCl [(h0, .inr (7, [.ref m_tape, .int 4, .int 0, .int 0, .int 0, .int 0, .int 0, .int 0, .int (-1), .ref m_refused, .ref m_own, .int 0, .ref m_draft, .ref m_program, .ref m_goPlace, .int 0, .int 0, .ref m_isCome, .ref m_heap, .int 0, .ref m_now, .ref m_first, .ref m_second, .ref m_behind, .ref m_states, .int 0, .int 0, .int 0, .ref m_alone0, .ref m_endsBy, .ref m_kept0, .int 0, .int 0, .long 1])), (m_tape, .inl (kt, 1600, .inl (upd f12 (4 : Int32).toNatClampNeg v14)))] H := hP
  have hD : va_D A [(h0, .inr (7, [.ref m_tape, .int 4, .int 0, .int 0, .int 0, .int 0, .int 0, .int 0, .int (-1), .ref m_refused, .ref m_own, .int 0, .ref m_draft, .ref m_program, .ref m_goPlace, .int 0, .int 0, .ref m_isCome, .ref m_heap, .int 0, .ref m_now, .ref m_first, .ref m_second, .ref m_behind, .ref m_states, .int 0, .int 0, .int 0, .ref m_alone0, .ref m_endsBy, .ref m_kept0, .int 0, .int 0, .long 1])), (m_tape, .inl (kt, 1600, .inl (upd f12 (4 : Int32).toNatClampNeg v14)))] := hD
  obtain ⟨f15, hP, hD⟩ : ∃ f : Nat → Int32, va_P (dC, dI) vwCl [(h0, .inr (7, [.ref m_tape, .int 4, .int 0, .int 0, .int 0, .int 0, .int 0, .int 0, .int (-1), .ref m_refused, .ref m_own, .int 0, .ref m_draft, .ref m_program, .ref m_goPlace, .int 0, .int 0, .ref m_isCome, .ref m_heap, .int 0, .ref m_now, .ref m_first, .ref m_second, .ref m_behind, .ref m_states, .int 0, .int 0, .int 0, .ref m_alone0, .ref m_endsBy, .ref m_kept0, .int 0, .int 0, .long 1])), (m_tape, .inl (kt, 1600, .inl f))] H ∧ va_D A [(h0, .inr (7, [.ref m_tape, .int 4, .int 0, .int 0, .int 0, .int 0, .int 0, .int 0, .int (-1), .ref m_refused, .ref m_own, .int 0, .ref m_draft, .ref m_program, .ref m_goPlace, .int 0, .int 0, .ref m_isCome, .ref m_heap, .int 0, .ref m_now, .ref m_first, .ref m_second, .ref m_behind, .ref m_states, .int 0, .int 0, .int 0, .ref m_alone0, .ref m_endsBy, .ref m_kept0, .int 0, .int 0, .long 1])), (m_tape, .inl (kt, 1600, .inl f))] := ⟨_, hP, hD⟩
  refine lv_aload_n hx hb dX7_feed_102 rfl (lv_at hl 2 rfl) ?_
  refine lv_dup hx hb dX7_feed_103 rfl ?_
  refine va_get (D := (dC, dI)) (ci := 7) (v := .int 4) (C := RX7) (T := TX7) (N := 34) hx hb hts inX7 hown hK hP 0 rfl rfl 1 (by decide) (hts _ T_184) (fun _ h9 => h9) rfl dX7_feed_104 ?_
  refine lv_iconst (v := 1) hx hb dX7_feed_107 (by decide) ?_
  refine lv_iadd hx hb dX7_feed_108 ?_
  refine ax_eqi (y := 5) (by decide) ?_
  refine va_put (D := (dC, dI)) (ci := 7) (v := .int 5) (ty := .int) (C := RX7) (T := TX7) (N := 34) hx hb hts inX7 tyX7 tyX7_ok nmX7 hown hK hP hD hS 0 rfl rfl 1 (by decide) (hts _ T_184) (fun _ h9 => h9) rfl (by decide +kernel) rfl rfl (Nat.le_of_ble_eq_true rfl) dX7_feed_109 (fun H locs hP hD hS => ?_)
  have hP : va_P (dC, dI) vwCl [(h0, .inr (7, [.ref m_tape, .int 5, .int 0, .int 0, .int 0, .int 0, .int 0, .int 0, .int (-1), .ref m_refused, .ref m_own, .int 0, .ref m_draft, .ref m_program, .ref m_goPlace, .int 0, .int 0, .ref m_isCome, .ref m_heap, .int 0, .ref m_now, .ref m_first, .ref m_second, .ref m_behind, .ref m_states, .int 0, .int 0, .int 0, .ref m_alone0, .ref m_endsBy, .ref m_kept0, .int 0, .int 0, .long 1])), (m_tape, .inl (kt, 1600, .inl f15))] H := hP
  have hD : va_D A [(h0, .inr (7, [.ref m_tape, .int 5, .int 0, .int 0, .int 0, .int 0, .int 0, .int 0, .int (-1), .ref m_refused, .ref m_own, .int 0, .ref m_draft, .ref m_program, .ref m_goPlace, .int 0, .int 0, .ref m_isCome, .ref m_heap, .int 0, .ref m_now, .ref m_first, .ref m_second, .ref m_behind, .ref m_states, .int 0, .int 0, .int 0, .ref m_alone0, .ref m_endsBy, .ref m_kept0, .int 0, .int 0, .long 1])), (m_tape, .inl (kt, 1600, .inl f15))] := hD
  refine lv_iinc (v := 5) (lv' := [(6, .int 5), (7, .int p1), (0, .ref h0), (1, .int p0), (2, .int p1), (3, .int p2), (4, .int p3), (5, .int p4)]) hx hb dX7_feed_112 hl (k := 1) rfl (by decide) (by decide) rfl (fun ls hl => ?_)
  refine lv_goto (tgt := 22) hx hb dX7_feed_115 (by decide) ?_
  refine lv_iload hx hb dX7_feed_22 (lv_at hl 0 rfl) ?_
  refine lv_bipush (v := 20) hx hb dX7_feed_24 (by decide) ?_
  refine lv_icmp_ge (tgt := 118) hx hb dX7_feed_26 (by decide) (fun c => absurd c (by decide)) (fun _ => ?_)
  refine lv_iload hx hb dX7_feed_29 (lv_at hl 0 rfl) ?_
  refine lv_iconst (v := 4) hx hb dX7_feed_31 (by decide) ?_
  refine lv_icmp_ge (tgt := 39) hx hb dX7_feed_32 (by decide) (fun _ => ?_) (fun c => absurd (by decide) c)
  refine lv_iload hx hb dX7_feed_39 (lv_at hl 0 rfl) ?_
  refine lv_bipush (v := 8) hx hb dX7_feed_41 (by decide) ?_
  refine lv_icmp_ge (tgt := 50) hx hb dX7_feed_43 (by decide) (fun c => absurd c (by decide)) (fun _ => ?_)
  refine lv_iload_n hx hb dX7_feed_46 rfl (lv_at hl 4 rfl) ?_
  refine lv_goto (tgt := 75) hx hb dX7_feed_47 (by decide) ?_
  refine lv_istore (lv' := [(7, .int p1), (6, .int 5), (0, .ref h0), (1, .int p0), (2, .int p1), (3, .int p2), (4, .int p3), (5, .int p4)]) hx hb dX7_feed_75 hl (by decide) rfl (fun ls hl => ?_)
  refine lv_aload_n hx hb dX7_feed_77 rfl (lv_at hl 2 rfl) ?_
  refine va_get (D := (dC, dI)) (ci := 7) (v := .ref m_tape) (C := RX7) (T := TX7) (N := 34) hx hb hts inX7 hown hK hP 0 rfl rfl 0 (by decide) (hts _ T_163) (fun _ h9 => h9) rfl dX7_feed_78 ?_
  refine lv_aload_n hx hb dX7_feed_81 rfl (lv_at hl 2 rfl) ?_
  refine va_get (D := (dC, dI)) (ci := 7) (v := .int 5) (C := RX7) (T := TX7) (N := 34) hx hb hts inX7 hown hK hP 0 rfl rfl 1 (by decide) (hts _ T_184) (fun _ h9 => h9) rfl dX7_feed_82 ?_
  refine lv_iload hx hb dX7_feed_85 (lv_at hl 0 rfl) ?_
  refine lv_bipush (v := 8) hx hb dX7_feed_87 (by decide) ?_
  refine lv_iconst (v := 3) hx hb dX7_feed_89 (by decide) ?_
  refine lv_iload hx hb dX7_feed_90 (lv_at hl 1 rfl) ?_
  refine lv_iconst (v := 4) hx hb dX7_feed_92 (by decide) ?_
  refine lv_irem hx hb dX7_feed_93 (by decide) ?_
  refine ax_eqi (y := 1) (by decide) ?_
  refine lv_isub hx hb dX7_feed_94 ?_
  refine ax_eqi (y := 2) (by decide) ?_
  refine lv_imul hx hb dX7_feed_95 ?_
  refine ax_eqi (y := 16) (by decide) ?_
  refine lv_ishr hx hb dX7_feed_96 ?_
  refine lv_topi (fun v16 ev16 => ?_)
  refine lv_sipush (v := 255) hx hb dX7_feed_97 (by decide) ?_
  refine lv_iand hx hb dX7_feed_100 ?_
  refine lv_topi (fun v17 ev17 => ?_)
  refine va_iast hx hb hK hP hD hS 1 0 rfl rfl (ax_in (by decide)) dX7_feed_101 (fun H locs hP hD hS => ?_)
  have hP : va_P (dC, dI) vwCl [(h0, .inr (7, [.ref m_tape, .int 5, .int 0, .int 0, .int 0, .int 0, .int 0, .int 0, .int (-1), .ref m_refused, .ref m_own, .int 0, .ref m_draft, .ref m_program, .ref m_goPlace, .int 0, .int 0, .ref m_isCome, .ref m_heap, .int 0, .ref m_now, .ref m_first, .ref m_second, .ref m_behind, .ref m_states, .int 0, .int 0, .int 0, .ref m_alone0, .ref m_endsBy, .ref m_kept0, .int 0, .int 0, .long 1])), (m_tape, .inl (kt, 1600, .inl (upd f15 (5 : Int32).toNatClampNeg v17)))] H := hP
  have hD : va_D A [(h0, .inr (7, [.ref m_tape, .int 5, .int 0, .int 0, .int 0, .int 0, .int 0, .int 0, .int (-1), .ref m_refused, .ref m_own, .int 0, .ref m_draft, .ref m_program, .ref m_goPlace, .int 0, .int 0, .ref m_isCome, .ref m_heap, .int 0, .ref m_now, .ref m_first, .ref m_second, .ref m_behind, .ref m_states, .int 0, .int 0, .int 0, .ref m_alone0, .ref m_endsBy, .ref m_kept0, .int 0, .int 0, .long 1])), (m_tape, .inl (kt, 1600, .inl (upd f15 (5 : Int32).toNatClampNeg v17)))] := hD
  obtain ⟨f18, hP, hD⟩ : ∃ f : Nat → Int32, va_P (dC, dI) vwCl [(h0, .inr (7, [.ref m_tape, .int 5, .int 0, .int 0, .int 0, .int 0, .int 0, .int 0, .int (-1), .ref m_refused, .ref m_own, .int 0, .ref m_draft, .ref m_program, .ref m_goPlace, .int 0, .int 0, .ref m_isCome, .ref m_heap, .int 0, .ref m_now, .ref m_first, .ref m_second, .ref m_behind, .ref m_states, .int 0, .int 0, .int 0, .ref m_alone0, .ref m_endsBy, .ref m_kept0, .int 0, .int 0, .long 1])), (m_tape, .inl (kt, 1600, .inl f))] H ∧ va_D A [(h0, .inr (7, [.ref m_tape, .int 5, .int 0, .int 0, .int 0, .int 0, .int 0, .int 0, .int (-1), .ref m_refused, .ref m_own, .int 0, .ref m_draft, .ref m_program, .ref m_goPlace, .int 0, .int 0, .ref m_isCome, .ref m_heap, .int 0, .ref m_now, .ref m_first, .ref m_second, .ref m_behind, .ref m_states, .int 0, .int 0, .int 0, .ref m_alone0, .ref m_endsBy, .ref m_kept0, .int 0, .int 0, .long 1])), (m_tape, .inl (kt, 1600, .inl f))] := ⟨_, hP, hD⟩
  refine lv_aload_n hx hb dX7_feed_102 rfl (lv_at hl 2 rfl) ?_
  refine lv_dup hx hb dX7_feed_103 rfl ?_
  refine va_get (D := (dC, dI)) (ci := 7) (v := .int 5) (C := RX7) (T := TX7) (N := 34) hx hb hts inX7 hown hK hP 0 rfl rfl 1 (by decide) (hts _ T_184) (fun _ h9 => h9) rfl dX7_feed_104 ?_
  refine lv_iconst (v := 1) hx hb dX7_feed_107 (by decide) ?_
  refine lv_iadd hx hb dX7_feed_108 ?_
  refine ax_eqi (y := 6) (by decide) ?_
  refine va_put (D := (dC, dI)) (ci := 7) (v := .int 6) (ty := .int) (C := RX7) (T := TX7) (N := 34) hx hb hts inX7 tyX7 tyX7_ok nmX7 hown hK hP hD hS 0 rfl rfl 1 (by decide) (hts _ T_184) (fun _ h9 => h9) rfl (by decide +kernel) rfl rfl (Nat.le_of_ble_eq_true rfl) dX7_feed_109 (fun H locs hP hD hS => ?_)
  have hP : va_P (dC, dI) vwCl [(h0, .inr (7, [.ref m_tape, .int 6, .int 0, .int 0, .int 0, .int 0, .int 0, .int 0, .int (-1), .ref m_refused, .ref m_own, .int 0, .ref m_draft, .ref m_program, .ref m_goPlace, .int 0, .int 0, .ref m_isCome, .ref m_heap, .int 0, .ref m_now, .ref m_first, .ref m_second, .ref m_behind, .ref m_states, .int 0, .int 0, .int 0, .ref m_alone0, .ref m_endsBy, .ref m_kept0, .int 0, .int 0, .long 1])), (m_tape, .inl (kt, 1600, .inl f18))] H := hP
  have hD : va_D A [(h0, .inr (7, [.ref m_tape, .int 6, .int 0, .int 0, .int 0, .int 0, .int 0, .int 0, .int (-1), .ref m_refused, .ref m_own, .int 0, .ref m_draft, .ref m_program, .ref m_goPlace, .int 0, .int 0, .ref m_isCome, .ref m_heap, .int 0, .ref m_now, .ref m_first, .ref m_second, .ref m_behind, .ref m_states, .int 0, .int 0, .int 0, .ref m_alone0, .ref m_endsBy, .ref m_kept0, .int 0, .int 0, .long 1])), (m_tape, .inl (kt, 1600, .inl f18))] := hD
  refine lv_iinc (v := 6) (lv' := [(6, .int 6), (7, .int p1), (0, .ref h0), (1, .int p0), (2, .int p1), (3, .int p2), (4, .int p3), (5, .int p4)]) hx hb dX7_feed_112 hl (k := 1) rfl (by decide) (by decide) rfl (fun ls hl => ?_)
  refine lv_goto (tgt := 22) hx hb dX7_feed_115 (by decide) ?_
  refine lv_iload hx hb dX7_feed_22 (lv_at hl 0 rfl) ?_
  refine lv_bipush (v := 20) hx hb dX7_feed_24 (by decide) ?_
  refine lv_icmp_ge (tgt := 118) hx hb dX7_feed_26 (by decide) (fun c => absurd c (by decide)) (fun _ => ?_)
  refine lv_iload hx hb dX7_feed_29 (lv_at hl 0 rfl) ?_
  refine lv_iconst (v := 4) hx hb dX7_feed_31 (by decide) ?_
  refine lv_icmp_ge (tgt := 39) hx hb dX7_feed_32 (by decide) (fun _ => ?_) (fun c => absurd (by decide) c)
  refine lv_iload hx hb dX7_feed_39 (lv_at hl 0 rfl) ?_
  refine lv_bipush (v := 8) hx hb dX7_feed_41 (by decide) ?_
  refine lv_icmp_ge (tgt := 50) hx hb dX7_feed_43 (by decide) (fun c => absurd c (by decide)) (fun _ => ?_)
  refine lv_iload_n hx hb dX7_feed_46 rfl (lv_at hl 4 rfl) ?_
  refine lv_goto (tgt := 75) hx hb dX7_feed_47 (by decide) ?_
  refine lv_istore (lv' := [(7, .int p1), (6, .int 6), (0, .ref h0), (1, .int p0), (2, .int p1), (3, .int p2), (4, .int p3), (5, .int p4)]) hx hb dX7_feed_75 hl (by decide) rfl (fun ls hl => ?_)
  refine lv_aload_n hx hb dX7_feed_77 rfl (lv_at hl 2 rfl) ?_
  refine va_get (D := (dC, dI)) (ci := 7) (v := .ref m_tape) (C := RX7) (T := TX7) (N := 34) hx hb hts inX7 hown hK hP 0 rfl rfl 0 (by decide) (hts _ T_163) (fun _ h9 => h9) rfl dX7_feed_78 ?_
  refine lv_aload_n hx hb dX7_feed_81 rfl (lv_at hl 2 rfl) ?_
  refine va_get (D := (dC, dI)) (ci := 7) (v := .int 6) (C := RX7) (T := TX7) (N := 34) hx hb hts inX7 hown hK hP 0 rfl rfl 1 (by decide) (hts _ T_184) (fun _ h9 => h9) rfl dX7_feed_82 ?_
  refine lv_iload hx hb dX7_feed_85 (lv_at hl 0 rfl) ?_
  refine lv_bipush (v := 8) hx hb dX7_feed_87 (by decide) ?_
  refine lv_iconst (v := 3) hx hb dX7_feed_89 (by decide) ?_
  refine lv_iload hx hb dX7_feed_90 (lv_at hl 1 rfl) ?_
  refine lv_iconst (v := 4) hx hb dX7_feed_92 (by decide) ?_
  refine lv_irem hx hb dX7_feed_93 (by decide) ?_
  refine ax_eqi (y := 2) (by decide) ?_
  refine lv_isub hx hb dX7_feed_94 ?_
  refine ax_eqi (y := 1) (by decide) ?_
  refine lv_imul hx hb dX7_feed_95 ?_
  refine ax_eqi (y := 8) (by decide) ?_
  refine lv_ishr hx hb dX7_feed_96 ?_
  refine lv_topi (fun v19 ev19 => ?_)
  refine lv_sipush (v := 255) hx hb dX7_feed_97 (by decide) ?_
  refine lv_iand hx hb dX7_feed_100 ?_
  refine lv_topi (fun v20 ev20 => ?_)
  refine va_iast hx hb hK hP hD hS 1 0 rfl rfl (ax_in (by decide)) dX7_feed_101 (fun H locs hP hD hS => ?_)
  have hP : va_P (dC, dI) vwCl [(h0, .inr (7, [.ref m_tape, .int 6, .int 0, .int 0, .int 0, .int 0, .int 0, .int 0, .int (-1), .ref m_refused, .ref m_own, .int 0, .ref m_draft, .ref m_program, .ref m_goPlace, .int 0, .int 0, .ref m_isCome, .ref m_heap, .int 0, .ref m_now, .ref m_first, .ref m_second, .ref m_behind, .ref m_states, .int 0, .int 0, .int 0, .ref m_alone0, .ref m_endsBy, .ref m_kept0, .int 0, .int 0, .long 1])), (m_tape, .inl (kt, 1600, .inl (upd f18 (6 : Int32).toNatClampNeg v20)))] H := hP
  have hD : va_D A [(h0, .inr (7, [.ref m_tape, .int 6, .int 0, .int 0, .int 0, .int 0, .int 0, .int 0, .int (-1), .ref m_refused, .ref m_own, .int 0, .ref m_draft, .ref m_program, .ref m_goPlace, .int 0, .int 0, .ref m_isCome, .ref m_heap, .int 0, .ref m_now, .ref m_first, .ref m_second, .ref m_behind, .ref m_states, .int 0, .int 0, .int 0, .ref m_alone0, .ref m_endsBy, .ref m_kept0, .int 0, .int 0, .long 1])), (m_tape, .inl (kt, 1600, .inl (upd f18 (6 : Int32).toNatClampNeg v20)))] := hD
  obtain ⟨f21, hP, hD⟩ : ∃ f : Nat → Int32, va_P (dC, dI) vwCl [(h0, .inr (7, [.ref m_tape, .int 6, .int 0, .int 0, .int 0, .int 0, .int 0, .int 0, .int (-1), .ref m_refused, .ref m_own, .int 0, .ref m_draft, .ref m_program, .ref m_goPlace, .int 0, .int 0, .ref m_isCome, .ref m_heap, .int 0, .ref m_now, .ref m_first, .ref m_second, .ref m_behind, .ref m_states, .int 0, .int 0, .int 0, .ref m_alone0, .ref m_endsBy, .ref m_kept0, .int 0, .int 0, .long 1])), (m_tape, .inl (kt, 1600, .inl f))] H ∧ va_D A [(h0, .inr (7, [.ref m_tape, .int 6, .int 0, .int 0, .int 0, .int 0, .int 0, .int 0, .int (-1), .ref m_refused, .ref m_own, .int 0, .ref m_draft, .ref m_program, .ref m_goPlace, .int 0, .int 0, .ref m_isCome, .ref m_heap, .int 0, .ref m_now, .ref m_first, .ref m_second, .ref m_behind, .ref m_states, .int 0, .int 0, .int 0, .ref m_alone0, .ref m_endsBy, .ref m_kept0, .int 0, .int 0, .long 1])), (m_tape, .inl (kt, 1600, .inl f))] := ⟨_, hP, hD⟩
  refine lv_aload_n hx hb dX7_feed_102 rfl (lv_at hl 2 rfl) ?_
  refine lv_dup hx hb dX7_feed_103 rfl ?_
  refine va_get (D := (dC, dI)) (ci := 7) (v := .int 6) (C := RX7) (T := TX7) (N := 34) hx hb hts inX7 hown hK hP 0 rfl rfl 1 (by decide) (hts _ T_184) (fun _ h9 => h9) rfl dX7_feed_104 ?_
  refine lv_iconst (v := 1) hx hb dX7_feed_107 (by decide) ?_
  refine lv_iadd hx hb dX7_feed_108 ?_
  refine ax_eqi (y := 7) (by decide) ?_
  refine va_put (D := (dC, dI)) (ci := 7) (v := .int 7) (ty := .int) (C := RX7) (T := TX7) (N := 34) hx hb hts inX7 tyX7 tyX7_ok nmX7 hown hK hP hD hS 0 rfl rfl 1 (by decide) (hts _ T_184) (fun _ h9 => h9) rfl (by decide +kernel) rfl rfl (Nat.le_of_ble_eq_true rfl) dX7_feed_109 (fun H locs hP hD hS => ?_)
  have hP : va_P (dC, dI) vwCl [(h0, .inr (7, [.ref m_tape, .int 7, .int 0, .int 0, .int 0, .int 0, .int 0, .int 0, .int (-1), .ref m_refused, .ref m_own, .int 0, .ref m_draft, .ref m_program, .ref m_goPlace, .int 0, .int 0, .ref m_isCome, .ref m_heap, .int 0, .ref m_now, .ref m_first, .ref m_second, .ref m_behind, .ref m_states, .int 0, .int 0, .int 0, .ref m_alone0, .ref m_endsBy, .ref m_kept0, .int 0, .int 0, .long 1])), (m_tape, .inl (kt, 1600, .inl f21))] H := hP
  have hD : va_D A [(h0, .inr (7, [.ref m_tape, .int 7, .int 0, .int 0, .int 0, .int 0, .int 0, .int 0, .int (-1), .ref m_refused, .ref m_own, .int 0, .ref m_draft, .ref m_program, .ref m_goPlace, .int 0, .int 0, .ref m_isCome, .ref m_heap, .int 0, .ref m_now, .ref m_first, .ref m_second, .ref m_behind, .ref m_states, .int 0, .int 0, .int 0, .ref m_alone0, .ref m_endsBy, .ref m_kept0, .int 0, .int 0, .long 1])), (m_tape, .inl (kt, 1600, .inl f21))] := hD
  refine lv_iinc (v := 7) (lv' := [(6, .int 7), (7, .int p1), (0, .ref h0), (1, .int p0), (2, .int p1), (3, .int p2), (4, .int p3), (5, .int p4)]) hx hb dX7_feed_112 hl (k := 1) rfl (by decide) (by decide) rfl (fun ls hl => ?_)
  refine lv_goto (tgt := 22) hx hb dX7_feed_115 (by decide) ?_
  refine lv_iload hx hb dX7_feed_22 (lv_at hl 0 rfl) ?_
  refine lv_bipush (v := 20) hx hb dX7_feed_24 (by decide) ?_
  refine lv_icmp_ge (tgt := 118) hx hb dX7_feed_26 (by decide) (fun c => absurd c (by decide)) (fun _ => ?_)
  refine lv_iload hx hb dX7_feed_29 (lv_at hl 0 rfl) ?_
  refine lv_iconst (v := 4) hx hb dX7_feed_31 (by decide) ?_
  refine lv_icmp_ge (tgt := 39) hx hb dX7_feed_32 (by decide) (fun _ => ?_) (fun c => absurd (by decide) c)
  refine lv_iload hx hb dX7_feed_39 (lv_at hl 0 rfl) ?_
  refine lv_bipush (v := 8) hx hb dX7_feed_41 (by decide) ?_
  refine lv_icmp_ge (tgt := 50) hx hb dX7_feed_43 (by decide) (fun c => absurd c (by decide)) (fun _ => ?_)
  refine lv_iload_n hx hb dX7_feed_46 rfl (lv_at hl 4 rfl) ?_
  refine lv_goto (tgt := 75) hx hb dX7_feed_47 (by decide) ?_
  refine lv_istore (lv' := [(7, .int p1), (6, .int 7), (0, .ref h0), (1, .int p0), (2, .int p1), (3, .int p2), (4, .int p3), (5, .int p4)]) hx hb dX7_feed_75 hl (by decide) rfl (fun ls hl => ?_)
  refine lv_aload_n hx hb dX7_feed_77 rfl (lv_at hl 2 rfl) ?_
  refine va_get (D := (dC, dI)) (ci := 7) (v := .ref m_tape) (C := RX7) (T := TX7) (N := 34) hx hb hts inX7 hown hK hP 0 rfl rfl 0 (by decide) (hts _ T_163) (fun _ h9 => h9) rfl dX7_feed_78 ?_
  refine lv_aload_n hx hb dX7_feed_81 rfl (lv_at hl 2 rfl) ?_
  refine va_get (D := (dC, dI)) (ci := 7) (v := .int 7) (C := RX7) (T := TX7) (N := 34) hx hb hts inX7 hown hK hP 0 rfl rfl 1 (by decide) (hts _ T_184) (fun _ h9 => h9) rfl dX7_feed_82 ?_
  refine lv_iload hx hb dX7_feed_85 (lv_at hl 0 rfl) ?_
  refine lv_bipush (v := 8) hx hb dX7_feed_87 (by decide) ?_
  refine lv_iconst (v := 3) hx hb dX7_feed_89 (by decide) ?_
  refine lv_iload hx hb dX7_feed_90 (lv_at hl 1 rfl) ?_
  refine lv_iconst (v := 4) hx hb dX7_feed_92 (by decide) ?_
  refine lv_irem hx hb dX7_feed_93 (by decide) ?_
  refine ax_eqi (y := 3) (by decide) ?_
  refine lv_isub hx hb dX7_feed_94 ?_
  refine ax_eqi (y := 0) (by decide) ?_
  refine lv_imul hx hb dX7_feed_95 ?_
  refine ax_eqi (y := 0) (by decide) ?_
  refine lv_ishr hx hb dX7_feed_96 ?_
  refine lv_topi (fun v22 ev22 => ?_)
  refine lv_sipush (v := 255) hx hb dX7_feed_97 (by decide) ?_
  refine lv_iand hx hb dX7_feed_100 ?_
  refine lv_topi (fun v23 ev23 => ?_)
  refine va_iast hx hb hK hP hD hS 1 0 rfl rfl (ax_in (by decide)) dX7_feed_101 (fun H locs hP hD hS => ?_)
  have hP : va_P (dC, dI) vwCl [(h0, .inr (7, [.ref m_tape, .int 7, .int 0, .int 0, .int 0, .int 0, .int 0, .int 0, .int (-1), .ref m_refused, .ref m_own, .int 0, .ref m_draft, .ref m_program, .ref m_goPlace, .int 0, .int 0, .ref m_isCome, .ref m_heap, .int 0, .ref m_now, .ref m_first, .ref m_second, .ref m_behind, .ref m_states, .int 0, .int 0, .int 0, .ref m_alone0, .ref m_endsBy, .ref m_kept0, .int 0, .int 0, .long 1])), (m_tape, .inl (kt, 1600, .inl (upd f21 (7 : Int32).toNatClampNeg v23)))] H := hP
  have hD : va_D A [(h0, .inr (7, [.ref m_tape, .int 7, .int 0, .int 0, .int 0, .int 0, .int 0, .int 0, .int (-1), .ref m_refused, .ref m_own, .int 0, .ref m_draft, .ref m_program, .ref m_goPlace, .int 0, .int 0, .ref m_isCome, .ref m_heap, .int 0, .ref m_now, .ref m_first, .ref m_second, .ref m_behind, .ref m_states, .int 0, .int 0, .int 0, .ref m_alone0, .ref m_endsBy, .ref m_kept0, .int 0, .int 0, .long 1])), (m_tape, .inl (kt, 1600, .inl (upd f21 (7 : Int32).toNatClampNeg v23)))] := hD
  obtain ⟨f24, hP, hD⟩ : ∃ f : Nat → Int32, va_P (dC, dI) vwCl [(h0, .inr (7, [.ref m_tape, .int 7, .int 0, .int 0, .int 0, .int 0, .int 0, .int 0, .int (-1), .ref m_refused, .ref m_own, .int 0, .ref m_draft, .ref m_program, .ref m_goPlace, .int 0, .int 0, .ref m_isCome, .ref m_heap, .int 0, .ref m_now, .ref m_first, .ref m_second, .ref m_behind, .ref m_states, .int 0, .int 0, .int 0, .ref m_alone0, .ref m_endsBy, .ref m_kept0, .int 0, .int 0, .long 1])), (m_tape, .inl (kt, 1600, .inl f))] H ∧ va_D A [(h0, .inr (7, [.ref m_tape, .int 7, .int 0, .int 0, .int 0, .int 0, .int 0, .int 0, .int (-1), .ref m_refused, .ref m_own, .int 0, .ref m_draft, .ref m_program, .ref m_goPlace, .int 0, .int 0, .ref m_isCome, .ref m_heap, .int 0, .ref m_now, .ref m_first, .ref m_second, .ref m_behind, .ref m_states, .int 0, .int 0, .int 0, .ref m_alone0, .ref m_endsBy, .ref m_kept0, .int 0, .int 0, .long 1])), (m_tape, .inl (kt, 1600, .inl f))] := ⟨_, hP, hD⟩
  refine lv_aload_n hx hb dX7_feed_102 rfl (lv_at hl 2 rfl) ?_
  refine lv_dup hx hb dX7_feed_103 rfl ?_
  refine va_get (D := (dC, dI)) (ci := 7) (v := .int 7) (C := RX7) (T := TX7) (N := 34) hx hb hts inX7 hown hK hP 0 rfl rfl 1 (by decide) (hts _ T_184) (fun _ h9 => h9) rfl dX7_feed_104 ?_
  refine lv_iconst (v := 1) hx hb dX7_feed_107 (by decide) ?_
  refine lv_iadd hx hb dX7_feed_108 ?_
  refine ax_eqi (y := 8) (by decide) ?_
  refine va_put (D := (dC, dI)) (ci := 7) (v := .int 8) (ty := .int) (C := RX7) (T := TX7) (N := 34) hx hb hts inX7 tyX7 tyX7_ok nmX7 hown hK hP hD hS 0 rfl rfl 1 (by decide) (hts _ T_184) (fun _ h9 => h9) rfl (by decide +kernel) rfl rfl (Nat.le_of_ble_eq_true rfl) dX7_feed_109 (fun H locs hP hD hS => ?_)
  have hP : va_P (dC, dI) vwCl [(h0, .inr (7, [.ref m_tape, .int 8, .int 0, .int 0, .int 0, .int 0, .int 0, .int 0, .int (-1), .ref m_refused, .ref m_own, .int 0, .ref m_draft, .ref m_program, .ref m_goPlace, .int 0, .int 0, .ref m_isCome, .ref m_heap, .int 0, .ref m_now, .ref m_first, .ref m_second, .ref m_behind, .ref m_states, .int 0, .int 0, .int 0, .ref m_alone0, .ref m_endsBy, .ref m_kept0, .int 0, .int 0, .long 1])), (m_tape, .inl (kt, 1600, .inl f24))] H := hP
  have hD : va_D A [(h0, .inr (7, [.ref m_tape, .int 8, .int 0, .int 0, .int 0, .int 0, .int 0, .int 0, .int (-1), .ref m_refused, .ref m_own, .int 0, .ref m_draft, .ref m_program, .ref m_goPlace, .int 0, .int 0, .ref m_isCome, .ref m_heap, .int 0, .ref m_now, .ref m_first, .ref m_second, .ref m_behind, .ref m_states, .int 0, .int 0, .int 0, .ref m_alone0, .ref m_endsBy, .ref m_kept0, .int 0, .int 0, .long 1])), (m_tape, .inl (kt, 1600, .inl f24))] := hD
  refine lv_iinc (v := 8) (lv' := [(6, .int 8), (7, .int p1), (0, .ref h0), (1, .int p0), (2, .int p1), (3, .int p2), (4, .int p3), (5, .int p4)]) hx hb dX7_feed_112 hl (k := 1) rfl (by decide) (by decide) rfl (fun ls hl => ?_)
  refine lv_goto (tgt := 22) hx hb dX7_feed_115 (by decide) ?_
  refine lv_iload hx hb dX7_feed_22 (lv_at hl 0 rfl) ?_
  refine lv_bipush (v := 20) hx hb dX7_feed_24 (by decide) ?_
  refine lv_icmp_ge (tgt := 118) hx hb dX7_feed_26 (by decide) (fun c => absurd c (by decide)) (fun _ => ?_)
  refine lv_iload hx hb dX7_feed_29 (lv_at hl 0 rfl) ?_
  refine lv_iconst (v := 4) hx hb dX7_feed_31 (by decide) ?_
  refine lv_icmp_ge (tgt := 39) hx hb dX7_feed_32 (by decide) (fun _ => ?_) (fun c => absurd (by decide) c)
  refine lv_iload hx hb dX7_feed_39 (lv_at hl 0 rfl) ?_
  refine lv_bipush (v := 8) hx hb dX7_feed_41 (by decide) ?_
  refine lv_icmp_ge (tgt := 50) hx hb dX7_feed_43 (by decide) (fun _ => ?_) (fun c => absurd (by decide) c)
  refine lv_iload hx hb dX7_feed_50 (lv_at hl 0 rfl) ?_
  refine lv_bipush (v := 12) hx hb dX7_feed_52 (by decide) ?_
  refine lv_icmp_ge (tgt := 61) hx hb dX7_feed_54 (by decide) (fun c => absurd c (by decide)) (fun _ => ?_)
  refine lv_iload_n hx hb dX7_feed_57 rfl (lv_at hl 5 rfl) ?_
  refine lv_goto (tgt := 75) hx hb dX7_feed_58 (by decide) ?_
  refine lv_istore (lv' := [(7, .int p2), (6, .int 8), (0, .ref h0), (1, .int p0), (2, .int p1), (3, .int p2), (4, .int p3), (5, .int p4)]) hx hb dX7_feed_75 hl (by decide) rfl (fun ls hl => ?_)
  refine lv_aload_n hx hb dX7_feed_77 rfl (lv_at hl 2 rfl) ?_
  refine va_get (D := (dC, dI)) (ci := 7) (v := .ref m_tape) (C := RX7) (T := TX7) (N := 34) hx hb hts inX7 hown hK hP 0 rfl rfl 0 (by decide) (hts _ T_163) (fun _ h9 => h9) rfl dX7_feed_78 ?_
  refine lv_aload_n hx hb dX7_feed_81 rfl (lv_at hl 2 rfl) ?_
  refine va_get (D := (dC, dI)) (ci := 7) (v := .int 8) (C := RX7) (T := TX7) (N := 34) hx hb hts inX7 hown hK hP 0 rfl rfl 1 (by decide) (hts _ T_184) (fun _ h9 => h9) rfl dX7_feed_82 ?_
  refine lv_iload hx hb dX7_feed_85 (lv_at hl 0 rfl) ?_
  refine lv_bipush (v := 8) hx hb dX7_feed_87 (by decide) ?_
  refine lv_iconst (v := 3) hx hb dX7_feed_89 (by decide) ?_
  refine lv_iload hx hb dX7_feed_90 (lv_at hl 1 rfl) ?_
  refine lv_iconst (v := 4) hx hb dX7_feed_92 (by decide) ?_
  refine lv_irem hx hb dX7_feed_93 (by decide) ?_
  refine ax_eqi (y := 0) (by decide) ?_
  refine lv_isub hx hb dX7_feed_94 ?_
  refine ax_eqi (y := 3) (by decide) ?_
  refine lv_imul hx hb dX7_feed_95 ?_
  refine ax_eqi (y := 24) (by decide) ?_
  refine lv_ishr hx hb dX7_feed_96 ?_
  refine lv_topi (fun v25 ev25 => ?_)
  refine lv_sipush (v := 255) hx hb dX7_feed_97 (by decide) ?_
  refine lv_iand hx hb dX7_feed_100 ?_
  refine lv_topi (fun v26 ev26 => ?_)
  refine va_iast hx hb hK hP hD hS 1 0 rfl rfl (ax_in (by decide)) dX7_feed_101 (fun H locs hP hD hS => ?_)
  have hP : va_P (dC, dI) vwCl [(h0, .inr (7, [.ref m_tape, .int 8, .int 0, .int 0, .int 0, .int 0, .int 0, .int 0, .int (-1), .ref m_refused, .ref m_own, .int 0, .ref m_draft, .ref m_program, .ref m_goPlace, .int 0, .int 0, .ref m_isCome, .ref m_heap, .int 0, .ref m_now, .ref m_first, .ref m_second, .ref m_behind, .ref m_states, .int 0, .int 0, .int 0, .ref m_alone0, .ref m_endsBy, .ref m_kept0, .int 0, .int 0, .long 1])), (m_tape, .inl (kt, 1600, .inl (upd f24 (8 : Int32).toNatClampNeg v26)))] H := hP
  have hD : va_D A [(h0, .inr (7, [.ref m_tape, .int 8, .int 0, .int 0, .int 0, .int 0, .int 0, .int 0, .int (-1), .ref m_refused, .ref m_own, .int 0, .ref m_draft, .ref m_program, .ref m_goPlace, .int 0, .int 0, .ref m_isCome, .ref m_heap, .int 0, .ref m_now, .ref m_first, .ref m_second, .ref m_behind, .ref m_states, .int 0, .int 0, .int 0, .ref m_alone0, .ref m_endsBy, .ref m_kept0, .int 0, .int 0, .long 1])), (m_tape, .inl (kt, 1600, .inl (upd f24 (8 : Int32).toNatClampNeg v26)))] := hD
  obtain ⟨f27, hP, hD⟩ : ∃ f : Nat → Int32, va_P (dC, dI) vwCl [(h0, .inr (7, [.ref m_tape, .int 8, .int 0, .int 0, .int 0, .int 0, .int 0, .int 0, .int (-1), .ref m_refused, .ref m_own, .int 0, .ref m_draft, .ref m_program, .ref m_goPlace, .int 0, .int 0, .ref m_isCome, .ref m_heap, .int 0, .ref m_now, .ref m_first, .ref m_second, .ref m_behind, .ref m_states, .int 0, .int 0, .int 0, .ref m_alone0, .ref m_endsBy, .ref m_kept0, .int 0, .int 0, .long 1])), (m_tape, .inl (kt, 1600, .inl f))] H ∧ va_D A [(h0, .inr (7, [.ref m_tape, .int 8, .int 0, .int 0, .int 0, .int 0, .int 0, .int 0, .int (-1), .ref m_refused, .ref m_own, .int 0, .ref m_draft, .ref m_program, .ref m_goPlace, .int 0, .int 0, .ref m_isCome, .ref m_heap, .int 0, .ref m_now, .ref m_first, .ref m_second, .ref m_behind, .ref m_states, .int 0, .int 0, .int 0, .ref m_alone0, .ref m_endsBy, .ref m_kept0, .int 0, .int 0, .long 1])), (m_tape, .inl (kt, 1600, .inl f))] := ⟨_, hP, hD⟩
  refine lv_aload_n hx hb dX7_feed_102 rfl (lv_at hl 2 rfl) ?_
  refine lv_dup hx hb dX7_feed_103 rfl ?_
  refine va_get (D := (dC, dI)) (ci := 7) (v := .int 8) (C := RX7) (T := TX7) (N := 34) hx hb hts inX7 hown hK hP 0 rfl rfl 1 (by decide) (hts _ T_184) (fun _ h9 => h9) rfl dX7_feed_104 ?_
  refine lv_iconst (v := 1) hx hb dX7_feed_107 (by decide) ?_
  refine lv_iadd hx hb dX7_feed_108 ?_
  refine ax_eqi (y := 9) (by decide) ?_
  refine va_put (D := (dC, dI)) (ci := 7) (v := .int 9) (ty := .int) (C := RX7) (T := TX7) (N := 34) hx hb hts inX7 tyX7 tyX7_ok nmX7 hown hK hP hD hS 0 rfl rfl 1 (by decide) (hts _ T_184) (fun _ h9 => h9) rfl (by decide +kernel) rfl rfl (Nat.le_of_ble_eq_true rfl) dX7_feed_109 (fun H locs hP hD hS => ?_)
  have hP : va_P (dC, dI) vwCl [(h0, .inr (7, [.ref m_tape, .int 9, .int 0, .int 0, .int 0, .int 0, .int 0, .int 0, .int (-1), .ref m_refused, .ref m_own, .int 0, .ref m_draft, .ref m_program, .ref m_goPlace, .int 0, .int 0, .ref m_isCome, .ref m_heap, .int 0, .ref m_now, .ref m_first, .ref m_second, .ref m_behind, .ref m_states, .int 0, .int 0, .int 0, .ref m_alone0, .ref m_endsBy, .ref m_kept0, .int 0, .int 0, .long 1])), (m_tape, .inl (kt, 1600, .inl f27))] H := hP
  have hD : va_D A [(h0, .inr (7, [.ref m_tape, .int 9, .int 0, .int 0, .int 0, .int 0, .int 0, .int 0, .int (-1), .ref m_refused, .ref m_own, .int 0, .ref m_draft, .ref m_program, .ref m_goPlace, .int 0, .int 0, .ref m_isCome, .ref m_heap, .int 0, .ref m_now, .ref m_first, .ref m_second, .ref m_behind, .ref m_states, .int 0, .int 0, .int 0, .ref m_alone0, .ref m_endsBy, .ref m_kept0, .int 0, .int 0, .long 1])), (m_tape, .inl (kt, 1600, .inl f27))] := hD
  refine lv_iinc (v := 9) (lv' := [(6, .int 9), (7, .int p2), (0, .ref h0), (1, .int p0), (2, .int p1), (3, .int p2), (4, .int p3), (5, .int p4)]) hx hb dX7_feed_112 hl (k := 1) rfl (by decide) (by decide) rfl (fun ls hl => ?_)
  refine lv_goto (tgt := 22) hx hb dX7_feed_115 (by decide) ?_
  refine lv_iload hx hb dX7_feed_22 (lv_at hl 0 rfl) ?_
  refine lv_bipush (v := 20) hx hb dX7_feed_24 (by decide) ?_
  refine lv_icmp_ge (tgt := 118) hx hb dX7_feed_26 (by decide) (fun c => absurd c (by decide)) (fun _ => ?_)
  refine lv_iload hx hb dX7_feed_29 (lv_at hl 0 rfl) ?_
  refine lv_iconst (v := 4) hx hb dX7_feed_31 (by decide) ?_
  refine lv_icmp_ge (tgt := 39) hx hb dX7_feed_32 (by decide) (fun _ => ?_) (fun c => absurd (by decide) c)
  refine lv_iload hx hb dX7_feed_39 (lv_at hl 0 rfl) ?_
  refine lv_bipush (v := 8) hx hb dX7_feed_41 (by decide) ?_
  refine lv_icmp_ge (tgt := 50) hx hb dX7_feed_43 (by decide) (fun _ => ?_) (fun c => absurd (by decide) c)
  refine lv_iload hx hb dX7_feed_50 (lv_at hl 0 rfl) ?_
  refine lv_bipush (v := 12) hx hb dX7_feed_52 (by decide) ?_
  refine lv_icmp_ge (tgt := 61) hx hb dX7_feed_54 (by decide) (fun c => absurd c (by decide)) (fun _ => ?_)
  refine lv_iload_n hx hb dX7_feed_57 rfl (lv_at hl 5 rfl) ?_
  refine lv_goto (tgt := 75) hx hb dX7_feed_58 (by decide) ?_
  refine lv_istore (lv' := [(7, .int p2), (6, .int 9), (0, .ref h0), (1, .int p0), (2, .int p1), (3, .int p2), (4, .int p3), (5, .int p4)]) hx hb dX7_feed_75 hl (by decide) rfl (fun ls hl => ?_)
  refine lv_aload_n hx hb dX7_feed_77 rfl (lv_at hl 2 rfl) ?_
  refine va_get (D := (dC, dI)) (ci := 7) (v := .ref m_tape) (C := RX7) (T := TX7) (N := 34) hx hb hts inX7 hown hK hP 0 rfl rfl 0 (by decide) (hts _ T_163) (fun _ h9 => h9) rfl dX7_feed_78 ?_
  refine lv_aload_n hx hb dX7_feed_81 rfl (lv_at hl 2 rfl) ?_
  refine va_get (D := (dC, dI)) (ci := 7) (v := .int 9) (C := RX7) (T := TX7) (N := 34) hx hb hts inX7 hown hK hP 0 rfl rfl 1 (by decide) (hts _ T_184) (fun _ h9 => h9) rfl dX7_feed_82 ?_
  refine lv_iload hx hb dX7_feed_85 (lv_at hl 0 rfl) ?_
  refine lv_bipush (v := 8) hx hb dX7_feed_87 (by decide) ?_
  refine lv_iconst (v := 3) hx hb dX7_feed_89 (by decide) ?_
  refine lv_iload hx hb dX7_feed_90 (lv_at hl 1 rfl) ?_
  refine lv_iconst (v := 4) hx hb dX7_feed_92 (by decide) ?_
  refine lv_irem hx hb dX7_feed_93 (by decide) ?_
  refine ax_eqi (y := 1) (by decide) ?_
  refine lv_isub hx hb dX7_feed_94 ?_
  refine ax_eqi (y := 2) (by decide) ?_
  refine lv_imul hx hb dX7_feed_95 ?_
  refine ax_eqi (y := 16) (by decide) ?_
  refine lv_ishr hx hb dX7_feed_96 ?_
  refine lv_topi (fun v28 ev28 => ?_)
  refine lv_sipush (v := 255) hx hb dX7_feed_97 (by decide) ?_
  refine lv_iand hx hb dX7_feed_100 ?_
  refine lv_topi (fun v29 ev29 => ?_)
  refine va_iast hx hb hK hP hD hS 1 0 rfl rfl (ax_in (by decide)) dX7_feed_101 (fun H locs hP hD hS => ?_)
  have hP : va_P (dC, dI) vwCl [(h0, .inr (7, [.ref m_tape, .int 9, .int 0, .int 0, .int 0, .int 0, .int 0, .int 0, .int (-1), .ref m_refused, .ref m_own, .int 0, .ref m_draft, .ref m_program, .ref m_goPlace, .int 0, .int 0, .ref m_isCome, .ref m_heap, .int 0, .ref m_now, .ref m_first, .ref m_second, .ref m_behind, .ref m_states, .int 0, .int 0, .int 0, .ref m_alone0, .ref m_endsBy, .ref m_kept0, .int 0, .int 0, .long 1])), (m_tape, .inl (kt, 1600, .inl (upd f27 (9 : Int32).toNatClampNeg v29)))] H := hP
  have hD : va_D A [(h0, .inr (7, [.ref m_tape, .int 9, .int 0, .int 0, .int 0, .int 0, .int 0, .int 0, .int (-1), .ref m_refused, .ref m_own, .int 0, .ref m_draft, .ref m_program, .ref m_goPlace, .int 0, .int 0, .ref m_isCome, .ref m_heap, .int 0, .ref m_now, .ref m_first, .ref m_second, .ref m_behind, .ref m_states, .int 0, .int 0, .int 0, .ref m_alone0, .ref m_endsBy, .ref m_kept0, .int 0, .int 0, .long 1])), (m_tape, .inl (kt, 1600, .inl (upd f27 (9 : Int32).toNatClampNeg v29)))] := hD
  obtain ⟨f30, hP, hD⟩ : ∃ f : Nat → Int32, va_P (dC, dI) vwCl [(h0, .inr (7, [.ref m_tape, .int 9, .int 0, .int 0, .int 0, .int 0, .int 0, .int 0, .int (-1), .ref m_refused, .ref m_own, .int 0, .ref m_draft, .ref m_program, .ref m_goPlace, .int 0, .int 0, .ref m_isCome, .ref m_heap, .int 0, .ref m_now, .ref m_first, .ref m_second, .ref m_behind, .ref m_states, .int 0, .int 0, .int 0, .ref m_alone0, .ref m_endsBy, .ref m_kept0, .int 0, .int 0, .long 1])), (m_tape, .inl (kt, 1600, .inl f))] H ∧ va_D A [(h0, .inr (7, [.ref m_tape, .int 9, .int 0, .int 0, .int 0, .int 0, .int 0, .int 0, .int (-1), .ref m_refused, .ref m_own, .int 0, .ref m_draft, .ref m_program, .ref m_goPlace, .int 0, .int 0, .ref m_isCome, .ref m_heap, .int 0, .ref m_now, .ref m_first, .ref m_second, .ref m_behind, .ref m_states, .int 0, .int 0, .int 0, .ref m_alone0, .ref m_endsBy, .ref m_kept0, .int 0, .int 0, .long 1])), (m_tape, .inl (kt, 1600, .inl f))] := ⟨_, hP, hD⟩
  refine lv_aload_n hx hb dX7_feed_102 rfl (lv_at hl 2 rfl) ?_
  refine lv_dup hx hb dX7_feed_103 rfl ?_
  refine va_get (D := (dC, dI)) (ci := 7) (v := .int 9) (C := RX7) (T := TX7) (N := 34) hx hb hts inX7 hown hK hP 0 rfl rfl 1 (by decide) (hts _ T_184) (fun _ h9 => h9) rfl dX7_feed_104 ?_
  refine lv_iconst (v := 1) hx hb dX7_feed_107 (by decide) ?_
  refine lv_iadd hx hb dX7_feed_108 ?_
  refine ax_eqi (y := 10) (by decide) ?_
  refine va_put (D := (dC, dI)) (ci := 7) (v := .int 10) (ty := .int) (C := RX7) (T := TX7) (N := 34) hx hb hts inX7 tyX7 tyX7_ok nmX7 hown hK hP hD hS 0 rfl rfl 1 (by decide) (hts _ T_184) (fun _ h9 => h9) rfl (by decide +kernel) rfl rfl (Nat.le_of_ble_eq_true rfl) dX7_feed_109 (fun H locs hP hD hS => ?_)
  have hP : va_P (dC, dI) vwCl [(h0, .inr (7, [.ref m_tape, .int 10, .int 0, .int 0, .int 0, .int 0, .int 0, .int 0, .int (-1), .ref m_refused, .ref m_own, .int 0, .ref m_draft, .ref m_program, .ref m_goPlace, .int 0, .int 0, .ref m_isCome, .ref m_heap, .int 0, .ref m_now, .ref m_first, .ref m_second, .ref m_behind, .ref m_states, .int 0, .int 0, .int 0, .ref m_alone0, .ref m_endsBy, .ref m_kept0, .int 0, .int 0, .long 1])), (m_tape, .inl (kt, 1600, .inl f30))] H := hP
  have hD : va_D A [(h0, .inr (7, [.ref m_tape, .int 10, .int 0, .int 0, .int 0, .int 0, .int 0, .int 0, .int (-1), .ref m_refused, .ref m_own, .int 0, .ref m_draft, .ref m_program, .ref m_goPlace, .int 0, .int 0, .ref m_isCome, .ref m_heap, .int 0, .ref m_now, .ref m_first, .ref m_second, .ref m_behind, .ref m_states, .int 0, .int 0, .int 0, .ref m_alone0, .ref m_endsBy, .ref m_kept0, .int 0, .int 0, .long 1])), (m_tape, .inl (kt, 1600, .inl f30))] := hD
  refine lv_iinc (v := 10) (lv' := [(6, .int 10), (7, .int p2), (0, .ref h0), (1, .int p0), (2, .int p1), (3, .int p2), (4, .int p3), (5, .int p4)]) hx hb dX7_feed_112 hl (k := 1) rfl (by decide) (by decide) rfl (fun ls hl => ?_)
  refine lv_goto (tgt := 22) hx hb dX7_feed_115 (by decide) ?_
  refine lv_iload hx hb dX7_feed_22 (lv_at hl 0 rfl) ?_
  refine lv_bipush (v := 20) hx hb dX7_feed_24 (by decide) ?_
  refine lv_icmp_ge (tgt := 118) hx hb dX7_feed_26 (by decide) (fun c => absurd c (by decide)) (fun _ => ?_)
  refine lv_iload hx hb dX7_feed_29 (lv_at hl 0 rfl) ?_
  refine lv_iconst (v := 4) hx hb dX7_feed_31 (by decide) ?_
  refine lv_icmp_ge (tgt := 39) hx hb dX7_feed_32 (by decide) (fun _ => ?_) (fun c => absurd (by decide) c)
  refine lv_iload hx hb dX7_feed_39 (lv_at hl 0 rfl) ?_
  refine lv_bipush (v := 8) hx hb dX7_feed_41 (by decide) ?_
  refine lv_icmp_ge (tgt := 50) hx hb dX7_feed_43 (by decide) (fun _ => ?_) (fun c => absurd (by decide) c)
  refine lv_iload hx hb dX7_feed_50 (lv_at hl 0 rfl) ?_
  refine lv_bipush (v := 12) hx hb dX7_feed_52 (by decide) ?_
  refine lv_icmp_ge (tgt := 61) hx hb dX7_feed_54 (by decide) (fun c => absurd c (by decide)) (fun _ => ?_)
  refine lv_iload_n hx hb dX7_feed_57 rfl (lv_at hl 5 rfl) ?_
  refine lv_goto (tgt := 75) hx hb dX7_feed_58 (by decide) ?_
  refine lv_istore (lv' := [(7, .int p2), (6, .int 10), (0, .ref h0), (1, .int p0), (2, .int p1), (3, .int p2), (4, .int p3), (5, .int p4)]) hx hb dX7_feed_75 hl (by decide) rfl (fun ls hl => ?_)
  refine lv_aload_n hx hb dX7_feed_77 rfl (lv_at hl 2 rfl) ?_
  refine va_get (D := (dC, dI)) (ci := 7) (v := .ref m_tape) (C := RX7) (T := TX7) (N := 34) hx hb hts inX7 hown hK hP 0 rfl rfl 0 (by decide) (hts _ T_163) (fun _ h9 => h9) rfl dX7_feed_78 ?_
  refine lv_aload_n hx hb dX7_feed_81 rfl (lv_at hl 2 rfl) ?_
  refine va_get (D := (dC, dI)) (ci := 7) (v := .int 10) (C := RX7) (T := TX7) (N := 34) hx hb hts inX7 hown hK hP 0 rfl rfl 1 (by decide) (hts _ T_184) (fun _ h9 => h9) rfl dX7_feed_82 ?_
  refine lv_iload hx hb dX7_feed_85 (lv_at hl 0 rfl) ?_
  refine lv_bipush (v := 8) hx hb dX7_feed_87 (by decide) ?_
  refine lv_iconst (v := 3) hx hb dX7_feed_89 (by decide) ?_
  refine lv_iload hx hb dX7_feed_90 (lv_at hl 1 rfl) ?_
  refine lv_iconst (v := 4) hx hb dX7_feed_92 (by decide) ?_
  refine lv_irem hx hb dX7_feed_93 (by decide) ?_
  refine ax_eqi (y := 2) (by decide) ?_
  refine lv_isub hx hb dX7_feed_94 ?_
  refine ax_eqi (y := 1) (by decide) ?_
  refine lv_imul hx hb dX7_feed_95 ?_
  refine ax_eqi (y := 8) (by decide) ?_
  refine lv_ishr hx hb dX7_feed_96 ?_
  refine lv_topi (fun v31 ev31 => ?_)
  refine lv_sipush (v := 255) hx hb dX7_feed_97 (by decide) ?_
  refine lv_iand hx hb dX7_feed_100 ?_
  refine lv_topi (fun v32 ev32 => ?_)
  refine va_iast hx hb hK hP hD hS 1 0 rfl rfl (ax_in (by decide)) dX7_feed_101 (fun H locs hP hD hS => ?_)
  have hP : va_P (dC, dI) vwCl [(h0, .inr (7, [.ref m_tape, .int 10, .int 0, .int 0, .int 0, .int 0, .int 0, .int 0, .int (-1), .ref m_refused, .ref m_own, .int 0, .ref m_draft, .ref m_program, .ref m_goPlace, .int 0, .int 0, .ref m_isCome, .ref m_heap, .int 0, .ref m_now, .ref m_first, .ref m_second, .ref m_behind, .ref m_states, .int 0, .int 0, .int 0, .ref m_alone0, .ref m_endsBy, .ref m_kept0, .int 0, .int 0, .long 1])), (m_tape, .inl (kt, 1600, .inl (upd f30 (10 : Int32).toNatClampNeg v32)))] H := hP
  have hD : va_D A [(h0, .inr (7, [.ref m_tape, .int 10, .int 0, .int 0, .int 0, .int 0, .int 0, .int 0, .int (-1), .ref m_refused, .ref m_own, .int 0, .ref m_draft, .ref m_program, .ref m_goPlace, .int 0, .int 0, .ref m_isCome, .ref m_heap, .int 0, .ref m_now, .ref m_first, .ref m_second, .ref m_behind, .ref m_states, .int 0, .int 0, .int 0, .ref m_alone0, .ref m_endsBy, .ref m_kept0, .int 0, .int 0, .long 1])), (m_tape, .inl (kt, 1600, .inl (upd f30 (10 : Int32).toNatClampNeg v32)))] := hD
  obtain ⟨f33, hP, hD⟩ : ∃ f : Nat → Int32, va_P (dC, dI) vwCl [(h0, .inr (7, [.ref m_tape, .int 10, .int 0, .int 0, .int 0, .int 0, .int 0, .int 0, .int (-1), .ref m_refused, .ref m_own, .int 0, .ref m_draft, .ref m_program, .ref m_goPlace, .int 0, .int 0, .ref m_isCome, .ref m_heap, .int 0, .ref m_now, .ref m_first, .ref m_second, .ref m_behind, .ref m_states, .int 0, .int 0, .int 0, .ref m_alone0, .ref m_endsBy, .ref m_kept0, .int 0, .int 0, .long 1])), (m_tape, .inl (kt, 1600, .inl f))] H ∧ va_D A [(h0, .inr (7, [.ref m_tape, .int 10, .int 0, .int 0, .int 0, .int 0, .int 0, .int 0, .int (-1), .ref m_refused, .ref m_own, .int 0, .ref m_draft, .ref m_program, .ref m_goPlace, .int 0, .int 0, .ref m_isCome, .ref m_heap, .int 0, .ref m_now, .ref m_first, .ref m_second, .ref m_behind, .ref m_states, .int 0, .int 0, .int 0, .ref m_alone0, .ref m_endsBy, .ref m_kept0, .int 0, .int 0, .long 1])), (m_tape, .inl (kt, 1600, .inl f))] := ⟨_, hP, hD⟩
  refine lv_aload_n hx hb dX7_feed_102 rfl (lv_at hl 2 rfl) ?_
  refine lv_dup hx hb dX7_feed_103 rfl ?_
  refine va_get (D := (dC, dI)) (ci := 7) (v := .int 10) (C := RX7) (T := TX7) (N := 34) hx hb hts inX7 hown hK hP 0 rfl rfl 1 (by decide) (hts _ T_184) (fun _ h9 => h9) rfl dX7_feed_104 ?_
  refine lv_iconst (v := 1) hx hb dX7_feed_107 (by decide) ?_
  refine lv_iadd hx hb dX7_feed_108 ?_
  refine ax_eqi (y := 11) (by decide) ?_
  refine va_put (D := (dC, dI)) (ci := 7) (v := .int 11) (ty := .int) (C := RX7) (T := TX7) (N := 34) hx hb hts inX7 tyX7 tyX7_ok nmX7 hown hK hP hD hS 0 rfl rfl 1 (by decide) (hts _ T_184) (fun _ h9 => h9) rfl (by decide +kernel) rfl rfl (Nat.le_of_ble_eq_true rfl) dX7_feed_109 (fun H locs hP hD hS => ?_)
  have hP : va_P (dC, dI) vwCl [(h0, .inr (7, [.ref m_tape, .int 11, .int 0, .int 0, .int 0, .int 0, .int 0, .int 0, .int (-1), .ref m_refused, .ref m_own, .int 0, .ref m_draft, .ref m_program, .ref m_goPlace, .int 0, .int 0, .ref m_isCome, .ref m_heap, .int 0, .ref m_now, .ref m_first, .ref m_second, .ref m_behind, .ref m_states, .int 0, .int 0, .int 0, .ref m_alone0, .ref m_endsBy, .ref m_kept0, .int 0, .int 0, .long 1])), (m_tape, .inl (kt, 1600, .inl f33))] H := hP
  have hD : va_D A [(h0, .inr (7, [.ref m_tape, .int 11, .int 0, .int 0, .int 0, .int 0, .int 0, .int 0, .int (-1), .ref m_refused, .ref m_own, .int 0, .ref m_draft, .ref m_program, .ref m_goPlace, .int 0, .int 0, .ref m_isCome, .ref m_heap, .int 0, .ref m_now, .ref m_first, .ref m_second, .ref m_behind, .ref m_states, .int 0, .int 0, .int 0, .ref m_alone0, .ref m_endsBy, .ref m_kept0, .int 0, .int 0, .long 1])), (m_tape, .inl (kt, 1600, .inl f33))] := hD
  refine lv_iinc (v := 11) (lv' := [(6, .int 11), (7, .int p2), (0, .ref h0), (1, .int p0), (2, .int p1), (3, .int p2), (4, .int p3), (5, .int p4)]) hx hb dX7_feed_112 hl (k := 1) rfl (by decide) (by decide) rfl (fun ls hl => ?_)
  refine lv_goto (tgt := 22) hx hb dX7_feed_115 (by decide) ?_
  refine lv_iload hx hb dX7_feed_22 (lv_at hl 0 rfl) ?_
  refine lv_bipush (v := 20) hx hb dX7_feed_24 (by decide) ?_
  refine lv_icmp_ge (tgt := 118) hx hb dX7_feed_26 (by decide) (fun c => absurd c (by decide)) (fun _ => ?_)
  refine lv_iload hx hb dX7_feed_29 (lv_at hl 0 rfl) ?_
  refine lv_iconst (v := 4) hx hb dX7_feed_31 (by decide) ?_
  refine lv_icmp_ge (tgt := 39) hx hb dX7_feed_32 (by decide) (fun _ => ?_) (fun c => absurd (by decide) c)
  refine lv_iload hx hb dX7_feed_39 (lv_at hl 0 rfl) ?_
  refine lv_bipush (v := 8) hx hb dX7_feed_41 (by decide) ?_
  refine lv_icmp_ge (tgt := 50) hx hb dX7_feed_43 (by decide) (fun _ => ?_) (fun c => absurd (by decide) c)
  refine lv_iload hx hb dX7_feed_50 (lv_at hl 0 rfl) ?_
  refine lv_bipush (v := 12) hx hb dX7_feed_52 (by decide) ?_
  refine lv_icmp_ge (tgt := 61) hx hb dX7_feed_54 (by decide) (fun c => absurd c (by decide)) (fun _ => ?_)
  refine lv_iload_n hx hb dX7_feed_57 rfl (lv_at hl 5 rfl) ?_
  refine lv_goto (tgt := 75) hx hb dX7_feed_58 (by decide) ?_
  refine lv_istore (lv' := [(7, .int p2), (6, .int 11), (0, .ref h0), (1, .int p0), (2, .int p1), (3, .int p2), (4, .int p3), (5, .int p4)]) hx hb dX7_feed_75 hl (by decide) rfl (fun ls hl => ?_)
  refine lv_aload_n hx hb dX7_feed_77 rfl (lv_at hl 2 rfl) ?_
  refine va_get (D := (dC, dI)) (ci := 7) (v := .ref m_tape) (C := RX7) (T := TX7) (N := 34) hx hb hts inX7 hown hK hP 0 rfl rfl 0 (by decide) (hts _ T_163) (fun _ h9 => h9) rfl dX7_feed_78 ?_
  refine lv_aload_n hx hb dX7_feed_81 rfl (lv_at hl 2 rfl) ?_
  refine va_get (D := (dC, dI)) (ci := 7) (v := .int 11) (C := RX7) (T := TX7) (N := 34) hx hb hts inX7 hown hK hP 0 rfl rfl 1 (by decide) (hts _ T_184) (fun _ h9 => h9) rfl dX7_feed_82 ?_
  refine lv_iload hx hb dX7_feed_85 (lv_at hl 0 rfl) ?_
  refine lv_bipush (v := 8) hx hb dX7_feed_87 (by decide) ?_
  refine lv_iconst (v := 3) hx hb dX7_feed_89 (by decide) ?_
  refine lv_iload hx hb dX7_feed_90 (lv_at hl 1 rfl) ?_
  refine lv_iconst (v := 4) hx hb dX7_feed_92 (by decide) ?_
  refine lv_irem hx hb dX7_feed_93 (by decide) ?_
  refine ax_eqi (y := 3) (by decide) ?_
  refine lv_isub hx hb dX7_feed_94 ?_
  refine ax_eqi (y := 0) (by decide) ?_
  refine lv_imul hx hb dX7_feed_95 ?_
  refine ax_eqi (y := 0) (by decide) ?_
  refine lv_ishr hx hb dX7_feed_96 ?_
  refine lv_topi (fun v34 ev34 => ?_)
  refine lv_sipush (v := 255) hx hb dX7_feed_97 (by decide) ?_
  refine lv_iand hx hb dX7_feed_100 ?_
  refine lv_topi (fun v35 ev35 => ?_)
  refine va_iast hx hb hK hP hD hS 1 0 rfl rfl (ax_in (by decide)) dX7_feed_101 (fun H locs hP hD hS => ?_)
  have hP : va_P (dC, dI) vwCl [(h0, .inr (7, [.ref m_tape, .int 11, .int 0, .int 0, .int 0, .int 0, .int 0, .int 0, .int (-1), .ref m_refused, .ref m_own, .int 0, .ref m_draft, .ref m_program, .ref m_goPlace, .int 0, .int 0, .ref m_isCome, .ref m_heap, .int 0, .ref m_now, .ref m_first, .ref m_second, .ref m_behind, .ref m_states, .int 0, .int 0, .int 0, .ref m_alone0, .ref m_endsBy, .ref m_kept0, .int 0, .int 0, .long 1])), (m_tape, .inl (kt, 1600, .inl (upd f33 (11 : Int32).toNatClampNeg v35)))] H := hP
  have hD : va_D A [(h0, .inr (7, [.ref m_tape, .int 11, .int 0, .int 0, .int 0, .int 0, .int 0, .int 0, .int (-1), .ref m_refused, .ref m_own, .int 0, .ref m_draft, .ref m_program, .ref m_goPlace, .int 0, .int 0, .ref m_isCome, .ref m_heap, .int 0, .ref m_now, .ref m_first, .ref m_second, .ref m_behind, .ref m_states, .int 0, .int 0, .int 0, .ref m_alone0, .ref m_endsBy, .ref m_kept0, .int 0, .int 0, .long 1])), (m_tape, .inl (kt, 1600, .inl (upd f33 (11 : Int32).toNatClampNeg v35)))] := hD
  obtain ⟨f36, hP, hD⟩ : ∃ f : Nat → Int32, va_P (dC, dI) vwCl [(h0, .inr (7, [.ref m_tape, .int 11, .int 0, .int 0, .int 0, .int 0, .int 0, .int 0, .int (-1), .ref m_refused, .ref m_own, .int 0, .ref m_draft, .ref m_program, .ref m_goPlace, .int 0, .int 0, .ref m_isCome, .ref m_heap, .int 0, .ref m_now, .ref m_first, .ref m_second, .ref m_behind, .ref m_states, .int 0, .int 0, .int 0, .ref m_alone0, .ref m_endsBy, .ref m_kept0, .int 0, .int 0, .long 1])), (m_tape, .inl (kt, 1600, .inl f))] H ∧ va_D A [(h0, .inr (7, [.ref m_tape, .int 11, .int 0, .int 0, .int 0, .int 0, .int 0, .int 0, .int (-1), .ref m_refused, .ref m_own, .int 0, .ref m_draft, .ref m_program, .ref m_goPlace, .int 0, .int 0, .ref m_isCome, .ref m_heap, .int 0, .ref m_now, .ref m_first, .ref m_second, .ref m_behind, .ref m_states, .int 0, .int 0, .int 0, .ref m_alone0, .ref m_endsBy, .ref m_kept0, .int 0, .int 0, .long 1])), (m_tape, .inl (kt, 1600, .inl f))] := ⟨_, hP, hD⟩
  refine lv_aload_n hx hb dX7_feed_102 rfl (lv_at hl 2 rfl) ?_
  refine lv_dup hx hb dX7_feed_103 rfl ?_
  refine va_get (D := (dC, dI)) (ci := 7) (v := .int 11) (C := RX7) (T := TX7) (N := 34) hx hb hts inX7 hown hK hP 0 rfl rfl 1 (by decide) (hts _ T_184) (fun _ h9 => h9) rfl dX7_feed_104 ?_
  refine lv_iconst (v := 1) hx hb dX7_feed_107 (by decide) ?_
  refine lv_iadd hx hb dX7_feed_108 ?_
  refine ax_eqi (y := 12) (by decide) ?_
  refine va_put (D := (dC, dI)) (ci := 7) (v := .int 12) (ty := .int) (C := RX7) (T := TX7) (N := 34) hx hb hts inX7 tyX7 tyX7_ok nmX7 hown hK hP hD hS 0 rfl rfl 1 (by decide) (hts _ T_184) (fun _ h9 => h9) rfl (by decide +kernel) rfl rfl (Nat.le_of_ble_eq_true rfl) dX7_feed_109 (fun H locs hP hD hS => ?_)
  have hP : va_P (dC, dI) vwCl [(h0, .inr (7, [.ref m_tape, .int 12, .int 0, .int 0, .int 0, .int 0, .int 0, .int 0, .int (-1), .ref m_refused, .ref m_own, .int 0, .ref m_draft, .ref m_program, .ref m_goPlace, .int 0, .int 0, .ref m_isCome, .ref m_heap, .int 0, .ref m_now, .ref m_first, .ref m_second, .ref m_behind, .ref m_states, .int 0, .int 0, .int 0, .ref m_alone0, .ref m_endsBy, .ref m_kept0, .int 0, .int 0, .long 1])), (m_tape, .inl (kt, 1600, .inl f36))] H := hP
  have hD : va_D A [(h0, .inr (7, [.ref m_tape, .int 12, .int 0, .int 0, .int 0, .int 0, .int 0, .int 0, .int (-1), .ref m_refused, .ref m_own, .int 0, .ref m_draft, .ref m_program, .ref m_goPlace, .int 0, .int 0, .ref m_isCome, .ref m_heap, .int 0, .ref m_now, .ref m_first, .ref m_second, .ref m_behind, .ref m_states, .int 0, .int 0, .int 0, .ref m_alone0, .ref m_endsBy, .ref m_kept0, .int 0, .int 0, .long 1])), (m_tape, .inl (kt, 1600, .inl f36))] := hD
  refine lv_iinc (v := 12) (lv' := [(6, .int 12), (7, .int p2), (0, .ref h0), (1, .int p0), (2, .int p1), (3, .int p2), (4, .int p3), (5, .int p4)]) hx hb dX7_feed_112 hl (k := 1) rfl (by decide) (by decide) rfl (fun ls hl => ?_)
  refine lv_goto (tgt := 22) hx hb dX7_feed_115 (by decide) ?_
  refine lv_iload hx hb dX7_feed_22 (lv_at hl 0 rfl) ?_
  refine lv_bipush (v := 20) hx hb dX7_feed_24 (by decide) ?_
  refine lv_icmp_ge (tgt := 118) hx hb dX7_feed_26 (by decide) (fun c => absurd c (by decide)) (fun _ => ?_)
  refine lv_iload hx hb dX7_feed_29 (lv_at hl 0 rfl) ?_
  refine lv_iconst (v := 4) hx hb dX7_feed_31 (by decide) ?_
  refine lv_icmp_ge (tgt := 39) hx hb dX7_feed_32 (by decide) (fun _ => ?_) (fun c => absurd (by decide) c)
  refine lv_iload hx hb dX7_feed_39 (lv_at hl 0 rfl) ?_
  refine lv_bipush (v := 8) hx hb dX7_feed_41 (by decide) ?_
  refine lv_icmp_ge (tgt := 50) hx hb dX7_feed_43 (by decide) (fun _ => ?_) (fun c => absurd (by decide) c)
  refine lv_iload hx hb dX7_feed_50 (lv_at hl 0 rfl) ?_
  refine lv_bipush (v := 12) hx hb dX7_feed_52 (by decide) ?_
  refine lv_icmp_ge (tgt := 61) hx hb dX7_feed_54 (by decide) (fun _ => ?_) (fun c => absurd (by decide) c)
  refine lv_iload hx hb dX7_feed_61 (lv_at hl 0 rfl) ?_
  refine lv_bipush (v := 16) hx hb dX7_feed_63 (by decide) ?_
  refine lv_icmp_ge (tgt := 73) hx hb dX7_feed_65 (by decide) (fun c => absurd c (by decide)) (fun _ => ?_)
  refine lv_iload hx hb dX7_feed_68 (lv_at hl 6 rfl) ?_
  refine lv_goto (tgt := 75) hx hb dX7_feed_70 (by decide) ?_
  refine lv_istore (lv' := [(7, .int p3), (6, .int 12), (0, .ref h0), (1, .int p0), (2, .int p1), (3, .int p2), (4, .int p3), (5, .int p4)]) hx hb dX7_feed_75 hl (by decide) rfl (fun ls hl => ?_)
  refine lv_aload_n hx hb dX7_feed_77 rfl (lv_at hl 2 rfl) ?_
  refine va_get (D := (dC, dI)) (ci := 7) (v := .ref m_tape) (C := RX7) (T := TX7) (N := 34) hx hb hts inX7 hown hK hP 0 rfl rfl 0 (by decide) (hts _ T_163) (fun _ h9 => h9) rfl dX7_feed_78 ?_
  refine lv_aload_n hx hb dX7_feed_81 rfl (lv_at hl 2 rfl) ?_
  refine va_get (D := (dC, dI)) (ci := 7) (v := .int 12) (C := RX7) (T := TX7) (N := 34) hx hb hts inX7 hown hK hP 0 rfl rfl 1 (by decide) (hts _ T_184) (fun _ h9 => h9) rfl dX7_feed_82 ?_
  refine lv_iload hx hb dX7_feed_85 (lv_at hl 0 rfl) ?_
  refine lv_bipush (v := 8) hx hb dX7_feed_87 (by decide) ?_
  refine lv_iconst (v := 3) hx hb dX7_feed_89 (by decide) ?_
  refine lv_iload hx hb dX7_feed_90 (lv_at hl 1 rfl) ?_
  refine lv_iconst (v := 4) hx hb dX7_feed_92 (by decide) ?_
  refine lv_irem hx hb dX7_feed_93 (by decide) ?_
  refine ax_eqi (y := 0) (by decide) ?_
  refine lv_isub hx hb dX7_feed_94 ?_
  refine ax_eqi (y := 3) (by decide) ?_
  refine lv_imul hx hb dX7_feed_95 ?_
  refine ax_eqi (y := 24) (by decide) ?_
  refine lv_ishr hx hb dX7_feed_96 ?_
  refine lv_topi (fun v37 ev37 => ?_)
  refine lv_sipush (v := 255) hx hb dX7_feed_97 (by decide) ?_
  refine lv_iand hx hb dX7_feed_100 ?_
  refine lv_topi (fun v38 ev38 => ?_)
  refine va_iast hx hb hK hP hD hS 1 0 rfl rfl (ax_in (by decide)) dX7_feed_101 (fun H locs hP hD hS => ?_)
  have hP : va_P (dC, dI) vwCl [(h0, .inr (7, [.ref m_tape, .int 12, .int 0, .int 0, .int 0, .int 0, .int 0, .int 0, .int (-1), .ref m_refused, .ref m_own, .int 0, .ref m_draft, .ref m_program, .ref m_goPlace, .int 0, .int 0, .ref m_isCome, .ref m_heap, .int 0, .ref m_now, .ref m_first, .ref m_second, .ref m_behind, .ref m_states, .int 0, .int 0, .int 0, .ref m_alone0, .ref m_endsBy, .ref m_kept0, .int 0, .int 0, .long 1])), (m_tape, .inl (kt, 1600, .inl (upd f36 (12 : Int32).toNatClampNeg v38)))] H := hP
  have hD : va_D A [(h0, .inr (7, [.ref m_tape, .int 12, .int 0, .int 0, .int 0, .int 0, .int 0, .int 0, .int (-1), .ref m_refused, .ref m_own, .int 0, .ref m_draft, .ref m_program, .ref m_goPlace, .int 0, .int 0, .ref m_isCome, .ref m_heap, .int 0, .ref m_now, .ref m_first, .ref m_second, .ref m_behind, .ref m_states, .int 0, .int 0, .int 0, .ref m_alone0, .ref m_endsBy, .ref m_kept0, .int 0, .int 0, .long 1])), (m_tape, .inl (kt, 1600, .inl (upd f36 (12 : Int32).toNatClampNeg v38)))] := hD
  obtain ⟨f39, hP, hD⟩ : ∃ f : Nat → Int32, va_P (dC, dI) vwCl [(h0, .inr (7, [.ref m_tape, .int 12, .int 0, .int 0, .int 0, .int 0, .int 0, .int 0, .int (-1), .ref m_refused, .ref m_own, .int 0, .ref m_draft, .ref m_program, .ref m_goPlace, .int 0, .int 0, .ref m_isCome, .ref m_heap, .int 0, .ref m_now, .ref m_first, .ref m_second, .ref m_behind, .ref m_states, .int 0, .int 0, .int 0, .ref m_alone0, .ref m_endsBy, .ref m_kept0, .int 0, .int 0, .long 1])), (m_tape, .inl (kt, 1600, .inl f))] H ∧ va_D A [(h0, .inr (7, [.ref m_tape, .int 12, .int 0, .int 0, .int 0, .int 0, .int 0, .int 0, .int (-1), .ref m_refused, .ref m_own, .int 0, .ref m_draft, .ref m_program, .ref m_goPlace, .int 0, .int 0, .ref m_isCome, .ref m_heap, .int 0, .ref m_now, .ref m_first, .ref m_second, .ref m_behind, .ref m_states, .int 0, .int 0, .int 0, .ref m_alone0, .ref m_endsBy, .ref m_kept0, .int 0, .int 0, .long 1])), (m_tape, .inl (kt, 1600, .inl f))] := ⟨_, hP, hD⟩
  refine lv_aload_n hx hb dX7_feed_102 rfl (lv_at hl 2 rfl) ?_
  refine lv_dup hx hb dX7_feed_103 rfl ?_
  refine va_get (D := (dC, dI)) (ci := 7) (v := .int 12) (C := RX7) (T := TX7) (N := 34) hx hb hts inX7 hown hK hP 0 rfl rfl 1 (by decide) (hts _ T_184) (fun _ h9 => h9) rfl dX7_feed_104 ?_
  refine lv_iconst (v := 1) hx hb dX7_feed_107 (by decide) ?_
  refine lv_iadd hx hb dX7_feed_108 ?_
  refine ax_eqi (y := 13) (by decide) ?_
  refine va_put (D := (dC, dI)) (ci := 7) (v := .int 13) (ty := .int) (C := RX7) (T := TX7) (N := 34) hx hb hts inX7 tyX7 tyX7_ok nmX7 hown hK hP hD hS 0 rfl rfl 1 (by decide) (hts _ T_184) (fun _ h9 => h9) rfl (by decide +kernel) rfl rfl (Nat.le_of_ble_eq_true rfl) dX7_feed_109 (fun H locs hP hD hS => ?_)
  have hP : va_P (dC, dI) vwCl [(h0, .inr (7, [.ref m_tape, .int 13, .int 0, .int 0, .int 0, .int 0, .int 0, .int 0, .int (-1), .ref m_refused, .ref m_own, .int 0, .ref m_draft, .ref m_program, .ref m_goPlace, .int 0, .int 0, .ref m_isCome, .ref m_heap, .int 0, .ref m_now, .ref m_first, .ref m_second, .ref m_behind, .ref m_states, .int 0, .int 0, .int 0, .ref m_alone0, .ref m_endsBy, .ref m_kept0, .int 0, .int 0, .long 1])), (m_tape, .inl (kt, 1600, .inl f39))] H := hP
  have hD : va_D A [(h0, .inr (7, [.ref m_tape, .int 13, .int 0, .int 0, .int 0, .int 0, .int 0, .int 0, .int (-1), .ref m_refused, .ref m_own, .int 0, .ref m_draft, .ref m_program, .ref m_goPlace, .int 0, .int 0, .ref m_isCome, .ref m_heap, .int 0, .ref m_now, .ref m_first, .ref m_second, .ref m_behind, .ref m_states, .int 0, .int 0, .int 0, .ref m_alone0, .ref m_endsBy, .ref m_kept0, .int 0, .int 0, .long 1])), (m_tape, .inl (kt, 1600, .inl f39))] := hD
  refine lv_iinc (v := 13) (lv' := [(6, .int 13), (7, .int p3), (0, .ref h0), (1, .int p0), (2, .int p1), (3, .int p2), (4, .int p3), (5, .int p4)]) hx hb dX7_feed_112 hl (k := 1) rfl (by decide) (by decide) rfl (fun ls hl => ?_)
  refine lv_goto (tgt := 22) hx hb dX7_feed_115 (by decide) ?_
  refine lv_iload hx hb dX7_feed_22 (lv_at hl 0 rfl) ?_
  refine lv_bipush (v := 20) hx hb dX7_feed_24 (by decide) ?_
  refine lv_icmp_ge (tgt := 118) hx hb dX7_feed_26 (by decide) (fun c => absurd c (by decide)) (fun _ => ?_)
  refine lv_iload hx hb dX7_feed_29 (lv_at hl 0 rfl) ?_
  refine lv_iconst (v := 4) hx hb dX7_feed_31 (by decide) ?_
  refine lv_icmp_ge (tgt := 39) hx hb dX7_feed_32 (by decide) (fun _ => ?_) (fun c => absurd (by decide) c)
  refine lv_iload hx hb dX7_feed_39 (lv_at hl 0 rfl) ?_
  refine lv_bipush (v := 8) hx hb dX7_feed_41 (by decide) ?_
  refine lv_icmp_ge (tgt := 50) hx hb dX7_feed_43 (by decide) (fun _ => ?_) (fun c => absurd (by decide) c)
  refine lv_iload hx hb dX7_feed_50 (lv_at hl 0 rfl) ?_
  refine lv_bipush (v := 12) hx hb dX7_feed_52 (by decide) ?_
  refine lv_icmp_ge (tgt := 61) hx hb dX7_feed_54 (by decide) (fun _ => ?_) (fun c => absurd (by decide) c)
  refine lv_iload hx hb dX7_feed_61 (lv_at hl 0 rfl) ?_
  refine lv_bipush (v := 16) hx hb dX7_feed_63 (by decide) ?_
  refine lv_icmp_ge (tgt := 73) hx hb dX7_feed_65 (by decide) (fun c => absurd c (by decide)) (fun _ => ?_)
  refine lv_iload hx hb dX7_feed_68 (lv_at hl 6 rfl) ?_
  refine lv_goto (tgt := 75) hx hb dX7_feed_70 (by decide) ?_
  refine lv_istore (lv' := [(7, .int p3), (6, .int 13), (0, .ref h0), (1, .int p0), (2, .int p1), (3, .int p2), (4, .int p3), (5, .int p4)]) hx hb dX7_feed_75 hl (by decide) rfl (fun ls hl => ?_)
  refine lv_aload_n hx hb dX7_feed_77 rfl (lv_at hl 2 rfl) ?_
  refine va_get (D := (dC, dI)) (ci := 7) (v := .ref m_tape) (C := RX7) (T := TX7) (N := 34) hx hb hts inX7 hown hK hP 0 rfl rfl 0 (by decide) (hts _ T_163) (fun _ h9 => h9) rfl dX7_feed_78 ?_
  refine lv_aload_n hx hb dX7_feed_81 rfl (lv_at hl 2 rfl) ?_
  refine va_get (D := (dC, dI)) (ci := 7) (v := .int 13) (C := RX7) (T := TX7) (N := 34) hx hb hts inX7 hown hK hP 0 rfl rfl 1 (by decide) (hts _ T_184) (fun _ h9 => h9) rfl dX7_feed_82 ?_
  refine lv_iload hx hb dX7_feed_85 (lv_at hl 0 rfl) ?_
  refine lv_bipush (v := 8) hx hb dX7_feed_87 (by decide) ?_
  refine lv_iconst (v := 3) hx hb dX7_feed_89 (by decide) ?_
  refine lv_iload hx hb dX7_feed_90 (lv_at hl 1 rfl) ?_
  refine lv_iconst (v := 4) hx hb dX7_feed_92 (by decide) ?_
  refine lv_irem hx hb dX7_feed_93 (by decide) ?_
  refine ax_eqi (y := 1) (by decide) ?_
  refine lv_isub hx hb dX7_feed_94 ?_
  refine ax_eqi (y := 2) (by decide) ?_
  refine lv_imul hx hb dX7_feed_95 ?_
  refine ax_eqi (y := 16) (by decide) ?_
  refine lv_ishr hx hb dX7_feed_96 ?_
  refine lv_topi (fun v40 ev40 => ?_)
  refine lv_sipush (v := 255) hx hb dX7_feed_97 (by decide) ?_
  refine lv_iand hx hb dX7_feed_100 ?_
  refine lv_topi (fun v41 ev41 => ?_)
  refine va_iast hx hb hK hP hD hS 1 0 rfl rfl (ax_in (by decide)) dX7_feed_101 (fun H locs hP hD hS => ?_)
  have hP : va_P (dC, dI) vwCl [(h0, .inr (7, [.ref m_tape, .int 13, .int 0, .int 0, .int 0, .int 0, .int 0, .int 0, .int (-1), .ref m_refused, .ref m_own, .int 0, .ref m_draft, .ref m_program, .ref m_goPlace, .int 0, .int 0, .ref m_isCome, .ref m_heap, .int 0, .ref m_now, .ref m_first, .ref m_second, .ref m_behind, .ref m_states, .int 0, .int 0, .int 0, .ref m_alone0, .ref m_endsBy, .ref m_kept0, .int 0, .int 0, .long 1])), (m_tape, .inl (kt, 1600, .inl (upd f39 (13 : Int32).toNatClampNeg v41)))] H := hP
  have hD : va_D A [(h0, .inr (7, [.ref m_tape, .int 13, .int 0, .int 0, .int 0, .int 0, .int 0, .int 0, .int (-1), .ref m_refused, .ref m_own, .int 0, .ref m_draft, .ref m_program, .ref m_goPlace, .int 0, .int 0, .ref m_isCome, .ref m_heap, .int 0, .ref m_now, .ref m_first, .ref m_second, .ref m_behind, .ref m_states, .int 0, .int 0, .int 0, .ref m_alone0, .ref m_endsBy, .ref m_kept0, .int 0, .int 0, .long 1])), (m_tape, .inl (kt, 1600, .inl (upd f39 (13 : Int32).toNatClampNeg v41)))] := hD
  obtain ⟨f42, hP, hD⟩ : ∃ f : Nat → Int32, va_P (dC, dI) vwCl [(h0, .inr (7, [.ref m_tape, .int 13, .int 0, .int 0, .int 0, .int 0, .int 0, .int 0, .int (-1), .ref m_refused, .ref m_own, .int 0, .ref m_draft, .ref m_program, .ref m_goPlace, .int 0, .int 0, .ref m_isCome, .ref m_heap, .int 0, .ref m_now, .ref m_first, .ref m_second, .ref m_behind, .ref m_states, .int 0, .int 0, .int 0, .ref m_alone0, .ref m_endsBy, .ref m_kept0, .int 0, .int 0, .long 1])), (m_tape, .inl (kt, 1600, .inl f))] H ∧ va_D A [(h0, .inr (7, [.ref m_tape, .int 13, .int 0, .int 0, .int 0, .int 0, .int 0, .int 0, .int (-1), .ref m_refused, .ref m_own, .int 0, .ref m_draft, .ref m_program, .ref m_goPlace, .int 0, .int 0, .ref m_isCome, .ref m_heap, .int 0, .ref m_now, .ref m_first, .ref m_second, .ref m_behind, .ref m_states, .int 0, .int 0, .int 0, .ref m_alone0, .ref m_endsBy, .ref m_kept0, .int 0, .int 0, .long 1])), (m_tape, .inl (kt, 1600, .inl f))] := ⟨_, hP, hD⟩
  refine lv_aload_n hx hb dX7_feed_102 rfl (lv_at hl 2 rfl) ?_
  refine lv_dup hx hb dX7_feed_103 rfl ?_
  refine va_get (D := (dC, dI)) (ci := 7) (v := .int 13) (C := RX7) (T := TX7) (N := 34) hx hb hts inX7 hown hK hP 0 rfl rfl 1 (by decide) (hts _ T_184) (fun _ h9 => h9) rfl dX7_feed_104 ?_
  refine lv_iconst (v := 1) hx hb dX7_feed_107 (by decide) ?_
  refine lv_iadd hx hb dX7_feed_108 ?_
  refine ax_eqi (y := 14) (by decide) ?_
  refine va_put (D := (dC, dI)) (ci := 7) (v := .int 14) (ty := .int) (C := RX7) (T := TX7) (N := 34) hx hb hts inX7 tyX7 tyX7_ok nmX7 hown hK hP hD hS 0 rfl rfl 1 (by decide) (hts _ T_184) (fun _ h9 => h9) rfl (by decide +kernel) rfl rfl (Nat.le_of_ble_eq_true rfl) dX7_feed_109 (fun H locs hP hD hS => ?_)
  have hP : va_P (dC, dI) vwCl [(h0, .inr (7, [.ref m_tape, .int 14, .int 0, .int 0, .int 0, .int 0, .int 0, .int 0, .int (-1), .ref m_refused, .ref m_own, .int 0, .ref m_draft, .ref m_program, .ref m_goPlace, .int 0, .int 0, .ref m_isCome, .ref m_heap, .int 0, .ref m_now, .ref m_first, .ref m_second, .ref m_behind, .ref m_states, .int 0, .int 0, .int 0, .ref m_alone0, .ref m_endsBy, .ref m_kept0, .int 0, .int 0, .long 1])), (m_tape, .inl (kt, 1600, .inl f42))] H := hP
  have hD : va_D A [(h0, .inr (7, [.ref m_tape, .int 14, .int 0, .int 0, .int 0, .int 0, .int 0, .int 0, .int (-1), .ref m_refused, .ref m_own, .int 0, .ref m_draft, .ref m_program, .ref m_goPlace, .int 0, .int 0, .ref m_isCome, .ref m_heap, .int 0, .ref m_now, .ref m_first, .ref m_second, .ref m_behind, .ref m_states, .int 0, .int 0, .int 0, .ref m_alone0, .ref m_endsBy, .ref m_kept0, .int 0, .int 0, .long 1])), (m_tape, .inl (kt, 1600, .inl f42))] := hD
  refine lv_iinc (v := 14) (lv' := [(6, .int 14), (7, .int p3), (0, .ref h0), (1, .int p0), (2, .int p1), (3, .int p2), (4, .int p3), (5, .int p4)]) hx hb dX7_feed_112 hl (k := 1) rfl (by decide) (by decide) rfl (fun ls hl => ?_)
  refine lv_goto (tgt := 22) hx hb dX7_feed_115 (by decide) ?_
  refine lv_iload hx hb dX7_feed_22 (lv_at hl 0 rfl) ?_
  refine lv_bipush (v := 20) hx hb dX7_feed_24 (by decide) ?_
  refine lv_icmp_ge (tgt := 118) hx hb dX7_feed_26 (by decide) (fun c => absurd c (by decide)) (fun _ => ?_)
  refine lv_iload hx hb dX7_feed_29 (lv_at hl 0 rfl) ?_
  refine lv_iconst (v := 4) hx hb dX7_feed_31 (by decide) ?_
  refine lv_icmp_ge (tgt := 39) hx hb dX7_feed_32 (by decide) (fun _ => ?_) (fun c => absurd (by decide) c)
  refine lv_iload hx hb dX7_feed_39 (lv_at hl 0 rfl) ?_
  refine lv_bipush (v := 8) hx hb dX7_feed_41 (by decide) ?_
  refine lv_icmp_ge (tgt := 50) hx hb dX7_feed_43 (by decide) (fun _ => ?_) (fun c => absurd (by decide) c)
  refine lv_iload hx hb dX7_feed_50 (lv_at hl 0 rfl) ?_
  refine lv_bipush (v := 12) hx hb dX7_feed_52 (by decide) ?_
  refine lv_icmp_ge (tgt := 61) hx hb dX7_feed_54 (by decide) (fun _ => ?_) (fun c => absurd (by decide) c)
  refine lv_iload hx hb dX7_feed_61 (lv_at hl 0 rfl) ?_
  refine lv_bipush (v := 16) hx hb dX7_feed_63 (by decide) ?_
  refine lv_icmp_ge (tgt := 73) hx hb dX7_feed_65 (by decide) (fun c => absurd c (by decide)) (fun _ => ?_)
  refine lv_iload hx hb dX7_feed_68 (lv_at hl 6 rfl) ?_
  refine lv_goto (tgt := 75) hx hb dX7_feed_70 (by decide) ?_
  refine lv_istore (lv' := [(7, .int p3), (6, .int 14), (0, .ref h0), (1, .int p0), (2, .int p1), (3, .int p2), (4, .int p3), (5, .int p4)]) hx hb dX7_feed_75 hl (by decide) rfl (fun ls hl => ?_)
  refine lv_aload_n hx hb dX7_feed_77 rfl (lv_at hl 2 rfl) ?_
  refine va_get (D := (dC, dI)) (ci := 7) (v := .ref m_tape) (C := RX7) (T := TX7) (N := 34) hx hb hts inX7 hown hK hP 0 rfl rfl 0 (by decide) (hts _ T_163) (fun _ h9 => h9) rfl dX7_feed_78 ?_
  refine lv_aload_n hx hb dX7_feed_81 rfl (lv_at hl 2 rfl) ?_
  refine va_get (D := (dC, dI)) (ci := 7) (v := .int 14) (C := RX7) (T := TX7) (N := 34) hx hb hts inX7 hown hK hP 0 rfl rfl 1 (by decide) (hts _ T_184) (fun _ h9 => h9) rfl dX7_feed_82 ?_
  refine lv_iload hx hb dX7_feed_85 (lv_at hl 0 rfl) ?_
  refine lv_bipush (v := 8) hx hb dX7_feed_87 (by decide) ?_
  refine lv_iconst (v := 3) hx hb dX7_feed_89 (by decide) ?_
  refine lv_iload hx hb dX7_feed_90 (lv_at hl 1 rfl) ?_
  refine lv_iconst (v := 4) hx hb dX7_feed_92 (by decide) ?_
  refine lv_irem hx hb dX7_feed_93 (by decide) ?_
  refine ax_eqi (y := 2) (by decide) ?_
  refine lv_isub hx hb dX7_feed_94 ?_
  refine ax_eqi (y := 1) (by decide) ?_
  refine lv_imul hx hb dX7_feed_95 ?_
  refine ax_eqi (y := 8) (by decide) ?_
  refine lv_ishr hx hb dX7_feed_96 ?_
  refine lv_topi (fun v43 ev43 => ?_)
  refine lv_sipush (v := 255) hx hb dX7_feed_97 (by decide) ?_
  refine lv_iand hx hb dX7_feed_100 ?_
  refine lv_topi (fun v44 ev44 => ?_)
  refine va_iast hx hb hK hP hD hS 1 0 rfl rfl (ax_in (by decide)) dX7_feed_101 (fun H locs hP hD hS => ?_)
  have hP : va_P (dC, dI) vwCl [(h0, .inr (7, [.ref m_tape, .int 14, .int 0, .int 0, .int 0, .int 0, .int 0, .int 0, .int (-1), .ref m_refused, .ref m_own, .int 0, .ref m_draft, .ref m_program, .ref m_goPlace, .int 0, .int 0, .ref m_isCome, .ref m_heap, .int 0, .ref m_now, .ref m_first, .ref m_second, .ref m_behind, .ref m_states, .int 0, .int 0, .int 0, .ref m_alone0, .ref m_endsBy, .ref m_kept0, .int 0, .int 0, .long 1])), (m_tape, .inl (kt, 1600, .inl (upd f42 (14 : Int32).toNatClampNeg v44)))] H := hP
  have hD : va_D A [(h0, .inr (7, [.ref m_tape, .int 14, .int 0, .int 0, .int 0, .int 0, .int 0, .int 0, .int (-1), .ref m_refused, .ref m_own, .int 0, .ref m_draft, .ref m_program, .ref m_goPlace, .int 0, .int 0, .ref m_isCome, .ref m_heap, .int 0, .ref m_now, .ref m_first, .ref m_second, .ref m_behind, .ref m_states, .int 0, .int 0, .int 0, .ref m_alone0, .ref m_endsBy, .ref m_kept0, .int 0, .int 0, .long 1])), (m_tape, .inl (kt, 1600, .inl (upd f42 (14 : Int32).toNatClampNeg v44)))] := hD
  obtain ⟨f45, hP, hD⟩ : ∃ f : Nat → Int32, va_P (dC, dI) vwCl [(h0, .inr (7, [.ref m_tape, .int 14, .int 0, .int 0, .int 0, .int 0, .int 0, .int 0, .int (-1), .ref m_refused, .ref m_own, .int 0, .ref m_draft, .ref m_program, .ref m_goPlace, .int 0, .int 0, .ref m_isCome, .ref m_heap, .int 0, .ref m_now, .ref m_first, .ref m_second, .ref m_behind, .ref m_states, .int 0, .int 0, .int 0, .ref m_alone0, .ref m_endsBy, .ref m_kept0, .int 0, .int 0, .long 1])), (m_tape, .inl (kt, 1600, .inl f))] H ∧ va_D A [(h0, .inr (7, [.ref m_tape, .int 14, .int 0, .int 0, .int 0, .int 0, .int 0, .int 0, .int (-1), .ref m_refused, .ref m_own, .int 0, .ref m_draft, .ref m_program, .ref m_goPlace, .int 0, .int 0, .ref m_isCome, .ref m_heap, .int 0, .ref m_now, .ref m_first, .ref m_second, .ref m_behind, .ref m_states, .int 0, .int 0, .int 0, .ref m_alone0, .ref m_endsBy, .ref m_kept0, .int 0, .int 0, .long 1])), (m_tape, .inl (kt, 1600, .inl f))] := ⟨_, hP, hD⟩
  refine lv_aload_n hx hb dX7_feed_102 rfl (lv_at hl 2 rfl) ?_
  refine lv_dup hx hb dX7_feed_103 rfl ?_
  refine va_get (D := (dC, dI)) (ci := 7) (v := .int 14) (C := RX7) (T := TX7) (N := 34) hx hb hts inX7 hown hK hP 0 rfl rfl 1 (by decide) (hts _ T_184) (fun _ h9 => h9) rfl dX7_feed_104 ?_
  refine lv_iconst (v := 1) hx hb dX7_feed_107 (by decide) ?_
  refine lv_iadd hx hb dX7_feed_108 ?_
  refine ax_eqi (y := 15) (by decide) ?_
  refine va_put (D := (dC, dI)) (ci := 7) (v := .int 15) (ty := .int) (C := RX7) (T := TX7) (N := 34) hx hb hts inX7 tyX7 tyX7_ok nmX7 hown hK hP hD hS 0 rfl rfl 1 (by decide) (hts _ T_184) (fun _ h9 => h9) rfl (by decide +kernel) rfl rfl (Nat.le_of_ble_eq_true rfl) dX7_feed_109 (fun H locs hP hD hS => ?_)
  have hP : va_P (dC, dI) vwCl [(h0, .inr (7, [.ref m_tape, .int 15, .int 0, .int 0, .int 0, .int 0, .int 0, .int 0, .int (-1), .ref m_refused, .ref m_own, .int 0, .ref m_draft, .ref m_program, .ref m_goPlace, .int 0, .int 0, .ref m_isCome, .ref m_heap, .int 0, .ref m_now, .ref m_first, .ref m_second, .ref m_behind, .ref m_states, .int 0, .int 0, .int 0, .ref m_alone0, .ref m_endsBy, .ref m_kept0, .int 0, .int 0, .long 1])), (m_tape, .inl (kt, 1600, .inl f45))] H := hP
  have hD : va_D A [(h0, .inr (7, [.ref m_tape, .int 15, .int 0, .int 0, .int 0, .int 0, .int 0, .int 0, .int (-1), .ref m_refused, .ref m_own, .int 0, .ref m_draft, .ref m_program, .ref m_goPlace, .int 0, .int 0, .ref m_isCome, .ref m_heap, .int 0, .ref m_now, .ref m_first, .ref m_second, .ref m_behind, .ref m_states, .int 0, .int 0, .int 0, .ref m_alone0, .ref m_endsBy, .ref m_kept0, .int 0, .int 0, .long 1])), (m_tape, .inl (kt, 1600, .inl f45))] := hD
  refine lv_iinc (v := 15) (lv' := [(6, .int 15), (7, .int p3), (0, .ref h0), (1, .int p0), (2, .int p1), (3, .int p2), (4, .int p3), (5, .int p4)]) hx hb dX7_feed_112 hl (k := 1) rfl (by decide) (by decide) rfl (fun ls hl => ?_)
  refine lv_goto (tgt := 22) hx hb dX7_feed_115 (by decide) ?_
  refine lv_iload hx hb dX7_feed_22 (lv_at hl 0 rfl) ?_
  refine lv_bipush (v := 20) hx hb dX7_feed_24 (by decide) ?_
  refine lv_icmp_ge (tgt := 118) hx hb dX7_feed_26 (by decide) (fun c => absurd c (by decide)) (fun _ => ?_)
  refine lv_iload hx hb dX7_feed_29 (lv_at hl 0 rfl) ?_
  refine lv_iconst (v := 4) hx hb dX7_feed_31 (by decide) ?_
  refine lv_icmp_ge (tgt := 39) hx hb dX7_feed_32 (by decide) (fun _ => ?_) (fun c => absurd (by decide) c)
  refine lv_iload hx hb dX7_feed_39 (lv_at hl 0 rfl) ?_
  refine lv_bipush (v := 8) hx hb dX7_feed_41 (by decide) ?_
  refine lv_icmp_ge (tgt := 50) hx hb dX7_feed_43 (by decide) (fun _ => ?_) (fun c => absurd (by decide) c)
  refine lv_iload hx hb dX7_feed_50 (lv_at hl 0 rfl) ?_
  refine lv_bipush (v := 12) hx hb dX7_feed_52 (by decide) ?_
  refine lv_icmp_ge (tgt := 61) hx hb dX7_feed_54 (by decide) (fun _ => ?_) (fun c => absurd (by decide) c)
  refine lv_iload hx hb dX7_feed_61 (lv_at hl 0 rfl) ?_
  refine lv_bipush (v := 16) hx hb dX7_feed_63 (by decide) ?_
  refine lv_icmp_ge (tgt := 73) hx hb dX7_feed_65 (by decide) (fun c => absurd c (by decide)) (fun _ => ?_)
  refine lv_iload hx hb dX7_feed_68 (lv_at hl 6 rfl) ?_
  refine lv_goto (tgt := 75) hx hb dX7_feed_70 (by decide) ?_
  refine lv_istore (lv' := [(7, .int p3), (6, .int 15), (0, .ref h0), (1, .int p0), (2, .int p1), (3, .int p2), (4, .int p3), (5, .int p4)]) hx hb dX7_feed_75 hl (by decide) rfl (fun ls hl => ?_)
  refine lv_aload_n hx hb dX7_feed_77 rfl (lv_at hl 2 rfl) ?_
  refine va_get (D := (dC, dI)) (ci := 7) (v := .ref m_tape) (C := RX7) (T := TX7) (N := 34) hx hb hts inX7 hown hK hP 0 rfl rfl 0 (by decide) (hts _ T_163) (fun _ h9 => h9) rfl dX7_feed_78 ?_
  refine lv_aload_n hx hb dX7_feed_81 rfl (lv_at hl 2 rfl) ?_
  refine va_get (D := (dC, dI)) (ci := 7) (v := .int 15) (C := RX7) (T := TX7) (N := 34) hx hb hts inX7 hown hK hP 0 rfl rfl 1 (by decide) (hts _ T_184) (fun _ h9 => h9) rfl dX7_feed_82 ?_
  refine lv_iload hx hb dX7_feed_85 (lv_at hl 0 rfl) ?_
  refine lv_bipush (v := 8) hx hb dX7_feed_87 (by decide) ?_
  refine lv_iconst (v := 3) hx hb dX7_feed_89 (by decide) ?_
  refine lv_iload hx hb dX7_feed_90 (lv_at hl 1 rfl) ?_
  refine lv_iconst (v := 4) hx hb dX7_feed_92 (by decide) ?_
  refine lv_irem hx hb dX7_feed_93 (by decide) ?_
  refine ax_eqi (y := 3) (by decide) ?_
  refine lv_isub hx hb dX7_feed_94 ?_
  refine ax_eqi (y := 0) (by decide) ?_
  refine lv_imul hx hb dX7_feed_95 ?_
  refine ax_eqi (y := 0) (by decide) ?_
  refine lv_ishr hx hb dX7_feed_96 ?_
  refine lv_topi (fun v46 ev46 => ?_)
  refine lv_sipush (v := 255) hx hb dX7_feed_97 (by decide) ?_
  refine lv_iand hx hb dX7_feed_100 ?_
  refine lv_topi (fun v47 ev47 => ?_)
  refine va_iast hx hb hK hP hD hS 1 0 rfl rfl (ax_in (by decide)) dX7_feed_101 (fun H locs hP hD hS => ?_)
  have hP : va_P (dC, dI) vwCl [(h0, .inr (7, [.ref m_tape, .int 15, .int 0, .int 0, .int 0, .int 0, .int 0, .int 0, .int (-1), .ref m_refused, .ref m_own, .int 0, .ref m_draft, .ref m_program, .ref m_goPlace, .int 0, .int 0, .ref m_isCome, .ref m_heap, .int 0, .ref m_now, .ref m_first, .ref m_second, .ref m_behind, .ref m_states, .int 0, .int 0, .int 0, .ref m_alone0, .ref m_endsBy, .ref m_kept0, .int 0, .int 0, .long 1])), (m_tape, .inl (kt, 1600, .inl (upd f45 (15 : Int32).toNatClampNeg v47)))] H := hP
  have hD : va_D A [(h0, .inr (7, [.ref m_tape, .int 15, .int 0, .int 0, .int 0, .int 0, .int 0, .int 0, .int (-1), .ref m_refused, .ref m_own, .int 0, .ref m_draft, .ref m_program, .ref m_goPlace, .int 0, .int 0, .ref m_isCome, .ref m_heap, .int 0, .ref m_now, .ref m_first, .ref m_second, .ref m_behind, .ref m_states, .int 0, .int 0, .int 0, .ref m_alone0, .ref m_endsBy, .ref m_kept0, .int 0, .int 0, .long 1])), (m_tape, .inl (kt, 1600, .inl (upd f45 (15 : Int32).toNatClampNeg v47)))] := hD
  obtain ⟨f48, hP, hD⟩ : ∃ f : Nat → Int32, va_P (dC, dI) vwCl [(h0, .inr (7, [.ref m_tape, .int 15, .int 0, .int 0, .int 0, .int 0, .int 0, .int 0, .int (-1), .ref m_refused, .ref m_own, .int 0, .ref m_draft, .ref m_program, .ref m_goPlace, .int 0, .int 0, .ref m_isCome, .ref m_heap, .int 0, .ref m_now, .ref m_first, .ref m_second, .ref m_behind, .ref m_states, .int 0, .int 0, .int 0, .ref m_alone0, .ref m_endsBy, .ref m_kept0, .int 0, .int 0, .long 1])), (m_tape, .inl (kt, 1600, .inl f))] H ∧ va_D A [(h0, .inr (7, [.ref m_tape, .int 15, .int 0, .int 0, .int 0, .int 0, .int 0, .int 0, .int (-1), .ref m_refused, .ref m_own, .int 0, .ref m_draft, .ref m_program, .ref m_goPlace, .int 0, .int 0, .ref m_isCome, .ref m_heap, .int 0, .ref m_now, .ref m_first, .ref m_second, .ref m_behind, .ref m_states, .int 0, .int 0, .int 0, .ref m_alone0, .ref m_endsBy, .ref m_kept0, .int 0, .int 0, .long 1])), (m_tape, .inl (kt, 1600, .inl f))] := ⟨_, hP, hD⟩
  refine lv_aload_n hx hb dX7_feed_102 rfl (lv_at hl 2 rfl) ?_
  refine lv_dup hx hb dX7_feed_103 rfl ?_
  refine va_get (D := (dC, dI)) (ci := 7) (v := .int 15) (C := RX7) (T := TX7) (N := 34) hx hb hts inX7 hown hK hP 0 rfl rfl 1 (by decide) (hts _ T_184) (fun _ h9 => h9) rfl dX7_feed_104 ?_
  refine lv_iconst (v := 1) hx hb dX7_feed_107 (by decide) ?_
  refine lv_iadd hx hb dX7_feed_108 ?_
  refine ax_eqi (y := 16) (by decide) ?_
  refine va_put (D := (dC, dI)) (ci := 7) (v := .int 16) (ty := .int) (C := RX7) (T := TX7) (N := 34) hx hb hts inX7 tyX7 tyX7_ok nmX7 hown hK hP hD hS 0 rfl rfl 1 (by decide) (hts _ T_184) (fun _ h9 => h9) rfl (by decide +kernel) rfl rfl (Nat.le_of_ble_eq_true rfl) dX7_feed_109 (fun H locs hP hD hS => ?_)
  have hP : va_P (dC, dI) vwCl [(h0, .inr (7, [.ref m_tape, .int 16, .int 0, .int 0, .int 0, .int 0, .int 0, .int 0, .int (-1), .ref m_refused, .ref m_own, .int 0, .ref m_draft, .ref m_program, .ref m_goPlace, .int 0, .int 0, .ref m_isCome, .ref m_heap, .int 0, .ref m_now, .ref m_first, .ref m_second, .ref m_behind, .ref m_states, .int 0, .int 0, .int 0, .ref m_alone0, .ref m_endsBy, .ref m_kept0, .int 0, .int 0, .long 1])), (m_tape, .inl (kt, 1600, .inl f48))] H := hP
  have hD : va_D A [(h0, .inr (7, [.ref m_tape, .int 16, .int 0, .int 0, .int 0, .int 0, .int 0, .int 0, .int (-1), .ref m_refused, .ref m_own, .int 0, .ref m_draft, .ref m_program, .ref m_goPlace, .int 0, .int 0, .ref m_isCome, .ref m_heap, .int 0, .ref m_now, .ref m_first, .ref m_second, .ref m_behind, .ref m_states, .int 0, .int 0, .int 0, .ref m_alone0, .ref m_endsBy, .ref m_kept0, .int 0, .int 0, .long 1])), (m_tape, .inl (kt, 1600, .inl f48))] := hD
  refine lv_iinc (v := 16) (lv' := [(6, .int 16), (7, .int p3), (0, .ref h0), (1, .int p0), (2, .int p1), (3, .int p2), (4, .int p3), (5, .int p4)]) hx hb dX7_feed_112 hl (k := 1) rfl (by decide) (by decide) rfl (fun ls hl => ?_)
  refine lv_goto (tgt := 22) hx hb dX7_feed_115 (by decide) ?_
  refine lv_iload hx hb dX7_feed_22 (lv_at hl 0 rfl) ?_
  refine lv_bipush (v := 20) hx hb dX7_feed_24 (by decide) ?_
  refine lv_icmp_ge (tgt := 118) hx hb dX7_feed_26 (by decide) (fun c => absurd c (by decide)) (fun _ => ?_)
  refine lv_iload hx hb dX7_feed_29 (lv_at hl 0 rfl) ?_
  refine lv_iconst (v := 4) hx hb dX7_feed_31 (by decide) ?_
  refine lv_icmp_ge (tgt := 39) hx hb dX7_feed_32 (by decide) (fun _ => ?_) (fun c => absurd (by decide) c)
  refine lv_iload hx hb dX7_feed_39 (lv_at hl 0 rfl) ?_
  refine lv_bipush (v := 8) hx hb dX7_feed_41 (by decide) ?_
  refine lv_icmp_ge (tgt := 50) hx hb dX7_feed_43 (by decide) (fun _ => ?_) (fun c => absurd (by decide) c)
  refine lv_iload hx hb dX7_feed_50 (lv_at hl 0 rfl) ?_
  refine lv_bipush (v := 12) hx hb dX7_feed_52 (by decide) ?_
  refine lv_icmp_ge (tgt := 61) hx hb dX7_feed_54 (by decide) (fun _ => ?_) (fun c => absurd (by decide) c)
  refine lv_iload hx hb dX7_feed_61 (lv_at hl 0 rfl) ?_
  refine lv_bipush (v := 16) hx hb dX7_feed_63 (by decide) ?_
  refine lv_icmp_ge (tgt := 73) hx hb dX7_feed_65 (by decide) (fun _ => ?_) (fun c => absurd (by decide) c)
  refine lv_iload hx hb dX7_feed_73 (lv_at hl 7 rfl) ?_
  refine lv_istore (lv' := [(7, .int p4), (6, .int 16), (0, .ref h0), (1, .int p0), (2, .int p1), (3, .int p2), (4, .int p3), (5, .int p4)]) hx hb dX7_feed_75 hl (by decide) rfl (fun ls hl => ?_)
  refine lv_aload_n hx hb dX7_feed_77 rfl (lv_at hl 2 rfl) ?_
  refine va_get (D := (dC, dI)) (ci := 7) (v := .ref m_tape) (C := RX7) (T := TX7) (N := 34) hx hb hts inX7 hown hK hP 0 rfl rfl 0 (by decide) (hts _ T_163) (fun _ h9 => h9) rfl dX7_feed_78 ?_
  refine lv_aload_n hx hb dX7_feed_81 rfl (lv_at hl 2 rfl) ?_
  refine va_get (D := (dC, dI)) (ci := 7) (v := .int 16) (C := RX7) (T := TX7) (N := 34) hx hb hts inX7 hown hK hP 0 rfl rfl 1 (by decide) (hts _ T_184) (fun _ h9 => h9) rfl dX7_feed_82 ?_
  refine lv_iload hx hb dX7_feed_85 (lv_at hl 0 rfl) ?_
  refine lv_bipush (v := 8) hx hb dX7_feed_87 (by decide) ?_
  refine lv_iconst (v := 3) hx hb dX7_feed_89 (by decide) ?_
  refine lv_iload hx hb dX7_feed_90 (lv_at hl 1 rfl) ?_
  refine lv_iconst (v := 4) hx hb dX7_feed_92 (by decide) ?_
  refine lv_irem hx hb dX7_feed_93 (by decide) ?_
  refine ax_eqi (y := 0) (by decide) ?_
  refine lv_isub hx hb dX7_feed_94 ?_
  refine ax_eqi (y := 3) (by decide) ?_
  refine lv_imul hx hb dX7_feed_95 ?_
  refine ax_eqi (y := 24) (by decide) ?_
  refine lv_ishr hx hb dX7_feed_96 ?_
  refine lv_topi (fun v49 ev49 => ?_)
  refine lv_sipush (v := 255) hx hb dX7_feed_97 (by decide) ?_
  refine lv_iand hx hb dX7_feed_100 ?_
  refine lv_topi (fun v50 ev50 => ?_)
  refine va_iast hx hb hK hP hD hS 1 0 rfl rfl (ax_in (by decide)) dX7_feed_101 (fun H locs hP hD hS => ?_)
  have hP : va_P (dC, dI) vwCl [(h0, .inr (7, [.ref m_tape, .int 16, .int 0, .int 0, .int 0, .int 0, .int 0, .int 0, .int (-1), .ref m_refused, .ref m_own, .int 0, .ref m_draft, .ref m_program, .ref m_goPlace, .int 0, .int 0, .ref m_isCome, .ref m_heap, .int 0, .ref m_now, .ref m_first, .ref m_second, .ref m_behind, .ref m_states, .int 0, .int 0, .int 0, .ref m_alone0, .ref m_endsBy, .ref m_kept0, .int 0, .int 0, .long 1])), (m_tape, .inl (kt, 1600, .inl (upd f48 (16 : Int32).toNatClampNeg v50)))] H := hP
  have hD : va_D A [(h0, .inr (7, [.ref m_tape, .int 16, .int 0, .int 0, .int 0, .int 0, .int 0, .int 0, .int (-1), .ref m_refused, .ref m_own, .int 0, .ref m_draft, .ref m_program, .ref m_goPlace, .int 0, .int 0, .ref m_isCome, .ref m_heap, .int 0, .ref m_now, .ref m_first, .ref m_second, .ref m_behind, .ref m_states, .int 0, .int 0, .int 0, .ref m_alone0, .ref m_endsBy, .ref m_kept0, .int 0, .int 0, .long 1])), (m_tape, .inl (kt, 1600, .inl (upd f48 (16 : Int32).toNatClampNeg v50)))] := hD
  obtain ⟨f51, hP, hD⟩ : ∃ f : Nat → Int32, va_P (dC, dI) vwCl [(h0, .inr (7, [.ref m_tape, .int 16, .int 0, .int 0, .int 0, .int 0, .int 0, .int 0, .int (-1), .ref m_refused, .ref m_own, .int 0, .ref m_draft, .ref m_program, .ref m_goPlace, .int 0, .int 0, .ref m_isCome, .ref m_heap, .int 0, .ref m_now, .ref m_first, .ref m_second, .ref m_behind, .ref m_states, .int 0, .int 0, .int 0, .ref m_alone0, .ref m_endsBy, .ref m_kept0, .int 0, .int 0, .long 1])), (m_tape, .inl (kt, 1600, .inl f))] H ∧ va_D A [(h0, .inr (7, [.ref m_tape, .int 16, .int 0, .int 0, .int 0, .int 0, .int 0, .int 0, .int (-1), .ref m_refused, .ref m_own, .int 0, .ref m_draft, .ref m_program, .ref m_goPlace, .int 0, .int 0, .ref m_isCome, .ref m_heap, .int 0, .ref m_now, .ref m_first, .ref m_second, .ref m_behind, .ref m_states, .int 0, .int 0, .int 0, .ref m_alone0, .ref m_endsBy, .ref m_kept0, .int 0, .int 0, .long 1])), (m_tape, .inl (kt, 1600, .inl f))] := ⟨_, hP, hD⟩
  refine lv_aload_n hx hb dX7_feed_102 rfl (lv_at hl 2 rfl) ?_
  refine lv_dup hx hb dX7_feed_103 rfl ?_
  refine va_get (D := (dC, dI)) (ci := 7) (v := .int 16) (C := RX7) (T := TX7) (N := 34) hx hb hts inX7 hown hK hP 0 rfl rfl 1 (by decide) (hts _ T_184) (fun _ h9 => h9) rfl dX7_feed_104 ?_
  refine lv_iconst (v := 1) hx hb dX7_feed_107 (by decide) ?_
  refine lv_iadd hx hb dX7_feed_108 ?_
  refine ax_eqi (y := 17) (by decide) ?_
  refine va_put (D := (dC, dI)) (ci := 7) (v := .int 17) (ty := .int) (C := RX7) (T := TX7) (N := 34) hx hb hts inX7 tyX7 tyX7_ok nmX7 hown hK hP hD hS 0 rfl rfl 1 (by decide) (hts _ T_184) (fun _ h9 => h9) rfl (by decide +kernel) rfl rfl (Nat.le_of_ble_eq_true rfl) dX7_feed_109 (fun H locs hP hD hS => ?_)
  have hP : va_P (dC, dI) vwCl [(h0, .inr (7, [.ref m_tape, .int 17, .int 0, .int 0, .int 0, .int 0, .int 0, .int 0, .int (-1), .ref m_refused, .ref m_own, .int 0, .ref m_draft, .ref m_program, .ref m_goPlace, .int 0, .int 0, .ref m_isCome, .ref m_heap, .int 0, .ref m_now, .ref m_first, .ref m_second, .ref m_behind, .ref m_states, .int 0, .int 0, .int 0, .ref m_alone0, .ref m_endsBy, .ref m_kept0, .int 0, .int 0, .long 1])), (m_tape, .inl (kt, 1600, .inl f51))] H := hP
  have hD : va_D A [(h0, .inr (7, [.ref m_tape, .int 17, .int 0, .int 0, .int 0, .int 0, .int 0, .int 0, .int (-1), .ref m_refused, .ref m_own, .int 0, .ref m_draft, .ref m_program, .ref m_goPlace, .int 0, .int 0, .ref m_isCome, .ref m_heap, .int 0, .ref m_now, .ref m_first, .ref m_second, .ref m_behind, .ref m_states, .int 0, .int 0, .int 0, .ref m_alone0, .ref m_endsBy, .ref m_kept0, .int 0, .int 0, .long 1])), (m_tape, .inl (kt, 1600, .inl f51))] := hD
  refine lv_iinc (v := 17) (lv' := [(6, .int 17), (7, .int p4), (0, .ref h0), (1, .int p0), (2, .int p1), (3, .int p2), (4, .int p3), (5, .int p4)]) hx hb dX7_feed_112 hl (k := 1) rfl (by decide) (by decide) rfl (fun ls hl => ?_)
  refine lv_goto (tgt := 22) hx hb dX7_feed_115 (by decide) ?_
  refine lv_iload hx hb dX7_feed_22 (lv_at hl 0 rfl) ?_
  refine lv_bipush (v := 20) hx hb dX7_feed_24 (by decide) ?_
  refine lv_icmp_ge (tgt := 118) hx hb dX7_feed_26 (by decide) (fun c => absurd c (by decide)) (fun _ => ?_)
  refine lv_iload hx hb dX7_feed_29 (lv_at hl 0 rfl) ?_
  refine lv_iconst (v := 4) hx hb dX7_feed_31 (by decide) ?_
  refine lv_icmp_ge (tgt := 39) hx hb dX7_feed_32 (by decide) (fun _ => ?_) (fun c => absurd (by decide) c)
  refine lv_iload hx hb dX7_feed_39 (lv_at hl 0 rfl) ?_
  refine lv_bipush (v := 8) hx hb dX7_feed_41 (by decide) ?_
  refine lv_icmp_ge (tgt := 50) hx hb dX7_feed_43 (by decide) (fun _ => ?_) (fun c => absurd (by decide) c)
  refine lv_iload hx hb dX7_feed_50 (lv_at hl 0 rfl) ?_
  refine lv_bipush (v := 12) hx hb dX7_feed_52 (by decide) ?_
  refine lv_icmp_ge (tgt := 61) hx hb dX7_feed_54 (by decide) (fun _ => ?_) (fun c => absurd (by decide) c)
  refine lv_iload hx hb dX7_feed_61 (lv_at hl 0 rfl) ?_
  refine lv_bipush (v := 16) hx hb dX7_feed_63 (by decide) ?_
  refine lv_icmp_ge (tgt := 73) hx hb dX7_feed_65 (by decide) (fun _ => ?_) (fun c => absurd (by decide) c)
  refine lv_iload hx hb dX7_feed_73 (lv_at hl 7 rfl) ?_
  refine lv_istore (lv' := [(7, .int p4), (6, .int 17), (0, .ref h0), (1, .int p0), (2, .int p1), (3, .int p2), (4, .int p3), (5, .int p4)]) hx hb dX7_feed_75 hl (by decide) rfl (fun ls hl => ?_)
  refine lv_aload_n hx hb dX7_feed_77 rfl (lv_at hl 2 rfl) ?_
  refine va_get (D := (dC, dI)) (ci := 7) (v := .ref m_tape) (C := RX7) (T := TX7) (N := 34) hx hb hts inX7 hown hK hP 0 rfl rfl 0 (by decide) (hts _ T_163) (fun _ h9 => h9) rfl dX7_feed_78 ?_
  refine lv_aload_n hx hb dX7_feed_81 rfl (lv_at hl 2 rfl) ?_
  refine va_get (D := (dC, dI)) (ci := 7) (v := .int 17) (C := RX7) (T := TX7) (N := 34) hx hb hts inX7 hown hK hP 0 rfl rfl 1 (by decide) (hts _ T_184) (fun _ h9 => h9) rfl dX7_feed_82 ?_
  refine lv_iload hx hb dX7_feed_85 (lv_at hl 0 rfl) ?_
  refine lv_bipush (v := 8) hx hb dX7_feed_87 (by decide) ?_
  refine lv_iconst (v := 3) hx hb dX7_feed_89 (by decide) ?_
  refine lv_iload hx hb dX7_feed_90 (lv_at hl 1 rfl) ?_
  refine lv_iconst (v := 4) hx hb dX7_feed_92 (by decide) ?_
  refine lv_irem hx hb dX7_feed_93 (by decide) ?_
  refine ax_eqi (y := 1) (by decide) ?_
  refine lv_isub hx hb dX7_feed_94 ?_
  refine ax_eqi (y := 2) (by decide) ?_
  refine lv_imul hx hb dX7_feed_95 ?_
  refine ax_eqi (y := 16) (by decide) ?_
  refine lv_ishr hx hb dX7_feed_96 ?_
  refine lv_topi (fun v52 ev52 => ?_)
  refine lv_sipush (v := 255) hx hb dX7_feed_97 (by decide) ?_
  refine lv_iand hx hb dX7_feed_100 ?_
  refine lv_topi (fun v53 ev53 => ?_)
  refine va_iast hx hb hK hP hD hS 1 0 rfl rfl (ax_in (by decide)) dX7_feed_101 (fun H locs hP hD hS => ?_)
  have hP : va_P (dC, dI) vwCl [(h0, .inr (7, [.ref m_tape, .int 17, .int 0, .int 0, .int 0, .int 0, .int 0, .int 0, .int (-1), .ref m_refused, .ref m_own, .int 0, .ref m_draft, .ref m_program, .ref m_goPlace, .int 0, .int 0, .ref m_isCome, .ref m_heap, .int 0, .ref m_now, .ref m_first, .ref m_second, .ref m_behind, .ref m_states, .int 0, .int 0, .int 0, .ref m_alone0, .ref m_endsBy, .ref m_kept0, .int 0, .int 0, .long 1])), (m_tape, .inl (kt, 1600, .inl (upd f51 (17 : Int32).toNatClampNeg v53)))] H := hP
  have hD : va_D A [(h0, .inr (7, [.ref m_tape, .int 17, .int 0, .int 0, .int 0, .int 0, .int 0, .int 0, .int (-1), .ref m_refused, .ref m_own, .int 0, .ref m_draft, .ref m_program, .ref m_goPlace, .int 0, .int 0, .ref m_isCome, .ref m_heap, .int 0, .ref m_now, .ref m_first, .ref m_second, .ref m_behind, .ref m_states, .int 0, .int 0, .int 0, .ref m_alone0, .ref m_endsBy, .ref m_kept0, .int 0, .int 0, .long 1])), (m_tape, .inl (kt, 1600, .inl (upd f51 (17 : Int32).toNatClampNeg v53)))] := hD
  obtain ⟨f54, hP, hD⟩ : ∃ f : Nat → Int32, va_P (dC, dI) vwCl [(h0, .inr (7, [.ref m_tape, .int 17, .int 0, .int 0, .int 0, .int 0, .int 0, .int 0, .int (-1), .ref m_refused, .ref m_own, .int 0, .ref m_draft, .ref m_program, .ref m_goPlace, .int 0, .int 0, .ref m_isCome, .ref m_heap, .int 0, .ref m_now, .ref m_first, .ref m_second, .ref m_behind, .ref m_states, .int 0, .int 0, .int 0, .ref m_alone0, .ref m_endsBy, .ref m_kept0, .int 0, .int 0, .long 1])), (m_tape, .inl (kt, 1600, .inl f))] H ∧ va_D A [(h0, .inr (7, [.ref m_tape, .int 17, .int 0, .int 0, .int 0, .int 0, .int 0, .int 0, .int (-1), .ref m_refused, .ref m_own, .int 0, .ref m_draft, .ref m_program, .ref m_goPlace, .int 0, .int 0, .ref m_isCome, .ref m_heap, .int 0, .ref m_now, .ref m_first, .ref m_second, .ref m_behind, .ref m_states, .int 0, .int 0, .int 0, .ref m_alone0, .ref m_endsBy, .ref m_kept0, .int 0, .int 0, .long 1])), (m_tape, .inl (kt, 1600, .inl f))] := ⟨_, hP, hD⟩
  refine lv_aload_n hx hb dX7_feed_102 rfl (lv_at hl 2 rfl) ?_
  refine lv_dup hx hb dX7_feed_103 rfl ?_
  refine va_get (D := (dC, dI)) (ci := 7) (v := .int 17) (C := RX7) (T := TX7) (N := 34) hx hb hts inX7 hown hK hP 0 rfl rfl 1 (by decide) (hts _ T_184) (fun _ h9 => h9) rfl dX7_feed_104 ?_
  refine lv_iconst (v := 1) hx hb dX7_feed_107 (by decide) ?_
  refine lv_iadd hx hb dX7_feed_108 ?_
  refine ax_eqi (y := 18) (by decide) ?_
  refine va_put (D := (dC, dI)) (ci := 7) (v := .int 18) (ty := .int) (C := RX7) (T := TX7) (N := 34) hx hb hts inX7 tyX7 tyX7_ok nmX7 hown hK hP hD hS 0 rfl rfl 1 (by decide) (hts _ T_184) (fun _ h9 => h9) rfl (by decide +kernel) rfl rfl (Nat.le_of_ble_eq_true rfl) dX7_feed_109 (fun H locs hP hD hS => ?_)
  have hP : va_P (dC, dI) vwCl [(h0, .inr (7, [.ref m_tape, .int 18, .int 0, .int 0, .int 0, .int 0, .int 0, .int 0, .int (-1), .ref m_refused, .ref m_own, .int 0, .ref m_draft, .ref m_program, .ref m_goPlace, .int 0, .int 0, .ref m_isCome, .ref m_heap, .int 0, .ref m_now, .ref m_first, .ref m_second, .ref m_behind, .ref m_states, .int 0, .int 0, .int 0, .ref m_alone0, .ref m_endsBy, .ref m_kept0, .int 0, .int 0, .long 1])), (m_tape, .inl (kt, 1600, .inl f54))] H := hP
  have hD : va_D A [(h0, .inr (7, [.ref m_tape, .int 18, .int 0, .int 0, .int 0, .int 0, .int 0, .int 0, .int (-1), .ref m_refused, .ref m_own, .int 0, .ref m_draft, .ref m_program, .ref m_goPlace, .int 0, .int 0, .ref m_isCome, .ref m_heap, .int 0, .ref m_now, .ref m_first, .ref m_second, .ref m_behind, .ref m_states, .int 0, .int 0, .int 0, .ref m_alone0, .ref m_endsBy, .ref m_kept0, .int 0, .int 0, .long 1])), (m_tape, .inl (kt, 1600, .inl f54))] := hD
  refine lv_iinc (v := 18) (lv' := [(6, .int 18), (7, .int p4), (0, .ref h0), (1, .int p0), (2, .int p1), (3, .int p2), (4, .int p3), (5, .int p4)]) hx hb dX7_feed_112 hl (k := 1) rfl (by decide) (by decide) rfl (fun ls hl => ?_)
  refine lv_goto (tgt := 22) hx hb dX7_feed_115 (by decide) ?_
  refine lv_iload hx hb dX7_feed_22 (lv_at hl 0 rfl) ?_
  refine lv_bipush (v := 20) hx hb dX7_feed_24 (by decide) ?_
  refine lv_icmp_ge (tgt := 118) hx hb dX7_feed_26 (by decide) (fun c => absurd c (by decide)) (fun _ => ?_)
  refine lv_iload hx hb dX7_feed_29 (lv_at hl 0 rfl) ?_
  refine lv_iconst (v := 4) hx hb dX7_feed_31 (by decide) ?_
  refine lv_icmp_ge (tgt := 39) hx hb dX7_feed_32 (by decide) (fun _ => ?_) (fun c => absurd (by decide) c)
  refine lv_iload hx hb dX7_feed_39 (lv_at hl 0 rfl) ?_
  refine lv_bipush (v := 8) hx hb dX7_feed_41 (by decide) ?_
  refine lv_icmp_ge (tgt := 50) hx hb dX7_feed_43 (by decide) (fun _ => ?_) (fun c => absurd (by decide) c)
  refine lv_iload hx hb dX7_feed_50 (lv_at hl 0 rfl) ?_
  refine lv_bipush (v := 12) hx hb dX7_feed_52 (by decide) ?_
  refine lv_icmp_ge (tgt := 61) hx hb dX7_feed_54 (by decide) (fun _ => ?_) (fun c => absurd (by decide) c)
  refine lv_iload hx hb dX7_feed_61 (lv_at hl 0 rfl) ?_
  refine lv_bipush (v := 16) hx hb dX7_feed_63 (by decide) ?_
  refine lv_icmp_ge (tgt := 73) hx hb dX7_feed_65 (by decide) (fun _ => ?_) (fun c => absurd (by decide) c)
  refine lv_iload hx hb dX7_feed_73 (lv_at hl 7 rfl) ?_
  refine lv_istore (lv' := [(7, .int p4), (6, .int 18), (0, .ref h0), (1, .int p0), (2, .int p1), (3, .int p2), (4, .int p3), (5, .int p4)]) hx hb dX7_feed_75 hl (by decide) rfl (fun ls hl => ?_)
  refine lv_aload_n hx hb dX7_feed_77 rfl (lv_at hl 2 rfl) ?_
  refine va_get (D := (dC, dI)) (ci := 7) (v := .ref m_tape) (C := RX7) (T := TX7) (N := 34) hx hb hts inX7 hown hK hP 0 rfl rfl 0 (by decide) (hts _ T_163) (fun _ h9 => h9) rfl dX7_feed_78 ?_
  refine lv_aload_n hx hb dX7_feed_81 rfl (lv_at hl 2 rfl) ?_
  refine va_get (D := (dC, dI)) (ci := 7) (v := .int 18) (C := RX7) (T := TX7) (N := 34) hx hb hts inX7 hown hK hP 0 rfl rfl 1 (by decide) (hts _ T_184) (fun _ h9 => h9) rfl dX7_feed_82 ?_
  refine lv_iload hx hb dX7_feed_85 (lv_at hl 0 rfl) ?_
  refine lv_bipush (v := 8) hx hb dX7_feed_87 (by decide) ?_
  refine lv_iconst (v := 3) hx hb dX7_feed_89 (by decide) ?_
  refine lv_iload hx hb dX7_feed_90 (lv_at hl 1 rfl) ?_
  refine lv_iconst (v := 4) hx hb dX7_feed_92 (by decide) ?_
  refine lv_irem hx hb dX7_feed_93 (by decide) ?_
  refine ax_eqi (y := 2) (by decide) ?_
  refine lv_isub hx hb dX7_feed_94 ?_
  refine ax_eqi (y := 1) (by decide) ?_
  refine lv_imul hx hb dX7_feed_95 ?_
  refine ax_eqi (y := 8) (by decide) ?_
  refine lv_ishr hx hb dX7_feed_96 ?_
  refine lv_topi (fun v55 ev55 => ?_)
  refine lv_sipush (v := 255) hx hb dX7_feed_97 (by decide) ?_
  refine lv_iand hx hb dX7_feed_100 ?_
  refine lv_topi (fun v56 ev56 => ?_)
  refine va_iast hx hb hK hP hD hS 1 0 rfl rfl (ax_in (by decide)) dX7_feed_101 (fun H locs hP hD hS => ?_)
  have hP : va_P (dC, dI) vwCl [(h0, .inr (7, [.ref m_tape, .int 18, .int 0, .int 0, .int 0, .int 0, .int 0, .int 0, .int (-1), .ref m_refused, .ref m_own, .int 0, .ref m_draft, .ref m_program, .ref m_goPlace, .int 0, .int 0, .ref m_isCome, .ref m_heap, .int 0, .ref m_now, .ref m_first, .ref m_second, .ref m_behind, .ref m_states, .int 0, .int 0, .int 0, .ref m_alone0, .ref m_endsBy, .ref m_kept0, .int 0, .int 0, .long 1])), (m_tape, .inl (kt, 1600, .inl (upd f54 (18 : Int32).toNatClampNeg v56)))] H := hP
  have hD : va_D A [(h0, .inr (7, [.ref m_tape, .int 18, .int 0, .int 0, .int 0, .int 0, .int 0, .int 0, .int (-1), .ref m_refused, .ref m_own, .int 0, .ref m_draft, .ref m_program, .ref m_goPlace, .int 0, .int 0, .ref m_isCome, .ref m_heap, .int 0, .ref m_now, .ref m_first, .ref m_second, .ref m_behind, .ref m_states, .int 0, .int 0, .int 0, .ref m_alone0, .ref m_endsBy, .ref m_kept0, .int 0, .int 0, .long 1])), (m_tape, .inl (kt, 1600, .inl (upd f54 (18 : Int32).toNatClampNeg v56)))] := hD
  obtain ⟨f57, hP, hD⟩ : ∃ f : Nat → Int32, va_P (dC, dI) vwCl [(h0, .inr (7, [.ref m_tape, .int 18, .int 0, .int 0, .int 0, .int 0, .int 0, .int 0, .int (-1), .ref m_refused, .ref m_own, .int 0, .ref m_draft, .ref m_program, .ref m_goPlace, .int 0, .int 0, .ref m_isCome, .ref m_heap, .int 0, .ref m_now, .ref m_first, .ref m_second, .ref m_behind, .ref m_states, .int 0, .int 0, .int 0, .ref m_alone0, .ref m_endsBy, .ref m_kept0, .int 0, .int 0, .long 1])), (m_tape, .inl (kt, 1600, .inl f))] H ∧ va_D A [(h0, .inr (7, [.ref m_tape, .int 18, .int 0, .int 0, .int 0, .int 0, .int 0, .int 0, .int (-1), .ref m_refused, .ref m_own, .int 0, .ref m_draft, .ref m_program, .ref m_goPlace, .int 0, .int 0, .ref m_isCome, .ref m_heap, .int 0, .ref m_now, .ref m_first, .ref m_second, .ref m_behind, .ref m_states, .int 0, .int 0, .int 0, .ref m_alone0, .ref m_endsBy, .ref m_kept0, .int 0, .int 0, .long 1])), (m_tape, .inl (kt, 1600, .inl f))] := ⟨_, hP, hD⟩
  refine lv_aload_n hx hb dX7_feed_102 rfl (lv_at hl 2 rfl) ?_
  refine lv_dup hx hb dX7_feed_103 rfl ?_
  refine va_get (D := (dC, dI)) (ci := 7) (v := .int 18) (C := RX7) (T := TX7) (N := 34) hx hb hts inX7 hown hK hP 0 rfl rfl 1 (by decide) (hts _ T_184) (fun _ h9 => h9) rfl dX7_feed_104 ?_
  refine lv_iconst (v := 1) hx hb dX7_feed_107 (by decide) ?_
  refine lv_iadd hx hb dX7_feed_108 ?_
  refine ax_eqi (y := 19) (by decide) ?_
  refine va_put (D := (dC, dI)) (ci := 7) (v := .int 19) (ty := .int) (C := RX7) (T := TX7) (N := 34) hx hb hts inX7 tyX7 tyX7_ok nmX7 hown hK hP hD hS 0 rfl rfl 1 (by decide) (hts _ T_184) (fun _ h9 => h9) rfl (by decide +kernel) rfl rfl (Nat.le_of_ble_eq_true rfl) dX7_feed_109 (fun H locs hP hD hS => ?_)
  have hP : va_P (dC, dI) vwCl [(h0, .inr (7, [.ref m_tape, .int 19, .int 0, .int 0, .int 0, .int 0, .int 0, .int 0, .int (-1), .ref m_refused, .ref m_own, .int 0, .ref m_draft, .ref m_program, .ref m_goPlace, .int 0, .int 0, .ref m_isCome, .ref m_heap, .int 0, .ref m_now, .ref m_first, .ref m_second, .ref m_behind, .ref m_states, .int 0, .int 0, .int 0, .ref m_alone0, .ref m_endsBy, .ref m_kept0, .int 0, .int 0, .long 1])), (m_tape, .inl (kt, 1600, .inl f57))] H := hP
  have hD : va_D A [(h0, .inr (7, [.ref m_tape, .int 19, .int 0, .int 0, .int 0, .int 0, .int 0, .int 0, .int (-1), .ref m_refused, .ref m_own, .int 0, .ref m_draft, .ref m_program, .ref m_goPlace, .int 0, .int 0, .ref m_isCome, .ref m_heap, .int 0, .ref m_now, .ref m_first, .ref m_second, .ref m_behind, .ref m_states, .int 0, .int 0, .int 0, .ref m_alone0, .ref m_endsBy, .ref m_kept0, .int 0, .int 0, .long 1])), (m_tape, .inl (kt, 1600, .inl f57))] := hD
  refine lv_iinc (v := 19) (lv' := [(6, .int 19), (7, .int p4), (0, .ref h0), (1, .int p0), (2, .int p1), (3, .int p2), (4, .int p3), (5, .int p4)]) hx hb dX7_feed_112 hl (k := 1) rfl (by decide) (by decide) rfl (fun ls hl => ?_)
  refine lv_goto (tgt := 22) hx hb dX7_feed_115 (by decide) ?_
  refine lv_iload hx hb dX7_feed_22 (lv_at hl 0 rfl) ?_
  refine lv_bipush (v := 20) hx hb dX7_feed_24 (by decide) ?_
  refine lv_icmp_ge (tgt := 118) hx hb dX7_feed_26 (by decide) (fun c => absurd c (by decide)) (fun _ => ?_)
  refine lv_iload hx hb dX7_feed_29 (lv_at hl 0 rfl) ?_
  refine lv_iconst (v := 4) hx hb dX7_feed_31 (by decide) ?_
  refine lv_icmp_ge (tgt := 39) hx hb dX7_feed_32 (by decide) (fun _ => ?_) (fun c => absurd (by decide) c)
  refine lv_iload hx hb dX7_feed_39 (lv_at hl 0 rfl) ?_
  refine lv_bipush (v := 8) hx hb dX7_feed_41 (by decide) ?_
  refine lv_icmp_ge (tgt := 50) hx hb dX7_feed_43 (by decide) (fun _ => ?_) (fun c => absurd (by decide) c)
  refine lv_iload hx hb dX7_feed_50 (lv_at hl 0 rfl) ?_
  refine lv_bipush (v := 12) hx hb dX7_feed_52 (by decide) ?_
  refine lv_icmp_ge (tgt := 61) hx hb dX7_feed_54 (by decide) (fun _ => ?_) (fun c => absurd (by decide) c)
  refine lv_iload hx hb dX7_feed_61 (lv_at hl 0 rfl) ?_
  refine lv_bipush (v := 16) hx hb dX7_feed_63 (by decide) ?_
  refine lv_icmp_ge (tgt := 73) hx hb dX7_feed_65 (by decide) (fun _ => ?_) (fun c => absurd (by decide) c)
  refine lv_iload hx hb dX7_feed_73 (lv_at hl 7 rfl) ?_
  refine lv_istore (lv' := [(7, .int p4), (6, .int 19), (0, .ref h0), (1, .int p0), (2, .int p1), (3, .int p2), (4, .int p3), (5, .int p4)]) hx hb dX7_feed_75 hl (by decide) rfl (fun ls hl => ?_)
  refine lv_aload_n hx hb dX7_feed_77 rfl (lv_at hl 2 rfl) ?_
  refine va_get (D := (dC, dI)) (ci := 7) (v := .ref m_tape) (C := RX7) (T := TX7) (N := 34) hx hb hts inX7 hown hK hP 0 rfl rfl 0 (by decide) (hts _ T_163) (fun _ h9 => h9) rfl dX7_feed_78 ?_
  refine lv_aload_n hx hb dX7_feed_81 rfl (lv_at hl 2 rfl) ?_
  refine va_get (D := (dC, dI)) (ci := 7) (v := .int 19) (C := RX7) (T := TX7) (N := 34) hx hb hts inX7 hown hK hP 0 rfl rfl 1 (by decide) (hts _ T_184) (fun _ h9 => h9) rfl dX7_feed_82 ?_
  refine lv_iload hx hb dX7_feed_85 (lv_at hl 0 rfl) ?_
  refine lv_bipush (v := 8) hx hb dX7_feed_87 (by decide) ?_
  refine lv_iconst (v := 3) hx hb dX7_feed_89 (by decide) ?_
  refine lv_iload hx hb dX7_feed_90 (lv_at hl 1 rfl) ?_
  refine lv_iconst (v := 4) hx hb dX7_feed_92 (by decide) ?_
  refine lv_irem hx hb dX7_feed_93 (by decide) ?_
  refine ax_eqi (y := 3) (by decide) ?_
  refine lv_isub hx hb dX7_feed_94 ?_
  refine ax_eqi (y := 0) (by decide) ?_
  refine lv_imul hx hb dX7_feed_95 ?_
  refine ax_eqi (y := 0) (by decide) ?_
  refine lv_ishr hx hb dX7_feed_96 ?_
  refine lv_topi (fun v58 ev58 => ?_)
  refine lv_sipush (v := 255) hx hb dX7_feed_97 (by decide) ?_
  refine lv_iand hx hb dX7_feed_100 ?_
  refine lv_topi (fun v59 ev59 => ?_)
  refine va_iast hx hb hK hP hD hS 1 0 rfl rfl (ax_in (by decide)) dX7_feed_101 (fun H locs hP hD hS => ?_)
  have hP : va_P (dC, dI) vwCl [(h0, .inr (7, [.ref m_tape, .int 19, .int 0, .int 0, .int 0, .int 0, .int 0, .int 0, .int (-1), .ref m_refused, .ref m_own, .int 0, .ref m_draft, .ref m_program, .ref m_goPlace, .int 0, .int 0, .ref m_isCome, .ref m_heap, .int 0, .ref m_now, .ref m_first, .ref m_second, .ref m_behind, .ref m_states, .int 0, .int 0, .int 0, .ref m_alone0, .ref m_endsBy, .ref m_kept0, .int 0, .int 0, .long 1])), (m_tape, .inl (kt, 1600, .inl (upd f57 (19 : Int32).toNatClampNeg v59)))] H := hP
  have hD : va_D A [(h0, .inr (7, [.ref m_tape, .int 19, .int 0, .int 0, .int 0, .int 0, .int 0, .int 0, .int (-1), .ref m_refused, .ref m_own, .int 0, .ref m_draft, .ref m_program, .ref m_goPlace, .int 0, .int 0, .ref m_isCome, .ref m_heap, .int 0, .ref m_now, .ref m_first, .ref m_second, .ref m_behind, .ref m_states, .int 0, .int 0, .int 0, .ref m_alone0, .ref m_endsBy, .ref m_kept0, .int 0, .int 0, .long 1])), (m_tape, .inl (kt, 1600, .inl (upd f57 (19 : Int32).toNatClampNeg v59)))] := hD
  obtain ⟨f60, hP, hD⟩ : ∃ f : Nat → Int32, va_P (dC, dI) vwCl [(h0, .inr (7, [.ref m_tape, .int 19, .int 0, .int 0, .int 0, .int 0, .int 0, .int 0, .int (-1), .ref m_refused, .ref m_own, .int 0, .ref m_draft, .ref m_program, .ref m_goPlace, .int 0, .int 0, .ref m_isCome, .ref m_heap, .int 0, .ref m_now, .ref m_first, .ref m_second, .ref m_behind, .ref m_states, .int 0, .int 0, .int 0, .ref m_alone0, .ref m_endsBy, .ref m_kept0, .int 0, .int 0, .long 1])), (m_tape, .inl (kt, 1600, .inl f))] H ∧ va_D A [(h0, .inr (7, [.ref m_tape, .int 19, .int 0, .int 0, .int 0, .int 0, .int 0, .int 0, .int (-1), .ref m_refused, .ref m_own, .int 0, .ref m_draft, .ref m_program, .ref m_goPlace, .int 0, .int 0, .ref m_isCome, .ref m_heap, .int 0, .ref m_now, .ref m_first, .ref m_second, .ref m_behind, .ref m_states, .int 0, .int 0, .int 0, .ref m_alone0, .ref m_endsBy, .ref m_kept0, .int 0, .int 0, .long 1])), (m_tape, .inl (kt, 1600, .inl f))] := ⟨_, hP, hD⟩
  refine lv_aload_n hx hb dX7_feed_102 rfl (lv_at hl 2 rfl) ?_
  refine lv_dup hx hb dX7_feed_103 rfl ?_
  refine va_get (D := (dC, dI)) (ci := 7) (v := .int 19) (C := RX7) (T := TX7) (N := 34) hx hb hts inX7 hown hK hP 0 rfl rfl 1 (by decide) (hts _ T_184) (fun _ h9 => h9) rfl dX7_feed_104 ?_
  refine lv_iconst (v := 1) hx hb dX7_feed_107 (by decide) ?_
  refine lv_iadd hx hb dX7_feed_108 ?_
  refine ax_eqi (y := 20) (by decide) ?_
  refine va_put (D := (dC, dI)) (ci := 7) (v := .int 20) (ty := .int) (C := RX7) (T := TX7) (N := 34) hx hb hts inX7 tyX7 tyX7_ok nmX7 hown hK hP hD hS 0 rfl rfl 1 (by decide) (hts _ T_184) (fun _ h9 => h9) rfl (by decide +kernel) rfl rfl (Nat.le_of_ble_eq_true rfl) dX7_feed_109 (fun H locs hP hD hS => ?_)
  have hP : va_P (dC, dI) vwCl [(h0, .inr (7, [.ref m_tape, .int 20, .int 0, .int 0, .int 0, .int 0, .int 0, .int 0, .int (-1), .ref m_refused, .ref m_own, .int 0, .ref m_draft, .ref m_program, .ref m_goPlace, .int 0, .int 0, .ref m_isCome, .ref m_heap, .int 0, .ref m_now, .ref m_first, .ref m_second, .ref m_behind, .ref m_states, .int 0, .int 0, .int 0, .ref m_alone0, .ref m_endsBy, .ref m_kept0, .int 0, .int 0, .long 1])), (m_tape, .inl (kt, 1600, .inl f60))] H := hP
  have hD : va_D A [(h0, .inr (7, [.ref m_tape, .int 20, .int 0, .int 0, .int 0, .int 0, .int 0, .int 0, .int (-1), .ref m_refused, .ref m_own, .int 0, .ref m_draft, .ref m_program, .ref m_goPlace, .int 0, .int 0, .ref m_isCome, .ref m_heap, .int 0, .ref m_now, .ref m_first, .ref m_second, .ref m_behind, .ref m_states, .int 0, .int 0, .int 0, .ref m_alone0, .ref m_endsBy, .ref m_kept0, .int 0, .int 0, .long 1])), (m_tape, .inl (kt, 1600, .inl f60))] := hD
  refine lv_iinc (v := 20) (lv' := [(6, .int 20), (7, .int p4), (0, .ref h0), (1, .int p0), (2, .int p1), (3, .int p2), (4, .int p3), (5, .int p4)]) hx hb dX7_feed_112 hl (k := 1) rfl (by decide) (by decide) rfl (fun ls hl => ?_)
  refine lv_goto (tgt := 22) hx hb dX7_feed_115 (by decide) ?_
  refine lv_iload hx hb dX7_feed_22 (lv_at hl 0 rfl) ?_
  refine lv_bipush (v := 20) hx hb dX7_feed_24 (by decide) ?_
  refine lv_icmp_ge (tgt := 118) hx hb dX7_feed_26 (by decide) (fun _ => ?_) (fun c => absurd (by decide) c)
  refine lv_aload_n hx hb dX7_feed_118 rfl (lv_at hl 2 rfl) ?_
  refine va_get (D := (dC, dI)) (ci := 7) (v := .int 20) (C := RX7) (T := TX7) (N := 34) hx hb hts inX7 hown hK hP 0 rfl rfl 1 (by decide) (hts _ T_184) (fun _ h9 => h9) rfl dX7_feed_119 ?_
  have hP9 := hP.sub (ws' := []) [] rfl
  have hD9 := hD.sub (ws' := []) [] (by decide) rfl
  have hK9 := hK.sub (tys' := []) [] rfl
  exact W.iret (v := 20) hx hb hr (fun t ht hW => ⟨⟨20, (), rfl, rfl, by rw [ht]; exact hP9, va_K.moved hW.alike hK9, hD9⟩, hS.F ht⟩) hS.2.2 dX7_feed_122

set_option maxHeartbeats 4000000 in
set_option maxRecDepth 100000 in
/-- X7_refuses -/
theorem c_X7_refuses_p (l : Launch) (dC : Nat → ClassId) (dI : Nat → Nat → Nat) (sz : Nat) (h0 : Nat) (m_tape : Nat) (m_refused : Nat) (m_own : Nat) (m_draft : Nat) (m_program : Nat) (m_goPlace : Nat) (m_isCome : Nat) (m_heap : Nat) (m_now : Nat) (m_first : Nat) (m_second : Nat) (m_behind : Nat) (m_states : Nat) (m_alone0 : Nat) (m_endsBy : Nat) (m_kept0 : Nat) (kr : ClassId) (f : Nat → Int32) (p0 : Int32) (hp0 : vp_in p0 6) : Met l yX7_refuses (Cond.code yX7_refuses cX7_refuses 2 (some .int) :: T0) ({ frames := 0, cells := 0, slots := 0, locals := 0 }) (va_Pc [.ref h0, .int p0] (ax_W dC dI sz [(h0, .inr (7, [.ref m_tape, .int 0, .int 0, .int 0, .int (-1), .int 1, .int 0, .int 1, .int 0, .ref m_refused, .ref m_own, .int 0, .ref m_draft, .ref m_program, .ref m_goPlace, .int 0, .int 1, .ref m_isCome, .ref m_heap, .int 0, .ref m_now, .ref m_first, .ref m_second, .ref m_behind, .ref m_states, .int 0, .int 0, .int 0, .ref m_alone0, .ref m_endsBy, .ref m_kept0, .int 0, .int 0, .long 1])), (m_refused, .inl (kr, 6, .inl f))] [(kr, .int)])) (va_Qi (fun (r : Int32) (_ : Unit) => r = (-1)) (fun (_ : Unit) (t : State) => va_P (dC, dI) vwCl [] t.heap ∧ va_K (dC, dI) vwCl [] t ∧ va_D (va_A [(h0, .inr (7, [.ref m_tape, .int 0, .int 0, .int 0, .int (-1), .int 1, .int 0, .int 1, .int 0, .ref m_refused, .ref m_own, .int 0, .ref m_draft, .ref m_program, .ref m_goPlace, .int 0, .int 1, .ref m_isCome, .ref m_heap, .int 0, .ref m_now, .ref m_first, .ref m_second, .ref m_behind, .ref m_states, .int 0, .int 0, .int 0, .ref m_alone0, .ref m_endsBy, .ref m_kept0, .int 0, .int 0, .long 1])), (m_refused, .inl (kr, 6, .inl f))] sz) []) (va_A [(h0, .inr (7, [.ref m_tape, .int 0, .int 0, .int 0, .int (-1), .int 1, .int 0, .int 1, .int 0, .ref m_refused, .ref m_own, .int 0, .ref m_draft, .ref m_program, .ref m_goPlace, .int 0, .int 1, .ref m_isCome, .ref m_heap, .int 0, .ref m_now, .ref m_first, .ref m_second, .ref m_behind, .ref m_states, .int 0, .int 0, .int 0, .ref m_alone0, .ref m_endsBy, .ref m_kept0, .int 0, .int 0, .long 1])), (m_refused, .inl (kr, 6, .inl f))] sz)) 0 0 (va_A [(h0, .inr (7, [.ref m_tape, .int 0, .int 0, .int 0, .int (-1), .int 1, .int 0, .int 1, .int 0, .ref m_refused, .ref m_own, .int 0, .ref m_draft, .ref m_program, .ref m_goPlace, .int 0, .int 1, .ref m_isCome, .ref m_heap, .int 0, .ref m_now, .ref m_first, .ref m_second, .ref m_behind, .ref m_states, .int 0, .int 0, .int 0, .ref m_alone0, .ref m_endsBy, .ref m_kept0, .int 0, .int 0, .long 1])), (m_refused, .inl (kr, 6, .inl f))] sz) := by
  refine Met.ofW (cc := cX7_refuses) (maxL := 2) (ret := (some .int)) (by decide) rfl ?_
  intro p e s m args below meth c s₁ B hml hv
  obtain ⟨rfl, hsz, hP, hK, hD0, hN⟩ := hv
  have hx := B.exec
  have hb := B.bytes
  have hr := B.returns
  have hts : ∀ w ∈ T0, w.before _ s = true := fun w h => atoms_spec (ws := Cond.code yX7_refuses cX7_refuses 2 (some .int) :: T0) B.pre w (List.mem_cons_of_mem _ h)
  have hown : s.vm.findClass RX7 = some m.cls := findClass_of_methodNamed B.named
  have hlocks := B.notSynchronized
  subst hsz
  have hD := hD0.self (sz := s.heap.size)
  generalize hAe : va_A [(h0, .inr (7, [.ref m_tape, .int 0, .int 0, .int 0, .int (-1), .int 1, .int 0, .int 1, .int 0, .ref m_refused, .ref m_own, .int 0, .ref m_draft, .ref m_program, .ref m_goPlace, .int 0, .int 1, .ref m_isCome, .ref m_heap, .int 0, .ref m_now, .ref m_first, .ref m_second, .ref m_behind, .ref m_states, .int 0, .int 0, .int 0, .ref m_alone0, .ref m_endsBy, .ref m_kept0, .int 0, .int 0, .long 1])), (m_refused, .inl (kr, 6, .inl f))] s.heap.size = A at hD ⊢
  have hA : ∀ q : Nat, s.heap.size ≤ q → A q := fun q h => by rw [← hAe]; exact Or.inr h
  have hS : va_S A s.heap s.heap [] := va_S.rf
  have hP : va_P (dC, dI) vwCl [(h0, .inr (7, [.ref m_tape, .int 0, .int 0, .int 0, .int (-1), .int 1, .int 0, .int 1, .int 0, .ref m_refused, .ref m_own, .int 0, .ref m_draft, .ref m_program, .ref m_goPlace, .int 0, .int 1, .ref m_isCome, .ref m_heap, .int 0, .ref m_now, .ref m_first, .ref m_second, .ref m_behind, .ref m_states, .int 0, .int 0, .int 0, .ref m_alone0, .ref m_endsBy, .ref m_kept0, .int 0, .int 0, .long 1])), (m_refused, .inl (kr, 6, .inl f))] s.heap := hP
  have hl := lv_entry ([.ref h0, .int p0]) (n := 2) (Nat.le_of_ble_eq_true rfl)
  rw [lg_entry_eq]
  generalize (lg_sl ([.ref h0, .int p0]) ++ List.replicate (2 - (lg_sl ([.ref h0, .int p0])).length) Slot.unset).toArray = ls at hl ⊢
  refine ax_gen hP hD hS (fun H locs hP hD hS => ?_)
  have hl : lv_has ls 2 [(0, .ref h0), (1, .int p0)] := hl
  refine lv_aload_n hx hb dX7_refuses_0 rfl (lv_at hl 0 rfl) ?_
  refine va_get (D := (dC, dI)) (ci := 7) (v := .ref m_refused) (C := RX7) (T := TX7) (N := 34) hx hb hts inX7 hown hK hP 0 rfl rfl 9 (by decide) (hts _ T_165) (fun _ h9 => h9) rfl dX7_refuses_1 ?_
  refine lv_iload_n hx hb dX7_refuses_4 rfl (lv_at hl 1 rfl) ?_
  refine lv_dup2_11 hx hb dX7_refuses_5 rfl rfl ?_
  refine va_iald hx hb hK hP 1 0 rfl rfl hp0 dX7_refuses_6 ?_
  refine lv_topi (fun v1 ev1 => ?_)
  refine lv_iconst (v := 1) hx hb dX7_refuses_7 (by decide) ?_
  refine lv_iadd hx hb dX7_refuses_8 ?_
  refine lv_topi (fun v2 ev2 => ?_)
  refine va_iast hx hb hK hP hD hS 1 0 rfl rfl hp0 dX7_refuses_9 (fun H locs hP hD hS => ?_)
  have hP : va_P (dC, dI) vwCl [(h0, .inr (7, [.ref m_tape, .int 0, .int 0, .int 0, .int (-1), .int 1, .int 0, .int 1, .int 0, .ref m_refused, .ref m_own, .int 0, .ref m_draft, .ref m_program, .ref m_goPlace, .int 0, .int 1, .ref m_isCome, .ref m_heap, .int 0, .ref m_now, .ref m_first, .ref m_second, .ref m_behind, .ref m_states, .int 0, .int 0, .int 0, .ref m_alone0, .ref m_endsBy, .ref m_kept0, .int 0, .int 0, .long 1])), (m_refused, .inl (kr, 6, .inl (upd f (p0 : Int32).toNatClampNeg v2)))] H := hP
  have hD : va_D A [(h0, .inr (7, [.ref m_tape, .int 0, .int 0, .int 0, .int (-1), .int 1, .int 0, .int 1, .int 0, .ref m_refused, .ref m_own, .int 0, .ref m_draft, .ref m_program, .ref m_goPlace, .int 0, .int 1, .ref m_isCome, .ref m_heap, .int 0, .ref m_now, .ref m_first, .ref m_second, .ref m_behind, .ref m_states, .int 0, .int 0, .int 0, .ref m_alone0, .ref m_endsBy, .ref m_kept0, .int 0, .int 0, .long 1])), (m_refused, .inl (kr, 6, .inl (upd f (p0 : Int32).toNatClampNeg v2)))] := hD
  obtain ⟨f3, hP, hD⟩ : ∃ f : Nat → Int32, va_P (dC, dI) vwCl [(h0, .inr (7, [.ref m_tape, .int 0, .int 0, .int 0, .int (-1), .int 1, .int 0, .int 1, .int 0, .ref m_refused, .ref m_own, .int 0, .ref m_draft, .ref m_program, .ref m_goPlace, .int 0, .int 1, .ref m_isCome, .ref m_heap, .int 0, .ref m_now, .ref m_first, .ref m_second, .ref m_behind, .ref m_states, .int 0, .int 0, .int 0, .ref m_alone0, .ref m_endsBy, .ref m_kept0, .int 0, .int 0, .long 1])), (m_refused, .inl (kr, 6, .inl f))] H ∧ va_D A [(h0, .inr (7, [.ref m_tape, .int 0, .int 0, .int 0, .int (-1), .int 1, .int 0, .int 1, .int 0, .ref m_refused, .ref m_own, .int 0, .ref m_draft, .ref m_program, .ref m_goPlace, .int 0, .int 1, .ref m_isCome, .ref m_heap, .int 0, .ref m_now, .ref m_first, .ref m_second, .ref m_behind, .ref m_states, .int 0, .int 0, .int 0, .ref m_alone0, .ref m_endsBy, .ref m_kept0, .int 0, .int 0, .long 1])), (m_refused, .inl (kr, 6, .inl f))] := ⟨_, hP, hD⟩
  refine lv_iconst (v := (-1)) hx hb dX7_refuses_10 (by decide) ?_
  have hP9 := hP.sub (ws' := []) [] rfl
  have hD9 := hD.sub (ws' := []) [] (by decide) rfl
  have hK9 := hK.sub (tys' := []) [] rfl
  exact W.iret (v := (-1)) hx hb hr (fun t ht hW => ⟨⟨(-1), (), rfl, rfl, by rw [ht]; exact hP9, va_K.moved hW.alike hK9, hD9⟩, hS.F ht⟩) hS.2.2 dX7_refuses_11

