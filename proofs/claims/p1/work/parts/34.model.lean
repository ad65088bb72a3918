set_option maxHeartbeats 4000000 in
set_option maxRecDepth 100000 in
theorem c_X7_cycles (l : Launch) (dC : Nat → ClassId) (dI : Nat → Nat → Nat) (sz : Nat) (h0 : Nat) (m_tape : Nat) (m_refused : Nat) (m_own : Nat) (m_draft : Nat) (m_program : Nat) (m_goPlace : Nat) (m_isCome : Nat) (m_heap : Nat) (m_now : Nat) (m_first : Nat) (m_second : Nat) (m_behind : Nat) (m_states : Nat) (m_alone0 : Nat) (m_endsBy : Nat) (m_kept0 : Nat) (kr : ClassId) (p0 : Int32) : Met l yX7_cycles (Cond.code yX7_cycles cX7_cycles 4 (some .int) :: T0) ({ frames := 1, cells := 0, slots := 0, locals := 21 }) (va_Pc [.ref h0, .int p0] (ax_W dC dI sz [(h0, .inr (7, [.ref m_tape, .int 0, .int 0, .int 0, .int 0, .int 0, .int 0, .int 0, .int (-1), .ref m_refused, .ref m_own, .int 0, .ref m_draft, .ref m_program, .ref m_goPlace, .int 0, .int 0, .ref m_isCome, .ref m_heap, .int 0, .ref m_now, .ref m_first, .ref m_second, .ref m_behind, .ref m_states, .int 0, .int 0, .int 0, .ref m_alone0, .ref m_endsBy, .ref m_kept0, .int 0, .int 0, .long 1])), (m_refused, .inl (kr, 6, .inl (fun _ => 0)))] [(kr, .int)])) (va_Qi (fun (r : Int32) (_ : Unit) => r = (-1)) (fun (_ : Unit) (t : State) => va_P (dC, dI) vwCl [] t.heap ∧ va_K (dC, dI) vwCl [] t ∧ va_D (va_A [(h0, .inr (7, [.ref m_tape, .int 0, .int 0, .int 0, .int 0, .int 0, .int 0, .int 0, .int (-1), .ref m_refused, .ref m_own, .int 0, .ref m_draft, .ref m_program, .ref m_goPlace, .int 0, .int 0, .ref m_isCome, .ref m_heap, .int 0, .ref m_now, .ref m_first, .ref m_second, .ref m_behind, .ref m_states, .int 0, .int 0, .int 0, .ref m_alone0, .ref m_endsBy, .ref m_kept0, .int 0, .int 0, .long 1])), (m_refused, .inl (kr, 6, .inl (fun _ => 0)))] sz) []) (va_A [(h0, .inr (7, [.ref m_tape, .int 0, .int 0, .int 0, .int 0, .int 0, .int 0, .int 0, .int (-1), .ref m_refused, .ref m_own, .int 0, .ref m_draft, .ref m_program, .ref m_goPlace, .int 0, .int 0, .ref m_isCome, .ref m_heap, .int 0, .ref m_now, .ref m_first, .ref m_second, .ref m_behind, .ref m_states, .int 0, .int 0, .int 0, .ref m_alone0, .ref m_endsBy, .ref m_kept0, .int 0, .int 0, .long 1])), (m_refused, .inl (kr, 6, .inl (fun _ => 0)))] sz)) 0 0 (va_A [(h0, .inr (7, [.ref m_tape, .int 0, .int 0, .int 0, .int 0, .int 0, .int 0, .int 0, .int (-1), .ref m_refused, .ref m_own, .int 0, .ref m_draft, .ref m_program, .ref m_goPlace, .int 0, .int 0, .ref m_isCome, .ref m_heap, .int 0, .ref m_now, .ref m_first, .ref m_second, .ref m_behind, .ref m_states, .int 0, .int 0, .int 0, .ref m_alone0, .ref m_endsBy, .ref m_kept0, .int 0, .int 0, .long 1])), (m_refused, .inl (kr, 6, .inl (fun _ => 0)))] sz) := by
  refine Met.ofW (cc := cX7_cycles) (maxL := 4) (ret := (some .int)) (by decide) rfl ?_
  intro p e s m args below meth c s₁ B hml hv
  obtain ⟨rfl, hsz, hP, hK, hD0, hN⟩ := hv
  have hx := B.exec
  have hb := B.bytes
  have hr := B.returns
  have hts : ∀ w ∈ T0, w.before _ s = true := fun w h => atoms_spec (ws := Cond.code yX7_cycles cX7_cycles 4 (some .int) :: T0) B.pre w (List.mem_cons_of_mem _ h)
  have hown : s.vm.findClass RX7 = some m.cls := findClass_of_methodNamed B.named
  have hlocks := B.notSynchronized
  subst hsz
  have hD := hD0.self (sz := s.heap.size)
  generalize hAe : va_A [(h0, .inr (7, [.ref m_tape, .int 0, .int 0, .int 0, .int 0, .int 0, .int 0, .int 0, .int (-1), .ref m_refused, .ref m_own, .int 0, .ref m_draft, .ref m_program, .ref m_goPlace, .int 0, .int 0, .ref m_isCome, .ref m_heap, .int 0, .ref m_now, .ref m_first, .ref m_second, .ref m_behind, .ref m_states, .int 0, .int 0, .int 0, .ref m_alone0, .ref m_endsBy, .ref m_kept0, .int 0, .int 0, .long 1])), (m_refused, .inl (kr, 6, .inl (fun _ => 0)))] s.heap.size = A at hD ⊢
  have hA : ∀ q : Nat, s.heap.size ≤ q → A q := fun q h => by rw [← hAe]; exact Or.inr h
  have hS : va_S A s.heap s.heap [] := va_S.rf
  have hP : va_P (dC, dI) vwCl [(h0, .inr (7, [.ref m_tape, .int 0, .int 0, .int 0, .int 0, .int 0, .int 0, .int 0, .int (-1), .ref m_refused, .ref m_own, .int 0, .ref m_draft, .ref m_program, .ref m_goPlace, .int 0, .int 0, .ref m_isCome, .ref m_heap, .int 0, .ref m_now, .ref m_first, .ref m_second, .ref m_behind, .ref m_states, .int 0, .int 0, .int 0, .ref m_alone0, .ref m_endsBy, .ref m_kept0, .int 0, .int 0, .long 1])), (m_refused, .inl (kr, 6, .inl (fun _ => 0)))] s.heap := hP
  have hl := lv_entry ([.ref h0, .int p0]) (n := 4) (Nat.le_of_ble_eq_true rfl)
  rw [lg_entry_eq]
  generalize (lg_sl ([.ref h0, .int p0]) ++ List.replicate (4 - (lg_sl ([.ref h0, .int p0])).length) Slot.unset).toArray = ls at hl ⊢
  refine ax_gen hP hD hS (fun H locs hP hD hS => ?_)
  have hl : lv_has ls 4 [(0, .ref h0), (1, .int p0)] := hl
  refine lv_aload_n hx hb dX7_cycles_0 rfl (lv_at hl 0 rfl) ?_
  refine va_get (D := (dC, dI)) (ci := 7) (v := .int 0) (C := RX7) (T := TX7) (N := 34) hx hb hts inX7 hown hK hP 0 rfl rfl 15 (by decide) (hts _ T_196) (fun _ h9 => h9) rfl dX7_cycles_1 ?_
  refine lv_if_eq (tgt := 33) hx hb dX7_cycles_4 (by decide) (fun _ => ?_) (fun c => absurd (by decide) c)
  refine lv_aload_n hx hb dX7_cycles_33 rfl (lv_at hl 0 rfl) ?_
  refine lv_iconst (v := 2) hx hb dX7_cycles_34 (by decide) ?_
  have hPc := hP.sub (ws' := [(h0, .inr (7, [.ref m_tape, .int 0, .int 0, .int 0, .int 0, .int 0, .int 0, .int 0, .int (-1), .ref m_refused, .ref m_own, .int 0, .ref m_draft, .ref m_program, .ref m_goPlace, .int 0, .int 0, .ref m_isCome, .ref m_heap, .int 0, .ref m_now, .ref m_first, .ref m_second, .ref m_behind, .ref m_states, .int 0, .int 0, .int 0, .ref m_alone0, .ref m_endsBy, .ref m_kept0, .int 0, .int 0, .long 1])), (m_refused, .inl (kr, 6, .inl (fun _ => 0)))]) [0, 1] rfl
  have hDc := hD.sub (ws' := [(h0, .inr (7, [.ref m_tape, .int 0, .int 0, .int 0, .int 0, .int 0, .int 0, .int 0, .int (-1), .ref m_refused, .ref m_own, .int 0, .ref m_draft, .ref m_program, .ref m_goPlace, .int 0, .int 0, .ref m_isCome, .ref m_heap, .int 0, .ref m_now, .ref m_first, .ref m_second, .ref m_behind, .ref m_states, .int 0, .int 0, .int 0, .ref m_alone0, .ref m_endsBy, .ref m_kept0, .int 0, .int 0, .long 1])), (m_refused, .inl (kr, 6, .inl (fun _ => 0)))]) [0, 1] (by decide) rfl
  have hKc := hK.sub (tys' := [(kr, .int)]) [0] rfl
  have hFc := va_free (wc := [(h0, .inr (7, [.ref m_tape, .int 0, .int 0, .int 0, .int 0, .int 0, .int 0, .int 0, .int (-1), .ref m_refused, .ref m_own, .int 0, .ref m_draft, .ref m_program, .ref m_goPlace, .int 0, .int 0, .ref m_isCome, .ref m_heap, .int 0, .ref m_now, .ref m_first, .ref m_second, .ref m_behind, .ref m_states, .int 0, .int 0, .int 0, .ref m_alone0, .ref m_endsBy, .ref m_kept0, .int 0, .int 0, .long 1])), (m_refused, .inl (kr, 6, .inl (fun _ => 0)))]) hD hS hA [0, 1] rfl
  refine va_calli (va_runV (As := [.int 2]) (rest := []) ⟨hx, hb, hml, hown, hts⟩ (c_X7_refuses l dC dI H.size h0 m_tape m_refused m_own m_draft m_program m_goPlace m_isCome m_heap m_now m_first m_second m_behind m_states m_alone0 m_endsBy m_kept0 kr (fun _ => 0) 2 (ax_in (by decide))) (cwV 1 hts (ax_gV T_247 T_248 T_249 T_189 T_246) rfl rfl rfl (by decide +kernel) ⟨Nat.le_of_ble_eq_true rfl, Nat.le_of_ble_eq_true rfl⟩) ⟨fun a U g mk q => ⟨q.1, ax_pc rfl rfl q.2⟩, va_recv hKc hPc (ci := 7) (q0 := 0) rfl rfl, fun U hU hW => ⟨rfl, ax_pw hU hW hPc hKc hDc hN⟩⟩ rfl rfl hl.1 rfl (lv_room (Nat.le_of_ble_eq_true rfl)) dX7_cycles_35 ⟨Nat.le_of_ble_eq_true rfl, Nat.le_of_ble_eq_true rfl⟩) hS (fun q _ h => hFc q h) hFc (fun r1 _ t H1 locs ht hvm hw hB hz1 hk1 hS => ?_)
  obtain ⟨hP1, hK1, hD1⟩ := hB
  rw [ht] at hP1
  have hK1 := va_K.moved hvm.symm hK1
  obtain ⟨hP, hD⟩ := va_join (wr := []) (w1 := []) hP hD [0, 1] [] rfl rfl (by decide) (by decide) hk1 hFc hP1 hD1
  generalize H1 = H at hP hS ⊢
  have hP : va_P (dC, dI) vwCl [] H := hP
  have hD : va_D A [] := hD
  subst hw
  have hP9 := hP.sub (ws' := []) [] rfl
  have hD9 := hD.sub (ws' := []) [] (by decide) rfl
  have hK9 := hK.sub (tys' := []) [] rfl
  exact W.iret (v := (-1)) hx hb hr (fun t ht hW => ⟨⟨(-1), (), rfl, rfl, by rw [ht]; exact hP9, va_K.moved hW.alike hK9, hD9⟩, hS.F ht⟩) hS.2.2 dX7_cycles_38

set_option maxHeartbeats 4000000 in
set_option maxRecDepth 100000 in
theorem c_X7_set (l : Launch) (dC : Nat → ClassId) (dI : Nat → Nat → Nat) (sz : Nat) (h0 : Nat) (m_tape : Nat) (m_refused : Nat) (m_own : Nat) (m_draft : Nat) (m_program : Nat) (m_goPlace : Nat) (m_isCome : Nat) (m_heap : Nat) (m_now : Nat) (m_first : Nat) (m_second : Nat) (m_behind : Nat) (m_states : Nat) (m_alone0 : Nat) (m_endsBy : Nat) (m_kept0 : Nat) (kr : ClassId) (p0 : Int32) (p1 : Int32) (p2 : Int32) : Met l yX7_set (Cond.code yX7_set cX7_set 4 (some .boolean) :: T0) ({ frames := 1, cells := 0, slots := 0, locals := 21 }) (va_Pc [.ref h0, .int p0, .int p1, .int p2] (ax_W dC dI sz [(h0, .inr (7, [.ref m_tape, .int 0, .int 0, .int 0, .int 0, .int 0, .int 0, .int 0, .int (-1), .ref m_refused, .ref m_own, .int 0, .ref m_draft, .ref m_program, .ref m_goPlace, .int 0, .int 0, .ref m_isCome, .ref m_heap, .int 0, .ref m_now, .ref m_first, .ref m_second, .ref m_behind, .ref m_states, .int 0, .int 0, .int 0, .ref m_alone0, .ref m_endsBy, .ref m_kept0, .int 0, .int 0, .long 1])), (m_refused, .inl (kr, 6, .inl (fun _ => 0)))] [(kr, .int)])) (va_Qi (fun (r : Int32) (_ : Unit) => r = 0) (fun (_ : Unit) (t : State) => va_P (dC, dI) vwCl [] t.heap ∧ va_K (dC, dI) vwCl [] t ∧ va_D (va_A [(h0, .inr (7, [.ref m_tape, .int 0, .int 0, .int 0, .int 0, .int 0, .int 0, .int 0, .int (-1), .ref m_refused, .ref m_own, .int 0, .ref m_draft, .ref m_program, .ref m_goPlace, .int 0, .int 0, .ref m_isCome, .ref m_heap, .int 0, .ref m_now, .ref m_first, .ref m_second, .ref m_behind, .ref m_states, .int 0, .int 0, .int 0, .ref m_alone0, .ref m_endsBy, .ref m_kept0, .int 0, .int 0, .long 1])), (m_refused, .inl (kr, 6, .inl (fun _ => 0)))] sz) []) (va_A [(h0, .inr (7, [.ref m_tape, .int 0, .int 0, .int 0, .int 0, .int 0, .int 0, .int 0, .int (-1), .ref m_refused, .ref m_own, .int 0, .ref m_draft, .ref m_program, .ref m_goPlace, .int 0, .int 0, .ref m_isCome, .ref m_heap, .int 0, .ref m_now, .ref m_first, .ref m_second, .ref m_behind, .ref m_states, .int 0, .int 0, .int 0, .ref m_alone0, .ref m_endsBy, .ref m_kept0, .int 0, .int 0, .long 1])), (m_refused, .inl (kr, 6, .inl (fun _ => 0)))] sz)) 0 0 (va_A [(h0, .inr (7, [.ref m_tape, .int 0, .int 0, .int 0, .int 0, .int 0, .int 0, .int 0, .int (-1), .ref m_refused, .ref m_own, .int 0, .ref m_draft, .ref m_program, .ref m_goPlace, .int 0, .int 0, .ref m_isCome, .ref m_heap, .int 0, .ref m_now, .ref m_first, .ref m_second, .ref m_behind, .ref m_states, .int 0, .int 0, .int 0, .ref m_alone0, .ref m_endsBy, .ref m_kept0, .int 0, .int 0, .long 1])), (m_refused, .inl (kr, 6, .inl (fun _ => 0)))] sz) := by
  refine Met.ofW (cc := cX7_set) (maxL := 4) (ret := (some .boolean)) (by decide) rfl ?_
  intro p e s m args below meth c s₁ B hml hv
  obtain ⟨rfl, hsz, hP, hK, hD0, hN⟩ := hv
  have hx := B.exec
  have hb := B.bytes
  have hr := B.returns
  have hts : ∀ w ∈ T0, w.before _ s = true := fun w h => atoms_spec (ws := Cond.code yX7_set cX7_set 4 (some .boolean) :: T0) B.pre w (List.mem_cons_of_mem _ h)
  have hown : s.vm.findClass RX7 = some m.cls := findClass_of_methodNamed B.named
  have hlocks := B.notSynchronized
  subst hsz
  have hD := hD0.self (sz := s.heap.size)
  generalize hAe : va_A [(h0, .inr (7, [.ref m_tape, .int 0, .int 0, .int 0, .int 0, .int 0, .int 0, .int 0, .int (-1), .ref m_refused, .ref m_own, .int 0, .ref m_draft, .ref m_program, .ref m_goPlace, .int 0, .int 0, .ref m_isCome, .ref m_heap, .int 0, .ref m_now, .ref m_first, .ref m_second, .ref m_behind, .ref m_states, .int 0, .int 0, .int 0, .ref m_alone0, .ref m_endsBy, .ref m_kept0, .int 0, .int 0, .long 1])), (m_refused, .inl (kr, 6, .inl (fun _ => 0)))] s.heap.size = A at hD ⊢
  have hA : ∀ q : Nat, s.heap.size ≤ q → A q := fun q h => by rw [← hAe]; exact Or.inr h
  have hS : va_S A s.heap s.heap [] := va_S.rf
  have hP : va_P (dC, dI) vwCl [(h0, .inr (7, [.ref m_tape, .int 0, .int 0, .int 0, .int 0, .int 0, .int 0, .int 0, .int (-1), .ref m_refused, .ref m_own, .int 0, .ref m_draft, .ref m_program, .ref m_goPlace, .int 0, .int 0, .ref m_isCome, .ref m_heap, .int 0, .ref m_now, .ref m_first, .ref m_second, .ref m_behind, .ref m_states, .int 0, .int 0, .int 0, .ref m_alone0, .ref m_endsBy, .ref m_kept0, .int 0, .int 0, .long 1])), (m_refused, .inl (kr, 6, .inl (fun _ => 0)))] s.heap := hP
  have hl := lv_entry ([.ref h0, .int p0, .int p1, .int p2]) (n := 4) (Nat.le_of_ble_eq_true rfl)
  rw [lg_entry_eq]
  generalize (lg_sl ([.ref h0, .int p0, .int p1, .int p2]) ++ List.replicate (4 - (lg_sl ([.ref h0, .int p0, .int p1, .int p2])).length) Slot.unset).toArray = ls at hl ⊢
  refine ax_gen hP hD hS (fun H locs hP hD hS => ?_)
  have hl : lv_has ls 4 [(0, .ref h0), (1, .int p0), (2, .int p1), (3, .int p2)] := hl
  refine lv_aload_n hx hb dX7_set_0 rfl (lv_at hl 0 rfl) ?_
  refine va_get (D := (dC, dI)) (ci := 7) (v := .int 0) (C := RX7) (T := TX7) (N := 34) hx hb hts inX7 hown hK hP 0 rfl rfl 15 (by decide) (hts _ T_196) (fun _ h9 => h9) rfl dX7_set_1 ?_
  refine lv_if_eq (tgt := 39) hx hb dX7_set_4 (by decide) (fun _ => ?_) (fun c => absurd (by decide) c)
  refine lv_aload_n hx hb dX7_set_39 rfl (lv_at hl 0 rfl) ?_
  refine lv_iconst (v := 3) hx hb dX7_set_40 (by decide) ?_
  have hPc := hP.sub (ws' := [(h0, .inr (7, [.ref m_tape, .int 0, .int 0, .int 0, .int 0, .int 0, .int 0, .int 0, .int (-1), .ref m_refused, .ref m_own, .int 0, .ref m_draft, .ref m_program, .ref m_goPlace, .int 0, .int 0, .ref m_isCome, .ref m_heap, .int 0, .ref m_now, .ref m_first, .ref m_second, .ref m_behind, .ref m_states, .int 0, .int 0, .int 0, .ref m_alone0, .ref m_endsBy, .ref m_kept0, .int 0, .int 0, .long 1])), (m_refused, .inl (kr, 6, .inl (fun _ => 0)))]) [0, 1] rfl
  have hDc := hD.sub (ws' := [(h0, .inr (7, [.ref m_tape, .int 0, .int 0, .int 0, .int 0, .int 0, .int 0, .int 0, .int (-1), .ref m_refused, .ref m_own, .int 0, .ref m_draft, .ref m_program, .ref m_goPlace, .int 0, .int 0, .ref m_isCome, .ref m_heap, .int 0, .ref m_now, .ref m_first, .ref m_second, .ref m_behind, .ref m_states, .int 0, .int 0, .int 0, .ref m_alone0, .ref m_endsBy, .ref m_kept0, .int 0, .int 0, .long 1])), (m_refused, .inl (kr, 6, .inl (fun _ => 0)))]) [0, 1] (by decide) rfl
  have hKc := hK.sub (tys' := [(kr, .int)]) [0] rfl
  have hFc := va_free (wc := [(h0, .inr (7, [.ref m_tape, .int 0, .int 0, .int 0, .int 0, .int 0, .int 0, .int 0, .int (-1), .ref m_refused, .ref m_own, .int 0, .ref m_draft, .ref m_program, .ref m_goPlace, .int 0, .int 0, .ref m_isCome, .ref m_heap, .int 0, .ref m_now, .ref m_first, .ref m_second, .ref m_behind, .ref m_states, .int 0, .int 0, .int 0, .ref m_alone0, .ref m_endsBy, .ref m_kept0, .int 0, .int 0, .long 1])), (m_refused, .inl (kr, 6, .inl (fun _ => 0)))]) hD hS hA [0, 1] rfl
  refine va_calli (va_runV (As := [.int 3]) (rest := []) ⟨hx, hb, hml, hown, hts⟩ (c_X7_isRefused l dC dI H.size h0 m_tape m_refused m_own m_draft m_program m_goPlace m_isCome m_heap m_now m_first m_second m_behind m_states m_alone0 m_endsBy m_kept0 kr (fun _ => 0) 3 (ax_in (by decide))) (cwV 1 hts (ax_gV T_186 T_187 T_188 T_189 T_185) rfl rfl rfl (by decide +kernel) ⟨Nat.le_of_ble_eq_true rfl, Nat.le_of_ble_eq_true rfl⟩) ⟨fun a U g mk q => ⟨q.1, ax_pc rfl rfl q.2⟩, va_recv hKc hPc (ci := 7) (q0 := 0) rfl rfl, fun U hU hW => ⟨rfl, ax_pw hU hW hPc hKc hDc hN⟩⟩ rfl rfl hl.1 rfl (lv_room (Nat.le_of_ble_eq_true rfl)) dX7_set_41 ⟨Nat.le_of_ble_eq_true rfl, Nat.le_of_ble_eq_true rfl⟩) hS (fun q _ h => hFc q h) hFc (fun r1 _ t H1 locs ht hvm hw hB hz1 hk1 hS => ?_)
  obtain ⟨hP1, hK1, hD1⟩ := hB
  rw [ht] at hP1
  have hK1 := va_K.moved hvm.symm hK1
  obtain ⟨hP, hD⟩ := va_join (wr := []) (w1 := []) hP hD [0, 1] [] rfl rfl (by decide) (by decide) hk1 hFc hP1 hD1
  generalize H1 = H at hP hS ⊢
  have hP : va_P (dC, dI) vwCl [] H := hP
  have hD : va_D A [] := hD
  subst hw
  have hP9 := hP.sub (ws' := []) [] rfl
  have hD9 := hD.sub (ws' := []) [] (by decide) rfl
  have hK9 := hK.sub (tys' := []) [] rfl
  exact W.zret (v := 0) (ty := .boolean) hx hb hr (by decide) (fun t ht hW => ⟨⟨0, (), rfl, rfl, by rw [ht]; exact hP9, va_K.moved hW.alike hK9, hD9⟩, hS.F ht⟩) hS.2.2 dX7_set_44

set_option maxHeartbeats 4000000 in
set_option maxRecDepth 100000 in
theorem c_X7_begin (l : Launch) (dC : Nat → ClassId) (dI : Nat → Nat → Nat) (sz : Nat) (h0 : Nat) (m_tape : Nat) (m_refused : Nat) (m_own : Nat) (m_draft : Nat) (m_program : Nat) (m_goPlace : Nat) (m_isCome : Nat) (m_heap : Nat) (m_now : Nat) (m_first : Nat) (m_second : Nat) (m_behind : Nat) (m_states : Nat) (m_alone0 : Nat) (m_endsBy : Nat) (m_kept0 : Nat) (kr : ClassId) : Met l yX7_begin (Cond.code yX7_begin cX7_begin 1 (some .boolean) :: T0) ({ frames := 1, cells := 0, slots := 0, locals := 21 }) (va_Pc [.ref h0] (ax_W dC dI sz [(h0, .inr (7, [.ref m_tape, .int 0, .int 0, .int 0, .int 0, .int 0, .int 0, .int 0, .int (-1), .ref m_refused, .ref m_own, .int 0, .ref m_draft, .ref m_program, .ref m_goPlace, .int 0, .int 0, .ref m_isCome, .ref m_heap, .int 0, .ref m_now, .ref m_first, .ref m_second, .ref m_behind, .ref m_states, .int 0, .int 0, .int 0, .ref m_alone0, .ref m_endsBy, .ref m_kept0, .int 0, .int 0, .long 1])), (m_refused, .inl (kr, 6, .inl (fun _ => 0)))] [(kr, .int)])) (va_Qi (fun (r : Int32) (_ : Unit) => r = 0) (fun (_ : Unit) (t : State) => va_P (dC, dI) vwCl [] t.heap ∧ va_K (dC, dI) vwCl [] t ∧ va_D (va_A [(h0, .inr (7, [.ref m_tape, .int 0, .int 0, .int 0, .int 0, .int 0, .int 0, .int 0, .int (-1), .ref m_refused, .ref m_own, .int 0, .ref m_draft, .ref m_program, .ref m_goPlace, .int 0, .int 0, .ref m_isCome, .ref m_heap, .int 0, .ref m_now, .ref m_first, .ref m_second, .ref m_behind, .ref m_states, .int 0, .int 0, .int 0, .ref m_alone0, .ref m_endsBy, .ref m_kept0, .int 0, .int 0, .long 1])), (m_refused, .inl (kr, 6, .inl (fun _ => 0)))] sz) []) (va_A [(h0, .inr (7, [.ref m_tape, .int 0, .int 0, .int 0, .int 0, .int 0, .int 0, .int 0, .int (-1), .ref m_refused, .ref m_own, .int 0, .ref m_draft, .ref m_program, .ref m_goPlace, .int 0, .int 0, .ref m_isCome, .ref m_heap, .int 0, .ref m_now, .ref m_first, .ref m_second, .ref m_behind, .ref m_states, .int 0, .int 0, .int 0, .ref m_alone0, .ref m_endsBy, .ref m_kept0, .int 0, .int 0, .long 1])), (m_refused, .inl (kr, 6, .inl (fun _ => 0)))] sz)) 0 0 (va_A [(h0, .inr (7, [.ref m_tape, .int 0, .int 0, .int 0, .int 0, .int 0, .int 0, .int 0, .int (-1), .ref m_refused, .ref m_own, .int 0, .ref m_draft, .ref m_program, .ref m_goPlace, .int 0, .int 0, .ref m_isCome, .ref m_heap, .int 0, .ref m_now, .ref m_first, .ref m_second, .ref m_behind, .ref m_states, .int 0, .int 0, .int 0, .ref m_alone0, .ref m_endsBy, .ref m_kept0, .int 0, .int 0, .long 1])), (m_refused, .inl (kr, 6, .inl (fun _ => 0)))] sz) := by
  refine Met.ofW (cc := cX7_begin) (maxL := 1) (ret := (some .boolean)) (by decide) rfl ?_
  intro p e s m args below meth c s₁ B hml hv
  obtain ⟨rfl, hsz, hP, hK, hD0, hN⟩ := hv
  have hx := B.exec
  have hb := B.bytes
  have hr := B.returns
  have hts : ∀ w ∈ T0, w.before _ s = true := fun w h => atoms_spec (ws := Cond.code yX7_begin cX7_begin 1 (some .boolean) :: T0) B.pre w (List.mem_cons_of_mem _ h)
  have hown : s.vm.findClass RX7 = some m.cls := findClass_of_methodNamed B.named
  have hlocks := B.notSynchronized
  subst hsz
  have hD := hD0.self (sz := s.heap.size)
  generalize hAe : va_A [(h0, .inr (7, [.ref m_tape, .int 0, .int 0, .int 0, .int 0, .int 0, .int 0, .int 0, .int (-1), .ref m_refused, .ref m_own, .int 0, .ref m_draft, .ref m_program, .ref m_goPlace, .int 0, .int 0, .ref m_isCome, .ref m_heap, .int 0, .ref m_now, .ref m_first, .ref m_second, .ref m_behind, .ref m_states, .int 0, .int 0, .int 0, .ref m_alone0, .ref m_endsBy, .ref m_kept0, .int 0, .int 0, .long 1])), (m_refused, .inl (kr, 6, .inl (fun _ => 0)))] s.heap.size = A at hD ⊢
  have hA : ∀ q : Nat, s.heap.size ≤ q → A q := fun q h => by rw [← hAe]; exact Or.inr h
  have hS : va_S A s.heap s.heap [] := va_S.rf
  have hP : va_P (dC, dI) vwCl [(h0, .inr (7, [.ref m_tape, .int 0, .int 0, .int 0, .int 0, .int 0, .int 0, .int 0, .int (-1), .ref m_refused, .ref m_own, .int 0, .ref m_draft, .ref m_program, .ref m_goPlace, .int 0, .int 0, .ref m_isCome, .ref m_heap, .int 0, .ref m_now, .ref m_first, .ref m_second, .ref m_behind, .ref m_states, .int 0, .int 0, .int 0, .ref m_alone0, .ref m_endsBy, .ref m_kept0, .int 0, .int 0, .long 1])), (m_refused, .inl (kr, 6, .inl (fun _ => 0)))] s.heap := hP
  have hl := lv_entry ([.ref h0]) (n := 1) (Nat.le_of_ble_eq_true rfl)
  rw [lg_entry_eq]
  generalize (lg_sl ([.ref h0]) ++ List.replicate (1 - (lg_sl ([.ref h0])).length) Slot.unset).toArray = ls at hl ⊢
  refine ax_gen hP hD hS (fun H locs hP hD hS => ?_)
  have hl : lv_has ls 1 [(0, .ref h0)] := hl
  refine lv_aload_n hx hb dX7_begin_0 rfl (lv_at hl 0 rfl) ?_
  refine va_get (D := (dC, dI)) (ci := 7) (v := .int 0) (C := RX7) (T := TX7) (N := 34) hx hb hts inX7 hown hK hP 0 rfl rfl 15 (by decide) (hts _ T_196) (fun _ h9 => h9) rfl dX7_begin_1 ?_
  refine lv_if_ne (tgt := 13) hx hb dX7_begin_4 (by decide) (fun c => absurd (by decide) c) (fun _ => ?_)
  refine lv_aload_n hx hb dX7_begin_7 rfl (lv_at hl 0 rfl) ?_
  refine lv_iconst (v := 3) hx hb dX7_begin_8 (by decide) ?_
  have hPc := hP.sub (ws' := [(h0, .inr (7, [.ref m_tape, .int 0, .int 0, .int 0, .int 0, .int 0, .int 0, .int 0, .int (-1), .ref m_refused, .ref m_own, .int 0, .ref m_draft, .ref m_program, .ref m_goPlace, .int 0, .int 0, .ref m_isCome, .ref m_heap, .int 0, .ref m_now, .ref m_first, .ref m_second, .ref m_behind, .ref m_states, .int 0, .int 0, .int 0, .ref m_alone0, .ref m_endsBy, .ref m_kept0, .int 0, .int 0, .long 1])), (m_refused, .inl (kr, 6, .inl (fun _ => 0)))]) [0, 1] rfl
  have hDc := hD.sub (ws' := [(h0, .inr (7, [.ref m_tape, .int 0, .int 0, .int 0, .int 0, .int 0, .int 0, .int 0, .int (-1), .ref m_refused, .ref m_own, .int 0, .ref m_draft, .ref m_program, .ref m_goPlace, .int 0, .int 0, .ref m_isCome, .ref m_heap, .int 0, .ref m_now, .ref m_first, .ref m_second, .ref m_behind, .ref m_states, .int 0, .int 0, .int 0, .ref m_alone0, .ref m_endsBy, .ref m_kept0, .int 0, .int 0, .long 1])), (m_refused, .inl (kr, 6, .inl (fun _ => 0)))]) [0, 1] (by decide) rfl
  have hKc := hK.sub (tys' := [(kr, .int)]) [0] rfl
  have hFc := va_free (wc := [(h0, .inr (7, [.ref m_tape, .int 0, .int 0, .int 0, .int 0, .int 0, .int 0, .int 0, .int (-1), .ref m_refused, .ref m_own, .int 0, .ref m_draft, .ref m_program, .ref m_goPlace, .int 0, .int 0, .ref m_isCome, .ref m_heap, .int 0, .ref m_now, .ref m_first, .ref m_second, .ref m_behind, .ref m_states, .int 0, .int 0, .int 0, .ref m_alone0, .ref m_endsBy, .ref m_kept0, .int 0, .int 0, .long 1])), (m_refused, .inl (kr, 6, .inl (fun _ => 0)))]) hD hS hA [0, 1] rfl
  refine va_calli (va_runV (As := [.int 3]) (rest := []) ⟨hx, hb, hml, hown, hts⟩ (c_X7_isRefused l dC dI H.size h0 m_tape m_refused m_own m_draft m_program m_goPlace m_isCome m_heap m_now m_first m_second m_behind m_states m_alone0 m_endsBy m_kept0 kr (fun _ => 0) 3 (ax_in (by decide))) (cwV 1 hts (ax_gV T_186 T_187 T_188 T_189 T_185) rfl rfl rfl (by decide +kernel) ⟨Nat.le_of_ble_eq_true rfl, Nat.le_of_ble_eq_true rfl⟩) ⟨fun a U g mk q => ⟨q.1, ax_pc rfl rfl q.2⟩, va_recv hKc hPc (ci := 7) (q0 := 0) rfl rfl, fun U hU hW => ⟨rfl, ax_pw hU hW hPc hKc hDc hN⟩⟩ rfl rfl hl.1 rfl (lv_room (Nat.le_of_ble_eq_true rfl)) dX7_begin_9 ⟨Nat.le_of_ble_eq_true rfl, Nat.le_of_ble_eq_true rfl⟩) hS (fun q _ h => hFc q h) hFc (fun r1 _ t H1 locs ht hvm hw hB hz1 hk1 hS => ?_)
  obtain ⟨hP1, hK1, hD1⟩ := hB
  rw [ht] at hP1
  have hK1 := va_K.moved hvm.symm hK1
  obtain ⟨hP, hD⟩ := va_join (wr := []) (w1 := []) hP hD [0, 1] [] rfl rfl (by decide) (by decide) hk1 hFc hP1 hD1
  generalize H1 = H at hP hS ⊢
  have hP : va_P (dC, dI) vwCl [] H := hP
  have hD : va_D A [] := hD
  subst hw
  have hP9 := hP.sub (ws' := []) [] rfl
  have hD9 := hD.sub (ws' := []) [] (by decide) rfl
  have hK9 := hK.sub (tys' := []) [] rfl
  exact W.zret (v := 0) (ty := .boolean) hx hb hr (by decide) (fun t ht hW => ⟨⟨0, (), rfl, rfl, by rw [ht]; exact hP9, va_K.moved hW.alike hK9, hD9⟩, hS.F ht⟩) hS.2.2 dX7_begin_12

set_option maxHeartbeats 4000000 in
set_option maxRecDepth 100000 in
theorem c_X7_chance (l : Launch) (dC : Nat → ClassId) (dI : Nat → Nat → Nat) (sz : Nat) (h0 : Nat) (m_tape : Nat) (m_refused : Nat) (m_own : Nat) (m_draft : Nat) (m_program : Nat) (m_goPlace : Nat) (m_isCome : Nat) (m_heap : Nat) (m_now : Nat) (m_first : Nat) (m_second : Nat) (m_behind : Nat) (m_states : Nat) (m_alone0 : Nat) (m_endsBy : Nat) (m_kept0 : Nat) (kr : ClassId) (p0 : Int32) : Met l yX7_chance (Cond.code yX7_chance cX7_chance 7 (some .int) :: T0) ({ frames := 1, cells := 0, slots := 0, locals := 21 }) (va_Pc [.ref h0, .int p0] (ax_W dC dI sz [(h0, .inr (7, [.ref m_tape, .int 0, .int 0, .int 0, .int 0, .int 0, .int 0, .int 0, .int (-1), .ref m_refused, .ref m_own, .int 0, .ref m_draft, .ref m_program, .ref m_goPlace, .int 0, .int 0, .ref m_isCome, .ref m_heap, .int 0, .ref m_now, .ref m_first, .ref m_second, .ref m_behind, .ref m_states, .int 0, .int 0, .int 0, .ref m_alone0, .ref m_endsBy, .ref m_kept0, .int 0, .int 0, .long 1])), (m_refused, .inl (kr, 6, .inl (fun _ => 0)))] [(kr, .int)])) (va_Qi (fun (r : Int32) (_ : Unit) => r = (-1)) (fun (_ : Unit) (t : State) => va_P (dC, dI) vwCl [] t.heap ∧ va_K (dC, dI) vwCl [] t ∧ va_D (va_A [(h0, .inr (7, [.ref m_tape, .int 0, .int 0, .int 0, .int 0, .int 0, .int 0, .int 0, .int (-1), .ref m_refused, .ref m_own, .int 0, .ref m_draft, .ref m_program, .ref m_goPlace, .int 0, .int 0, .ref m_isCome, .ref m_heap, .int 0, .ref m_now, .ref m_first, .ref m_second, .ref m_behind, .ref m_states, .int 0, .int 0, .int 0, .ref m_alone0, .ref m_endsBy, .ref m_kept0, .int 0, .int 0, .long 1])), (m_refused, .inl (kr, 6, .inl (fun _ => 0)))] sz) []) (va_A [(h0, .inr (7, [.ref m_tape, .int 0, .int 0, .int 0, .int 0, .int 0, .int 0, .int 0, .int (-1), .ref m_refused, .ref m_own, .int 0, .ref m_draft, .ref m_program, .ref m_goPlace, .int 0, .int 0, .ref m_isCome, .ref m_heap, .int 0, .ref m_now, .ref m_first, .ref m_second, .ref m_behind, .ref m_states, .int 0, .int 0, .int 0, .ref m_alone0, .ref m_endsBy, .ref m_kept0, .int 0, .int 0, .long 1])), (m_refused, .inl (kr, 6, .inl (fun _ => 0)))] sz)) 0 0 (va_A [(h0, .inr (7, [.ref m_tape, .int 0, .int 0, .int 0, .int 0, .int 0, .int 0, .int 0, .int (-1), .ref m_refused, .ref m_own, .int 0, .ref m_draft, .ref m_program, .ref m_goPlace, .int 0, .int 0, .ref m_isCome, .ref m_heap, .int 0, .ref m_now, .ref m_first, .ref m_second, .ref m_behind, .ref m_states, .int 0, .int 0, .int 0, .ref m_alone0, .ref m_endsBy, .ref m_kept0, .int 0, .int 0, .long 1])), (m_refused, .inl (kr, 6, .inl (fun _ => 0)))] sz) := by
  refine Met.ofW (cc := cX7_chance) (maxL := 7) (ret := (some .int)) (by decide) rfl ?_
  intro p e s m args below meth c s₁ B hml hv
  obtain ⟨rfl, hsz, hP, hK, hD0, hN⟩ := hv
  have hx := B.exec
  have hb := B.bytes
  have hr := B.returns
  have hts : ∀ w ∈ T0, w.before _ s = true := fun w h => atoms_spec (ws := Cond.code yX7_chance cX7_chance 7 (some .int) :: T0) B.pre w (List.mem_cons_of_mem _ h)
  have hown : s.vm.findClass RX7 = some m.cls := findClass_of_methodNamed B.named
  have hlocks := B.notSynchronized
  subst hsz
  have hD := hD0.self (sz := s.heap.size)
  generalize hAe : va_A [(h0, .inr (7, [.ref m_tape, .int 0, .int 0, .int 0, .int 0, .int 0, .int 0, .int 0, .int (-1), .ref m_refused, .ref m_own, .int 0, .ref m_draft, .ref m_program, .ref m_goPlace, .int 0, .int 0, .ref m_isCome, .ref m_heap, .int 0, .ref m_now, .ref m_first, .ref m_second, .ref m_behind, .ref m_states, .int 0, .int 0, .int 0, .ref m_alone0, .ref m_endsBy, .ref m_kept0, .int 0, .int 0, .long 1])), (m_refused, .inl (kr, 6, .inl (fun _ => 0)))] s.heap.size = A at hD ⊢
  have hA : ∀ q : Nat, s.heap.size ≤ q → A q := fun q h => by rw [← hAe]; exact Or.inr h
  have hS : va_S A s.heap s.heap [] := va_S.rf
  have hP : va_P (dC, dI) vwCl [(h0, .inr (7, [.ref m_tape, .int 0, .int 0, .int 0, .int 0, .int 0, .int 0, .int 0, .int (-1), .ref m_refused, .ref m_own, .int 0, .ref m_draft, .ref m_program, .ref m_goPlace, .int 0, .int 0, .ref m_isCome, .ref m_heap, .int 0, .ref m_now, .ref m_first, .ref m_second, .ref m_behind, .ref m_states, .int 0, .int 0, .int 0, .ref m_alone0, .ref m_endsBy, .ref m_kept0, .int 0, .int 0, .long 1])), (m_refused, .inl (kr, 6, .inl (fun _ => 0)))] s.heap := hP
  have hl := lv_entry ([.ref h0, .int p0]) (n := 7) (Nat.le_of_ble_eq_true rfl)
  rw [lg_entry_eq]
  generalize (lg_sl ([.ref h0, .int p0]) ++ List.replicate (7 - (lg_sl ([.ref h0, .int p0])).length) Slot.unset).toArray = ls at hl ⊢
  refine ax_gen hP hD hS (fun H locs hP hD hS => ?_)
  have hl : lv_has ls 7 [(0, .ref h0), (1, .int p0)] := hl
  refine lv_aload_n hx hb dX7_chance_0 rfl (lv_at hl 0 rfl) ?_
  refine va_get (D := (dC, dI)) (ci := 7) (v := .int 0) (C := RX7) (T := TX7) (N := 34) hx hb hts inX7 hown hK hP 0 rfl rfl 15 (by decide) (hts _ T_196) (fun _ h9 => h9) rfl dX7_chance_1 ?_
  refine lv_if_eq (tgt := 19) hx hb dX7_chance_4 (by decide) (fun _ => ?_) (fun c => absurd (by decide) c)
  refine lv_aload_n hx hb dX7_chance_19 rfl (lv_at hl 0 rfl) ?_
  refine lv_iconst (v := 2) hx hb dX7_chance_20 (by decide) ?_
  have hPc := hP.sub (ws' := [(h0, .inr (7, [.ref m_tape, .int 0, .int 0, .int 0, .int 0, .int 0, .int 0, .int 0, .int (-1), .ref m_refused, .ref m_own, .int 0, .ref m_draft, .ref m_program, .ref m_goPlace, .int 0, .int 0, .ref m_isCome, .ref m_heap, .int 0, .ref m_now, .ref m_first, .ref m_second, .ref m_behind, .ref m_states, .int 0, .int 0, .int 0, .ref m_alone0, .ref m_endsBy, .ref m_kept0, .int 0, .int 0, .long 1])), (m_refused, .inl (kr, 6, .inl (fun _ => 0)))]) [0, 1] rfl
  have hDc := hD.sub (ws' := [(h0, .inr (7, [.ref m_tape, .int 0, .int 0, .int 0, .int 0, .int 0, .int 0, .int 0, .int (-1), .ref m_refused, .ref m_own, .int 0, .ref m_draft, .ref m_program, .ref m_goPlace, .int 0, .int 0, .ref m_isCome, .ref m_heap, .int 0, .ref m_now, .ref m_first, .ref m_second, .ref m_behind, .ref m_states, .int 0, .int 0, .int 0, .ref m_alone0, .ref m_endsBy, .ref m_kept0, .int 0, .int 0, .long 1])), (m_refused, .inl (kr, 6, .inl (fun _ => 0)))]) [0, 1] (by decide) rfl
  have hKc := hK.sub (tys' := [(kr, .int)]) [0] rfl
  have hFc := va_free (wc := [(h0, .inr (7, [.ref m_tape, .int 0, .int 0, .int 0, .int 0, .int 0, .int 0, .int 0, .int (-1), .ref m_refused, .ref m_own, .int 0, .ref m_draft, .ref m_program, .ref m_goPlace, .int 0, .int 0, .ref m_isCome, .ref m_heap, .int 0, .ref m_now, .ref m_first, .ref m_second, .ref m_behind, .ref m_states, .int 0, .int 0, .int 0, .ref m_alone0, .ref m_endsBy, .ref m_kept0, .int 0, .int 0, .long 1])), (m_refused, .inl (kr, 6, .inl (fun _ => 0)))]) hD hS hA [0, 1] rfl
  refine va_calli (va_runV (As := [.int 2]) (rest := []) ⟨hx, hb, hml, hown, hts⟩ (c_X7_refuses l dC dI H.size h0 m_tape m_refused m_own m_draft m_program m_goPlace m_isCome m_heap m_now m_first m_second m_behind m_states m_alone0 m_endsBy m_kept0 kr (fun _ => 0) 2 (ax_in (by decide))) (cwV 1 hts (ax_gV T_247 T_248 T_249 T_189 T_246) rfl rfl rfl (by decide +kernel) ⟨Nat.le_of_ble_eq_true rfl, Nat.le_of_ble_eq_true rfl⟩) ⟨fun a U g mk q => ⟨q.1, ax_pc rfl rfl q.2⟩, va_recv hKc hPc (ci := 7) (q0 := 0) rfl rfl, fun U hU hW => ⟨rfl, ax_pw hU hW hPc hKc hDc hN⟩⟩ rfl rfl hl.1 rfl (lv_room (Nat.le_of_ble_eq_true rfl)) dX7_chance_21 ⟨Nat.le_of_ble_eq_true rfl, Nat.le_of_ble_eq_true rfl⟩) hS (fun q _ h => hFc q h) hFc (fun r1 _ t H1 locs ht hvm hw hB hz1 hk1 hS => ?_)
  obtain ⟨hP1, hK1, hD1⟩ := hB
  rw [ht] at hP1
  have hK1 := va_K.moved hvm.symm hK1
  obtain ⟨hP, hD⟩ := va_join (wr := []) (w1 := []) hP hD [0, 1] [] rfl rfl (by decide) (by decide) hk1 hFc hP1 hD1
  generalize H1 = H at hP hS ⊢
  have hP : va_P (dC, dI) vwCl [] H := hP
  have hD : va_D A [] := hD
  subst hw
  have hP9 := hP.sub (ws' := []) [] rfl
  have hD9 := hD.sub (ws' := []) [] (by decide) rfl
  have hK9 := hK.sub (tys' := []) [] rfl
  exact W.iret (v := (-1)) hx hb hr (fun t ht hW => ⟨⟨(-1), (), rfl, rfl, by rw [ht]; exact hP9, va_K.moved hW.alike hK9, hD9⟩, hS.F ht⟩) hS.2.2 dX7_chance_24

set_option maxHeartbeats 4000000 in
set_option maxRecDepth 100000 in
theorem c_X7_undo (l : Launch) (dC : Nat → ClassId) (dI : Nat → Nat → Nat) (sz : Nat) (h0 : Nat) (m_tape : Nat) (m_refused : Nat) (m_own : Nat) (m_draft : Nat) (m_program : Nat) (m_goPlace : Nat) (m_isCome : Nat) (m_heap : Nat) (m_now : Nat) (m_first : Nat) (m_second : Nat) (m_behind : Nat) (m_states : Nat) (m_alone0 : Nat) (m_endsBy : Nat) (m_kept0 : Nat) (kr : ClassId) : Met l yX7_undo (Cond.code yX7_undo cX7_undo 2 (some .boolean) :: T0) ({ frames := 1, cells := 0, slots := 0, locals := 21 }) (va_Pc [.ref h0] (ax_W dC dI sz [(h0, .inr (7, [.ref m_tape, .int 0, .int 0, .int 0, .int 0, .int 0, .int 0, .int 0, .int (-1), .ref m_refused, .ref m_own, .int 0, .ref m_draft, .ref m_program, .ref m_goPlace, .int 0, .int 0, .ref m_isCome, .ref m_heap, .int 0, .ref m_now, .ref m_first, .ref m_second, .ref m_behind, .ref m_states, .int 0, .int 0, .int 0, .ref m_alone0, .ref m_endsBy, .ref m_kept0, .int 0, .int 0, .long 1])), (m_refused, .inl (kr, 6, .inl (fun _ => 0)))] [(kr, .int)])) (va_Qi (fun (r : Int32) (_ : Unit) => r = 0) (fun (_ : Unit) (t : State) => va_P (dC, dI) vwCl [] t.heap ∧ va_K (dC, dI) vwCl [] t ∧ va_D (va_A [(h0, .inr (7, [.ref m_tape, .int 0, .int 0, .int 0, .int 0, .int 0, .int 0, .int 0, .int (-1), .ref m_refused, .ref m_own, .int 0, .ref m_draft, .ref m_program, .ref m_goPlace, .int 0, .int 0, .ref m_isCome, .ref m_heap, .int 0, .ref m_now, .ref m_first, .ref m_second, .ref m_behind, .ref m_states, .int 0, .int 0, .int 0, .ref m_alone0, .ref m_endsBy, .ref m_kept0, .int 0, .int 0, .long 1])), (m_refused, .inl (kr, 6, .inl (fun _ => 0)))] sz) []) (va_A [(h0, .inr (7, [.ref m_tape, .int 0, .int 0, .int 0, .int 0, .int 0, .int 0, .int 0, .int (-1), .ref m_refused, .ref m_own, .int 0, .ref m_draft, .ref m_program, .ref m_goPlace, .int 0, .int 0, .ref m_isCome, .ref m_heap, .int 0, .ref m_now, .ref m_first, .ref m_second, .ref m_behind, .ref m_states, .int 0, .int 0, .int 0, .ref m_alone0, .ref m_endsBy, .ref m_kept0, .int 0, .int 0, .long 1])), (m_refused, .inl (kr, 6, .inl (fun _ => 0)))] sz)) 0 0 (va_A [(h0, .inr (7, [.ref m_tape, .int 0, .int 0, .int 0, .int 0, .int 0, .int 0, .int 0, .int (-1), .ref m_refused, .ref m_own, .int 0, .ref m_draft, .ref m_program, .ref m_goPlace, .int 0, .int 0, .ref m_isCome, .ref m_heap, .int 0, .ref m_now, .ref m_first, .ref m_second, .ref m_behind, .ref m_states, .int 0, .int 0, .int 0, .ref m_alone0, .ref m_endsBy, .ref m_kept0, .int 0, .int 0, .long 1])), (m_refused, .inl (kr, 6, .inl (fun _ => 0)))] sz) := by
  refine Met.ofW (cc := cX7_undo) (maxL := 2) (ret := (some .boolean)) (by decide) rfl ?_
  intro p e s m args below meth c s₁ B hml hv
  obtain ⟨rfl, hsz, hP, hK, hD0, hN⟩ := hv
  have hx := B.exec
  have hb := B.bytes
  have hr := B.returns
  have hts : ∀ w ∈ T0, w.before _ s = true := fun w h => atoms_spec (ws := Cond.code yX7_undo cX7_undo 2 (some .boolean) :: T0) B.pre w (List.mem_cons_of_mem _ h)
  have hown : s.vm.findClass RX7 = some m.cls := findClass_of_methodNamed B.named
  have hlocks := B.notSynchronized
  subst hsz
  have hD := hD0.self (sz := s.heap.size)
  generalize hAe : va_A [(h0, .inr (7, [.ref m_tape, .int 0, .int 0, .int 0, .int 0, .int 0, .int 0, .int 0, .int (-1), .ref m_refused, .ref m_own, .int 0, .ref m_draft, .ref m_program, .ref m_goPlace, .int 0, .int 0, .ref m_isCome, .ref m_heap, .int 0, .ref m_now, .ref m_first, .ref m_second, .ref m_behind, .ref m_states, .int 0, .int 0, .int 0, .ref m_alone0, .ref m_endsBy, .ref m_kept0, .int 0, .int 0, .long 1])), (m_refused, .inl (kr, 6, .inl (fun _ => 0)))] s.heap.size = A at hD ⊢
  have hA : ∀ q : Nat, s.heap.size ≤ q → A q := fun q h => by rw [← hAe]; exact Or.inr h
  have hS : va_S A s.heap s.heap [] := va_S.rf
  have hP : va_P (dC, dI) vwCl [(h0, .inr (7, [.ref m_tape, .int 0, .int 0, .int 0, .int 0, .int 0, .int 0, .int 0, .int (-1), .ref m_refused, .ref m_own, .int 0, .ref m_draft, .ref m_program, .ref m_goPlace, .int 0, .int 0, .ref m_isCome, .ref m_heap, .int 0, .ref m_now, .ref m_first, .ref m_second, .ref m_behind, .ref m_states, .int 0, .int 0, .int 0, .ref m_alone0, .ref m_endsBy, .ref m_kept0, .int 0, .int 0, .long 1])), (m_refused, .inl (kr, 6, .inl (fun _ => 0)))] s.heap := hP
  have hl := lv_entry ([.ref h0]) (n := 2) (Nat.le_of_ble_eq_true rfl)
  rw [lg_entry_eq]
  generalize (lg_sl ([.ref h0]) ++ List.replicate (2 - (lg_sl ([.ref h0])).length) Slot.unset).toArray = ls at hl ⊢
  refine ax_gen hP hD hS (fun H locs hP hD hS => ?_)
  have hl : lv_has ls 2 [(0, .ref h0)] := hl
  refine lv_aload_n hx hb dX7_undo_0 rfl (lv_at hl 0 rfl) ?_
  refine va_get (D := (dC, dI)) (ci := 7) (v := .int 0) (C := RX7) (T := TX7) (N := 34) hx hb hts inX7 hown hK hP 0 rfl rfl 31 (by decide) (hts _ T_263) (fun _ h9 => h9) rfl dX7_undo_1 ?_
  refine lv_if_ne (tgt := 13) hx hb dX7_undo_4 (by decide) (fun c => absurd (by decide) c) (fun _ => ?_)
  refine lv_aload_n hx hb dX7_undo_7 rfl (lv_at hl 0 rfl) ?_
  refine lv_iconst (v := 4) hx hb dX7_undo_8 (by decide) ?_
  have hPc := hP.sub (ws' := [(h0, .inr (7, [.ref m_tape, .int 0, .int 0, .int 0, .int 0, .int 0, .int 0, .int 0, .int (-1), .ref m_refused, .ref m_own, .int 0, .ref m_draft, .ref m_program, .ref m_goPlace, .int 0, .int 0, .ref m_isCome, .ref m_heap, .int 0, .ref m_now, .ref m_first, .ref m_second, .ref m_behind, .ref m_states, .int 0, .int 0, .int 0, .ref m_alone0, .ref m_endsBy, .ref m_kept0, .int 0, .int 0, .long 1])), (m_refused, .inl (kr, 6, .inl (fun _ => 0)))]) [0, 1] rfl
  have hDc := hD.sub (ws' := [(h0, .inr (7, [.ref m_tape, .int 0, .int 0, .int 0, .int 0, .int 0, .int 0, .int 0, .int (-1), .ref m_refused, .ref m_own, .int 0, .ref m_draft, .ref m_program, .ref m_goPlace, .int 0, .int 0, .ref m_isCome, .ref m_heap, .int 0, .ref m_now, .ref m_first, .ref m_second, .ref m_behind, .ref m_states, .int 0, .int 0, .int 0, .ref m_alone0, .ref m_endsBy, .ref m_kept0, .int 0, .int 0, .long 1])), (m_refused, .inl (kr, 6, .inl (fun _ => 0)))]) [0, 1] (by decide) rfl
  have hKc := hK.sub (tys' := [(kr, .int)]) [0] rfl
  have hFc := va_free (wc := [(h0, .inr (7, [.ref m_tape, .int 0, .int 0, .int 0, .int 0, .int 0, .int 0, .int 0, .int (-1), .ref m_refused, .ref m_own, .int 0, .ref m_draft, .ref m_program, .ref m_goPlace, .int 0, .int 0, .ref m_isCome, .ref m_heap, .int 0, .ref m_now, .ref m_first, .ref m_second, .ref m_behind, .ref m_states, .int 0, .int 0, .int 0, .ref m_alone0, .ref m_endsBy, .ref m_kept0, .int 0, .int 0, .long 1])), (m_refused, .inl (kr, 6, .inl (fun _ => 0)))]) hD hS hA [0, 1] rfl
  refine va_calli (va_runV (As := [.int 4]) (rest := []) ⟨hx, hb, hml, hown, hts⟩ (c_X7_isRefused l dC dI H.size h0 m_tape m_refused m_own m_draft m_program m_goPlace m_isCome m_heap m_now m_first m_second m_behind m_states m_alone0 m_endsBy m_kept0 kr (fun _ => 0) 4 (ax_in (by decide))) (cwV 1 hts (ax_gV T_186 T_187 T_188 T_189 T_185) rfl rfl rfl (by decide +kernel) ⟨Nat.le_of_ble_eq_true rfl, Nat.le_of_ble_eq_true rfl⟩) ⟨fun a U g mk q => ⟨q.1, ax_pc rfl rfl q.2⟩, va_recv hKc hPc (ci := 7) (q0 := 0) rfl rfl, fun U hU hW => ⟨rfl, ax_pw hU hW hPc hKc hDc hN⟩⟩ rfl rfl hl.1 rfl (lv_room (Nat.le_of_ble_eq_true rfl)) dX7_undo_9 ⟨Nat.le_of_ble_eq_true rfl, Nat.le_of_ble_eq_true rfl⟩) hS (fun q _ h => hFc q h) hFc (fun r1 _ t H1 locs ht hvm hw hB hz1 hk1 hS => ?_)
  obtain ⟨hP1, hK1, hD1⟩ := hB
  rw [ht] at hP1
  have hK1 := va_K.moved hvm.symm hK1
  obtain ⟨hP, hD⟩ := va_join (wr := []) (w1 := []) hP hD [0, 1] [] rfl rfl (by decide) (by decide) hk1 hFc hP1 hD1
  generalize H1 = H at hP hS ⊢
  have hP : va_P (dC, dI) vwCl [] H := hP
  have hD : va_D A [] := hD
  subst hw
  have hP9 := hP.sub (ws' := []) [] rfl
  have hD9 := hD.sub (ws' := []) [] (by decide) rfl
  have hK9 := hK.sub (tys' := []) [] rfl
  exact W.zret (v := 0) (ty := .boolean) hx hb hr (by decide) (fun t ht hW => ⟨⟨0, (), rfl, rfl, by rw [ht]; exact hP9, va_K.moved hW.alike hK9, hD9⟩, hS.F ht⟩) hS.2.2 dX7_undo_12

set_option maxHeartbeats 4000000 in
set_option maxRecDepth 100000 in
theorem c_X7_poke (l : Launch) (dC : Nat → ClassId) (dI : Nat → Nat → Nat) (sz : Nat) (h0 : Nat) (m_tape : Nat) (m_refused : Nat) (m_own : Nat) (m_draft : Nat) (m_program : Nat) (m_goPlace : Nat) (m_isCome : Nat) (m_heap : Nat) (m_now : Nat) (m_first : Nat) (m_second : Nat) (m_behind : Nat) (m_states : Nat) (m_alone0 : Nat) (m_endsBy : Nat) (m_kept0 : Nat) (kr : ClassId) (p0 : Int32) (p1 : Int32) (p2 : Int32) : Met l yX7_poke (Cond.code yX7_poke cX7_poke 6 (some .int) :: T0) ({ frames := 1, cells := 0, slots := 0, locals := 22 }) (va_Pc [.ref h0, .int p0, .int p1, .int p2] (ax_W dC dI sz [(h0, .inr (7, [.ref m_tape, .int 0, .int 0, .int 0, .int 0, .int 0, .int 0, .int 0, .int (-1), .ref m_refused, .ref m_own, .int 0, .ref m_draft, .ref m_program, .ref m_goPlace, .int 0, .int 0, .ref m_isCome, .ref m_heap, .int 0, .ref m_now, .ref m_first, .ref m_second, .ref m_behind, .ref m_states, .int 0, .int 0, .int 0, .ref m_alone0, .ref m_endsBy, .ref m_kept0, .int 0, .int 0, .long 1])), (m_refused, .inl (kr, 6, .inl (fun _ => 0)))] [(kr, .int)])) (va_Qi (fun (r : Int32) (_ : Unit) => r = (-1000000)) (fun (_ : Unit) (t : State) => va_P (dC, dI) vwCl [] t.heap ∧ va_K (dC, dI) vwCl [] t ∧ va_D (va_A [(h0, .inr (7, [.ref m_tape, .int 0, .int 0, .int 0, .int 0, .int 0, .int 0, .int 0, .int (-1), .ref m_refused, .ref m_own, .int 0, .ref m_draft, .ref m_program, .ref m_goPlace, .int 0, .int 0, .ref m_isCome, .ref m_heap, .int 0, .ref m_now, .ref m_first, .ref m_second, .ref m_behind, .ref m_states, .int 0, .int 0, .int 0, .ref m_alone0, .ref m_endsBy, .ref m_kept0, .int 0, .int 0, .long 1])), (m_refused, .inl (kr, 6, .inl (fun _ => 0)))] sz) []) (va_A [(h0, .inr (7, [.ref m_tape, .int 0, .int 0, .int 0, .int 0, .int 0, .int 0, .int 0, .int (-1), .ref m_refused, .ref m_own, .int 0, .ref m_draft, .ref m_program, .ref m_goPlace, .int 0, .int 0, .ref m_isCome, .ref m_heap, .int 0, .ref m_now, .ref m_first, .ref m_second, .ref m_behind, .ref m_states, .int 0, .int 0, .int 0, .ref m_alone0, .ref m_endsBy, .ref m_kept0, .int 0, .int 0, .long 1])), (m_refused, .inl (kr, 6, .inl (fun _ => 0)))] sz)) 0 0 (va_A [(h0, .inr (7, [.ref m_tape, .int 0, .int 0, .int 0, .int 0, .int 0, .int 0, .int 0, .int (-1), .ref m_refused, .ref m_own, .int 0, .ref m_draft, .ref m_program, .ref m_goPlace, .int 0, .int 0, .ref m_isCome, .ref m_heap, .int 0, .ref m_now, .ref m_first, .ref m_second, .ref m_behind, .ref m_states, .int 0, .int 0, .int 0, .ref m_alone0, .ref m_endsBy, .ref m_kept0, .int 0, .int 0, .long 1])), (m_refused, .inl (kr, 6, .inl (fun _ => 0)))] sz) := by
  refine Met.ofW (cc := cX7_poke) (maxL := 6) (ret := (some .int)) (by decide) rfl ?_
  intro p e s m args below meth c s₁ B hml hv
  obtain ⟨rfl, hsz, hP, hK, hD0, hN⟩ := hv
  have hx := B.exec
  have hb := B.bytes
  have hr := B.returns
  have hts : ∀ w ∈ T0, w.before _ s = true := fun w h => atoms_spec (ws := Cond.code yX7_poke cX7_poke 6 (some .int) :: T0) B.pre w (List.mem_cons_of_mem _ h)
  have hown : s.vm.findClass RX7 = some m.cls := findClass_of_methodNamed B.named
  have hlocks := B.notSynchronized
  subst hsz
  have hD := hD0.self (sz := s.heap.size)
  generalize hAe : va_A [(h0, .inr (7, [.ref m_tape, .int 0, .int 0, .int 0, .int 0, .int 0, .int 0, .int 0, .int (-1), .ref m_refused, .ref m_own, .int 0, .ref m_draft, .ref m_program, .ref m_goPlace, .int 0, .int 0, .ref m_isCome, .ref m_heap, .int 0, .ref m_now, .ref m_first, .ref m_second, .ref m_behind, .ref m_states, .int 0, .int 0, .int 0, .ref m_alone0, .ref m_endsBy, .ref m_kept0, .int 0, .int 0, .long 1])), (m_refused, .inl (kr, 6, .inl (fun _ => 0)))] s.heap.size = A at hD ⊢
  have hA : ∀ q : Nat, s.heap.size ≤ q → A q := fun q h => by rw [← hAe]; exact Or.inr h
  have hS : va_S A s.heap s.heap [] := va_S.rf
  have hP : va_P (dC, dI) vwCl [(h0, .inr (7, [.ref m_tape, .int 0, .int 0, .int 0, .int 0, .int 0, .int 0, .int 0, .int (-1), .ref m_refused, .ref m_own, .int 0, .ref m_draft, .ref m_program, .ref m_goPlace, .int 0, .int 0, .ref m_isCome, .ref m_heap, .int 0, .ref m_now, .ref m_first, .ref m_second, .ref m_behind, .ref m_states, .int 0, .int 0, .int 0, .ref m_alone0, .ref m_endsBy, .ref m_kept0, .int 0, .int 0, .long 1])), (m_refused, .inl (kr, 6, .inl (fun _ => 0)))] s.heap := hP
  have hl := lv_entry ([.ref h0, .int p0, .int p1, .int p2]) (n := 6) (Nat.le_of_ble_eq_true rfl)
  rw [lg_entry_eq]
  generalize (lg_sl ([.ref h0, .int p0, .int p1, .int p2]) ++ List.replicate (6 - (lg_sl ([.ref h0, .int p0, .int p1, .int p2])).length) Slot.unset).toArray = ls at hl ⊢
  refine ax_gen hP hD hS (fun H locs hP hD hS => ?_)
  have hl : lv_has ls 6 [(0, .ref h0), (1, .int p0), (2, .int p1), (3, .int p2)] := hl
  refine lv_aload_n hx hb dX7_poke_0 rfl (lv_at hl 0 rfl) ?_
  refine lv_iload_n hx hb dX7_poke_1 rfl (lv_at hl 1 rfl) ?_
  refine lv_iload_n hx hb dX7_poke_2 rfl (lv_at hl 2 rfl) ?_
  have hPc := hP.sub (ws' := [(h0, .inr (7, [.ref m_tape, .int 0, .int 0, .int 0, .int 0, .int 0, .int 0, .int 0, .int (-1), .ref m_refused, .ref m_own, .int 0, .ref m_draft, .ref m_program, .ref m_goPlace, .int 0, .int 0, .ref m_isCome, .ref m_heap, .int 0, .ref m_now, .ref m_first, .ref m_second, .ref m_behind, .ref m_states, .int 0, .int 0, .int 0, .ref m_alone0, .ref m_endsBy, .ref m_kept0, .int 0, .int 0, .long 1]))]) [0] rfl
  have hDc := hD.sub (ws' := [(h0, .inr (7, [.ref m_tape, .int 0, .int 0, .int 0, .int 0, .int 0, .int 0, .int 0, .int (-1), .ref m_refused, .ref m_own, .int 0, .ref m_draft, .ref m_program, .ref m_goPlace, .int 0, .int 0, .ref m_isCome, .ref m_heap, .int 0, .ref m_now, .ref m_first, .ref m_second, .ref m_behind, .ref m_states, .int 0, .int 0, .int 0, .ref m_alone0, .ref m_endsBy, .ref m_kept0, .int 0, .int 0, .long 1]))]) [0] (by decide) rfl
  have hKc := hK.sub (tys' := []) [] rfl
  have hFc := va_free (wc := [(h0, .inr (7, [.ref m_tape, .int 0, .int 0, .int 0, .int 0, .int 0, .int 0, .int 0, .int (-1), .ref m_refused, .ref m_own, .int 0, .ref m_draft, .ref m_program, .ref m_goPlace, .int 0, .int 0, .ref m_isCome, .ref m_heap, .int 0, .ref m_now, .ref m_first, .ref m_second, .ref m_behind, .ref m_states, .int 0, .int 0, .int 0, .ref m_alone0, .ref m_endsBy, .ref m_kept0, .int 0, .int 0, .long 1]))]) hD hS hA [0] rfl
  refine va_calli (va_runV (As := [.int p0, .int p1]) (rest := []) ⟨hx, hb, hml, hown, hts⟩ (c_X7_wordOf l dC dI H.size h0 m_tape m_refused m_own m_draft m_program m_goPlace m_isCome m_heap m_now m_first m_second m_behind m_states m_alone0 m_endsBy m_kept0 p0 p1) (cwV 2 hts (ax_gV T_260 T_261 T_262 T_189 T_259) rfl rfl rfl (by decide +kernel) ⟨Nat.le_of_ble_eq_true rfl, Nat.le_of_ble_eq_true rfl⟩) ⟨fun a U g mk q => ⟨q.1, ax_pc rfl rfl q.2⟩, va_recv hKc hPc (ci := 7) (q0 := 0) rfl rfl, fun U hU hW => ⟨rfl, ax_pw hU hW hPc hKc hDc hN⟩⟩ rfl rfl hl.1 rfl (lv_room (Nat.le_of_ble_eq_true rfl)) dX7_poke_3 ⟨Nat.le_of_ble_eq_true rfl, Nat.le_of_ble_eq_true rfl⟩) hS (fun q _ h => hFc q h) hFc (fun r1 _ t H1 locs ht hvm hw hB hz1 hk1 hS => ?_)
  obtain ⟨hP1, hK1, hD1⟩ := hB
  rw [ht] at hP1
  have hK1 := va_K.moved hvm.symm hK1
  obtain ⟨hP, hD⟩ := va_join (wr := [(m_refused, .inl (kr, 6, .inl (fun _ => 0)))]) (w1 := [(h0, .inr (7, [.ref m_tape, .int 0, .int 0, .int 0, .int 0, .int 0, .int 0, .int 0, .int (-1), .ref m_refused, .ref m_own, .int 0, .ref m_draft, .ref m_program, .ref m_goPlace, .int 0, .int 0, .ref m_isCome, .ref m_heap, .int 0, .ref m_now, .ref m_first, .ref m_second, .ref m_behind, .ref m_states, .int 0, .int 0, .int 0, .ref m_alone0, .ref m_endsBy, .ref m_kept0, .int 0, .int 0, .long 1]))]) hP hD [0] [1] rfl rfl (by decide) (by decide) hk1 hFc hP1 hD1
  generalize H1 = H at hP hS ⊢
  have hP : va_P (dC, dI) vwCl [(m_refused, .inl (kr, 6, .inl (fun _ => 0))), (h0, .inr (7, [.ref m_tape, .int 0, .int 0, .int 0, .int 0, .int 0, .int 0, .int 0, .int (-1), .ref m_refused, .ref m_own, .int 0, .ref m_draft, .ref m_program, .ref m_goPlace, .int 0, .int 0, .ref m_isCome, .ref m_heap, .int 0, .ref m_now, .ref m_first, .ref m_second, .ref m_behind, .ref m_states, .int 0, .int 0, .int 0, .ref m_alone0, .ref m_endsBy, .ref m_kept0, .int 0, .int 0, .long 1]))] H := hP
  have hD : va_D A [(m_refused, .inl (kr, 6, .inl (fun _ => 0))), (h0, .inr (7, [.ref m_tape, .int 0, .int 0, .int 0, .int 0, .int 0, .int 0, .int 0, .int (-1), .ref m_refused, .ref m_own, .int 0, .ref m_draft, .ref m_program, .ref m_goPlace, .int 0, .int 0, .ref m_isCome, .ref m_heap, .int 0, .ref m_now, .ref m_first, .ref m_second, .ref m_behind, .ref m_states, .int 0, .int 0, .int 0, .ref m_alone0, .ref m_endsBy, .ref m_kept0, .int 0, .int 0, .long 1]))] := hD
  subst hw
  refine lv_istore (lv' := [(4, .int (-1)), (0, .ref h0), (1, .int p0), (2, .int p1), (3, .int p2)]) hx hb dX7_poke_6 hl (by decide) rfl (fun ls hl => ?_)
  refine lv_iload hx hb dX7_poke_8 (lv_at hl 0 rfl) ?_
  refine lv_iconst (v := (-1)) hx hb dX7_poke_10 (by decide) ?_
  refine lv_icmp_eq (tgt := 28) hx hb dX7_poke_11 (by decide) (fun _ => ?_) (fun c => absurd (by decide) c)
  refine lv_aload_n hx hb dX7_poke_28 rfl (lv_at hl 1 rfl) ?_
  refine lv_iconst (v := 3) hx hb dX7_poke_29 (by decide) ?_
  have hPc := hP.sub (ws' := [(h0, .inr (7, [.ref m_tape, .int 0, .int 0, .int 0, .int 0, .int 0, .int 0, .int 0, .int (-1), .ref m_refused, .ref m_own, .int 0, .ref m_draft, .ref m_program, .ref m_goPlace, .int 0, .int 0, .ref m_isCome, .ref m_heap, .int 0, .ref m_now, .ref m_first, .ref m_second, .ref m_behind, .ref m_states, .int 0, .int 0, .int 0, .ref m_alone0, .ref m_endsBy, .ref m_kept0, .int 0, .int 0, .long 1])), (m_refused, .inl (kr, 6, .inl (fun _ => 0)))]) [1, 0] rfl
  have hDc := hD.sub (ws' := [(h0, .inr (7, [.ref m_tape, .int 0, .int 0, .int 0, .int 0, .int 0, .int 0, .int 0, .int (-1), .ref m_refused, .ref m_own, .int 0, .ref m_draft, .ref m_program, .ref m_goPlace, .int 0, .int 0, .ref m_isCome, .ref m_heap, .int 0, .ref m_now, .ref m_first, .ref m_second, .ref m_behind, .ref m_states, .int 0, .int 0, .int 0, .ref m_alone0, .ref m_endsBy, .ref m_kept0, .int 0, .int 0, .long 1])), (m_refused, .inl (kr, 6, .inl (fun _ => 0)))]) [1, 0] (by decide) rfl
  have hKc := hK.sub (tys' := [(kr, .int)]) [0] rfl
  have hFc := va_free (wc := [(h0, .inr (7, [.ref m_tape, .int 0, .int 0, .int 0, .int 0, .int 0, .int 0, .int 0, .int (-1), .ref m_refused, .ref m_own, .int 0, .ref m_draft, .ref m_program, .ref m_goPlace, .int 0, .int 0, .ref m_isCome, .ref m_heap, .int 0, .ref m_now, .ref m_first, .ref m_second, .ref m_behind, .ref m_states, .int 0, .int 0, .int 0, .ref m_alone0, .ref m_endsBy, .ref m_kept0, .int 0, .int 0, .long 1])), (m_refused, .inl (kr, 6, .inl (fun _ => 0)))]) hD hS hA [1, 0] rfl
  refine va_calli (va_runV (As := [.int 3]) (rest := []) ⟨hx, hb, hml, hown, hts⟩ (c_X7_refuses l dC dI H.size h0 m_tape m_refused m_own m_draft m_program m_goPlace m_isCome m_heap m_now m_first m_second m_behind m_states m_alone0 m_endsBy m_kept0 kr (fun _ => 0) 3 (ax_in (by decide))) (cwV 1 hts (ax_gV T_247 T_248 T_249 T_189 T_246) rfl rfl rfl (by decide +kernel) ⟨Nat.le_of_ble_eq_true rfl, Nat.le_of_ble_eq_true rfl⟩) ⟨fun a U g mk q => ⟨q.1, ax_pc rfl rfl q.2⟩, va_recv hKc hPc (ci := 7) (q0 := 0) rfl rfl, fun U hU hW => ⟨rfl, ax_pw hU hW hPc hKc hDc hN⟩⟩ rfl rfl hl.1 rfl (lv_room (Nat.le_of_ble_eq_true rfl)) dX7_poke_30 ⟨Nat.le_of_ble_eq_true rfl, Nat.le_of_ble_eq_true rfl⟩) hS (fun q _ h => hFc q h) hFc (fun r2 _ t H1 locs ht hvm hw hB hz1 hk1 hS => ?_)
  obtain ⟨hP1, hK1, hD1⟩ := hB
  rw [ht] at hP1
  have hK1 := va_K.moved hvm.symm hK1
  obtain ⟨hP, hD⟩ := va_join (wr := []) (w1 := []) hP hD [1, 0] [] rfl rfl (by decide) (by decide) hk1 hFc hP1 hD1
  generalize H1 = H at hP hS ⊢
  have hP : va_P (dC, dI) vwCl [] H := hP
  have hD : va_D A [] := hD
  subst hw
  refine lv_pop hx hb dX7_poke_33 rfl ?_
  refine lv_ldc hx hb hown (hts _ T_254) dX7_poke_34 ?_
  have hP9 := hP.sub (ws' := []) [] rfl
  have hD9 := hD.sub (ws' := []) [] (by decide) rfl
  have hK9 := hK.sub (tys' := []) [] rfl
  exact W.iret (v := (-1000000)) hx hb hr (fun t ht hW => ⟨⟨(-1000000), (), rfl, rfl, by rw [ht]; exact hP9, va_K.moved hW.alike hK9, hD9⟩, hS.F ht⟩) hS.2.2 dX7_poke_36

set_option maxHeartbeats 4000000 in
set_option maxRecDepth 100000 in
theorem c_X7_seed (l : Launch) (dC : Nat → ClassId) (dI : Nat → Nat → Nat) (sz : Nat) (h0 : Nat) (m_tape : Nat) (m_refused : Nat) (m_own : Nat) (m_draft : Nat) (m_program : Nat) (m_goPlace : Nat) (m_isCome : Nat) (m_heap : Nat) (m_now : Nat) (m_first : Nat) (m_second : Nat) (m_behind : Nat) (m_states : Nat) (m_alone0 : Nat) (m_endsBy : Nat) (m_kept0 : Nat) (kr : ClassId) (p0 : Int32) : Met l yX7_seed (Cond.code yX7_seed cX7_seed 2 (some .boolean) :: T0) ({ frames := 1, cells := 0, slots := 0, locals := 21 }) (va_Pc [.ref h0, .int p0] (ax_W dC dI sz [(h0, .inr (7, [.ref m_tape, .int 0, .int 0, .int 0, .int 0, .int 0, .int 0, .int 0, .int (-1), .ref m_refused, .ref m_own, .int 0, .ref m_draft, .ref m_program, .ref m_goPlace, .int 0, .int 0, .ref m_isCome, .ref m_heap, .int 0, .ref m_now, .ref m_first, .ref m_second, .ref m_behind, .ref m_states, .int 0, .int 0, .int 0, .ref m_alone0, .ref m_endsBy, .ref m_kept0, .int 0, .int 0, .long 1])), (m_refused, .inl (kr, 6, .inl (fun _ => 0)))] [(kr, .int)])) (va_Qi (fun (r : Int32) (_ : Unit) => r = a_seed p0) (fun (_ : Unit) (t : State) => va_P (dC, dI) vwCl [] t.heap ∧ va_K (dC, dI) vwCl [] t ∧ va_D (va_A [(h0, .inr (7, [.ref m_tape, .int 0, .int 0, .int 0, .int 0, .int 0, .int 0, .int 0, .int (-1), .ref m_refused, .ref m_own, .int 0, .ref m_draft, .ref m_program, .ref m_goPlace, .int 0, .int 0, .ref m_isCome, .ref m_heap, .int 0, .ref m_now, .ref m_first, .ref m_second, .ref m_behind, .ref m_states, .int 0, .int 0, .int 0, .ref m_alone0, .ref m_endsBy, .ref m_kept0, .int 0, .int 0, .long 1])), (m_refused, .inl (kr, 6, .inl (fun _ => 0)))] sz) []) (va_A [(h0, .inr (7, [.ref m_tape, .int 0, .int 0, .int 0, .int 0, .int 0, .int 0, .int 0, .int (-1), .ref m_refused, .ref m_own, .int 0, .ref m_draft, .ref m_program, .ref m_goPlace, .int 0, .int 0, .ref m_isCome, .ref m_heap, .int 0, .ref m_now, .ref m_first, .ref m_second, .ref m_behind, .ref m_states, .int 0, .int 0, .int 0, .ref m_alone0, .ref m_endsBy, .ref m_kept0, .int 0, .int 0, .long 1])), (m_refused, .inl (kr, 6, .inl (fun _ => 0)))] sz)) 0 0 (va_A [(h0, .inr (7, [.ref m_tape, .int 0, .int 0, .int 0, .int 0, .int 0, .int 0, .int 0, .int (-1), .ref m_refused, .ref m_own, .int 0, .ref m_draft, .ref m_program, .ref m_goPlace, .int 0, .int 0, .ref m_isCome, .ref m_heap, .int 0, .ref m_now, .ref m_first, .ref m_second, .ref m_behind, .ref m_states, .int 0, .int 0, .int 0, .ref m_alone0, .ref m_endsBy, .ref m_kept0, .int 0, .int 0, .long 1])), (m_refused, .inl (kr, 6, .inl (fun _ => 0)))] sz) := by
  refine Met.ofW (cc := cX7_seed) (maxL := 2) (ret := (some .boolean)) (by decide) rfl ?_
  intro p e s m args below meth c s₁ B hml hv
  obtain ⟨rfl, hsz, hP, hK, hD0, hN⟩ := hv
  have hx := B.exec
  have hb := B.bytes
  have hr := B.returns
  have hts : ∀ w ∈ T0, w.before _ s = true := fun w h => atoms_spec (ws := Cond.code yX7_seed cX7_seed 2 (some .boolean) :: T0) B.pre w (List.mem_cons_of_mem _ h)
  have hown : s.vm.findClass RX7 = some m.cls := findClass_of_methodNamed B.named
  have hlocks := B.notSynchronized
  subst hsz
  have hD := hD0.self (sz := s.heap.size)
  generalize hAe : va_A [(h0, .inr (7, [.ref m_tape, .int 0, .int 0, .int 0, .int 0, .int 0, .int 0, .int 0, .int (-1), .ref m_refused, .ref m_own, .int 0, .ref m_draft, .ref m_program, .ref m_goPlace, .int 0, .int 0, .ref m_isCome, .ref m_heap, .int 0, .ref m_now, .ref m_first, .ref m_second, .ref m_behind, .ref m_states, .int 0, .int 0, .int 0, .ref m_alone0, .ref m_endsBy, .ref m_kept0, .int 0, .int 0, .long 1])), (m_refused, .inl (kr, 6, .inl (fun _ => 0)))] s.heap.size = A at hD ⊢
  have hA : ∀ q : Nat, s.heap.size ≤ q → A q := fun q h => by rw [← hAe]; exact Or.inr h
  have hS : va_S A s.heap s.heap [] := va_S.rf
  have hP : va_P (dC, dI) vwCl [(h0, .inr (7, [.ref m_tape, .int 0, .int 0, .int 0, .int 0, .int 0, .int 0, .int 0, .int (-1), .ref m_refused, .ref m_own, .int 0, .ref m_draft, .ref m_program, .ref m_goPlace, .int 0, .int 0, .ref m_isCome, .ref m_heap, .int 0, .ref m_now, .ref m_first, .ref m_second, .ref m_behind, .ref m_states, .int 0, .int 0, .int 0, .ref m_alone0, .ref m_endsBy, .ref m_kept0, .int 0, .int 0, .long 1])), (m_refused, .inl (kr, 6, .inl (fun _ => 0)))] s.heap := hP
  have hl := lv_entry ([.ref h0, .int p0]) (n := 2) (Nat.le_of_ble_eq_true rfl)
  rw [lg_entry_eq]
  generalize (lg_sl ([.ref h0, .int p0]) ++ List.replicate (2 - (lg_sl ([.ref h0, .int p0])).length) Slot.unset).toArray = ls at hl ⊢
  refine ax_gen hP hD hS (fun H locs hP hD hS => ?_)
  have hl : lv_has ls 2 [(0, .ref h0), (1, .int p0)] := hl
  refine lv_iload_n hx hb dX7_seed_0 rfl (lv_at hl 1 rfl) ?_
  refine lv_if_ge (tgt := 10) hx hb dX7_seed_1 (by decide) (fun c1 => ?_) (fun c1 => ?_)
  · refine lv_aload_n hx hb dX7_seed_10 rfl (lv_at hl 0 rfl) ?_
    refine lv_iload_n hx hb dX7_seed_11 rfl (lv_at hl 1 rfl) ?_
    refine lv_i2l (v := p0.toInt64) hx hb dX7_seed_12 rfl ?_
    refine va_put (D := (dC, dI)) (ci := 7) (v := .long p0.toInt64) (ty := .long) (C := RX7) (T := TX7) (N := 34) hx hb hts inX7 tyX7 tyX7_ok nmX7 hown hK hP hD hS 0 rfl rfl 33 (by decide) (hts _ T_183) (fun _ h9 => h9) rfl (by decide +kernel) rfl rfl (Nat.le_of_ble_eq_true rfl) dX7_seed_13 (fun H locs hP hD hS => ?_)
    have hP : va_P (dC, dI) vwCl [(h0, .inr (7, [.ref m_tape, .int 0, .int 0, .int 0, .int 0, .int 0, .int 0, .int 0, .int (-1), .ref m_refused, .ref m_own, .int 0, .ref m_draft, .ref m_program, .ref m_goPlace, .int 0, .int 0, .ref m_isCome, .ref m_heap, .int 0, .ref m_now, .ref m_first, .ref m_second, .ref m_behind, .ref m_states, .int 0, .int 0, .int 0, .ref m_alone0, .ref m_endsBy, .ref m_kept0, .int 0, .int 0, .long p0.toInt64])), (m_refused, .inl (kr, 6, .inl (fun _ => 0)))] H := hP
    have hD : va_D A [(h0, .inr (7, [.ref m_tape, .int 0, .int 0, .int 0, .int 0, .int 0, .int 0, .int 0, .int (-1), .ref m_refused, .ref m_own, .int 0, .ref m_draft, .ref m_program, .ref m_goPlace, .int 0, .int 0, .ref m_isCome, .ref m_heap, .int 0, .ref m_now, .ref m_first, .ref m_second, .ref m_behind, .ref m_states, .int 0, .int 0, .int 0, .ref m_alone0, .ref m_endsBy, .ref m_kept0, .int 0, .int 0, .long p0.toInt64])), (m_refused, .inl (kr, 6, .inl (fun _ => 0)))] := hD
    refine lv_iconst (v := 1) hx hb dX7_seed_16 (by decide) ?_
    have hP9 := hP.sub (ws' := []) [] rfl
    have hD9 := hD.sub (ws' := []) [] (by decide) rfl
    have hK9 := hK.sub (tys' := []) [] rfl
    exact W.zret (v := 1) (ty := .boolean) hx hb hr (by decide) (fun t ht hW => ⟨⟨1, (), rfl, (by have h_0 := (ax_ge (n := 0) (by decide)).mp c1; unfold a_seed; first | (rw [if_pos (by omega)]; done) | (rw [if_neg (by omega)]; done)), by rw [ht]; exact hP9, va_K.moved hW.alike hK9, hD9⟩, hS.F ht⟩) hS.2.2 dX7_seed_17
  · refine lv_aload_n hx hb dX7_seed_4 rfl (lv_at hl 0 rfl) ?_
    refine lv_iconst (v := 5) hx hb dX7_seed_5 (by decide) ?_
    have hPc := hP.sub (ws' := [(h0, .inr (7, [.ref m_tape, .int 0, .int 0, .int 0, .int 0, .int 0, .int 0, .int 0, .int (-1), .ref m_refused, .ref m_own, .int 0, .ref m_draft, .ref m_program, .ref m_goPlace, .int 0, .int 0, .ref m_isCome, .ref m_heap, .int 0, .ref m_now, .ref m_first, .ref m_second, .ref m_behind, .ref m_states, .int 0, .int 0, .int 0, .ref m_alone0, .ref m_endsBy, .ref m_kept0, .int 0, .int 0, .long 1])), (m_refused, .inl (kr, 6, .inl (fun _ => 0)))]) [0, 1] rfl
    have hDc := hD.sub (ws' := [(h0, .inr (7, [.ref m_tape, .int 0, .int 0, .int 0, .int 0, .int 0, .int 0, .int 0, .int (-1), .ref m_refused, .ref m_own, .int 0, .ref m_draft, .ref m_program, .ref m_goPlace, .int 0, .int 0, .ref m_isCome, .ref m_heap, .int 0, .ref m_now, .ref m_first, .ref m_second, .ref m_behind, .ref m_states, .int 0, .int 0, .int 0, .ref m_alone0, .ref m_endsBy, .ref m_kept0, .int 0, .int 0, .long 1])), (m_refused, .inl (kr, 6, .inl (fun _ => 0)))]) [0, 1] (by decide) rfl
    have hKc := hK.sub (tys' := [(kr, .int)]) [0] rfl
    have hFc := va_free (wc := [(h0, .inr (7, [.ref m_tape, .int 0, .int 0, .int 0, .int 0, .int 0, .int 0, .int 0, .int (-1), .ref m_refused, .ref m_own, .int 0, .ref m_draft, .ref m_program, .ref m_goPlace, .int 0, .int 0, .ref m_isCome, .ref m_heap, .int 0, .ref m_now, .ref m_first, .ref m_second, .ref m_behind, .ref m_states, .int 0, .int 0, .int 0, .ref m_alone0, .ref m_endsBy, .ref m_kept0, .int 0, .int 0, .long 1])), (m_refused, .inl (kr, 6, .inl (fun _ => 0)))]) hD hS hA [0, 1] rfl
    refine va_calli (va_runV (As := [.int 5]) (rest := []) ⟨hx, hb, hml, hown, hts⟩ (c_X7_isRefused l dC dI H.size h0 m_tape m_refused m_own m_draft m_program m_goPlace m_isCome m_heap m_now m_first m_second m_behind m_states m_alone0 m_endsBy m_kept0 kr (fun _ => 0) 5 (ax_in (by decide))) (cwV 1 hts (ax_gV T_186 T_187 T_188 T_189 T_185) rfl rfl rfl (by decide +kernel) ⟨Nat.le_of_ble_eq_true rfl, Nat.le_of_ble_eq_true rfl⟩) ⟨fun a U g mk q => ⟨q.1, ax_pc rfl rfl q.2⟩, va_recv hKc hPc (ci := 7) (q0 := 0) rfl rfl, fun U hU hW => ⟨rfl, ax_pw hU hW hPc hKc hDc hN⟩⟩ rfl rfl hl.1 rfl (lv_room (Nat.le_of_ble_eq_true rfl)) dX7_seed_6 ⟨Nat.le_of_ble_eq_true rfl, Nat.le_of_ble_eq_true rfl⟩) hS (fun q _ h => hFc q h) hFc (fun r2 _ t H1 locs ht hvm hw hB hz1 hk1 hS => ?_)
    obtain ⟨hP1, hK1, hD1⟩ := hB
    rw [ht] at hP1
    have hK1 := va_K.moved hvm.symm hK1
    obtain ⟨hP, hD⟩ := va_join (wr := []) (w1 := []) hP hD [0, 1] [] rfl rfl (by decide) (by decide) hk1 hFc hP1 hD1
    generalize H1 = H at hP hS ⊢
    have hP : va_P (dC, dI) vwCl [] H := hP
    have hD : va_D A [] := hD
    subst hw
    have hP9 := hP.sub (ws' := []) [] rfl
    have hD9 := hD.sub (ws' := []) [] (by decide) rfl
    have hK9 := hK.sub (tys' := []) [] rfl
    exact W.zret (v := 0) (ty := .boolean) hx hb hr (by decide) (fun t ht hW => ⟨⟨0, (), rfl, (by have h_0 := mt (ax_ge (n := 0) (by decide)).mpr c1; unfold a_seed; first | (rw [if_pos (by omega)]; done) | (rw [if_neg (by omega)]; done)), by rw [ht]; exact hP9, va_K.moved hW.alike hK9, hD9⟩, hS.F ht⟩) hS.2.2 dX7_seed_9

