set_option maxHeartbeats 4000000 in
set_option maxRecDepth 100000 in
theorem c_X7_end (l : Launch) (dC : Nat → ClassId) (dI : Nat → Nat → Nat) (sz : Nat) (h0 : Nat) (m_tape : Nat) (m_refused : Nat) (m_own : Nat) (m_draft : Nat) (m_program : Nat) (m_goPlace : Nat) (m_isCome : Nat) (m_heap : Nat) (m_now : Nat) (m_first : Nat) (m_second : Nat) (m_behind : Nat) (m_states : Nat) (m_alone0 : Nat) (m_endsBy : Nat) (m_kept0 : Nat) (kr : ClassId) (p0 : Int32) : Met l yX7_end (Cond.code yX7_end cX7_end 2 (some .boolean) :: T0) ({ frames := 1, cells := 0, slots := 0, locals := 21 }) (va_Pc [.ref h0, .int p0] (ax_W dC dI sz [(h0, .inr (7, [.ref m_tape, .int 0, .int 0, .int 0, .int 0, .int 0, .int 0, .int 0, .int (-1), .ref m_refused, .ref m_own, .int 0, .ref m_draft, .ref m_program, .ref m_goPlace, .int 0, .int 0, .ref m_isCome, .ref m_heap, .int 0, .ref m_now, .ref m_first, .ref m_second, .ref m_behind, .ref m_states, .int 0, .int 0, .int 0, .ref m_alone0, .ref m_endsBy, .ref m_kept0, .int 0, .int 0, .long 1])), (m_refused, .inl (kr, 6, .inl (fun _ => 0)))] [(kr, .int)])) (va_Qi (fun (r : Int32) (_ : Unit) => r = a_end p0) (fun (_ : Unit) (t : State) => va_P (dC, dI) vwCl [] t.heap ∧ va_K (dC, dI) vwCl [] t ∧ va_D (va_A [(h0, .inr (7, [.ref m_tape, .int 0, .int 0, .int 0, .int 0, .int 0, .int 0, .int 0, .int (-1), .ref m_refused, .ref m_own, .int 0, .ref m_draft, .ref m_program, .ref m_goPlace, .int 0, .int 0, .ref m_isCome, .ref m_heap, .int 0, .ref m_now, .ref m_first, .ref m_second, .ref m_behind, .ref m_states, .int 0, .int 0, .int 0, .ref m_alone0, .ref m_endsBy, .ref m_kept0, .int 0, .int 0, .long 1])), (m_refused, .inl (kr, 6, .inl (fun _ => 0)))] sz) []) (va_A [(h0, .inr (7, [.ref m_tape, .int 0, .int 0, .int 0, .int 0, .int 0, .int 0, .int 0, .int (-1), .ref m_refused, .ref m_own, .int 0, .ref m_draft, .ref m_program, .ref m_goPlace, .int 0, .int 0, .ref m_isCome, .ref m_heap, .int 0, .ref m_now, .ref m_first, .ref m_second, .ref m_behind, .ref m_states, .int 0, .int 0, .int 0, .ref m_alone0, .ref m_endsBy, .ref m_kept0, .int 0, .int 0, .long 1])), (m_refused, .inl (kr, 6, .inl (fun _ => 0)))] sz)) 0 0 (va_A [(h0, .inr (7, [.ref m_tape, .int 0, .int 0, .int 0, .int 0, .int 0, .int 0, .int 0, .int (-1), .ref m_refused, .ref m_own, .int 0, .ref m_draft, .ref m_program, .ref m_goPlace, .int 0, .int 0, .ref m_isCome, .ref m_heap, .int 0, .ref m_now, .ref m_first, .ref m_second, .ref m_behind, .ref m_states, .int 0, .int 0, .int 0, .ref m_alone0, .ref m_endsBy, .ref m_kept0, .int 0, .int 0, .long 1])), (m_refused, .inl (kr, 6, .inl (fun _ => 0)))] sz) := by
  refine Met.ofW (cc := cX7_end) (maxL := 2) (ret := (some .boolean)) (by decide) rfl ?_
  intro p e s m args below meth c s₁ B hml hv
  obtain ⟨rfl, hsz, hP, hK, hD0, hN⟩ := hv
  have hx := B.exec
  have hb := B.bytes
  have hr := B.returns
  have hts : ∀ w ∈ T0, w.before _ s = true := fun w h => atoms_spec (ws := Cond.code yX7_end cX7_end 2 (some .boolean) :: T0) B.pre w (List.mem_cons_of_mem _ h)
  have hown : s.vm.findClass RX7 = some m.cls := findClass_of_methodNamed B.named
  have hlocks := B.notSynchronized
  subst hsz
  have hD := hD0.self (sz := s.heap.size)
  generalize hAe : va_A [(h0, .inr (7, [.ref m_tape, .int 0, .int 0, .int 0, .int 0, .int 0, .int 0, .int 0, .int (-1), .ref m_refused, .ref m_own, .int 0, .ref m_draft, .ref m_program, .ref m_goPlace, .int 0, .int 0, .ref m_isCome, .ref m_heap, .int 0, .ref m_now, .ref m_first, .ref m_second, .ref m_behind, .ref m_states, .int 0, .int 0, .int 0, .ref m_alone0, .ref m_endsBy, .ref m_kept0, .int 0, .int 0, .long 1])), (m_refused, .inl (kr, 6, .inl (fun _ => 0)))] s.heap.size = A at hD ⊢
  have hA : ∀ q : Nat, s.heap.size ≤ q → A q := fun q h => by rw [← hAe]; exact Or.inr h
  have hS : va_S A s.heap s.heap [] := va_S.rf
  have hP : va_P (dC, dI) vwCl [(h0, .inr (7, [.ref m_tape, .int 0, .int 0, .int 0, .int 0, .int 0, .int 0, .int 0, .int (-1), .ref m_refused, .ref m_own, .int 0, .ref m_draft, .ref m_program, .ref m_goPlace, .int 0, .int 0, .ref m_isCome, .ref m_heap, .int 0, .ref m_now, .ref m_first, .ref m_second, .ref m_behind, .ref m_states, .int 0, .int 0, .int 0, .ref m_alone0, .ref m_endsBy, .ref m_kept0, .int 0, .int 0, .long 1])), (m_refused, .inl (kr, 6, .inl (fun _ => 0)))] s.heap := hP
  have hl := lv_entry ([.ref h0, .int p0]) (n := 2) (Nat.le_of_ble_eq_true rfl)
  rw [lg_entry_eq]
  generalize (lg_sl ([.ref h0, .int p0]) ++ List.replicate (2 - (lg_sl ([.ref h0, .int p0])).length) Slot.unset).toArray = ls at hl ⊢
  refine ax_gen hP hD hS (fun H locs hP hD hS => ?_)
  have hl : lv_has ls 2 [(0, .ref h0), (1, .int p0)] := hl
  refine lv_iload_n hx hb dX7_end_0 rfl (lv_at hl 1 rfl) ?_
  refine lv_if_lt (tgt := 12) hx hb dX7_end_1 (by decide) (fun c1 => ?_) (fun c1 => ?_)
  · refine lv_aload_n hx hb dX7_end_12 rfl (lv_at hl 0 rfl) ?_
    refine lv_iconst (v := 0) hx hb dX7_end_13 (by decide) ?_
    have hPc := hP.sub (ws' := [(h0, .inr (7, [.ref m_tape, .int 0, .int 0, .int 0, .int 0, .int 0, .int 0, .int 0, .int (-1), .ref m_refused, .ref m_own, .int 0, .ref m_draft, .ref m_program, .ref m_goPlace, .int 0, .int 0, .ref m_isCome, .ref m_heap, .int 0, .ref m_now, .ref m_first, .ref m_second, .ref m_behind, .ref m_states, .int 0, .int 0, .int 0, .ref m_alone0, .ref m_endsBy, .ref m_kept0, .int 0, .int 0, .long 1])), (m_refused, .inl (kr, 6, .inl (fun _ => 0)))]) [0, 1] rfl
    have hDc := hD.sub (ws' := [(h0, .inr (7, [.ref m_tape, .int 0, .int 0, .int 0, .int 0, .int 0, .int 0, .int 0, .int (-1), .ref m_refused, .ref m_own, .int 0, .ref m_draft, .ref m_program, .ref m_goPlace, .int 0, .int 0, .ref m_isCome, .ref m_heap, .int 0, .ref m_now, .ref m_first, .ref m_second, .ref m_behind, .ref m_states, .int 0, .int 0, .int 0, .ref m_alone0, .ref m_endsBy, .ref m_kept0, .int 0, .int 0, .long 1])), (m_refused, .inl (kr, 6, .inl (fun _ => 0)))]) [0, 1] (by decide) rfl
    have hKc := hK.sub (tys' := [(kr, .int)]) [0] rfl
    have hFc := va_free (wc := [(h0, .inr (7, [.ref m_tape, .int 0, .int 0, .int 0, .int 0, .int 0, .int 0, .int 0, .int (-1), .ref m_refused, .ref m_own, .int 0, .ref m_draft, .ref m_program, .ref m_goPlace, .int 0, .int 0, .ref m_isCome, .ref m_heap, .int 0, .ref m_now, .ref m_first, .ref m_second, .ref m_behind, .ref m_states, .int 0, .int 0, .int 0, .ref m_alone0, .ref m_endsBy, .ref m_kept0, .int 0, .int 0, .long 1])), (m_refused, .inl (kr, 6, .inl (fun _ => 0)))]) hD hS hA [0, 1] rfl
    refine va_calli (va_runV (As := [.int 0]) (rest := []) ⟨hx, hb, hml, hown, hts⟩ (c_X7_isRefused l dC dI H.size h0 m_tape m_refused m_own m_draft m_program m_goPlace m_isCome m_heap m_now m_first m_second m_behind m_states m_alone0 m_endsBy m_kept0 kr (fun _ => 0) 0 (ax_in (by decide))) (cwV 1 hts (ax_gV T_186 T_187 T_188 T_189 T_185) rfl rfl rfl (by decide +kernel) ⟨Nat.le_of_ble_eq_true rfl, Nat.le_of_ble_eq_true rfl⟩) ⟨fun a U g mk q => ⟨q.1, ax_pc rfl rfl q.2⟩, va_recv hKc hPc (ci := 7) (q0 := 0) rfl rfl, fun U hU hW => ⟨rfl, ax_pw hU hW hPc hKc hDc hN⟩⟩ rfl rfl hl.1 rfl (lv_room (Nat.le_of_ble_eq_true rfl)) dX7_end_14 ⟨Nat.le_of_ble_eq_true rfl, Nat.le_of_ble_eq_true rfl⟩) hS (fun q _ h => hFc q h) hFc (fun r2 _ t H1 locs ht hvm hw hB hz1 hk1 hS => ?_)
    obtain ⟨hP1, hK1, hD1⟩ := hB
    rw [ht] at hP1
    have hK1 := va_K.moved hvm.symm hK1
    obtain ⟨hP, hD⟩ := va_join (wr := []) (w1 := []) hP hD [0, 1] [] rfl rfl (by decide) (by decide) hk1 hFc hP1 hD1
    generalize H1 = H at hP hS ⊢
    have hP : va_P (dC, dI) vwCl [] H := hP
    have hD : va_D A [] := hD
    subst hw
    have hP9 := hP.sub (ws' := []) [] rfl
    have hD9 := hD.sub (ws' := []) [] (by decide) rfl
    have hK9 := hK.sub (tys' := []) [] rfl
    exact W.zret (v := 0) (ty := .boolean) hx hb hr (by decide) (fun t ht hW => ⟨⟨0, (), rfl, (by have h_0 := (ax_lt (n := 0) (by decide)).mp c1; unfold a_end; first | (rw [if_pos (by omega)]; done) | (rw [if_neg (by omega)]; done)), by rw [ht]; exact hP9, va_K.moved hW.alike hK9, hD9⟩, hS.F ht⟩) hS.2.2 dX7_end_17
  · refine lv_iload_n hx hb dX7_end_4 rfl (lv_at hl 1 rfl) ?_
    refine lv_aload_n hx hb dX7_end_5 rfl (lv_at hl 0 rfl) ?_
    refine va_get (D := (dC, dI)) (ci := 7) (v := .int 0) (C := RX7) (T := TX7) (N := 34) hx hb hts inX7 hown hK hP 0 rfl rfl 1 (by decide) (hts _ T_184) (fun _ h9 => h9) rfl dX7_end_6 ?_
    refine lv_icmp_le (tgt := 18) hx hb dX7_end_9 (by decide) (fun c3 => ?_) (fun c3 => ?_)
    · refine lv_aload_n hx hb dX7_end_18 rfl (lv_at hl 0 rfl) ?_
      refine lv_iload_n hx hb dX7_end_19 rfl (lv_at hl 1 rfl) ?_
      refine va_put (D := (dC, dI)) (ci := 7) (v := .int p0) (ty := .int) (C := RX7) (T := TX7) (N := 34) hx hb hts inX7 tyX7 tyX7_ok nmX7 hown hK hP hD hS 0 rfl rfl 1 (by decide) (hts _ T_184) (fun _ h9 => h9) rfl (by decide +kernel) rfl rfl (Nat.le_of_ble_eq_true rfl) dX7_end_20 (fun H locs hP hD hS => ?_)
      have hP : va_P (dC, dI) vwCl [(h0, .inr (7, [.ref m_tape, .int p0, .int 0, .int 0, .int 0, .int 0, .int 0, .int 0, .int (-1), .ref m_refused, .ref m_own, .int 0, .ref m_draft, .ref m_program, .ref m_goPlace, .int 0, .int 0, .ref m_isCome, .ref m_heap, .int 0, .ref m_now, .ref m_first, .ref m_second, .ref m_behind, .ref m_states, .int 0, .int 0, .int 0, .ref m_alone0, .ref m_endsBy, .ref m_kept0, .int 0, .int 0, .long 1])), (m_refused, .inl (kr, 6, .inl (fun _ => 0)))] H := hP
      have hD : va_D A [(h0, .inr (7, [.ref m_tape, .int p0, .int 0, .int 0, .int 0, .int 0, .int 0, .int 0, .int (-1), .ref m_refused, .ref m_own, .int 0, .ref m_draft, .ref m_program, .ref m_goPlace, .int 0, .int 0, .ref m_isCome, .ref m_heap, .int 0, .ref m_now, .ref m_first, .ref m_second, .ref m_behind, .ref m_states, .int 0, .int 0, .int 0, .ref m_alone0, .ref m_endsBy, .ref m_kept0, .int 0, .int 0, .long 1])), (m_refused, .inl (kr, 6, .inl (fun _ => 0)))] := hD
      refine lv_iconst (v := 1) hx hb dX7_end_23 (by decide) ?_
      have hP9 := hP.sub (ws' := []) [] rfl
      have hD9 := hD.sub (ws' := []) [] (by decide) rfl
      have hK9 := hK.sub (tys' := []) [] rfl
      exact W.zret (v := 1) (ty := .boolean) hx hb hr (by decide) (fun t ht hW => ⟨⟨1, (), rfl, (by have h_0 := mt (ax_lt (n := 0) (by decide)).mpr c1; have h_1 := (ax_le (n := 0) (by decide)).mp c3; unfold a_end; first | (rw [if_pos (by omega)]; done) | (rw [if_neg (by omega)]; done)), by rw [ht]; exact hP9, va_K.moved hW.alike hK9, hD9⟩, hS.F ht⟩) hS.2.2 dX7_end_24
    · refine lv_aload_n hx hb dX7_end_12 rfl (lv_at hl 0 rfl) ?_
      refine lv_iconst (v := 0) hx hb dX7_end_13 (by decide) ?_
      have hPc := hP.sub (ws' := [(h0, .inr (7, [.ref m_tape, .int 0, .int 0, .int 0, .int 0, .int 0, .int 0, .int 0, .int (-1), .ref m_refused, .ref m_own, .int 0, .ref m_draft, .ref m_program, .ref m_goPlace, .int 0, .int 0, .ref m_isCome, .ref m_heap, .int 0, .ref m_now, .ref m_first, .ref m_second, .ref m_behind, .ref m_states, .int 0, .int 0, .int 0, .ref m_alone0, .ref m_endsBy, .ref m_kept0, .int 0, .int 0, .long 1])), (m_refused, .inl (kr, 6, .inl (fun _ => 0)))]) [0, 1] rfl
      have hDc := hD.sub (ws' := [(h0, .inr (7, [.ref m_tape, .int 0, .int 0, .int 0, .int 0, .int 0, .int 0, .int 0, .int (-1), .ref m_refused, .ref m_own, .int 0, .ref m_draft, .ref m_program, .ref m_goPlace, .int 0, .int 0, .ref m_isCome, .ref m_heap, .int 0, .ref m_now, .ref m_first, .ref m_second, .ref m_behind, .ref m_states, .int 0, .int 0, .int 0, .ref m_alone0, .ref m_endsBy, .ref m_kept0, .int 0, .int 0, .long 1])), (m_refused, .inl (kr, 6, .inl (fun _ => 0)))]) [0, 1] (by decide) rfl
      have hKc := hK.sub (tys' := [(kr, .int)]) [0] rfl
      have hFc := va_free (wc := [(h0, .inr (7, [.ref m_tape, .int 0, .int 0, .int 0, .int 0, .int 0, .int 0, .int 0, .int (-1), .ref m_refused, .ref m_own, .int 0, .ref m_draft, .ref m_program, .ref m_goPlace, .int 0, .int 0, .ref m_isCome, .ref m_heap, .int 0, .ref m_now, .ref m_first, .ref m_second, .ref m_behind, .ref m_states, .int 0, .int 0, .int 0, .ref m_alone0, .ref m_endsBy, .ref m_kept0, .int 0, .int 0, .long 1])), (m_refused, .inl (kr, 6, .inl (fun _ => 0)))]) hD hS hA [0, 1] rfl
      refine va_calli (va_runV (As := [.int 0]) (rest := []) ⟨hx, hb, hml, hown, hts⟩ (c_X7_isRefused l dC dI H.size h0 m_tape m_refused m_own m_draft m_program m_goPlace m_isCome m_heap m_now m_first m_second m_behind m_states m_alone0 m_endsBy m_kept0 kr (fun _ => 0) 0 (ax_in (by decide))) (cwV 1 hts (ax_gV T_186 T_187 T_188 T_189 T_185) rfl rfl rfl (by decide +kernel) ⟨Nat.le_of_ble_eq_true rfl, Nat.le_of_ble_eq_true rfl⟩) ⟨fun a U g mk q => ⟨q.1, ax_pc rfl rfl q.2⟩, va_recv hKc hPc (ci := 7) (q0 := 0) rfl rfl, fun U hU hW => ⟨rfl, ax_pw hU hW hPc hKc hDc hN⟩⟩ rfl rfl hl.1 rfl (lv_room (Nat.le_of_ble_eq_true rfl)) dX7_end_14 ⟨Nat.le_of_ble_eq_true rfl, Nat.le_of_ble_eq_true rfl⟩) hS (fun q _ h => hFc q h) hFc (fun r4 _ t H1 locs ht hvm hw hB hz1 hk1 hS => ?_)
      obtain ⟨hP1, hK1, hD1⟩ := hB
      rw [ht] at hP1
      have hK1 := va_K.moved hvm.symm hK1
      obtain ⟨hP, hD⟩ := va_join (wr := []) (w1 := []) hP hD [0, 1] [] rfl rfl (by decide) (by decide) hk1 hFc hP1 hD1
      generalize H1 = H at hP hS ⊢
      have hP : va_P (dC, dI) vwCl [] H := hP
      have hD : va_D A [] := hD
      subst hw
      have hP9 := hP.sub (ws' := []) [] rfl
      have hD9 := hD.sub (ws' := []) [] (by decide) rfl
      have hK9 := hK.sub (tys' := []) [] rfl
      exact W.zret (v := 0) (ty := .boolean) hx hb hr (by decide) (fun t ht hW => ⟨⟨0, (), rfl, (by have h_0 := mt (ax_lt (n := 0) (by decide)).mpr c1; have h_1 := mt (ax_le (n := 0) (by decide)).mpr c3; unfold a_end; first | (rw [if_pos (by omega)]; done) | (rw [if_neg (by omega)]; done)), by rw [ht]; exact hP9, va_K.moved hW.alike hK9, hD9⟩, hS.F ht⟩) hS.2.2 dX7_end_17

set_option maxHeartbeats 4000000 in
set_option maxRecDepth 100000 in
theorem c_X7_status (l : Launch) (dC : Nat → ClassId) (dI : Nat → Nat → Nat) (sz : Nat) (h0 : Nat) (m_tape : Nat) (m_refused : Nat) (m_own : Nat) (m_draft : Nat) (m_program : Nat) (m_goPlace : Nat) (m_isCome : Nat) (m_heap : Nat) (m_now : Nat) (m_first : Nat) (m_second : Nat) (m_behind : Nat) (m_states : Nat) (m_alone0 : Nat) (m_endsBy : Nat) (m_kept0 : Nat) (kr : ClassId) (p0 : Int32) : Met l yX7_status (Cond.code yX7_status cX7_status 2 (some .int) :: T0) ({ frames := 1, cells := 0, slots := 0, locals := 25 }) (va_Pc [.ref h0, .int p0] (ax_W dC dI sz [(h0, .inr (7, [.ref m_tape, .int 0, .int 0, .int 0, .int 0, .int 0, .int 0, .int 0, .int (-1), .ref m_refused, .ref m_own, .int 0, .ref m_draft, .ref m_program, .ref m_goPlace, .int 0, .int 0, .ref m_isCome, .ref m_heap, .int 0, .ref m_now, .ref m_first, .ref m_second, .ref m_behind, .ref m_states, .int 0, .int 0, .int 0, .ref m_alone0, .ref m_endsBy, .ref m_kept0, .int 0, .int 0, .long 1])), (m_refused, .inl (kr, 6, .inl (fun _ => 0)))] [(kr, .int)])) (va_Qi (fun (r : Int32) (_ : Unit) => r = a_status p0) (fun (_ : Unit) (t : State) => va_P (dC, dI) vwCl [] t.heap ∧ va_K (dC, dI) vwCl [] t ∧ va_D (va_A [(h0, .inr (7, [.ref m_tape, .int 0, .int 0, .int 0, .int 0, .int 0, .int 0, .int 0, .int (-1), .ref m_refused, .ref m_own, .int 0, .ref m_draft, .ref m_program, .ref m_goPlace, .int 0, .int 0, .ref m_isCome, .ref m_heap, .int 0, .ref m_now, .ref m_first, .ref m_second, .ref m_behind, .ref m_states, .int 0, .int 0, .int 0, .ref m_alone0, .ref m_endsBy, .ref m_kept0, .int 0, .int 0, .long 1])), (m_refused, .inl (kr, 6, .inl (fun _ => 0)))] sz) []) (va_A [(h0, .inr (7, [.ref m_tape, .int 0, .int 0, .int 0, .int 0, .int 0, .int 0, .int 0, .int (-1), .ref m_refused, .ref m_own, .int 0, .ref m_draft, .ref m_program, .ref m_goPlace, .int 0, .int 0, .ref m_isCome, .ref m_heap, .int 0, .ref m_now, .ref m_first, .ref m_second, .ref m_behind, .ref m_states, .int 0, .int 0, .int 0, .ref m_alone0, .ref m_endsBy, .ref m_kept0, .int 0, .int 0, .long 1])), (m_refused, .inl (kr, 6, .inl (fun _ => 0)))] sz)) 0 0 (va_A [(h0, .inr (7, [.ref m_tape, .int 0, .int 0, .int 0, .int 0, .int 0, .int 0, .int 0, .int (-1), .ref m_refused, .ref m_own, .int 0, .ref m_draft, .ref m_program, .ref m_goPlace, .int 0, .int 0, .ref m_isCome, .ref m_heap, .int 0, .ref m_now, .ref m_first, .ref m_second, .ref m_behind, .ref m_states, .int 0, .int 0, .int 0, .ref m_alone0, .ref m_endsBy, .ref m_kept0, .int 0, .int 0, .long 1])), (m_refused, .inl (kr, 6, .inl (fun _ => 0)))] sz) := by
  refine Met.ofW (cc := cX7_status) (maxL := 2) (ret := (some .int)) (by decide) rfl ?_
  intro p e s m args below meth c s₁ B hml hv
  obtain ⟨rfl, hsz, hP, hK, hD0, hN⟩ := hv
  have hx := B.exec
  have hb := B.bytes
  have hr := B.returns
  have hts : ∀ w ∈ T0, w.before _ s = true := fun w h => atoms_spec (ws := Cond.code yX7_status cX7_status 2 (some .int) :: T0) B.pre w (List.mem_cons_of_mem _ h)
  have hown : s.vm.findClass RX7 = some m.cls := findClass_of_methodNamed B.named
  have hlocks := B.notSynchronized
  subst hsz
  have hD := hD0.self (sz := s.heap.size)
  generalize hAe : va_A [(h0, .inr (7, [.ref m_tape, .int 0, .int 0, .int 0, .int 0, .int 0, .int 0, .int 0, .int (-1), .ref m_refused, .ref m_own, .int 0, .ref m_draft, .ref m_program, .ref m_goPlace, .int 0, .int 0, .ref m_isCome, .ref m_heap, .int 0, .ref m_now, .ref m_first, .ref m_second, .ref m_behind, .ref m_states, .int 0, .int 0, .int 0, .ref m_alone0, .ref m_endsBy, .ref m_kept0, .int 0, .int 0, .long 1])), (m_refused, .inl (kr, 6, .inl (fun _ => 0)))] s.heap.size = A at hD ⊢
  have hA : ∀ q : Nat, s.heap.size ≤ q → A q := fun q h => by rw [← hAe]; exact Or.inr h
  have hS : va_S A s.heap s.heap [] := va_S.rf
  have hP : va_P (dC, dI) vwCl [(h0, .inr (7, [.ref m_tape, .int 0, .int 0, .int 0, .int 0, .int 0, .int 0, .int 0, .int (-1), .ref m_refused, .ref m_own, .int 0, .ref m_draft, .ref m_program, .ref m_goPlace, .int 0, .int 0, .ref m_isCome, .ref m_heap, .int 0, .ref m_now, .ref m_first, .ref m_second, .ref m_behind, .ref m_states, .int 0, .int 0, .int 0, .ref m_alone0, .ref m_endsBy, .ref m_kept0, .int 0, .int 0, .long 1])), (m_refused, .inl (kr, 6, .inl (fun _ => 0)))] s.heap := hP
  have hl := lv_entry ([.ref h0, .int p0]) (n := 2) (Nat.le_of_ble_eq_true rfl)
  rw [lg_entry_eq]
  generalize (lg_sl ([.ref h0, .int p0]) ++ List.replicate (2 - (lg_sl ([.ref h0, .int p0])).length) Slot.unset).toArray = ls at hl ⊢
  refine ax_gen hP hD hS (fun H locs hP hD hS => ?_)
  have hl : lv_has ls 2 [(0, .ref h0), (1, .int p0)] := hl
  refine lv_iload_n hx hb dX7_status_0 rfl (lv_at hl 1 rfl) ?_
  refine lv_i2l (v := p0.toInt64) hx hb dX7_status_1 rfl ?_
  refine lv_lconst (v := 0) hx hb dX7_status_2 (by decide) ?_
  refine lv_ldc2 hx hb hown (hts _ T_190) dX7_status_3 ?_
  have hPc := hP.sub (ws' := []) [] rfl
  have hDc := hD.sub (ws' := []) [] (by decide) rfl
  have hKc := hK.sub (tys' := []) [] rfl
  have hFc := va_free (wc := []) hD hS hA [] rfl
  refine va_calli (va_runS (As := [.long p0.toInt64, .long 0, .long 5]) (rest := []) ⟨hx, hb, hml, hown, hts⟩ (c_X7_isIn l dC dI H.size (p0.toInt64) 0 5) (cwS 3 hts (ax_gS T_192 T_193 T_189 T_191) rfl rfl rfl (by decide +kernel) ⟨Nat.le_of_ble_eq_true rfl, Nat.le_of_ble_eq_true rfl⟩) ⟨fun a U g mk q => ⟨q.1, ax_pc rfl rfl q.2⟩, fun U hU hW => ⟨rfl, ax_pw hU hW hPc hKc hDc hN⟩⟩ rfl rfl hl.1 rfl (lv_room (Nat.le_of_ble_eq_true rfl)) dX7_status_6 ⟨Nat.le_of_ble_eq_true rfl, Nat.le_of_ble_eq_true rfl⟩) hS (fun q _ h => hFc q h) hFc (fun r1 _ t H1 locs ht hvm hw hB hz1 hk1 hS => ?_)
  obtain ⟨hP1, hK1, hD1⟩ := hB
  rw [ht] at hP1
  have hK1 := va_K.moved hvm.symm hK1
  obtain ⟨hP, hD⟩ := va_join (wr := [(h0, .inr (7, [.ref m_tape, .int 0, .int 0, .int 0, .int 0, .int 0, .int 0, .int 0, .int (-1), .ref m_refused, .ref m_own, .int 0, .ref m_draft, .ref m_program, .ref m_goPlace, .int 0, .int 0, .ref m_isCome, .ref m_heap, .int 0, .ref m_now, .ref m_first, .ref m_second, .ref m_behind, .ref m_states, .int 0, .int 0, .int 0, .ref m_alone0, .ref m_endsBy, .ref m_kept0, .int 0, .int 0, .long 1])), (m_refused, .inl (kr, 6, .inl (fun _ => 0)))]) (w1 := []) hP hD [] [0, 1] rfl rfl (by decide) (by decide) hk1 hFc hP1 hD1
  generalize H1 = H at hP hS ⊢
  have hP : va_P (dC, dI) vwCl [(h0, .inr (7, [.ref m_tape, .int 0, .int 0, .int 0, .int 0, .int 0, .int 0, .int 0, .int (-1), .ref m_refused, .ref m_own, .int 0, .ref m_draft, .ref m_program, .ref m_goPlace, .int 0, .int 0, .ref m_isCome, .ref m_heap, .int 0, .ref m_now, .ref m_first, .ref m_second, .ref m_behind, .ref m_states, .int 0, .int 0, .int 0, .ref m_alone0, .ref m_endsBy, .ref m_kept0, .int 0, .int 0, .long 1])), (m_refused, .inl (kr, 6, .inl (fun _ => 0)))] H := hP
  have hD : va_D A [(h0, .inr (7, [.ref m_tape, .int 0, .int 0, .int 0, .int 0, .int 0, .int 0, .int 0, .int (-1), .ref m_refused, .ref m_own, .int 0, .ref m_draft, .ref m_program, .ref m_goPlace, .int 0, .int 0, .ref m_isCome, .ref m_heap, .int 0, .ref m_now, .ref m_first, .ref m_second, .ref m_behind, .ref m_states, .int 0, .int 0, .int 0, .ref m_alone0, .ref m_endsBy, .ref m_kept0, .int 0, .int 0, .long 1])), (m_refused, .inl (kr, 6, .inl (fun _ => 0)))] := hD
  have er1 : r1 = a_isIn (p0.toInt64) 0 5 := hw
  refine lv_if_eq (tgt := 21) hx hb dX7_status_9 (by decide) (fun c2 => ?_) (fun c2 => ?_)
  · refine lv_iconst (v := (-1)) hx hb dX7_status_21 (by decide) ?_
    have hP9 := hP.sub (ws' := []) [] rfl
    have hD9 := hD.sub (ws' := []) [] (by decide) rfl
    have hK9 := hK.sub (tys' := []) [] rfl
    exact W.iret (v := (-1)) hx hb hr (fun t ht hW => ⟨⟨(-1), (), rfl, (by have h_0 := (ax_isIn (m := 0) (n := 5) (by decide) (by decide) er1).mp c2; unfold a_status; first | (rw [if_pos (by omega)]; done) | (rw [if_neg (by omega)]; done)), by rw [ht]; exact hP9, va_K.moved hW.alike hK9, hD9⟩, hS.F ht⟩) hS.2.2 dX7_status_22
  · refine lv_aload_n hx hb dX7_status_12 rfl (lv_at hl 0 rfl) ?_
    refine va_get (D := (dC, dI)) (ci := 7) (v := .ref m_refused) (C := RX7) (T := TX7) (N := 34) hx hb hts inX7 hown hK hP 0 rfl rfl 9 (by decide) (hts _ T_165) (fun _ h9 => h9) rfl dX7_status_13 ?_
    refine lv_iload_n hx hb dX7_status_16 rfl (lv_at hl 1 rfl) ?_
    refine va_iald hx hb hK hP 1 0 rfl rfl (by have h_0 := mt (ax_isIn (m := 0) (n := 5) (by decide) (by decide) er1).mpr c2; exact vp_in_iff.mpr ⟨by omega, by omega⟩) dX7_status_17 ?_
    refine ax_eqi (y := 0) rfl ?_
    refine lv_goto (tgt := 22) hx hb dX7_status_18 (by decide) ?_
    have hP9 := hP.sub (ws' := []) [] rfl
    have hD9 := hD.sub (ws' := []) [] (by decide) rfl
    have hK9 := hK.sub (tys' := []) [] rfl
    exact W.iret (v := 0) hx hb hr (fun t ht hW => ⟨⟨0, (), rfl, (by have h_0 := mt (ax_isIn (m := 0) (n := 5) (by decide) (by decide) er1).mpr c2; unfold a_status; first | (rw [if_pos (by omega)]; done) | (rw [if_neg (by omega)]; done)), by rw [ht]; exact hP9, va_K.moved hW.alike hK9, hD9⟩, hS.F ht⟩) hS.2.2 dX7_status_22

set_option maxHeartbeats 4000000 in
set_option maxRecDepth 100000 in
theorem c_X7_fault (l : Launch) (dC : Nat → ClassId) (dI : Nat → Nat → Nat) (sz : Nat) (h0 : Nat) (m_tape : Nat) (m_refused : Nat) (m_own : Nat) (m_draft : Nat) (m_program : Nat) (m_goPlace : Nat) (m_isCome : Nat) (m_heap : Nat) (m_now : Nat) (m_first : Nat) (m_second : Nat) (m_behind : Nat) (m_states : Nat) (m_alone0 : Nat) (m_endsBy : Nat) (m_kept0 : Nat) (p0 : Int32) : Met l yX7_fault (Cond.code yX7_fault cX7_fault 2 (some .int) :: T0) ({ frames := 0, cells := 0, slots := 0, locals := 0 }) (va_Pc [.ref h0, .int p0] (ax_W dC dI sz [(h0, .inr (7, [.ref m_tape, .int 0, .int 0, .int 0, .int 0, .int 0, .int 0, .int 0, .int (-1), .ref m_refused, .ref m_own, .int 0, .ref m_draft, .ref m_program, .ref m_goPlace, .int 0, .int 0, .ref m_isCome, .ref m_heap, .int 0, .ref m_now, .ref m_first, .ref m_second, .ref m_behind, .ref m_states, .int 0, .int 0, .int 0, .ref m_alone0, .ref m_endsBy, .ref m_kept0, .int 0, .int 0, .long 1]))] [])) (va_Qi (fun (r : Int32) (_ : Unit) => r = a_fault p0) (fun (_ : Unit) (t : State) => va_P (dC, dI) vwCl [] t.heap ∧ va_K (dC, dI) vwCl [] t ∧ va_D (va_A [(h0, .inr (7, [.ref m_tape, .int 0, .int 0, .int 0, .int 0, .int 0, .int 0, .int 0, .int (-1), .ref m_refused, .ref m_own, .int 0, .ref m_draft, .ref m_program, .ref m_goPlace, .int 0, .int 0, .ref m_isCome, .ref m_heap, .int 0, .ref m_now, .ref m_first, .ref m_second, .ref m_behind, .ref m_states, .int 0, .int 0, .int 0, .ref m_alone0, .ref m_endsBy, .ref m_kept0, .int 0, .int 0, .long 1]))] sz) []) (va_A [(h0, .inr (7, [.ref m_tape, .int 0, .int 0, .int 0, .int 0, .int 0, .int 0, .int 0, .int (-1), .ref m_refused, .ref m_own, .int 0, .ref m_draft, .ref m_program, .ref m_goPlace, .int 0, .int 0, .ref m_isCome, .ref m_heap, .int 0, .ref m_now, .ref m_first, .ref m_second, .ref m_behind, .ref m_states, .int 0, .int 0, .int 0, .ref m_alone0, .ref m_endsBy, .ref m_kept0, .int 0, .int 0, .long 1]))] sz)) 0 0 (va_A [(h0, .inr (7, [.ref m_tape, .int 0, .int 0, .int 0, .int 0, .int 0, .int 0, .int 0, .int (-1), .ref m_refused, .ref m_own, .int 0, .ref m_draft, .ref m_program, .ref m_goPlace, .int 0, .int 0, .ref m_isCome, .ref m_heap, .int 0, .ref m_now, .ref m_first, .ref m_second, .ref m_behind, .ref m_states, .int 0, .int 0, .int 0, .ref m_alone0, .ref m_endsBy, .ref m_kept0, .int 0, .int 0, .long 1]))] sz) := by
  refine Met.ofW (cc := cX7_fault) (maxL := 2) (ret := (some .int)) (by decide) rfl ?_
  intro p e s m args below meth c s₁ B hml hv
  obtain ⟨rfl, hsz, hP, hK, hD0, hN⟩ := hv
  have hx := B.exec
  have hb := B.bytes
  have hr := B.returns
  have hts : ∀ w ∈ T0, w.before _ s = true := fun w h => atoms_spec (ws := Cond.code yX7_fault cX7_fault 2 (some .int) :: T0) B.pre w (List.mem_cons_of_mem _ h)
  have hown : s.vm.findClass RX7 = some m.cls := findClass_of_methodNamed B.named
  have hlocks := B.notSynchronized
  subst hsz
  have hD := hD0.self (sz := s.heap.size)
  generalize hAe : va_A [(h0, .inr (7, [.ref m_tape, .int 0, .int 0, .int 0, .int 0, .int 0, .int 0, .int 0, .int (-1), .ref m_refused, .ref m_own, .int 0, .ref m_draft, .ref m_program, .ref m_goPlace, .int 0, .int 0, .ref m_isCome, .ref m_heap, .int 0, .ref m_now, .ref m_first, .ref m_second, .ref m_behind, .ref m_states, .int 0, .int 0, .int 0, .ref m_alone0, .ref m_endsBy, .ref m_kept0, .int 0, .int 0, .long 1]))] s.heap.size = A at hD ⊢
  have hA : ∀ q : Nat, s.heap.size ≤ q → A q := fun q h => by rw [← hAe]; exact Or.inr h
  have hS : va_S A s.heap s.heap [] := va_S.rf
  have hP : va_P (dC, dI) vwCl [(h0, .inr (7, [.ref m_tape, .int 0, .int 0, .int 0, .int 0, .int 0, .int 0, .int 0, .int (-1), .ref m_refused, .ref m_own, .int 0, .ref m_draft, .ref m_program, .ref m_goPlace, .int 0, .int 0, .ref m_isCome, .ref m_heap, .int 0, .ref m_now, .ref m_first, .ref m_second, .ref m_behind, .ref m_states, .int 0, .int 0, .int 0, .ref m_alone0, .ref m_endsBy, .ref m_kept0, .int 0, .int 0, .long 1]))] s.heap := hP
  have hl := lv_entry ([.ref h0, .int p0]) (n := 2) (Nat.le_of_ble_eq_true rfl)
  rw [lg_entry_eq]
  generalize (lg_sl ([.ref h0, .int p0]) ++ List.replicate (2 - (lg_sl ([.ref h0, .int p0])).length) Slot.unset).toArray = ls at hl ⊢
  refine ax_gen hP hD hS (fun H locs hP hD hS => ?_)
  have hl : lv_has ls 2 [(0, .ref h0), (1, .int p0)] := hl
  refine lv_iload_n hx hb dX7_fault_0 rfl (lv_at hl 1 rfl) ?_
  refine lv_if_ne (tgt := 11) hx hb dX7_fault_1 (by decide) (fun c1 => ?_) (fun c1 => ?_)
  · refine lv_iload_n hx hb dX7_fault_11 rfl (lv_at hl 1 rfl) ?_
    refine lv_iconst (v := 1) hx hb dX7_fault_12 (by decide) ?_
    refine lv_icmp_ne (tgt := 23) hx hb dX7_fault_13 (by decide) (fun c2 => ?_) (fun c2 => ?_)
    · refine lv_iconst (v := (-1)) hx hb dX7_fault_23 (by decide) ?_
      have hP9 := hP.sub (ws' := []) [] rfl
      have hD9 := hD.sub (ws' := []) [] (by decide) rfl
      have hK9 := hK.sub (tys' := []) [] rfl
      exact W.iret (v := (-1)) hx hb hr (fun t ht hW => ⟨⟨(-1), (), rfl, (by have h_0 := mt (ax_eq (n := 0) (by decide)).mpr c1; have h_1 := mt (ax_eq (n := 1) (by decide)).mpr c2; unfold a_fault; first | (rw [if_pos (by omega)]; done) | (rw [if_neg (by omega)]; done)), by rw [ht]; exact hP9, va_K.moved hW.alike hK9, hD9⟩, hS.F ht⟩) hS.2.2 dX7_fault_24
    · refine lv_aload_n hx hb dX7_fault_16 rfl (lv_at hl 0 rfl) ?_
      refine va_get (D := (dC, dI)) (ci := 7) (v := .int (-1)) (C := RX7) (T := TX7) (N := 34) hx hb hts inX7 hown hK hP 0 rfl rfl 8 (by decide) (hts _ T_164) (fun _ h9 => h9) rfl dX7_fault_17 ?_
      refine lv_goto (tgt := 24) hx hb dX7_fault_20 (by decide) ?_
      have hP9 := hP.sub (ws' := []) [] rfl
      have hD9 := hD.sub (ws' := []) [] (by decide) rfl
      have hK9 := hK.sub (tys' := []) [] rfl
      exact W.iret (v := (-1)) hx hb hr (fun t ht hW => ⟨⟨(-1), (), rfl, (by have h_0 := mt (ax_eq (n := 0) (by decide)).mpr c1; have h_1 := (ax_eq (n := 1) (by decide)).mp c2; unfold a_fault; first | (rw [if_pos (by omega)]; done) | (rw [if_neg (by omega)]; done)), by rw [ht]; exact hP9, va_K.moved hW.alike hK9, hD9⟩, hS.F ht⟩) hS.2.2 dX7_fault_24
  · refine lv_aload_n hx hb dX7_fault_4 rfl (lv_at hl 0 rfl) ?_
    refine va_get (D := (dC, dI)) (ci := 7) (v := .int 0) (C := RX7) (T := TX7) (N := 34) hx hb hts inX7 hown hK hP 0 rfl rfl 7 (by decide) (hts _ T_194) (fun _ h9 => h9) rfl dX7_fault_5 ?_
    refine lv_goto (tgt := 24) hx hb dX7_fault_8 (by decide) ?_
    have hP9 := hP.sub (ws' := []) [] rfl
    have hD9 := hD.sub (ws' := []) [] (by decide) rfl
    have hK9 := hK.sub (tys' := []) [] rfl
    exact W.iret (v := 0) hx hb hr (fun t ht hW => ⟨⟨0, (), rfl, (by have h_0 := (ax_eq (n := 0) (by decide)).mp c1; unfold a_fault; first | (rw [if_pos (by omega)]; done) | (rw [if_neg (by omega)]; done)), by rw [ht]; exact hP9, va_K.moved hW.alike hK9, hD9⟩, hS.F ht⟩) hS.2.2 dX7_fault_24

set_option maxHeartbeats 4000000 in
set_option maxRecDepth 100000 in
theorem c_X7_has (l : Launch) (dC : Nat → ClassId) (dI : Nat → Nat → Nat) (sz : Nat) (h0 : Nat) (m_tape : Nat) (m_refused : Nat) (m_own : Nat) (m_draft : Nat) (m_program : Nat) (m_goPlace : Nat) (m_isCome : Nat) (m_heap : Nat) (m_now : Nat) (m_first : Nat) (m_second : Nat) (m_behind : Nat) (m_states : Nat) (m_alone0 : Nat) (m_endsBy : Nat) (m_kept0 : Nat) (p0 : Int32) : Met l yX7_has (Cond.code yX7_has cX7_has 2 (some .int) :: T0) ({ frames := 1, cells := 0, slots := 0, locals := 25 }) (va_Pc [.ref h0, .int p0] (ax_W dC dI sz [(h0, .inr (7, [.ref m_tape, .int 0, .int 0, .int 0, .int 0, .int 0, .int 0, .int 0, .int (-1), .ref m_refused, .ref m_own, .int 0, .ref m_draft, .ref m_program, .ref m_goPlace, .int 0, .int 0, .ref m_isCome, .ref m_heap, .int 0, .ref m_now, .ref m_first, .ref m_second, .ref m_behind, .ref m_states, .int 0, .int 0, .int 0, .ref m_alone0, .ref m_endsBy, .ref m_kept0, .int 0, .int 0, .long 1]))] [])) (va_Qi (fun (r : Int32) (_ : Unit) => r = a_has p0) (fun (_ : Unit) (t : State) => va_P (dC, dI) vwCl [] t.heap ∧ va_K (dC, dI) vwCl [] t ∧ va_D (va_A [(h0, .inr (7, [.ref m_tape, .int 0, .int 0, .int 0, .int 0, .int 0, .int 0, .int 0, .int (-1), .ref m_refused, .ref m_own, .int 0, .ref m_draft, .ref m_program, .ref m_goPlace, .int 0, .int 0, .ref m_isCome, .ref m_heap, .int 0, .ref m_now, .ref m_first, .ref m_second, .ref m_behind, .ref m_states, .int 0, .int 0, .int 0, .ref m_alone0, .ref m_endsBy, .ref m_kept0, .int 0, .int 0, .long 1]))] sz) []) (va_A [(h0, .inr (7, [.ref m_tape, .int 0, .int 0, .int 0, .int 0, .int 0, .int 0, .int 0, .int (-1), .ref m_refused, .ref m_own, .int 0, .ref m_draft, .ref m_program, .ref m_goPlace, .int 0, .int 0, .ref m_isCome, .ref m_heap, .int 0, .ref m_now, .ref m_first, .ref m_second, .ref m_behind, .ref m_states, .int 0, .int 0, .int 0, .ref m_alone0, .ref m_endsBy, .ref m_kept0, .int 0, .int 0, .long 1]))] sz)) 0 0 (va_A [(h0, .inr (7, [.ref m_tape, .int 0, .int 0, .int 0, .int 0, .int 0, .int 0, .int 0, .int (-1), .ref m_refused, .ref m_own, .int 0, .ref m_draft, .ref m_program, .ref m_goPlace, .int 0, .int 0, .ref m_isCome, .ref m_heap, .int 0, .ref m_now, .ref m_first, .ref m_second, .ref m_behind, .ref m_states, .int 0, .int 0, .int 0, .ref m_alone0, .ref m_endsBy, .ref m_kept0, .int 0, .int 0, .long 1]))] sz) := by
  refine Met.ofW (cc := cX7_has) (maxL := 2) (ret := (some .int)) (by decide) rfl ?_
  intro p e s m args below meth c s₁ B hml hv
  obtain ⟨rfl, hsz, hP, hK, hD0, hN⟩ := hv
  have hx := B.exec
  have hb := B.bytes
  have hr := B.returns
  have hts : ∀ w ∈ T0, w.before _ s = true := fun w h => atoms_spec (ws := Cond.code yX7_has cX7_has 2 (some .int) :: T0) B.pre w (List.mem_cons_of_mem _ h)
  have hown : s.vm.findClass RX7 = some m.cls := findClass_of_methodNamed B.named
  have hlocks := B.notSynchronized
  subst hsz
  have hD := hD0.self (sz := s.heap.size)
  generalize hAe : va_A [(h0, .inr (7, [.ref m_tape, .int 0, .int 0, .int 0, .int 0, .int 0, .int 0, .int 0, .int (-1), .ref m_refused, .ref m_own, .int 0, .ref m_draft, .ref m_program, .ref m_goPlace, .int 0, .int 0, .ref m_isCome, .ref m_heap, .int 0, .ref m_now, .ref m_first, .ref m_second, .ref m_behind, .ref m_states, .int 0, .int 0, .int 0, .ref m_alone0, .ref m_endsBy, .ref m_kept0, .int 0, .int 0, .long 1]))] s.heap.size = A at hD ⊢
  have hA : ∀ q : Nat, s.heap.size ≤ q → A q := fun q h => by rw [← hAe]; exact Or.inr h
  have hS : va_S A s.heap s.heap [] := va_S.rf
  have hP : va_P (dC, dI) vwCl [(h0, .inr (7, [.ref m_tape, .int 0, .int 0, .int 0, .int 0, .int 0, .int 0, .int 0, .int (-1), .ref m_refused, .ref m_own, .int 0, .ref m_draft, .ref m_program, .ref m_goPlace, .int 0, .int 0, .ref m_isCome, .ref m_heap, .int 0, .ref m_now, .ref m_first, .ref m_second, .ref m_behind, .ref m_states, .int 0, .int 0, .int 0, .ref m_alone0, .ref m_endsBy, .ref m_kept0, .int 0, .int 0, .long 1]))] s.heap := hP
  have hl := lv_entry ([.ref h0, .int p0]) (n := 2) (Nat.le_of_ble_eq_true rfl)
  rw [lg_entry_eq]
  generalize (lg_sl ([.ref h0, .int p0]) ++ List.replicate (2 - (lg_sl ([.ref h0, .int p0])).length) Slot.unset).toArray = ls at hl ⊢
  refine ax_gen hP hD hS (fun H locs hP hD hS => ?_)
  have hl : lv_has ls 2 [(0, .ref h0), (1, .int p0)] := hl
  refine lv_iload_n hx hb dX7_has_0 rfl (lv_at hl 1 rfl) ?_
  refine lv_i2l (v := p0.toInt64) hx hb dX7_has_1 rfl ?_
  refine lv_lconst (v := 0) hx hb dX7_has_2 (by decide) ?_
  refine lv_ldc2 hx hb hown (hts _ T_195) dX7_has_3 ?_
  have hPc := hP.sub (ws' := []) [] rfl
  have hDc := hD.sub (ws' := []) [] (by decide) rfl
  have hKc := hK.sub (tys' := []) [] rfl
  have hFc := va_free (wc := []) hD hS hA [] rfl
  refine va_calli (va_runS (As := [.long p0.toInt64, .long 0, .long 13]) (rest := []) ⟨hx, hb, hml, hown, hts⟩ (c_X7_isIn l dC dI H.size (p0.toInt64) 0 13) (cwS 3 hts (ax_gS T_192 T_193 T_189 T_191) rfl rfl rfl (by decide +kernel) ⟨Nat.le_of_ble_eq_true rfl, Nat.le_of_ble_eq_true rfl⟩) ⟨fun a U g mk q => ⟨q.1, ax_pc rfl rfl q.2⟩, fun U hU hW => ⟨rfl, ax_pw hU hW hPc hKc hDc hN⟩⟩ rfl rfl hl.1 rfl (lv_room (Nat.le_of_ble_eq_true rfl)) dX7_has_6 ⟨Nat.le_of_ble_eq_true rfl, Nat.le_of_ble_eq_true rfl⟩) hS (fun q _ h => hFc q h) hFc (fun r1 _ t H1 locs ht hvm hw hB hz1 hk1 hS => ?_)
  obtain ⟨hP1, hK1, hD1⟩ := hB
  rw [ht] at hP1
  have hK1 := va_K.moved hvm.symm hK1
  obtain ⟨hP, hD⟩ := va_join (wr := [(h0, .inr (7, [.ref m_tape, .int 0, .int 0, .int 0, .int 0, .int 0, .int 0, .int 0, .int (-1), .ref m_refused, .ref m_own, .int 0, .ref m_draft, .ref m_program, .ref m_goPlace, .int 0, .int 0, .ref m_isCome, .ref m_heap, .int 0, .ref m_now, .ref m_first, .ref m_second, .ref m_behind, .ref m_states, .int 0, .int 0, .int 0, .ref m_alone0, .ref m_endsBy, .ref m_kept0, .int 0, .int 0, .long 1]))]) (w1 := []) hP hD [] [0] rfl rfl (by decide) (by decide) hk1 hFc hP1 hD1
  generalize H1 = H at hP hS ⊢
  have hP : va_P (dC, dI) vwCl [(h0, .inr (7, [.ref m_tape, .int 0, .int 0, .int 0, .int 0, .int 0, .int 0, .int 0, .int (-1), .ref m_refused, .ref m_own, .int 0, .ref m_draft, .ref m_program, .ref m_goPlace, .int 0, .int 0, .ref m_isCome, .ref m_heap, .int 0, .ref m_now, .ref m_first, .ref m_second, .ref m_behind, .ref m_states, .int 0, .int 0, .int 0, .ref m_alone0, .ref m_endsBy, .ref m_kept0, .int 0, .int 0, .long 1]))] H := hP
  have hD : va_D A [(h0, .inr (7, [.ref m_tape, .int 0, .int 0, .int 0, .int 0, .int 0, .int 0, .int 0, .int (-1), .ref m_refused, .ref m_own, .int 0, .ref m_draft, .ref m_program, .ref m_goPlace, .int 0, .int 0, .ref m_isCome, .ref m_heap, .int 0, .ref m_now, .ref m_first, .ref m_second, .ref m_behind, .ref m_states, .int 0, .int 0, .int 0, .ref m_alone0, .ref m_endsBy, .ref m_kept0, .int 0, .int 0, .long 1]))] := hD
  have er1 : r1 = a_isIn (p0.toInt64) 0 13 := hw
  refine lv_if_ne (tgt := 14) hx hb dX7_has_9 (by decide) (fun c2 => ?_) (fun c2 => ?_)
  · refine lv_aload_n hx hb dX7_has_14 rfl (lv_at hl 0 rfl) ?_
    refine va_get (D := (dC, dI)) (ci := 7) (v := .int 0) (C := RX7) (T := TX7) (N := 34) hx hb hts inX7 hown hK hP 0 rfl rfl 15 (by decide) (hts _ T_196) (fun _ h9 => h9) rfl dX7_has_15 ?_
    refine lv_if_ne (tgt := 23) hx hb dX7_has_18 (by decide) (fun c => absurd (by decide) c) (fun _ => ?_)
    refine lv_iconst (v := 0) hx hb dX7_has_21 (by decide) ?_
    have hP9 := hP.sub (ws' := []) [] rfl
    have hD9 := hD.sub (ws' := []) [] (by decide) rfl
    have hK9 := hK.sub (tys' := []) [] rfl
    exact W.iret (v := 0) hx hb hr (fun t ht hW => ⟨⟨0, (), rfl, (by have h_0 := mt (ax_isIn (m := 0) (n := 13) (by decide) (by decide) er1).mpr c2; unfold a_has; first | (rw [if_pos (by omega)]; done) | (rw [if_neg (by omega)]; done)), by rw [ht]; exact hP9, va_K.moved hW.alike hK9, hD9⟩, hS.F ht⟩) hS.2.2 dX7_has_22
  · refine lv_iconst (v := (-1)) hx hb dX7_has_12 (by decide) ?_
    have hP9 := hP.sub (ws' := []) [] rfl
    have hD9 := hD.sub (ws' := []) [] (by decide) rfl
    have hK9 := hK.sub (tys' := []) [] rfl
    exact W.iret (v := (-1)) hx hb hr (fun t ht hW => ⟨⟨(-1), (), rfl, (by have h_0 := (ax_isIn (m := 0) (n := 13) (by decide) (by decide) er1).mp c2; unfold a_has; first | (rw [if_pos (by omega)]; done) | (rw [if_neg (by omega)]; done)), by rw [ht]; exact hP9, va_K.moved hW.alike hK9, hD9⟩, hS.F ht⟩) hS.2.2 dX7_has_13

set_option maxHeartbeats 4000000 in
set_option maxRecDepth 100000 in
theorem c_X7_look (l : Launch) (dC : Nat → ClassId) (dI : Nat → Nat → Nat) (sz : Nat) (h0 : Nat) (m_tape : Nat) (m_refused : Nat) (m_own : Nat) (m_draft : Nat) (m_program : Nat) (m_goPlace : Nat) (m_isCome : Nat) (m_heap : Nat) (m_now : Nat) (m_first : Nat) (m_second : Nat) (m_behind : Nat) (m_states : Nat) (m_alone0 : Nat) (m_endsBy : Nat) (m_kept0 : Nat) : Met l yX7_look (Cond.code yX7_look cX7_look 1 (some .int) :: T0) ({ frames := 0, cells := 0, slots := 0, locals := 0 }) (va_Pc [.ref h0] (ax_W dC dI sz [(h0, .inr (7, [.ref m_tape, .int 0, .int 0, .int 0, .int (-1), .int 0, .int (-1), .int 0, .int (-1), .ref m_refused, .ref m_own, .int 0, .ref m_draft, .ref m_program, .ref m_goPlace, .int 0, .int 0, .ref m_isCome, .ref m_heap, .int 0, .ref m_now, .ref m_first, .ref m_second, .ref m_behind, .ref m_states, .int 0, .int 0, .int 0, .ref m_alone0, .ref m_endsBy, .ref m_kept0, .int 0, .int 0, .long 1]))] [])) (va_Qi (fun (r : Int32) (_ : Unit) => r = (-1)) (fun (_ : Unit) (t : State) => va_P (dC, dI) vwCl [(h0, .inr (7, [.ref m_tape, .int 0, .int 0, .int 0, .int (-1), .int 0, .int (-1), .int 0, .int (-1), .ref m_refused, .ref m_own, .int 0, .ref m_draft, .ref m_program, .ref m_goPlace, .int 0, .int 0, .ref m_isCome, .ref m_heap, .int 0, .ref m_now, .ref m_first, .ref m_second, .ref m_behind, .ref m_states, .int 0, .int 0, .int 0, .ref m_alone0, .ref m_endsBy, .ref m_kept0, .int 0, .int 0, .long 1]))] t.heap ∧ va_K (dC, dI) vwCl [] t ∧ va_D (va_A [(h0, .inr (7, [.ref m_tape, .int 0, .int 0, .int 0, .int (-1), .int 0, .int (-1), .int 0, .int (-1), .ref m_refused, .ref m_own, .int 0, .ref m_draft, .ref m_program, .ref m_goPlace, .int 0, .int 0, .ref m_isCome, .ref m_heap, .int 0, .ref m_now, .ref m_first, .ref m_second, .ref m_behind, .ref m_states, .int 0, .int 0, .int 0, .ref m_alone0, .ref m_endsBy, .ref m_kept0, .int 0, .int 0, .long 1]))] sz) [(h0, .inr (7, [.ref m_tape, .int 0, .int 0, .int 0, .int (-1), .int 0, .int (-1), .int 0, .int (-1), .ref m_refused, .ref m_own, .int 0, .ref m_draft, .ref m_program, .ref m_goPlace, .int 0, .int 0, .ref m_isCome, .ref m_heap, .int 0, .ref m_now, .ref m_first, .ref m_second, .ref m_behind, .ref m_states, .int 0, .int 0, .int 0, .ref m_alone0, .ref m_endsBy, .ref m_kept0, .int 0, .int 0, .long 1]))]) (va_A [(h0, .inr (7, [.ref m_tape, .int 0, .int 0, .int 0, .int (-1), .int 0, .int (-1), .int 0, .int (-1), .ref m_refused, .ref m_own, .int 0, .ref m_draft, .ref m_program, .ref m_goPlace, .int 0, .int 0, .ref m_isCome, .ref m_heap, .int 0, .ref m_now, .ref m_first, .ref m_second, .ref m_behind, .ref m_states, .int 0, .int 0, .int 0, .ref m_alone0, .ref m_endsBy, .ref m_kept0, .int 0, .int 0, .long 1]))] sz)) 0 0 (va_A [(h0, .inr (7, [.ref m_tape, .int 0, .int 0, .int 0, .int (-1), .int 0, .int (-1), .int 0, .int (-1), .ref m_refused, .ref m_own, .int 0, .ref m_draft, .ref m_program, .ref m_goPlace, .int 0, .int 0, .ref m_isCome, .ref m_heap, .int 0, .ref m_now, .ref m_first, .ref m_second, .ref m_behind, .ref m_states, .int 0, .int 0, .int 0, .ref m_alone0, .ref m_endsBy, .ref m_kept0, .int 0, .int 0, .long 1]))] sz) := by
  refine Met.ofW (cc := cX7_look) (maxL := 1) (ret := (some .int)) (by decide) rfl ?_
  intro p e s m args below meth c s₁ B hml hv
  obtain ⟨rfl, hsz, hP, hK, hD0, hN⟩ := hv
  have hx := B.exec
  have hb := B.bytes
  have hr := B.returns
  have hts : ∀ w ∈ T0, w.before _ s = true := fun w h => atoms_spec (ws := Cond.code yX7_look cX7_look 1 (some .int) :: T0) B.pre w (List.mem_cons_of_mem _ h)
  have hown : s.vm.findClass RX7 = some m.cls := findClass_of_methodNamed B.named
  have hlocks := B.notSynchronized
  subst hsz
  have hD := hD0.self (sz := s.heap.size)
  generalize hAe : va_A [(h0, .inr (7, [.ref m_tape, .int 0, .int 0, .int 0, .int (-1), .int 0, .int (-1), .int 0, .int (-1), .ref m_refused, .ref m_own, .int 0, .ref m_draft, .ref m_program, .ref m_goPlace, .int 0, .int 0, .ref m_isCome, .ref m_heap, .int 0, .ref m_now, .ref m_first, .ref m_second, .ref m_behind, .ref m_states, .int 0, .int 0, .int 0, .ref m_alone0, .ref m_endsBy, .ref m_kept0, .int 0, .int 0, .long 1]))] s.heap.size = A at hD ⊢
  have hA : ∀ q : Nat, s.heap.size ≤ q → A q := fun q h => by rw [← hAe]; exact Or.inr h
  have hS : va_S A s.heap s.heap [] := va_S.rf
  have hP : va_P (dC, dI) vwCl [(h0, .inr (7, [.ref m_tape, .int 0, .int 0, .int 0, .int (-1), .int 0, .int (-1), .int 0, .int (-1), .ref m_refused, .ref m_own, .int 0, .ref m_draft, .ref m_program, .ref m_goPlace, .int 0, .int 0, .ref m_isCome, .ref m_heap, .int 0, .ref m_now, .ref m_first, .ref m_second, .ref m_behind, .ref m_states, .int 0, .int 0, .int 0, .ref m_alone0, .ref m_endsBy, .ref m_kept0, .int 0, .int 0, .long 1]))] s.heap := hP
  have hl := lv_entry ([.ref h0]) (n := 1) (Nat.le_of_ble_eq_true rfl)
  rw [lg_entry_eq]
  generalize (lg_sl ([.ref h0]) ++ List.replicate (1 - (lg_sl ([.ref h0])).length) Slot.unset).toArray = ls at hl ⊢
  refine ax_gen hP hD hS (fun H locs hP hD hS => ?_)
  have hl : lv_has ls 1 [(0, .ref h0)] := hl
  refine lv_aload_n hx hb dX7_look_0 rfl (lv_at hl 0 rfl) ?_
  refine va_get (D := (dC, dI)) (ci := 7) (v := .int 0) (C := RX7) (T := TX7) (N := 34) hx hb hts inX7 hown hK hP 0 rfl rfl 2 (by decide) (hts _ T_197) (fun _ h9 => h9) rfl dX7_look_1 ?_
  refine lv_aload_n hx hb dX7_look_4 rfl (lv_at hl 0 rfl) ?_
  refine va_get (D := (dC, dI)) (ci := 7) (v := .int 0) (C := RX7) (T := TX7) (N := 34) hx hb hts inX7 hown hK hP 0 rfl rfl 3 (by decide) (hts _ T_198) (fun _ h9 => h9) rfl dX7_look_5 ?_
  refine lv_icmp_ge (tgt := 52) hx hb dX7_look_8 (by decide) (fun _ => ?_) (fun c => absurd (by decide) c)
  refine lv_aload_n hx hb dX7_look_52 rfl (lv_at hl 0 rfl) ?_
  refine va_get (D := (dC, dI)) (ci := 7) (v := .int 0) (C := RX7) (T := TX7) (N := 34) hx hb hts inX7 hown hK hP 0 rfl rfl 2 (by decide) (hts _ T_197) (fun _ h9 => h9) rfl dX7_look_53 ?_
  refine lv_aload_n hx hb dX7_look_56 rfl (lv_at hl 0 rfl) ?_
  refine va_get (D := (dC, dI)) (ci := 7) (v := .int 0) (C := RX7) (T := TX7) (N := 34) hx hb hts inX7 hown hK hP 0 rfl rfl 3 (by decide) (hts _ T_198) (fun _ h9 => h9) rfl dX7_look_57 ?_
  refine lv_icmp_ge (tgt := 75) hx hb dX7_look_60 (by decide) (fun _ => ?_) (fun c => absurd (by decide) c)
  refine lv_iconst (v := (-1)) hx hb dX7_look_75 (by decide) ?_
  have hP9 := hP.sub (ws' := [(h0, .inr (7, [.ref m_tape, .int 0, .int 0, .int 0, .int (-1), .int 0, .int (-1), .int 0, .int (-1), .ref m_refused, .ref m_own, .int 0, .ref m_draft, .ref m_program, .ref m_goPlace, .int 0, .int 0, .ref m_isCome, .ref m_heap, .int 0, .ref m_now, .ref m_first, .ref m_second, .ref m_behind, .ref m_states, .int 0, .int 0, .int 0, .ref m_alone0, .ref m_endsBy, .ref m_kept0, .int 0, .int 0, .long 1]))]) [0] rfl
  have hD9 := hD.sub (ws' := [(h0, .inr (7, [.ref m_tape, .int 0, .int 0, .int 0, .int (-1), .int 0, .int (-1), .int 0, .int (-1), .ref m_refused, .ref m_own, .int 0, .ref m_draft, .ref m_program, .ref m_goPlace, .int 0, .int 0, .ref m_isCome, .ref m_heap, .int 0, .ref m_now, .ref m_first, .ref m_second, .ref m_behind, .ref m_states, .int 0, .int 0, .int 0, .ref m_alone0, .ref m_endsBy, .ref m_kept0, .int 0, .int 0, .long 1]))]) [0] (by decide) rfl
  have hK9 := hK.sub (tys' := []) [] rfl
  exact W.iret (v := (-1)) hx hb hr (fun t ht hW => ⟨⟨(-1), (), rfl, rfl, by rw [ht]; exact hP9, va_K.moved hW.alike hK9, hD9⟩, hS.F ht⟩) hS.2.2 dX7_look_76

set_option maxHeartbeats 4000000 in
set_option maxRecDepth 100000 in
/-- isLetter of NONE -/
theorem c_X7_isLetter (l : Launch) (dC : Nat → ClassId) (dI : Nat → Nat → Nat) (sz : Nat) : Met l yX7_isLetter (Cond.code yX7_isLetter cX7_isLetter 1 (some .boolean) :: T0) ({ frames := 0, cells := 0, slots := 0, locals := 0 }) (va_Pc [.int (-1)] (ax_W dC dI sz [] [])) (va_Qi (fun (r : Int32) (_ : Unit) => r = 0) (fun (_ : Unit) (t : State) => va_P (dC, dI) vwCl [] t.heap ∧ va_K (dC, dI) vwCl [] t ∧ va_D (va_A [] sz) []) (va_A [] sz)) 0 0 (va_A [] sz) := by
  refine Met.ofW (cc := cX7_isLetter) (maxL := 1) (ret := (some .boolean)) (by decide) rfl ?_
  intro p e s m args below meth c s₁ B hml hv
  obtain ⟨rfl, hsz, hP, hK, hD0, hN⟩ := hv
  have hx := B.exec
  have hb := B.bytes
  have hr := B.returns
  have hts : ∀ w ∈ T0, w.before _ s = true := fun w h => atoms_spec (ws := Cond.code yX7_isLetter cX7_isLetter 1 (some .boolean) :: T0) B.pre w (List.mem_cons_of_mem _ h)
  have hown : s.vm.findClass RX7 = some m.cls := findClass_of_methodNamed B.named
  have hlocks := B.notSynchronized
  subst hsz
  have hD := hD0.self (sz := s.heap.size)
  generalize hAe : va_A [] s.heap.size = A at hD ⊢
  have hA : ∀ q : Nat, s.heap.size ≤ q → A q := fun q h => by rw [← hAe]; exact Or.inr h
  have hS : va_S A s.heap s.heap [] := va_S.rf
  have hP : va_P (dC, dI) vwCl [] s.heap := hP
  have hl := lv_entry ([.int (-1)]) (n := 1) (Nat.le_of_ble_eq_true rfl)
  rw [lg_entry_eq]
  generalize (lg_sl ([.int (-1)]) ++ List.replicate (1 - (lg_sl ([.int (-1)])).length) Slot.unset).toArray = ls at hl ⊢
  refine ax_gen hP hD hS (fun H locs hP hD hS => ?_)
  have hl : lv_has ls 1 [(0, .int (-1))] := hl
  refine lv_iload_n hx hb dX7_isLetter_0 rfl (lv_at hl 0 rfl) ?_
  refine lv_bipush (v := 97) hx hb dX7_isLetter_1 (by decide) ?_
  refine lv_icmp_lt (tgt := 16) hx hb dX7_isLetter_3 (by decide) (fun _ => ?_) (fun c => absurd (by decide) c)
  refine lv_iconst (v := 0) hx hb dX7_isLetter_16 (by decide) ?_
  have hP9 := hP.sub (ws' := []) [] rfl
  have hD9 := hD.sub (ws' := []) [] (by decide) rfl
  have hK9 := hK.sub (tys' := []) [] rfl
  exact W.zret (v := 0) (ty := .boolean) hx hb hr (by decide) (fun t ht hW => ⟨⟨0, (), rfl, rfl, by rw [ht]; exact hP9, va_K.moved hW.alike hK9, hD9⟩, hS.F ht⟩) hS.2.2 dX7_isLetter_17

set_option maxHeartbeats 4000000 in
set_option maxRecDepth 100000 in
theorem c_X7_isWordHere (l : Launch) (dC : Nat → ClassId) (dI : Nat → Nat → Nat) (sz : Nat) (h0 : Nat) (m_tape : Nat) (m_refused : Nat) (m_own : Nat) (m_draft : Nat) (m_program : Nat) (m_goPlace : Nat) (m_isCome : Nat) (m_heap : Nat) (m_now : Nat) (m_first : Nat) (m_second : Nat) (m_behind : Nat) (m_states : Nat) (m_alone0 : Nat) (m_endsBy : Nat) (m_kept0 : Nat) : Met l yX7_isWordHere (Cond.code yX7_isWordHere cX7_isWordHere 1 (some .boolean) :: T0) ({ frames := 1, cells := 0, slots := 0, locals := 20 }) (va_Pc [.ref h0] (ax_W dC dI sz [(h0, .inr (7, [.ref m_tape, .int 0, .int 0, .int 0, .int (-1), .int 0, .int (-1), .int 0, .int (-1), .ref m_refused, .ref m_own, .int 0, .ref m_draft, .ref m_program, .ref m_goPlace, .int 0, .int 0, .ref m_isCome, .ref m_heap, .int 0, .ref m_now, .ref m_first, .ref m_second, .ref m_behind, .ref m_states, .int 0, .int 0, .int 0, .ref m_alone0, .ref m_endsBy, .ref m_kept0, .int 0, .int 0, .long 1]))] [])) (va_Qi (fun (r : Int32) (_ : Unit) => r = 0) (fun (_ : Unit) (t : State) => va_P (dC, dI) vwCl [(h0, .inr (7, [.ref m_tape, .int 0, .int 0, .int 0, .int (-1), .int 0, .int (-1), .int 0, .int (-1), .ref m_refused, .ref m_own, .int 0, .ref m_draft, .ref m_program, .ref m_goPlace, .int 0, .int 0, .ref m_isCome, .ref m_heap, .int 0, .ref m_now, .ref m_first, .ref m_second, .ref m_behind, .ref m_states, .int 0, .int 0, .int 0, .ref m_alone0, .ref m_endsBy, .ref m_kept0, .int 0, .int 0, .long 1]))] t.heap ∧ va_K (dC, dI) vwCl [] t ∧ va_D (va_A [(h0, .inr (7, [.ref m_tape, .int 0, .int 0, .int 0, .int (-1), .int 0, .int (-1), .int 0, .int (-1), .ref m_refused, .ref m_own, .int 0, .ref m_draft, .ref m_program, .ref m_goPlace, .int 0, .int 0, .ref m_isCome, .ref m_heap, .int 0, .ref m_now, .ref m_first, .ref m_second, .ref m_behind, .ref m_states, .int 0, .int 0, .int 0, .ref m_alone0, .ref m_endsBy, .ref m_kept0, .int 0, .int 0, .long 1]))] sz) [(h0, .inr (7, [.ref m_tape, .int 0, .int 0, .int 0, .int (-1), .int 0, .int (-1), .int 0, .int (-1), .ref m_refused, .ref m_own, .int 0, .ref m_draft, .ref m_program, .ref m_goPlace, .int 0, .int 0, .ref m_isCome, .ref m_heap, .int 0, .ref m_now, .ref m_first, .ref m_second, .ref m_behind, .ref m_states, .int 0, .int 0, .int 0, .ref m_alone0, .ref m_endsBy, .ref m_kept0, .int 0, .int 0, .long 1]))]) (va_A [(h0, .inr (7, [.ref m_tape, .int 0, .int 0, .int 0, .int (-1), .int 0, .int (-1), .int 0, .int (-1), .ref m_refused, .ref m_own, .int 0, .ref m_draft, .ref m_program, .ref m_goPlace, .int 0, .int 0, .ref m_isCome, .ref m_heap, .int 0, .ref m_now, .ref m_first, .ref m_second, .ref m_behind, .ref m_states, .int 0, .int 0, .int 0, .ref m_alone0, .ref m_endsBy, .ref m_kept0, .int 0, .int 0, .long 1]))] sz)) 0 0 (va_A [(h0, .inr (7, [.ref m_tape, .int 0, .int 0, .int 0, .int (-1), .int 0, .int (-1), .int 0, .int (-1), .ref m_refused, .ref m_own, .int 0, .ref m_draft, .ref m_program, .ref m_goPlace, .int 0, .int 0, .ref m_isCome, .ref m_heap, .int 0, .ref m_now, .ref m_first, .ref m_second, .ref m_behind, .ref m_states, .int 0, .int 0, .int 0, .ref m_alone0, .ref m_endsBy, .ref m_kept0, .int 0, .int 0, .long 1]))] sz) := by
  refine Met.ofW (cc := cX7_isWordHere) (maxL := 1) (ret := (some .boolean)) (by decide) rfl ?_
  intro p e s m args below meth c s₁ B hml hv
  obtain ⟨rfl, hsz, hP, hK, hD0, hN⟩ := hv
  have hx := B.exec
  have hb := B.bytes
  have hr := B.returns
  have hts : ∀ w ∈ T0, w.before _ s = true := fun w h => atoms_spec (ws := Cond.code yX7_isWordHere cX7_isWordHere 1 (some .boolean) :: T0) B.pre w (List.mem_cons_of_mem _ h)
  have hown : s.vm.findClass RX7 = some m.cls := findClass_of_methodNamed B.named
  have hlocks := B.notSynchronized
  subst hsz
  have hD := hD0.self (sz := s.heap.size)
  generalize hAe : va_A [(h0, .inr (7, [.ref m_tape, .int 0, .int 0, .int 0, .int (-1), .int 0, .int (-1), .int 0, .int (-1), .ref m_refused, .ref m_own, .int 0, .ref m_draft, .ref m_program, .ref m_goPlace, .int 0, .int 0, .ref m_isCome, .ref m_heap, .int 0, .ref m_now, .ref m_first, .ref m_second, .ref m_behind, .ref m_states, .int 0, .int 0, .int 0, .ref m_alone0, .ref m_endsBy, .ref m_kept0, .int 0, .int 0, .long 1]))] s.heap.size = A at hD ⊢
  have hA : ∀ q : Nat, s.heap.size ≤ q → A q := fun q h => by rw [← hAe]; exact Or.inr h
  have hS : va_S A s.heap s.heap [] := va_S.rf
  have hP : va_P (dC, dI) vwCl [(h0, .inr (7, [.ref m_tape, .int 0, .int 0, .int 0, .int (-1), .int 0, .int (-1), .int 0, .int (-1), .ref m_refused, .ref m_own, .int 0, .ref m_draft, .ref m_program, .ref m_goPlace, .int 0, .int 0, .ref m_isCome, .ref m_heap, .int 0, .ref m_now, .ref m_first, .ref m_second, .ref m_behind, .ref m_states, .int 0, .int 0, .int 0, .ref m_alone0, .ref m_endsBy, .ref m_kept0, .int 0, .int 0, .long 1]))] s.heap := hP
  have hl := lv_entry ([.ref h0]) (n := 1) (Nat.le_of_ble_eq_true rfl)
  rw [lg_entry_eq]
  generalize (lg_sl ([.ref h0]) ++ List.replicate (1 - (lg_sl ([.ref h0])).length) Slot.unset).toArray = ls at hl ⊢
  refine ax_gen hP hD hS (fun H locs hP hD hS => ?_)
  have hl : lv_has ls 1 [(0, .ref h0)] := hl
  refine lv_aload_n hx hb dX7_isWordHere_0 rfl (lv_at hl 0 rfl) ?_
  refine va_get (D := (dC, dI)) (ci := 7) (v := .int 0) (C := RX7) (T := TX7) (N := 34) hx hb hts inX7 hown hK hP 0 rfl rfl 5 (by decide) (hts _ T_199) (fun _ h9 => h9) rfl dX7_isWordHere_1 ?_
  refine lv_if_ne (tgt := 32) hx hb dX7_isWordHere_4 (by decide) (fun c => absurd (by decide) c) (fun _ => ?_)
  refine lv_aload_n hx hb dX7_isWordHere_7 rfl (lv_at hl 0 rfl) ?_
  have hPc := hP.sub (ws' := [(h0, .inr (7, [.ref m_tape, .int 0, .int 0, .int 0, .int (-1), .int 0, .int (-1), .int 0, .int (-1), .ref m_refused, .ref m_own, .int 0, .ref m_draft, .ref m_program, .ref m_goPlace, .int 0, .int 0, .ref m_isCome, .ref m_heap, .int 0, .ref m_now, .ref m_first, .ref m_second, .ref m_behind, .ref m_states, .int 0, .int 0, .int 0, .ref m_alone0, .ref m_endsBy, .ref m_kept0, .int 0, .int 0, .long 1]))]) [0] rfl
  have hDc := hD.sub (ws' := [(h0, .inr (7, [.ref m_tape, .int 0, .int 0, .int 0, .int (-1), .int 0, .int (-1), .int 0, .int (-1), .ref m_refused, .ref m_own, .int 0, .ref m_draft, .ref m_program, .ref m_goPlace, .int 0, .int 0, .ref m_isCome, .ref m_heap, .int 0, .ref m_now, .ref m_first, .ref m_second, .ref m_behind, .ref m_states, .int 0, .int 0, .int 0, .ref m_alone0, .ref m_endsBy, .ref m_kept0, .int 0, .int 0, .long 1]))]) [0] (by decide) rfl
  have hKc := hK.sub (tys' := []) [] rfl
  have hFc := va_free (wc := [(h0, .inr (7, [.ref m_tape, .int 0, .int 0, .int 0, .int (-1), .int 0, .int (-1), .int 0, .int (-1), .ref m_refused, .ref m_own, .int 0, .ref m_draft, .ref m_program, .ref m_goPlace, .int 0, .int 0, .ref m_isCome, .ref m_heap, .int 0, .ref m_now, .ref m_first, .ref m_second, .ref m_behind, .ref m_states, .int 0, .int 0, .int 0, .ref m_alone0, .ref m_endsBy, .ref m_kept0, .int 0, .int 0, .long 1]))]) hD hS hA [0] rfl
  refine va_calli (va_runV (As := []) (rest := []) ⟨hx, hb, hml, hown, hts⟩ (c_X7_look l dC dI H.size h0 m_tape m_refused m_own m_draft m_program m_goPlace m_isCome m_heap m_now m_first m_second m_behind m_states m_alone0 m_endsBy m_kept0) (cwV 0 hts (ax_gV T_201 T_202 T_203 T_189 T_200) rfl rfl rfl (by decide +kernel) ⟨Nat.le_of_ble_eq_true rfl, Nat.le_of_ble_eq_true rfl⟩) ⟨fun a U g mk q => ⟨q.1, ax_pc rfl rfl q.2⟩, va_recv hKc hPc (ci := 7) (q0 := 0) rfl rfl, fun U hU hW => ⟨rfl, ax_pw hU hW hPc hKc hDc hN⟩⟩ rfl rfl hl.1 rfl (lv_room (Nat.le_of_ble_eq_true rfl)) dX7_isWordHere_8 ⟨Nat.le_of_ble_eq_true rfl, Nat.le_of_ble_eq_true rfl⟩) hS (fun q _ h => hFc q h) hFc (fun r1 _ t H1 locs ht hvm hw hB hz1 hk1 hS => ?_)
  obtain ⟨hP1, hK1, hD1⟩ := hB
  rw [ht] at hP1
  have hK1 := va_K.moved hvm.symm hK1
  obtain ⟨hP, hD⟩ := va_join (wr := []) (w1 := [(h0, .inr (7, [.ref m_tape, .int 0, .int 0, .int 0, .int (-1), .int 0, .int (-1), .int 0, .int (-1), .ref m_refused, .ref m_own, .int 0, .ref m_draft, .ref m_program, .ref m_goPlace, .int 0, .int 0, .ref m_isCome, .ref m_heap, .int 0, .ref m_now, .ref m_first, .ref m_second, .ref m_behind, .ref m_states, .int 0, .int 0, .int 0, .ref m_alone0, .ref m_endsBy, .ref m_kept0, .int 0, .int 0, .long 1]))]) hP hD [0] [] rfl rfl (by decide) (by decide) hk1 hFc hP1 hD1
  generalize H1 = H at hP hS ⊢
  have hP : va_P (dC, dI) vwCl [(h0, .inr (7, [.ref m_tape, .int 0, .int 0, .int 0, .int (-1), .int 0, .int (-1), .int 0, .int (-1), .ref m_refused, .ref m_own, .int 0, .ref m_draft, .ref m_program, .ref m_goPlace, .int 0, .int 0, .ref m_isCome, .ref m_heap, .int 0, .ref m_now, .ref m_first, .ref m_second, .ref m_behind, .ref m_states, .int 0, .int 0, .int 0, .ref m_alone0, .ref m_endsBy, .ref m_kept0, .int 0, .int 0, .long 1]))] H := hP
  have hD : va_D A [(h0, .inr (7, [.ref m_tape, .int 0, .int 0, .int 0, .int (-1), .int 0, .int (-1), .int 0, .int (-1), .ref m_refused, .ref m_own, .int 0, .ref m_draft, .ref m_program, .ref m_goPlace, .int 0, .int 0, .ref m_isCome, .ref m_heap, .int 0, .ref m_now, .ref m_first, .ref m_second, .ref m_behind, .ref m_states, .int 0, .int 0, .int 0, .ref m_alone0, .ref m_endsBy, .ref m_kept0, .int 0, .int 0, .long 1]))] := hD
  subst hw
  have hPc := hP.sub (ws' := []) [] rfl
  have hDc := hD.sub (ws' := []) [] (by decide) rfl
  have hKc := hK.sub (tys' := []) [] rfl
  have hFc := va_free (wc := []) hD hS hA [] rfl
  refine va_calli (va_runS (As := [.int (-1)]) (rest := []) ⟨hx, hb, hml, hown, hts⟩ (c_X7_isLetter l dC dI H.size) (cwS 1 hts (ax_gS T_205 T_206 T_189 T_204) rfl rfl rfl (by decide +kernel) ⟨Nat.le_of_ble_eq_true rfl, Nat.le_of_ble_eq_true rfl⟩) ⟨fun a U g mk q => ⟨q.1, ax_pc rfl rfl q.2⟩, fun U hU hW => ⟨rfl, ax_pw hU hW hPc hKc hDc hN⟩⟩ rfl rfl hl.1 rfl (lv_room (Nat.le_of_ble_eq_true rfl)) dX7_isWordHere_11 ⟨Nat.le_of_ble_eq_true rfl, Nat.le_of_ble_eq_true rfl⟩) hS (fun q _ h => hFc q h) hFc (fun r2 _ t H1 locs ht hvm hw hB hz1 hk1 hS => ?_)
  obtain ⟨hP1, hK1, hD1⟩ := hB
  rw [ht] at hP1
  have hK1 := va_K.moved hvm.symm hK1
  obtain ⟨hP, hD⟩ := va_join (wr := [(h0, .inr (7, [.ref m_tape, .int 0, .int 0, .int 0, .int (-1), .int 0, .int (-1), .int 0, .int (-1), .ref m_refused, .ref m_own, .int 0, .ref m_draft, .ref m_program, .ref m_goPlace, .int 0, .int 0, .ref m_isCome, .ref m_heap, .int 0, .ref m_now, .ref m_first, .ref m_second, .ref m_behind, .ref m_states, .int 0, .int 0, .int 0, .ref m_alone0, .ref m_endsBy, .ref m_kept0, .int 0, .int 0, .long 1]))]) (w1 := []) hP hD [] [0] rfl rfl (by decide) (by decide) hk1 hFc hP1 hD1
  generalize H1 = H at hP hS ⊢
  have hP : va_P (dC, dI) vwCl [(h0, .inr (7, [.ref m_tape, .int 0, .int 0, .int 0, .int (-1), .int 0, .int (-1), .int 0, .int (-1), .ref m_refused, .ref m_own, .int 0, .ref m_draft, .ref m_program, .ref m_goPlace, .int 0, .int 0, .ref m_isCome, .ref m_heap, .int 0, .ref m_now, .ref m_first, .ref m_second, .ref m_behind, .ref m_states, .int 0, .int 0, .int 0, .ref m_alone0, .ref m_endsBy, .ref m_kept0, .int 0, .int 0, .long 1]))] H := hP
  have hD : va_D A [(h0, .inr (7, [.ref m_tape, .int 0, .int 0, .int 0, .int (-1), .int 0, .int (-1), .int 0, .int (-1), .ref m_refused, .ref m_own, .int 0, .ref m_draft, .ref m_program, .ref m_goPlace, .int 0, .int 0, .ref m_isCome, .ref m_heap, .int 0, .ref m_now, .ref m_first, .ref m_second, .ref m_behind, .ref m_states, .int 0, .int 0, .int 0, .ref m_alone0, .ref m_endsBy, .ref m_kept0, .int 0, .int 0, .long 1]))] := hD
  subst hw
  refine lv_if_eq (tgt := 32) hx hb dX7_isWordHere_14 (by decide) (fun _ => ?_) (fun c => absurd (by decide) c)
  refine lv_iconst (v := 0) hx hb dX7_isWordHere_32 (by decide) ?_
  have hP9 := hP.sub (ws' := [(h0, .inr (7, [.ref m_tape, .int 0, .int 0, .int 0, .int (-1), .int 0, .int (-1), .int 0, .int (-1), .ref m_refused, .ref m_own, .int 0, .ref m_draft, .ref m_program, .ref m_goPlace, .int 0, .int 0, .ref m_isCome, .ref m_heap, .int 0, .ref m_now, .ref m_first, .ref m_second, .ref m_behind, .ref m_states, .int 0, .int 0, .int 0, .ref m_alone0, .ref m_endsBy, .ref m_kept0, .int 0, .int 0, .long 1]))]) [0] rfl
  have hD9 := hD.sub (ws' := [(h0, .inr (7, [.ref m_tape, .int 0, .int 0, .int 0, .int (-1), .int 0, .int (-1), .int 0, .int (-1), .ref m_refused, .ref m_own, .int 0, .ref m_draft, .ref m_program, .ref m_goPlace, .int 0, .int 0, .ref m_isCome, .ref m_heap, .int 0, .ref m_now, .ref m_first, .ref m_second, .ref m_behind, .ref m_states, .int 0, .int 0, .int 0, .ref m_alone0, .ref m_endsBy, .ref m_kept0, .int 0, .int 0, .long 1]))]) [0] (by decide) rfl
  have hK9 := hK.sub (tys' := []) [] rfl
  exact W.zret (v := 0) (ty := .boolean) hx hb hr (by decide) (fun t ht hW => ⟨⟨0, (), rfl, rfl, by rw [ht]; exact hP9, va_K.moved hW.alike hK9, hD9⟩, hS.F ht⟩) hS.2.2 dX7_isWordHere_33

set_option maxHeartbeats 4000000 in
set_option maxRecDepth 100000 in
theorem c_X7_ownHere (l : Launch) (dC : Nat → ClassId) (dI : Nat → Nat → Nat) (sz : Nat) (h0 : Nat) (m_tape : Nat) (m_refused : Nat) (m_own : Nat) (m_draft : Nat) (m_program : Nat) (m_goPlace : Nat) (m_isCome : Nat) (m_heap : Nat) (m_now : Nat) (m_first : Nat) (m_second : Nat) (m_behind : Nat) (m_states : Nat) (m_alone0 : Nat) (m_endsBy : Nat) (m_kept0 : Nat) : Met l yX7_ownHere (Cond.code yX7_ownHere cX7_ownHere 5 (some .int) :: T0) ({ frames := 2, cells := 0, slots := 0, locals := 40 }) (va_Pc [.ref h0] (ax_W dC dI sz [(h0, .inr (7, [.ref m_tape, .int 0, .int 0, .int 0, .int (-1), .int 0, .int (-1), .int 0, .int (-1), .ref m_refused, .ref m_own, .int 0, .ref m_draft, .ref m_program, .ref m_goPlace, .int 0, .int 0, .ref m_isCome, .ref m_heap, .int 0, .ref m_now, .ref m_first, .ref m_second, .ref m_behind, .ref m_states, .int 0, .int 0, .int 0, .ref m_alone0, .ref m_endsBy, .ref m_kept0, .int 0, .int 0, .long 1]))] [])) (va_Qi (fun (r : Int32) (_ : Unit) => r = (-1)) (fun (_ : Unit) (t : State) => va_P (dC, dI) vwCl [(h0, .inr (7, [.ref m_tape, .int 0, .int 0, .int 0, .int (-1), .int 0, .int (-1), .int 0, .int (-1), .ref m_refused, .ref m_own, .int 0, .ref m_draft, .ref m_program, .ref m_goPlace, .int 0, .int 0, .ref m_isCome, .ref m_heap, .int 0, .ref m_now, .ref m_first, .ref m_second, .ref m_behind, .ref m_states, .int 0, .int 0, .int 0, .ref m_alone0, .ref m_endsBy, .ref m_kept0, .int 0, .int 0, .long 1]))] t.heap ∧ va_K (dC, dI) vwCl [] t ∧ va_D (va_A [(h0, .inr (7, [.ref m_tape, .int 0, .int 0, .int 0, .int (-1), .int 0, .int (-1), .int 0, .int (-1), .ref m_refused, .ref m_own, .int 0, .ref m_draft, .ref m_program, .ref m_goPlace, .int 0, .int 0, .ref m_isCome, .ref m_heap, .int 0, .ref m_now, .ref m_first, .ref m_second, .ref m_behind, .ref m_states, .int 0, .int 0, .int 0, .ref m_alone0, .ref m_endsBy, .ref m_kept0, .int 0, .int 0, .long 1]))] sz) [(h0, .inr (7, [.ref m_tape, .int 0, .int 0, .int 0, .int (-1), .int 0, .int (-1), .int 0, .int (-1), .ref m_refused, .ref m_own, .int 0, .ref m_draft, .ref m_program, .ref m_goPlace, .int 0, .int 0, .ref m_isCome, .ref m_heap, .int 0, .ref m_now, .ref m_first, .ref m_second, .ref m_behind, .ref m_states, .int 0, .int 0, .int 0, .ref m_alone0, .ref m_endsBy, .ref m_kept0, .int 0, .int 0, .long 1]))]) (va_A [(h0, .inr (7, [.ref m_tape, .int 0, .int 0, .int 0, .int (-1), .int 0, .int (-1), .int 0, .int (-1), .ref m_refused, .ref m_own, .int 0, .ref m_draft, .ref m_program, .ref m_goPlace, .int 0, .int 0, .ref m_isCome, .ref m_heap, .int 0, .ref m_now, .ref m_first, .ref m_second, .ref m_behind, .ref m_states, .int 0, .int 0, .int 0, .ref m_alone0, .ref m_endsBy, .ref m_kept0, .int 0, .int 0, .long 1]))] sz)) 0 0 (va_A [(h0, .inr (7, [.ref m_tape, .int 0, .int 0, .int 0, .int (-1), .int 0, .int (-1), .int 0, .int (-1), .ref m_refused, .ref m_own, .int 0, .ref m_draft, .ref m_program, .ref m_goPlace, .int 0, .int 0, .ref m_isCome, .ref m_heap, .int 0, .ref m_now, .ref m_first, .ref m_second, .ref m_behind, .ref m_states, .int 0, .int 0, .int 0, .ref m_alone0, .ref m_endsBy, .ref m_kept0, .int 0, .int 0, .long 1]))] sz) := by
  refine Met.ofW (cc := cX7_ownHere) (maxL := 5) (ret := (some .int)) (by decide) rfl ?_
  intro p e s m args below meth c s₁ B hml hv
  obtain ⟨rfl, hsz, hP, hK, hD0, hN⟩ := hv
  have hx := B.exec
  have hb := B.bytes
  have hr := B.returns
  have hts : ∀ w ∈ T0, w.before _ s = true := fun w h => atoms_spec (ws := Cond.code yX7_ownHere cX7_ownHere 5 (some .int) :: T0) B.pre w (List.mem_cons_of_mem _ h)
  have hown : s.vm.findClass RX7 = some m.cls := findClass_of_methodNamed B.named
  have hlocks := B.notSynchronized
  subst hsz
  have hD := hD0.self (sz := s.heap.size)
  generalize hAe : va_A [(h0, .inr (7, [.ref m_tape, .int 0, .int 0, .int 0, .int (-1), .int 0, .int (-1), .int 0, .int (-1), .ref m_refused, .ref m_own, .int 0, .ref m_draft, .ref m_program, .ref m_goPlace, .int 0, .int 0, .ref m_isCome, .ref m_heap, .int 0, .ref m_now, .ref m_first, .ref m_second, .ref m_behind, .ref m_states, .int 0, .int 0, .int 0, .ref m_alone0, .ref m_endsBy, .ref m_kept0, .int 0, .int 0, .long 1]))] s.heap.size = A at hD ⊢
  have hA : ∀ q : Nat, s.heap.size ≤ q → A q := fun q h => by rw [← hAe]; exact Or.inr h
  have hS : va_S A s.heap s.heap [] := va_S.rf
  have hP : va_P (dC, dI) vwCl [(h0, .inr (7, [.ref m_tape, .int 0, .int 0, .int 0, .int (-1), .int 0, .int (-1), .int 0, .int (-1), .ref m_refused, .ref m_own, .int 0, .ref m_draft, .ref m_program, .ref m_goPlace, .int 0, .int 0, .ref m_isCome, .ref m_heap, .int 0, .ref m_now, .ref m_first, .ref m_second, .ref m_behind, .ref m_states, .int 0, .int 0, .int 0, .ref m_alone0, .ref m_endsBy, .ref m_kept0, .int 0, .int 0, .long 1]))] s.heap := hP
  have hl := lv_entry ([.ref h0]) (n := 5) (Nat.le_of_ble_eq_true rfl)
  rw [lg_entry_eq]
  generalize (lg_sl ([.ref h0]) ++ List.replicate (5 - (lg_sl ([.ref h0])).length) Slot.unset).toArray = ls at hl ⊢
  refine ax_gen hP hD hS (fun H locs hP hD hS => ?_)
  have hl : lv_has ls 5 [(0, .ref h0)] := hl
  refine lv_aload_n hx hb dX7_ownHere_0 rfl (lv_at hl 0 rfl) ?_
  have hPc := hP.sub (ws' := [(h0, .inr (7, [.ref m_tape, .int 0, .int 0, .int 0, .int (-1), .int 0, .int (-1), .int 0, .int (-1), .ref m_refused, .ref m_own, .int 0, .ref m_draft, .ref m_program, .ref m_goPlace, .int 0, .int 0, .ref m_isCome, .ref m_heap, .int 0, .ref m_now, .ref m_first, .ref m_second, .ref m_behind, .ref m_states, .int 0, .int 0, .int 0, .ref m_alone0, .ref m_endsBy, .ref m_kept0, .int 0, .int 0, .long 1]))]) [0] rfl
  have hDc := hD.sub (ws' := [(h0, .inr (7, [.ref m_tape, .int 0, .int 0, .int 0, .int (-1), .int 0, .int (-1), .int 0, .int (-1), .ref m_refused, .ref m_own, .int 0, .ref m_draft, .ref m_program, .ref m_goPlace, .int 0, .int 0, .ref m_isCome, .ref m_heap, .int 0, .ref m_now, .ref m_first, .ref m_second, .ref m_behind, .ref m_states, .int 0, .int 0, .int 0, .ref m_alone0, .ref m_endsBy, .ref m_kept0, .int 0, .int 0, .long 1]))]) [0] (by decide) rfl
  have hKc := hK.sub (tys' := []) [] rfl
  have hFc := va_free (wc := [(h0, .inr (7, [.ref m_tape, .int 0, .int 0, .int 0, .int (-1), .int 0, .int (-1), .int 0, .int (-1), .ref m_refused, .ref m_own, .int 0, .ref m_draft, .ref m_program, .ref m_goPlace, .int 0, .int 0, .ref m_isCome, .ref m_heap, .int 0, .ref m_now, .ref m_first, .ref m_second, .ref m_behind, .ref m_states, .int 0, .int 0, .int 0, .ref m_alone0, .ref m_endsBy, .ref m_kept0, .int 0, .int 0, .long 1]))]) hD hS hA [0] rfl
  refine va_calli (va_runV (As := []) (rest := []) ⟨hx, hb, hml, hown, hts⟩ (c_X7_isWordHere l dC dI H.size h0 m_tape m_refused m_own m_draft m_program m_goPlace m_isCome m_heap m_now m_first m_second m_behind m_states m_alone0 m_endsBy m_kept0) (cwV 0 hts (ax_gV T_208 T_209 T_210 T_189 T_207) rfl rfl rfl (by decide +kernel) ⟨Nat.le_of_ble_eq_true rfl, Nat.le_of_ble_eq_true rfl⟩) ⟨fun a U g mk q => ⟨q.1, ax_pc rfl rfl q.2⟩, va_recv hKc hPc (ci := 7) (q0 := 0) rfl rfl, fun U hU hW => ⟨rfl, ax_pw hU hW hPc hKc hDc hN⟩⟩ rfl rfl hl.1 rfl (lv_room (Nat.le_of_ble_eq_true rfl)) dX7_ownHere_1 ⟨Nat.le_of_ble_eq_true rfl, Nat.le_of_ble_eq_true rfl⟩) hS (fun q _ h => hFc q h) hFc (fun r1 _ t H1 locs ht hvm hw hB hz1 hk1 hS => ?_)
  obtain ⟨hP1, hK1, hD1⟩ := hB
  rw [ht] at hP1
  have hK1 := va_K.moved hvm.symm hK1
  obtain ⟨hP, hD⟩ := va_join (wr := []) (w1 := [(h0, .inr (7, [.ref m_tape, .int 0, .int 0, .int 0, .int (-1), .int 0, .int (-1), .int 0, .int (-1), .ref m_refused, .ref m_own, .int 0, .ref m_draft, .ref m_program, .ref m_goPlace, .int 0, .int 0, .ref m_isCome, .ref m_heap, .int 0, .ref m_now, .ref m_first, .ref m_second, .ref m_behind, .ref m_states, .int 0, .int 0, .int 0, .ref m_alone0, .ref m_endsBy, .ref m_kept0, .int 0, .int 0, .long 1]))]) hP hD [0] [] rfl rfl (by decide) (by decide) hk1 hFc hP1 hD1
  generalize H1 = H at hP hS ⊢
  have hP : va_P (dC, dI) vwCl [(h0, .inr (7, [.ref m_tape, .int 0, .int 0, .int 0, .int (-1), .int 0, .int (-1), .int 0, .int (-1), .ref m_refused, .ref m_own, .int 0, .ref m_draft, .ref m_program, .ref m_goPlace, .int 0, .int 0, .ref m_isCome, .ref m_heap, .int 0, .ref m_now, .ref m_first, .ref m_second, .ref m_behind, .ref m_states, .int 0, .int 0, .int 0, .ref m_alone0, .ref m_endsBy, .ref m_kept0, .int 0, .int 0, .long 1]))] H := hP
  have hD : va_D A [(h0, .inr (7, [.ref m_tape, .int 0, .int 0, .int 0, .int (-1), .int 0, .int (-1), .int 0, .int (-1), .ref m_refused, .ref m_own, .int 0, .ref m_draft, .ref m_program, .ref m_goPlace, .int 0, .int 0, .ref m_isCome, .ref m_heap, .int 0, .ref m_now, .ref m_first, .ref m_second, .ref m_behind, .ref m_states, .int 0, .int 0, .int 0, .ref m_alone0, .ref m_endsBy, .ref m_kept0, .int 0, .int 0, .long 1]))] := hD
  subst hw
  refine lv_if_ne (tgt := 9) hx hb dX7_ownHere_4 (by decide) (fun c => absurd (by decide) c) (fun _ => ?_)
  refine lv_iconst (v := (-1)) hx hb dX7_ownHere_7 (by decide) ?_
  have hP9 := hP.sub (ws' := [(h0, .inr (7, [.ref m_tape, .int 0, .int 0, .int 0, .int (-1), .int 0, .int (-1), .int 0, .int (-1), .ref m_refused, .ref m_own, .int 0, .ref m_draft, .ref m_program, .ref m_goPlace, .int 0, .int 0, .ref m_isCome, .ref m_heap, .int 0, .ref m_now, .ref m_first, .ref m_second, .ref m_behind, .ref m_states, .int 0, .int 0, .int 0, .ref m_alone0, .ref m_endsBy, .ref m_kept0, .int 0, .int 0, .long 1]))]) [0] rfl
  have hD9 := hD.sub (ws' := [(h0, .inr (7, [.ref m_tape, .int 0, .int 0, .int 0, .int (-1), .int 0, .int (-1), .int 0, .int (-1), .ref m_refused, .ref m_own, .int 0, .ref m_draft, .ref m_program, .ref m_goPlace, .int 0, .int 0, .ref m_isCome, .ref m_heap, .int 0, .ref m_now, .ref m_first, .ref m_second, .ref m_behind, .ref m_states, .int 0, .int 0, .int 0, .ref m_alone0, .ref m_endsBy, .ref m_kept0, .int 0, .int 0, .long 1]))]) [0] (by decide) rfl
  have hK9 := hK.sub (tys' := []) [] rfl
  exact W.iret (v := (-1)) hx hb hr (fun t ht hW => ⟨⟨(-1), (), rfl, rfl, by rw [ht]; exact hP9, va_K.moved hW.alike hK9, hD9⟩, hS.F ht⟩) hS.2.2 dX7_ownHere_8

set_option maxHeartbeats 4000000 in
set_option maxRecDepth 100000 in
theorem c_X7_takes (l : Launch) (dC : Nat → ClassId) (dI : Nat → Nat → Nat) (sz : Nat) (h0 : Nat) (m_tape : Nat) (m_refused : Nat) (m_own : Nat) (m_draft : Nat) (m_program : Nat) (m_goPlace : Nat) (m_isCome : Nat) (m_heap : Nat) (m_now : Nat) (m_first : Nat) (m_second : Nat) (m_behind : Nat) (m_states : Nat) (m_alone0 : Nat) (m_endsBy : Nat) (m_kept0 : Nat) : Met l yX7_takes (Cond.code yX7_takes cX7_takes 2 (some .boolean) :: T0) ({ frames := 3, cells := 0, slots := 0, locals := 64 }) (va_Pc [.ref h0, .int 20] (ax_W dC dI sz [(h0, .inr (7, [.ref m_tape, .int 0, .int 0, .int 0, .int (-1), .int 0, .int (-1), .int 0, .int (-1), .ref m_refused, .ref m_own, .int 0, .ref m_draft, .ref m_program, .ref m_goPlace, .int 0, .int 0, .ref m_isCome, .ref m_heap, .int 0, .ref m_now, .ref m_first, .ref m_second, .ref m_behind, .ref m_states, .int 0, .int 0, .int 0, .ref m_alone0, .ref m_endsBy, .ref m_kept0, .int 0, .int 0, .long 1]))] [])) (va_Qi (fun (r : Int32) (_ : Unit) => r = 0) (fun (_ : Unit) (t : State) => va_P (dC, dI) vwCl [(h0, .inr (7, [.ref m_tape, .int 0, .int 0, .int 0, .int (-1), .int 0, .int (-1), .int 0, .int (-1), .ref m_refused, .ref m_own, .int 0, .ref m_draft, .ref m_program, .ref m_goPlace, .int 0, .int 0, .ref m_isCome, .ref m_heap, .int 0, .ref m_now, .ref m_first, .ref m_second, .ref m_behind, .ref m_states, .int 0, .int 0, .int 0, .ref m_alone0, .ref m_endsBy, .ref m_kept0, .int 0, .int 0, .long 1]))] t.heap ∧ va_K (dC, dI) vwCl [] t ∧ va_D (va_A [(h0, .inr (7, [.ref m_tape, .int 0, .int 0, .int 0, .int (-1), .int 0, .int (-1), .int 0, .int (-1), .ref m_refused, .ref m_own, .int 0, .ref m_draft, .ref m_program, .ref m_goPlace, .int 0, .int 0, .ref m_isCome, .ref m_heap, .int 0, .ref m_now, .ref m_first, .ref m_second, .ref m_behind, .ref m_states, .int 0, .int 0, .int 0, .ref m_alone0, .ref m_endsBy, .ref m_kept0, .int 0, .int 0, .long 1]))] sz) [(h0, .inr (7, [.ref m_tape, .int 0, .int 0, .int 0, .int (-1), .int 0, .int (-1), .int 0, .int (-1), .ref m_refused, .ref m_own, .int 0, .ref m_draft, .ref m_program, .ref m_goPlace, .int 0, .int 0, .ref m_isCome, .ref m_heap, .int 0, .ref m_now, .ref m_first, .ref m_second, .ref m_behind, .ref m_states, .int 0, .int 0, .int 0, .ref m_alone0, .ref m_endsBy, .ref m_kept0, .int 0, .int 0, .long 1]))]) (va_A [(h0, .inr (7, [.ref m_tape, .int 0, .int 0, .int 0, .int (-1), .int 0, .int (-1), .int 0, .int (-1), .ref m_refused, .ref m_own, .int 0, .ref m_draft, .ref m_program, .ref m_goPlace, .int 0, .int 0, .ref m_isCome, .ref m_heap, .int 0, .ref m_now, .ref m_first, .ref m_second, .ref m_behind, .ref m_states, .int 0, .int 0, .int 0, .ref m_alone0, .ref m_endsBy, .ref m_kept0, .int 0, .int 0, .long 1]))] sz)) 0 0 (va_A [(h0, .inr (7, [.ref m_tape, .int 0, .int 0, .int 0, .int (-1), .int 0, .int (-1), .int 0, .int (-1), .ref m_refused, .ref m_own, .int 0, .ref m_draft, .ref m_program, .ref m_goPlace, .int 0, .int 0, .ref m_isCome, .ref m_heap, .int 0, .ref m_now, .ref m_first, .ref m_second, .ref m_behind, .ref m_states, .int 0, .int 0, .int 0, .ref m_alone0, .ref m_endsBy, .ref m_kept0, .int 0, .int 0, .long 1]))] sz) := by
  refine Met.ofW (cc := cX7_takes) (maxL := 2) (ret := (some .boolean)) (by decide) rfl ?_
  intro p e s m args below meth c s₁ B hml hv
  obtain ⟨rfl, hsz, hP, hK, hD0, hN⟩ := hv
  have hx := B.exec
  have hb := B.bytes
  have hr := B.returns
  have hts : ∀ w ∈ T0, w.before _ s = true := fun w h => atoms_spec (ws := Cond.code yX7_takes cX7_takes 2 (some .boolean) :: T0) B.pre w (List.mem_cons_of_mem _ h)
  have hown : s.vm.findClass RX7 = some m.cls := findClass_of_methodNamed B.named
  have hlocks := B.notSynchronized
  subst hsz
  have hD := hD0.self (sz := s.heap.size)
  generalize hAe : va_A [(h0, .inr (7, [.ref m_tape, .int 0, .int 0, .int 0, .int (-1), .int 0, .int (-1), .int 0, .int (-1), .ref m_refused, .ref m_own, .int 0, .ref m_draft, .ref m_program, .ref m_goPlace, .int 0, .int 0, .ref m_isCome, .ref m_heap, .int 0, .ref m_now, .ref m_first, .ref m_second, .ref m_behind, .ref m_states, .int 0, .int 0, .int 0, .ref m_alone0, .ref m_endsBy, .ref m_kept0, .int 0, .int 0, .long 1]))] s.heap.size = A at hD ⊢
  have hA : ∀ q : Nat, s.heap.size ≤ q → A q := fun q h => by rw [← hAe]; exact Or.inr h
  have hS : va_S A s.heap s.heap [] := va_S.rf
  have hP : va_P (dC, dI) vwCl [(h0, .inr (7, [.ref m_tape, .int 0, .int 0, .int 0, .int (-1), .int 0, .int (-1), .int 0, .int (-1), .ref m_refused, .ref m_own, .int 0, .ref m_draft, .ref m_program, .ref m_goPlace, .int 0, .int 0, .ref m_isCome, .ref m_heap, .int 0, .ref m_now, .ref m_first, .ref m_second, .ref m_behind, .ref m_states, .int 0, .int 0, .int 0, .ref m_alone0, .ref m_endsBy, .ref m_kept0, .int 0, .int 0, .long 1]))] s.heap := hP
  have hl := lv_entry ([.ref h0, .int 20]) (n := 2) (Nat.le_of_ble_eq_true rfl)
  rw [lg_entry_eq]
  generalize (lg_sl ([.ref h0, .int 20]) ++ List.replicate (2 - (lg_sl ([.ref h0, .int 20])).length) Slot.unset).toArray = ls at hl ⊢
  refine ax_gen hP hD hS (fun H locs hP hD hS => ?_)
  have hl : lv_has ls 2 [(0, .ref h0), (1, .int 20)] := hl
  refine lv_aload_n hx hb dX7_takes_0 rfl (lv_at hl 0 rfl) ?_
  have hPc := hP.sub (ws' := [(h0, .inr (7, [.ref m_tape, .int 0, .int 0, .int 0, .int (-1), .int 0, .int (-1), .int 0, .int (-1), .ref m_refused, .ref m_own, .int 0, .ref m_draft, .ref m_program, .ref m_goPlace, .int 0, .int 0, .ref m_isCome, .ref m_heap, .int 0, .ref m_now, .ref m_first, .ref m_second, .ref m_behind, .ref m_states, .int 0, .int 0, .int 0, .ref m_alone0, .ref m_endsBy, .ref m_kept0, .int 0, .int 0, .long 1]))]) [0] rfl
  have hDc := hD.sub (ws' := [(h0, .inr (7, [.ref m_tape, .int 0, .int 0, .int 0, .int (-1), .int 0, .int (-1), .int 0, .int (-1), .ref m_refused, .ref m_own, .int 0, .ref m_draft, .ref m_program, .ref m_goPlace, .int 0, .int 0, .ref m_isCome, .ref m_heap, .int 0, .ref m_now, .ref m_first, .ref m_second, .ref m_behind, .ref m_states, .int 0, .int 0, .int 0, .ref m_alone0, .ref m_endsBy, .ref m_kept0, .int 0, .int 0, .long 1]))]) [0] (by decide) rfl
  have hKc := hK.sub (tys' := []) [] rfl
  have hFc := va_free (wc := [(h0, .inr (7, [.ref m_tape, .int 0, .int 0, .int 0, .int (-1), .int 0, .int (-1), .int 0, .int (-1), .ref m_refused, .ref m_own, .int 0, .ref m_draft, .ref m_program, .ref m_goPlace, .int 0, .int 0, .ref m_isCome, .ref m_heap, .int 0, .ref m_now, .ref m_first, .ref m_second, .ref m_behind, .ref m_states, .int 0, .int 0, .int 0, .ref m_alone0, .ref m_endsBy, .ref m_kept0, .int 0, .int 0, .long 1]))]) hD hS hA [0] rfl
  refine va_calli (va_runV (As := []) (rest := []) ⟨hx, hb, hml, hown, hts⟩ (c_X7_ownHere l dC dI H.size h0 m_tape m_refused m_own m_draft m_program m_goPlace m_isCome m_heap m_now m_first m_second m_behind m_states m_alone0 m_endsBy m_kept0) (cwV 0 hts (ax_gV T_212 T_213 T_214 T_189 T_211) rfl rfl rfl (by decide +kernel) ⟨Nat.le_of_ble_eq_true rfl, Nat.le_of_ble_eq_true rfl⟩) ⟨fun a U g mk q => ⟨q.1, ax_pc rfl rfl q.2⟩, va_recv hKc hPc (ci := 7) (q0 := 0) rfl rfl, fun U hU hW => ⟨rfl, ax_pw hU hW hPc hKc hDc hN⟩⟩ rfl rfl hl.1 rfl (lv_room (Nat.le_of_ble_eq_true rfl)) dX7_takes_1 ⟨Nat.le_of_ble_eq_true rfl, Nat.le_of_ble_eq_true rfl⟩) hS (fun q _ h => hFc q h) hFc (fun r1 _ t H1 locs ht hvm hw hB hz1 hk1 hS => ?_)
  obtain ⟨hP1, hK1, hD1⟩ := hB
  rw [ht] at hP1
  have hK1 := va_K.moved hvm.symm hK1
  obtain ⟨hP, hD⟩ := va_join (wr := []) (w1 := [(h0, .inr (7, [.ref m_tape, .int 0, .int 0, .int 0, .int (-1), .int 0, .int (-1), .int 0, .int (-1), .ref m_refused, .ref m_own, .int 0, .ref m_draft, .ref m_program, .ref m_goPlace, .int 0, .int 0, .ref m_isCome, .ref m_heap, .int 0, .ref m_now, .ref m_first, .ref m_second, .ref m_behind, .ref m_states, .int 0, .int 0, .int 0, .ref m_alone0, .ref m_endsBy, .ref m_kept0, .int 0, .int 0, .long 1]))]) hP hD [0] [] rfl rfl (by decide) (by decide) hk1 hFc hP1 hD1
  generalize H1 = H at hP hS ⊢
  have hP : va_P (dC, dI) vwCl [(h0, .inr (7, [.ref m_tape, .int 0, .int 0, .int 0, .int (-1), .int 0, .int (-1), .int 0, .int (-1), .ref m_refused, .ref m_own, .int 0, .ref m_draft, .ref m_program, .ref m_goPlace, .int 0, .int 0, .ref m_isCome, .ref m_heap, .int 0, .ref m_now, .ref m_first, .ref m_second, .ref m_behind, .ref m_states, .int 0, .int 0, .int 0, .ref m_alone0, .ref m_endsBy, .ref m_kept0, .int 0, .int 0, .long 1]))] H := hP
  have hD : va_D A [(h0, .inr (7, [.ref m_tape, .int 0, .int 0, .int 0, .int (-1), .int 0, .int (-1), .int 0, .int (-1), .ref m_refused, .ref m_own, .int 0, .ref m_draft, .ref m_program, .ref m_goPlace, .int 0, .int 0, .ref m_isCome, .ref m_heap, .int 0, .ref m_now, .ref m_first, .ref m_second, .ref m_behind, .ref m_states, .int 0, .int 0, .int 0, .ref m_alone0, .ref m_endsBy, .ref m_kept0, .int 0, .int 0, .long 1]))] := hD
  subst hw
  refine lv_iload_n hx hb dX7_takes_4 rfl (lv_at hl 1 rfl) ?_
  refine lv_icmp_eq (tgt := 10) hx hb dX7_takes_5 (by decide) (fun c => absurd c (by decide)) (fun _ => ?_)
  refine lv_iconst (v := 0) hx hb dX7_takes_8 (by decide) ?_
  have hP9 := hP.sub (ws' := [(h0, .inr (7, [.ref m_tape, .int 0, .int 0, .int 0, .int (-1), .int 0, .int (-1), .int 0, .int (-1), .ref m_refused, .ref m_own, .int 0, .ref m_draft, .ref m_program, .ref m_goPlace, .int 0, .int 0, .ref m_isCome, .ref m_heap, .int 0, .ref m_now, .ref m_first, .ref m_second, .ref m_behind, .ref m_states, .int 0, .int 0, .int 0, .ref m_alone0, .ref m_endsBy, .ref m_kept0, .int 0, .int 0, .long 1]))]) [0] rfl
  have hD9 := hD.sub (ws' := [(h0, .inr (7, [.ref m_tape, .int 0, .int 0, .int 0, .int (-1), .int 0, .int (-1), .int 0, .int (-1), .ref m_refused, .ref m_own, .int 0, .ref m_draft, .ref m_program, .ref m_goPlace, .int 0, .int 0, .ref m_isCome, .ref m_heap, .int 0, .ref m_now, .ref m_first, .ref m_second, .ref m_behind, .ref m_states, .int 0, .int 0, .int 0, .ref m_alone0, .ref m_endsBy, .ref m_kept0, .int 0, .int 0, .long 1]))]) [0] (by decide) rfl
  have hK9 := hK.sub (tys' := []) [] rfl
  exact W.zret (v := 0) (ty := .boolean) hx hb hr (by decide) (fun t ht hW => ⟨⟨0, (), rfl, rfl, by rw [ht]; exact hP9, va_K.moved hW.alike hK9, hD9⟩, hS.F ht⟩) hS.2.2 dX7_takes_9

set_option maxHeartbeats 4000000 in
set_option maxRecDepth 100000 in
/-- fail -/
theorem c_X7_fail (l : Launch) (dC : Nat → ClassId) (dI : Nat → Nat → Nat) (sz : Nat) (h0 : Nat) (m_tape : Nat) (m_refused : Nat) (m_own : Nat) (m_draft : Nat) (m_program : Nat) (m_goPlace : Nat) (m_isCome : Nat) (m_heap : Nat) (m_now : Nat) (m_first : Nat) (m_second : Nat) (m_behind : Nat) (m_states : Nat) (m_alone0 : Nat) (m_endsBy : Nat) (m_kept0 : Nat) : Met l yX7_fail (Cond.code yX7_fail cX7_fail 3 none :: T0) ({ frames := 0, cells := 0, slots := 0, locals := 0 }) (va_Pc [.ref h0, .int 1, .int 0] (ax_W dC dI sz [(h0, .inr (7, [.ref m_tape, .int 0, .int 0, .int 0, .int (-1), .int 0, .int (-1), .int 0, .int (-1), .ref m_refused, .ref m_own, .int 0, .ref m_draft, .ref m_program, .ref m_goPlace, .int 0, .int 0, .ref m_isCome, .ref m_heap, .int 0, .ref m_now, .ref m_first, .ref m_second, .ref m_behind, .ref m_states, .int 0, .int 0, .int 0, .ref m_alone0, .ref m_endsBy, .ref m_kept0, .int 0, .int 0, .long 1]))] [])) (va_Qv (fun (_ : Unit) => True) (fun (_ : Unit) (t : State) => va_P (dC, dI) vwCl [(h0, .inr (7, [.ref m_tape, .int 0, .int 0, .int 0, .int (-1), .int 1, .int 0, .int 0, .int (-1), .ref m_refused, .ref m_own, .int 0, .ref m_draft, .ref m_program, .ref m_goPlace, .int 0, .int 0, .ref m_isCome, .ref m_heap, .int 0, .ref m_now, .ref m_first, .ref m_second, .ref m_behind, .ref m_states, .int 0, .int 0, .int 0, .ref m_alone0, .ref m_endsBy, .ref m_kept0, .int 0, .int 0, .long 1]))] t.heap ∧ va_K (dC, dI) vwCl [] t ∧ va_D (va_A [(h0, .inr (7, [.ref m_tape, .int 0, .int 0, .int 0, .int (-1), .int 0, .int (-1), .int 0, .int (-1), .ref m_refused, .ref m_own, .int 0, .ref m_draft, .ref m_program, .ref m_goPlace, .int 0, .int 0, .ref m_isCome, .ref m_heap, .int 0, .ref m_now, .ref m_first, .ref m_second, .ref m_behind, .ref m_states, .int 0, .int 0, .int 0, .ref m_alone0, .ref m_endsBy, .ref m_kept0, .int 0, .int 0, .long 1]))] sz) [(h0, .inr (7, [.ref m_tape, .int 0, .int 0, .int 0, .int (-1), .int 1, .int 0, .int 0, .int (-1), .ref m_refused, .ref m_own, .int 0, .ref m_draft, .ref m_program, .ref m_goPlace, .int 0, .int 0, .ref m_isCome, .ref m_heap, .int 0, .ref m_now, .ref m_first, .ref m_second, .ref m_behind, .ref m_states, .int 0, .int 0, .int 0, .ref m_alone0, .ref m_endsBy, .ref m_kept0, .int 0, .int 0, .long 1]))]) (va_A [(h0, .inr (7, [.ref m_tape, .int 0, .int 0, .int 0, .int (-1), .int 0, .int (-1), .int 0, .int (-1), .ref m_refused, .ref m_own, .int 0, .ref m_draft, .ref m_program, .ref m_goPlace, .int 0, .int 0, .ref m_isCome, .ref m_heap, .int 0, .ref m_now, .ref m_first, .ref m_second, .ref m_behind, .ref m_states, .int 0, .int 0, .int 0, .ref m_alone0, .ref m_endsBy, .ref m_kept0, .int 0, .int 0, .long 1]))] sz)) 0 0 (va_A [(h0, .inr (7, [.ref m_tape, .int 0, .int 0, .int 0, .int (-1), .int 0, .int (-1), .int 0, .int (-1), .ref m_refused, .ref m_own, .int 0, .ref m_draft, .ref m_program, .ref m_goPlace, .int 0, .int 0, .ref m_isCome, .ref m_heap, .int 0, .ref m_now, .ref m_first, .ref m_second, .ref m_behind, .ref m_states, .int 0, .int 0, .int 0, .ref m_alone0, .ref m_endsBy, .ref m_kept0, .int 0, .int 0, .long 1]))] sz) := by
  refine Met.ofW (cc := cX7_fail) (maxL := 3) (ret := none) (by decide) rfl ?_
  intro p e s m args below meth c s₁ B hml hv
  obtain ⟨rfl, hsz, hP, hK, hD0, hN⟩ := hv
  have hx := B.exec
  have hb := B.bytes
  have hr := B.returns
  have hts : ∀ w ∈ T0, w.before _ s = true := fun w h => atoms_spec (ws := Cond.code yX7_fail cX7_fail 3 none :: T0) B.pre w (List.mem_cons_of_mem _ h)
  have hown : s.vm.findClass RX7 = some m.cls := findClass_of_methodNamed B.named
  have hlocks := B.notSynchronized
  subst hsz
  have hD := hD0.self (sz := s.heap.size)
  generalize hAe : va_A [(h0, .inr (7, [.ref m_tape, .int 0, .int 0, .int 0, .int (-1), .int 0, .int (-1), .int 0, .int (-1), .ref m_refused, .ref m_own, .int 0, .ref m_draft, .ref m_program, .ref m_goPlace, .int 0, .int 0, .ref m_isCome, .ref m_heap, .int 0, .ref m_now, .ref m_first, .ref m_second, .ref m_behind, .ref m_states, .int 0, .int 0, .int 0, .ref m_alone0, .ref m_endsBy, .ref m_kept0, .int 0, .int 0, .long 1]))] s.heap.size = A at hD ⊢
  have hA : ∀ q : Nat, s.heap.size ≤ q → A q := fun q h => by rw [← hAe]; exact Or.inr h
  have hS : va_S A s.heap s.heap [] := va_S.rf
  have hP : va_P (dC, dI) vwCl [(h0, .inr (7, [.ref m_tape, .int 0, .int 0, .int 0, .int (-1), .int 0, .int (-1), .int 0, .int (-1), .ref m_refused, .ref m_own, .int 0, .ref m_draft, .ref m_program, .ref m_goPlace, .int 0, .int 0, .ref m_isCome, .ref m_heap, .int 0, .ref m_now, .ref m_first, .ref m_second, .ref m_behind, .ref m_states, .int 0, .int 0, .int 0, .ref m_alone0, .ref m_endsBy, .ref m_kept0, .int 0, .int 0, .long 1]))] s.heap := hP
  have hl := lv_entry ([.ref h0, .int 1, .int 0]) (n := 3) (Nat.le_of_ble_eq_true rfl)
  rw [lg_entry_eq]
  generalize (lg_sl ([.ref h0, .int 1, .int 0]) ++ List.replicate (3 - (lg_sl ([.ref h0, .int 1, .int 0])).length) Slot.unset).toArray = ls at hl ⊢
  refine ax_gen hP hD hS (fun H locs hP hD hS => ?_)
  have hl : lv_has ls 3 [(0, .ref h0), (1, .int 1), (2, .int 0)] := hl
  refine lv_aload_n hx hb dX7_fail_0 rfl (lv_at hl 0 rfl) ?_
  refine va_get (D := (dC, dI)) (ci := 7) (v := .int 0) (C := RX7) (T := TX7) (N := 34) hx hb hts inX7 hown hK hP 0 rfl rfl 5 (by decide) (hts _ T_199) (fun _ h9 => h9) rfl dX7_fail_1 ?_
  refine lv_if_eq (tgt := 8) hx hb dX7_fail_4 (by decide) (fun _ => ?_) (fun c => absurd (by decide) c)
  refine lv_aload_n hx hb dX7_fail_8 rfl (lv_at hl 0 rfl) ?_
  refine lv_iload_n hx hb dX7_fail_9 rfl (lv_at hl 1 rfl) ?_
  refine va_put (D := (dC, dI)) (ci := 7) (v := .int 1) (ty := .int) (C := RX7) (T := TX7) (N := 34) hx hb hts inX7 tyX7 tyX7_ok nmX7 hown hK hP hD hS 0 rfl rfl 5 (by decide) (hts _ T_199) (fun _ h9 => h9) rfl (by decide +kernel) rfl rfl (Nat.le_of_ble_eq_true rfl) dX7_fail_10 (fun H locs hP hD hS => ?_)
  have hP : va_P (dC, dI) vwCl [(h0, .inr (7, [.ref m_tape, .int 0, .int 0, .int 0, .int (-1), .int 1, .int (-1), .int 0, .int (-1), .ref m_refused, .ref m_own, .int 0, .ref m_draft, .ref m_program, .ref m_goPlace, .int 0, .int 0, .ref m_isCome, .ref m_heap, .int 0, .ref m_now, .ref m_first, .ref m_second, .ref m_behind, .ref m_states, .int 0, .int 0, .int 0, .ref m_alone0, .ref m_endsBy, .ref m_kept0, .int 0, .int 0, .long 1]))] H := hP
  have hD : va_D A [(h0, .inr (7, [.ref m_tape, .int 0, .int 0, .int 0, .int (-1), .int 1, .int (-1), .int 0, .int (-1), .ref m_refused, .ref m_own, .int 0, .ref m_draft, .ref m_program, .ref m_goPlace, .int 0, .int 0, .ref m_isCome, .ref m_heap, .int 0, .ref m_now, .ref m_first, .ref m_second, .ref m_behind, .ref m_states, .int 0, .int 0, .int 0, .ref m_alone0, .ref m_endsBy, .ref m_kept0, .int 0, .int 0, .long 1]))] := hD
  refine lv_aload_n hx hb dX7_fail_13 rfl (lv_at hl 0 rfl) ?_
  refine lv_iload_n hx hb dX7_fail_14 rfl (lv_at hl 2 rfl) ?_
  refine va_put (D := (dC, dI)) (ci := 7) (v := .int 0) (ty := .int) (C := RX7) (T := TX7) (N := 34) hx hb hts inX7 tyX7 tyX7_ok nmX7 hown hK hP hD hS 0 rfl rfl 6 (by decide) (hts _ T_215) (fun _ h9 => h9) rfl (by decide +kernel) rfl rfl (Nat.le_of_ble_eq_true rfl) dX7_fail_15 (fun H locs hP hD hS => ?_)
  have hP : va_P (dC, dI) vwCl [(h0, .inr (7, [.ref m_tape, .int 0, .int 0, .int 0, .int (-1), .int 1, .int 0, .int 0, .int (-1), .ref m_refused, .ref m_own, .int 0, .ref m_draft, .ref m_program, .ref m_goPlace, .int 0, .int 0, .ref m_isCome, .ref m_heap, .int 0, .ref m_now, .ref m_first, .ref m_second, .ref m_behind, .ref m_states, .int 0, .int 0, .int 0, .ref m_alone0, .ref m_endsBy, .ref m_kept0, .int 0, .int 0, .long 1]))] H := hP
  have hD : va_D A [(h0, .inr (7, [.ref m_tape, .int 0, .int 0, .int 0, .int (-1), .int 1, .int 0, .int 0, .int (-1), .ref m_refused, .ref m_own, .int 0, .ref m_draft, .ref m_program, .ref m_goPlace, .int 0, .int 0, .ref m_isCome, .ref m_heap, .int 0, .ref m_now, .ref m_first, .ref m_second, .ref m_behind, .ref m_states, .int 0, .int 0, .int 0, .ref m_alone0, .ref m_endsBy, .ref m_kept0, .int 0, .int 0, .long 1]))] := hD
  have hP9 := hP.sub (ws' := [(h0, .inr (7, [.ref m_tape, .int 0, .int 0, .int 0, .int (-1), .int 1, .int 0, .int 0, .int (-1), .ref m_refused, .ref m_own, .int 0, .ref m_draft, .ref m_program, .ref m_goPlace, .int 0, .int 0, .ref m_isCome, .ref m_heap, .int 0, .ref m_now, .ref m_first, .ref m_second, .ref m_behind, .ref m_states, .int 0, .int 0, .int 0, .ref m_alone0, .ref m_endsBy, .ref m_kept0, .int 0, .int 0, .long 1]))]) [0] rfl
  have hD9 := hD.sub (ws' := [(h0, .inr (7, [.ref m_tape, .int 0, .int 0, .int 0, .int (-1), .int 1, .int 0, .int 0, .int (-1), .ref m_refused, .ref m_own, .int 0, .ref m_draft, .ref m_program, .ref m_goPlace, .int 0, .int 0, .ref m_isCome, .ref m_heap, .int 0, .ref m_now, .ref m_first, .ref m_second, .ref m_behind, .ref m_states, .int 0, .int 0, .int 0, .ref m_alone0, .ref m_endsBy, .ref m_kept0, .int 0, .int 0, .long 1]))]) [0] (by decide) rfl
  have hK9 := hK.sub (tys' := []) [] rfl
  exact W.vret hx hb hr (fun t ht hW => ⟨⟨(), rfl, trivial, by rw [ht]; exact hP9, va_K.moved hW.alike hK9, hD9⟩, hS.F ht⟩) hS.2.2 dX7_fail_18

set_option maxHeartbeats 4000000 in
set_option maxRecDepth 100000 in
/-- asks -/
theorem c_X7_asks (l : Launch) (dC : Nat → ClassId) (dI : Nat → Nat → Nat) (sz : Nat) (h0 : Nat) (m_tape : Nat) (m_refused : Nat) (m_own : Nat) (m_draft : Nat) (m_program : Nat) (m_goPlace : Nat) (m_isCome : Nat) (m_heap : Nat) (m_now : Nat) (m_first : Nat) (m_second : Nat) (m_behind : Nat) (m_states : Nat) (m_alone0 : Nat) (m_endsBy : Nat) (m_kept0 : Nat) : Met l yX7_asks (Cond.code yX7_asks cX7_asks 2 none :: T0) ({ frames := 4, cells := 0, slots := 0, locals := 85 }) (va_Pc [.ref h0, .int 20] (ax_W dC dI sz [(h0, .inr (7, [.ref m_tape, .int 0, .int 0, .int 0, .int (-1), .int 0, .int (-1), .int 0, .int (-1), .ref m_refused, .ref m_own, .int 0, .ref m_draft, .ref m_program, .ref m_goPlace, .int 0, .int 0, .ref m_isCome, .ref m_heap, .int 0, .ref m_now, .ref m_first, .ref m_second, .ref m_behind, .ref m_states, .int 0, .int 0, .int 0, .ref m_alone0, .ref m_endsBy, .ref m_kept0, .int 0, .int 0, .long 1]))] [])) (va_Qv (fun (_ : Unit) => True) (fun (_ : Unit) (t : State) => va_P (dC, dI) vwCl [(h0, .inr (7, [.ref m_tape, .int 0, .int 0, .int 0, .int (-1), .int 1, .int 0, .int 0, .int (-1), .ref m_refused, .ref m_own, .int 0, .ref m_draft, .ref m_program, .ref m_goPlace, .int 0, .int 0, .ref m_isCome, .ref m_heap, .int 0, .ref m_now, .ref m_first, .ref m_second, .ref m_behind, .ref m_states, .int 0, .int 0, .int 0, .ref m_alone0, .ref m_endsBy, .ref m_kept0, .int 0, .int 0, .long 1]))] t.heap ∧ va_K (dC, dI) vwCl [] t ∧ va_D (va_A [(h0, .inr (7, [.ref m_tape, .int 0, .int 0, .int 0, .int (-1), .int 0, .int (-1), .int 0, .int (-1), .ref m_refused, .ref m_own, .int 0, .ref m_draft, .ref m_program, .ref m_goPlace, .int 0, .int 0, .ref m_isCome, .ref m_heap, .int 0, .ref m_now, .ref m_first, .ref m_second, .ref m_behind, .ref m_states, .int 0, .int 0, .int 0, .ref m_alone0, .ref m_endsBy, .ref m_kept0, .int 0, .int 0, .long 1]))] sz) [(h0, .inr (7, [.ref m_tape, .int 0, .int 0, .int 0, .int (-1), .int 1, .int 0, .int 0, .int (-1), .ref m_refused, .ref m_own, .int 0, .ref m_draft, .ref m_program, .ref m_goPlace, .int 0, .int 0, .ref m_isCome, .ref m_heap, .int 0, .ref m_now, .ref m_first, .ref m_second, .ref m_behind, .ref m_states, .int 0, .int 0, .int 0, .ref m_alone0, .ref m_endsBy, .ref m_kept0, .int 0, .int 0, .long 1]))]) (va_A [(h0, .inr (7, [.ref m_tape, .int 0, .int 0, .int 0, .int (-1), .int 0, .int (-1), .int 0, .int (-1), .ref m_refused, .ref m_own, .int 0, .ref m_draft, .ref m_program, .ref m_goPlace, .int 0, .int 0, .ref m_isCome, .ref m_heap, .int 0, .ref m_now, .ref m_first, .ref m_second, .ref m_behind, .ref m_states, .int 0, .int 0, .int 0, .ref m_alone0, .ref m_endsBy, .ref m_kept0, .int 0, .int 0, .long 1]))] sz)) 0 0 (va_A [(h0, .inr (7, [.ref m_tape, .int 0, .int 0, .int 0, .int (-1), .int 0, .int (-1), .int 0, .int (-1), .ref m_refused, .ref m_own, .int 0, .ref m_draft, .ref m_program, .ref m_goPlace, .int 0, .int 0, .ref m_isCome, .ref m_heap, .int 0, .ref m_now, .ref m_first, .ref m_second, .ref m_behind, .ref m_states, .int 0, .int 0, .int 0, .ref m_alone0, .ref m_endsBy, .ref m_kept0, .int 0, .int 0, .long 1]))] sz) := by
  refine Met.ofW (cc := cX7_asks) (maxL := 2) (ret := none) (by decide) rfl ?_
  intro p e s m args below meth c s₁ B hml hv
  obtain ⟨rfl, hsz, hP, hK, hD0, hN⟩ := hv
  have hx := B.exec
  have hb := B.bytes
  have hr := B.returns
  have hts : ∀ w ∈ T0, w.before _ s = true := fun w h => atoms_spec (ws := Cond.code yX7_asks cX7_asks 2 none :: T0) B.pre w (List.mem_cons_of_mem _ h)
  have hown : s.vm.findClass RX7 = some m.cls := findClass_of_methodNamed B.named
  have hlocks := B.notSynchronized
  subst hsz
  have hD := hD0.self (sz := s.heap.size)
  generalize hAe : va_A [(h0, .inr (7, [.ref m_tape, .int 0, .int 0, .int 0, .int (-1), .int 0, .int (-1), .int 0, .int (-1), .ref m_refused, .ref m_own, .int 0, .ref m_draft, .ref m_program, .ref m_goPlace, .int 0, .int 0, .ref m_isCome, .ref m_heap, .int 0, .ref m_now, .ref m_first, .ref m_second, .ref m_behind, .ref m_states, .int 0, .int 0, .int 0, .ref m_alone0, .ref m_endsBy, .ref m_kept0, .int 0, .int 0, .long 1]))] s.heap.size = A at hD ⊢
  have hA : ∀ q : Nat, s.heap.size ≤ q → A q := fun q h => by rw [← hAe]; exact Or.inr h
  have hS : va_S A s.heap s.heap [] := va_S.rf
  have hP : va_P (dC, dI) vwCl [(h0, .inr (7, [.ref m_tape, .int 0, .int 0, .int 0, .int (-1), .int 0, .int (-1), .int 0, .int (-1), .ref m_refused, .ref m_own, .int 0, .ref m_draft, .ref m_program, .ref m_goPlace, .int 0, .int 0, .ref m_isCome, .ref m_heap, .int 0, .ref m_now, .ref m_first, .ref m_second, .ref m_behind, .ref m_states, .int 0, .int 0, .int 0, .ref m_alone0, .ref m_endsBy, .ref m_kept0, .int 0, .int 0, .long 1]))] s.heap := hP
  have hl := lv_entry ([.ref h0, .int 20]) (n := 2) (Nat.le_of_ble_eq_true rfl)
  rw [lg_entry_eq]
  generalize (lg_sl ([.ref h0, .int 20]) ++ List.replicate (2 - (lg_sl ([.ref h0, .int 20])).length) Slot.unset).toArray = ls at hl ⊢
  refine ax_gen hP hD hS (fun H locs hP hD hS => ?_)
  have hl : lv_has ls 2 [(0, .ref h0), (1, .int 20)] := hl
  refine lv_aload_n hx hb dX7_asks_0 rfl (lv_at hl 0 rfl) ?_
  refine va_get (D := (dC, dI)) (ci := 7) (v := .int 0) (C := RX7) (T := TX7) (N := 34) hx hb hts inX7 hown hK hP 0 rfl rfl 5 (by decide) (hts _ T_199) (fun _ h9 => h9) rfl dX7_asks_1 ?_
  refine lv_if_ne (tgt := 24) hx hb dX7_asks_4 (by decide) (fun c => absurd (by decide) c) (fun _ => ?_)
  refine lv_aload_n hx hb dX7_asks_7 rfl (lv_at hl 0 rfl) ?_
  refine lv_iload_n hx hb dX7_asks_8 rfl (lv_at hl 1 rfl) ?_
  have hPc := hP.sub (ws' := [(h0, .inr (7, [.ref m_tape, .int 0, .int 0, .int 0, .int (-1), .int 0, .int (-1), .int 0, .int (-1), .ref m_refused, .ref m_own, .int 0, .ref m_draft, .ref m_program, .ref m_goPlace, .int 0, .int 0, .ref m_isCome, .ref m_heap, .int 0, .ref m_now, .ref m_first, .ref m_second, .ref m_behind, .ref m_states, .int 0, .int 0, .int 0, .ref m_alone0, .ref m_endsBy, .ref m_kept0, .int 0, .int 0, .long 1]))]) [0] rfl
  have hDc := hD.sub (ws' := [(h0, .inr (7, [.ref m_tape, .int 0, .int 0, .int 0, .int (-1), .int 0, .int (-1), .int 0, .int (-1), .ref m_refused, .ref m_own, .int 0, .ref m_draft, .ref m_program, .ref m_goPlace, .int 0, .int 0, .ref m_isCome, .ref m_heap, .int 0, .ref m_now, .ref m_first, .ref m_second, .ref m_behind, .ref m_states, .int 0, .int 0, .int 0, .ref m_alone0, .ref m_endsBy, .ref m_kept0, .int 0, .int 0, .long 1]))]) [0] (by decide) rfl
  have hKc := hK.sub (tys' := []) [] rfl
  have hFc := va_free (wc := [(h0, .inr (7, [.ref m_tape, .int 0, .int 0, .int 0, .int (-1), .int 0, .int (-1), .int 0, .int (-1), .ref m_refused, .ref m_own, .int 0, .ref m_draft, .ref m_program, .ref m_goPlace, .int 0, .int 0, .ref m_isCome, .ref m_heap, .int 0, .ref m_now, .ref m_first, .ref m_second, .ref m_behind, .ref m_states, .int 0, .int 0, .int 0, .ref m_alone0, .ref m_endsBy, .ref m_kept0, .int 0, .int 0, .long 1]))]) hD hS hA [0] rfl
  refine va_calli (va_runV (As := [.int 20]) (rest := []) ⟨hx, hb, hml, hown, hts⟩ (c_X7_takes l dC dI H.size h0 m_tape m_refused m_own m_draft m_program m_goPlace m_isCome m_heap m_now m_first m_second m_behind m_states m_alone0 m_endsBy m_kept0) (cwV 1 hts (ax_gV T_217 T_218 T_219 T_189 T_216) rfl rfl rfl (by decide +kernel) ⟨Nat.le_of_ble_eq_true rfl, Nat.le_of_ble_eq_true rfl⟩) ⟨fun a U g mk q => ⟨q.1, ax_pc rfl rfl q.2⟩, va_recv hKc hPc (ci := 7) (q0 := 0) rfl rfl, fun U hU hW => ⟨rfl, ax_pw hU hW hPc hKc hDc hN⟩⟩ rfl rfl hl.1 rfl (lv_room (Nat.le_of_ble_eq_true rfl)) dX7_asks_9 ⟨Nat.le_of_ble_eq_true rfl, Nat.le_of_ble_eq_true rfl⟩) hS (fun q _ h => hFc q h) hFc (fun r1 _ t H1 locs ht hvm hw hB hz1 hk1 hS => ?_)
  obtain ⟨hP1, hK1, hD1⟩ := hB
  rw [ht] at hP1
  have hK1 := va_K.moved hvm.symm hK1
  obtain ⟨hP, hD⟩ := va_join (wr := []) (w1 := [(h0, .inr (7, [.ref m_tape, .int 0, .int 0, .int 0, .int (-1), .int 0, .int (-1), .int 0, .int (-1), .ref m_refused, .ref m_own, .int 0, .ref m_draft, .ref m_program, .ref m_goPlace, .int 0, .int 0, .ref m_isCome, .ref m_heap, .int 0, .ref m_now, .ref m_first, .ref m_second, .ref m_behind, .ref m_states, .int 0, .int 0, .int 0, .ref m_alone0, .ref m_endsBy, .ref m_kept0, .int 0, .int 0, .long 1]))]) hP hD [0] [] rfl rfl (by decide) (by decide) hk1 hFc hP1 hD1
  generalize H1 = H at hP hS ⊢
  have hP : va_P (dC, dI) vwCl [(h0, .inr (7, [.ref m_tape, .int 0, .int 0, .int 0, .int (-1), .int 0, .int (-1), .int 0, .int (-1), .ref m_refused, .ref m_own, .int 0, .ref m_draft, .ref m_program, .ref m_goPlace, .int 0, .int 0, .ref m_isCome, .ref m_heap, .int 0, .ref m_now, .ref m_first, .ref m_second, .ref m_behind, .ref m_states, .int 0, .int 0, .int 0, .ref m_alone0, .ref m_endsBy, .ref m_kept0, .int 0, .int 0, .long 1]))] H := hP
  have hD : va_D A [(h0, .inr (7, [.ref m_tape, .int 0, .int 0, .int 0, .int (-1), .int 0, .int (-1), .int 0, .int (-1), .ref m_refused, .ref m_own, .int 0, .ref m_draft, .ref m_program, .ref m_goPlace, .int 0, .int 0, .ref m_isCome, .ref m_heap, .int 0, .ref m_now, .ref m_first, .ref m_second, .ref m_behind, .ref m_states, .int 0, .int 0, .int 0, .ref m_alone0, .ref m_endsBy, .ref m_kept0, .int 0, .int 0, .long 1]))] := hD
  subst hw
  refine lv_if_ne (tgt := 24) hx hb dX7_asks_12 (by decide) (fun c => absurd (by decide) c) (fun _ => ?_)
  refine lv_aload_n hx hb dX7_asks_15 rfl (lv_at hl 0 rfl) ?_
  refine lv_iconst (v := 1) hx hb dX7_asks_16 (by decide) ?_
  refine lv_aload_n hx hb dX7_asks_17 rfl (lv_at hl 0 rfl) ?_
  refine va_get (D := (dC, dI)) (ci := 7) (v := .int 0) (C := RX7) (T := TX7) (N := 34) hx hb hts inX7 hown hK hP 0 rfl rfl 2 (by decide) (hts _ T_197) (fun _ h9 => h9) rfl dX7_asks_18 ?_
  have hPc := hP.sub (ws' := [(h0, .inr (7, [.ref m_tape, .int 0, .int 0, .int 0, .int (-1), .int 0, .int (-1), .int 0, .int (-1), .ref m_refused, .ref m_own, .int 0, .ref m_draft, .ref m_program, .ref m_goPlace, .int 0, .int 0, .ref m_isCome, .ref m_heap, .int 0, .ref m_now, .ref m_first, .ref m_second, .ref m_behind, .ref m_states, .int 0, .int 0, .int 0, .ref m_alone0, .ref m_endsBy, .ref m_kept0, .int 0, .int 0, .long 1]))]) [0] rfl
  have hDc := hD.sub (ws' := [(h0, .inr (7, [.ref m_tape, .int 0, .int 0, .int 0, .int (-1), .int 0, .int (-1), .int 0, .int (-1), .ref m_refused, .ref m_own, .int 0, .ref m_draft, .ref m_program, .ref m_goPlace, .int 0, .int 0, .ref m_isCome, .ref m_heap, .int 0, .ref m_now, .ref m_first, .ref m_second, .ref m_behind, .ref m_states, .int 0, .int 0, .int 0, .ref m_alone0, .ref m_endsBy, .ref m_kept0, .int 0, .int 0, .long 1]))]) [0] (by decide) rfl
  have hKc := hK.sub (tys' := []) [] rfl
  have hFc := va_free (wc := [(h0, .inr (7, [.ref m_tape, .int 0, .int 0, .int 0, .int (-1), .int 0, .int (-1), .int 0, .int (-1), .ref m_refused, .ref m_own, .int 0, .ref m_draft, .ref m_program, .ref m_goPlace, .int 0, .int 0, .ref m_isCome, .ref m_heap, .int 0, .ref m_now, .ref m_first, .ref m_second, .ref m_behind, .ref m_states, .int 0, .int 0, .int 0, .ref m_alone0, .ref m_endsBy, .ref m_kept0, .int 0, .int 0, .long 1]))]) hD hS hA [0] rfl
  refine va_callv (va_runV (As := [.int 1, .int 0]) (rest := []) ⟨hx, hb, hml, hown, hts⟩ (c_X7_fail l dC dI H.size h0 m_tape m_refused m_own m_draft m_program m_goPlace m_isCome m_heap m_now m_first m_second m_behind m_states m_alone0 m_endsBy m_kept0) (cwV 2 hts (ax_gV T_221 T_222 T_223 T_189 T_220) rfl rfl rfl (by decide +kernel) ⟨Nat.le_of_ble_eq_true rfl, Nat.le_of_ble_eq_true rfl⟩) ⟨fun a U g mk q => ⟨q.1, ax_pc rfl rfl q.2⟩, va_recv hKc hPc (ci := 7) (q0 := 0) rfl rfl, fun U hU hW => ⟨rfl, ax_pw hU hW hPc hKc hDc hN⟩⟩ rfl rfl hl.1 rfl (lv_room (Nat.le_of_ble_eq_true rfl)) dX7_asks_21 ⟨Nat.le_of_ble_eq_true rfl, Nat.le_of_ble_eq_true rfl⟩) hS (fun q _ h => hFc q h) hFc (fun _ t H1 locs ht hvm hw hB hz1 hk1 hS => ?_)
  obtain ⟨hP1, hK1, hD1⟩ := hB
  rw [ht] at hP1
  have hK1 := va_K.moved hvm.symm hK1
  obtain ⟨hP, hD⟩ := va_join (wr := []) (w1 := [(h0, .inr (7, [.ref m_tape, .int 0, .int 0, .int 0, .int (-1), .int 1, .int 0, .int 0, .int (-1), .ref m_refused, .ref m_own, .int 0, .ref m_draft, .ref m_program, .ref m_goPlace, .int 0, .int 0, .ref m_isCome, .ref m_heap, .int 0, .ref m_now, .ref m_first, .ref m_second, .ref m_behind, .ref m_states, .int 0, .int 0, .int 0, .ref m_alone0, .ref m_endsBy, .ref m_kept0, .int 0, .int 0, .long 1]))]) hP hD [0] [] rfl rfl (by decide) (by decide) hk1 hFc hP1 hD1
  generalize H1 = H at hP hS ⊢
  have hP : va_P (dC, dI) vwCl [(h0, .inr (7, [.ref m_tape, .int 0, .int 0, .int 0, .int (-1), .int 1, .int 0, .int 0, .int (-1), .ref m_refused, .ref m_own, .int 0, .ref m_draft, .ref m_program, .ref m_goPlace, .int 0, .int 0, .ref m_isCome, .ref m_heap, .int 0, .ref m_now, .ref m_first, .ref m_second, .ref m_behind, .ref m_states, .int 0, .int 0, .int 0, .ref m_alone0, .ref m_endsBy, .ref m_kept0, .int 0, .int 0, .long 1]))] H := hP
  have hD : va_D A [(h0, .inr (7, [.ref m_tape, .int 0, .int 0, .int 0, .int (-1), .int 1, .int 0, .int 0, .int (-1), .ref m_refused, .ref m_own, .int 0, .ref m_draft, .ref m_program, .ref m_goPlace, .int 0, .int 0, .ref m_isCome, .ref m_heap, .int 0, .ref m_now, .ref m_first, .ref m_second, .ref m_behind, .ref m_states, .int 0, .int 0, .int 0, .ref m_alone0, .ref m_endsBy, .ref m_kept0, .int 0, .int 0, .long 1]))] := hD
  have hP9 := hP.sub (ws' := [(h0, .inr (7, [.ref m_tape, .int 0, .int 0, .int 0, .int (-1), .int 1, .int 0, .int 0, .int (-1), .ref m_refused, .ref m_own, .int 0, .ref m_draft, .ref m_program, .ref m_goPlace, .int 0, .int 0, .ref m_isCome, .ref m_heap, .int 0, .ref m_now, .ref m_first, .ref m_second, .ref m_behind, .ref m_states, .int 0, .int 0, .int 0, .ref m_alone0, .ref m_endsBy, .ref m_kept0, .int 0, .int 0, .long 1]))]) [0] rfl
  have hD9 := hD.sub (ws' := [(h0, .inr (7, [.ref m_tape, .int 0, .int 0, .int 0, .int (-1), .int 1, .int 0, .int 0, .int (-1), .ref m_refused, .ref m_own, .int 0, .ref m_draft, .ref m_program, .ref m_goPlace, .int 0, .int 0, .ref m_isCome, .ref m_heap, .int 0, .ref m_now, .ref m_first, .ref m_second, .ref m_behind, .ref m_states, .int 0, .int 0, .int 0, .ref m_alone0, .ref m_endsBy, .ref m_kept0, .int 0, .int 0, .long 1]))]) [0] (by decide) rfl
  have hK9 := hK.sub (tys' := []) [] rfl
  exact W.vret hx hb hr (fun t ht hW => ⟨⟨(), rfl, trivial, by rw [ht]; exact hP9, va_K.moved hW.alike hK9, hD9⟩, hS.F ht⟩) hS.2.2 dX7_asks_24

set_option maxHeartbeats 4000000 in
set_option maxRecDepth 100000 in
theorem c_X7_number (l : Launch) (dC : Nat → ClassId) (dI : Nat → Nat → Nat) (sz : Nat) (h0 : Nat) (m_tape : Nat) (m_refused : Nat) (m_own : Nat) (m_draft : Nat) (m_program : Nat) (m_goPlace : Nat) (m_isCome : Nat) (m_heap : Nat) (m_now : Nat) (m_first : Nat) (m_second : Nat) (m_behind : Nat) (m_states : Nat) (m_alone0 : Nat) (m_endsBy : Nat) (m_kept0 : Nat) : Met l yX7_number (Cond.code yX7_number cX7_number 5 (some .int) :: T0) ({ frames := 0, cells := 0, slots := 0, locals := 0 }) (va_Pc [.ref h0, .int 1, .int 4] (ax_W dC dI sz [(h0, .inr (7, [.ref m_tape, .int 0, .int 0, .int 0, .int (-1), .int 1, .int 0, .int 0, .int (-1), .ref m_refused, .ref m_own, .int 0, .ref m_draft, .ref m_program, .ref m_goPlace, .int 0, .int 0, .ref m_isCome, .ref m_heap, .int 0, .ref m_now, .ref m_first, .ref m_second, .ref m_behind, .ref m_states, .int 0, .int 0, .int 0, .ref m_alone0, .ref m_endsBy, .ref m_kept0, .int 0, .int 0, .long 1]))] [])) (va_Qi (fun (r : Int32) (_ : Unit) => r = 0) (fun (_ : Unit) (t : State) => va_P (dC, dI) vwCl [(h0, .inr (7, [.ref m_tape, .int 0, .int 0, .int 0, .int (-1), .int 1, .int 0, .int 0, .int (-1), .ref m_refused, .ref m_own, .int 0, .ref m_draft, .ref m_program, .ref m_goPlace, .int 0, .int 0, .ref m_isCome, .ref m_heap, .int 0, .ref m_now, .ref m_first, .ref m_second, .ref m_behind, .ref m_states, .int 0, .int 0, .int 0, .ref m_alone0, .ref m_endsBy, .ref m_kept0, .int 0, .int 0, .long 1]))] t.heap ∧ va_K (dC, dI) vwCl [] t ∧ va_D (va_A [(h0, .inr (7, [.ref m_tape, .int 0, .int 0, .int 0, .int (-1), .int 1, .int 0, .int 0, .int (-1), .ref m_refused, .ref m_own, .int 0, .ref m_draft, .ref m_program, .ref m_goPlace, .int 0, .int 0, .ref m_isCome, .ref m_heap, .int 0, .ref m_now, .ref m_first, .ref m_second, .ref m_behind, .ref m_states, .int 0, .int 0, .int 0, .ref m_alone0, .ref m_endsBy, .ref m_kept0, .int 0, .int 0, .long 1]))] sz) [(h0, .inr (7, [.ref m_tape, .int 0, .int 0, .int 0, .int (-1), .int 1, .int 0, .int 0, .int (-1), .ref m_refused, .ref m_own, .int 0, .ref m_draft, .ref m_program, .ref m_goPlace, .int 0, .int 0, .ref m_isCome, .ref m_heap, .int 0, .ref m_now, .ref m_first, .ref m_second, .ref m_behind, .ref m_states, .int 0, .int 0, .int 0, .ref m_alone0, .ref m_endsBy, .ref m_kept0, .int 0, .int 0, .long 1]))]) (va_A [(h0, .inr (7, [.ref m_tape, .int 0, .int 0, .int 0, .int (-1), .int 1, .int 0, .int 0, .int (-1), .ref m_refused, .ref m_own, .int 0, .ref m_draft, .ref m_program, .ref m_goPlace, .int 0, .int 0, .ref m_isCome, .ref m_heap, .int 0, .ref m_now, .ref m_first, .ref m_second, .ref m_behind, .ref m_states, .int 0, .int 0, .int 0, .ref m_alone0, .ref m_endsBy, .ref m_kept0, .int 0, .int 0, .long 1]))] sz)) 0 0 (va_A [(h0, .inr (7, [.ref m_tape, .int 0, .int 0, .int 0, .int (-1), .int 1, .int 0, .int 0, .int (-1), .ref m_refused, .ref m_own, .int 0, .ref m_draft, .ref m_program, .ref m_goPlace, .int 0, .int 0, .ref m_isCome, .ref m_heap, .int 0, .ref m_now, .ref m_first, .ref m_second, .ref m_behind, .ref m_states, .int 0, .int 0, .int 0, .ref m_alone0, .ref m_endsBy, .ref m_kept0, .int 0, .int 0, .long 1]))] sz) := by
  refine Met.ofW (cc := cX7_number) (maxL := 5) (ret := (some .int)) (by decide) rfl ?_
  intro p e s m args below meth c s₁ B hml hv
  obtain ⟨rfl, hsz, hP, hK, hD0, hN⟩ := hv
  have hx := B.exec
  have hb := B.bytes
  have hr := B.returns
  have hts : ∀ w ∈ T0, w.before _ s = true := fun w h => atoms_spec (ws := Cond.code yX7_number cX7_number 5 (some .int) :: T0) B.pre w (List.mem_cons_of_mem _ h)
  have hown : s.vm.findClass RX7 = some m.cls := findClass_of_methodNamed B.named
  have hlocks := B.notSynchronized
  subst hsz
  have hD := hD0.self (sz := s.heap.size)
  generalize hAe : va_A [(h0, .inr (7, [.ref m_tape, .int 0, .int 0, .int 0, .int (-1), .int 1, .int 0, .int 0, .int (-1), .ref m_refused, .ref m_own, .int 0, .ref m_draft, .ref m_program, .ref m_goPlace, .int 0, .int 0, .ref m_isCome, .ref m_heap, .int 0, .ref m_now, .ref m_first, .ref m_second, .ref m_behind, .ref m_states, .int 0, .int 0, .int 0, .ref m_alone0, .ref m_endsBy, .ref m_kept0, .int 0, .int 0, .long 1]))] s.heap.size = A at hD ⊢
  have hA : ∀ q : Nat, s.heap.size ≤ q → A q := fun q h => by rw [← hAe]; exact Or.inr h
  have hS : va_S A s.heap s.heap [] := va_S.rf
  have hP : va_P (dC, dI) vwCl [(h0, .inr (7, [.ref m_tape, .int 0, .int 0, .int 0, .int (-1), .int 1, .int 0, .int 0, .int (-1), .ref m_refused, .ref m_own, .int 0, .ref m_draft, .ref m_program, .ref m_goPlace, .int 0, .int 0, .ref m_isCome, .ref m_heap, .int 0, .ref m_now, .ref m_first, .ref m_second, .ref m_behind, .ref m_states, .int 0, .int 0, .int 0, .ref m_alone0, .ref m_endsBy, .ref m_kept0, .int 0, .int 0, .long 1]))] s.heap := hP
  have hl := lv_entry ([.ref h0, .int 1, .int 4]) (n := 5) (Nat.le_of_ble_eq_true rfl)
  rw [lg_entry_eq]
  generalize (lg_sl ([.ref h0, .int 1, .int 4]) ++ List.replicate (5 - (lg_sl ([.ref h0, .int 1, .int 4])).length) Slot.unset).toArray = ls at hl ⊢
  refine ax_gen hP hD hS (fun H locs hP hD hS => ?_)
  have hl : lv_has ls 5 [(0, .ref h0), (1, .int 1), (2, .int 4)] := hl
  refine lv_aload_n hx hb dX7_number_0 rfl (lv_at hl 0 rfl) ?_
  refine va_get (D := (dC, dI)) (ci := 7) (v := .int 1) (C := RX7) (T := TX7) (N := 34) hx hb hts inX7 hown hK hP 0 rfl rfl 5 (by decide) (hts _ T_199) (fun _ h9 => h9) rfl dX7_number_1 ?_
  refine lv_if_eq (tgt := 9) hx hb dX7_number_4 (by decide) (fun c => absurd c (by decide)) (fun _ => ?_)
  refine lv_iconst (v := 0) hx hb dX7_number_7 (by decide) ?_
  have hP9 := hP.sub (ws' := [(h0, .inr (7, [.ref m_tape, .int 0, .int 0, .int 0, .int (-1), .int 1, .int 0, .int 0, .int (-1), .ref m_refused, .ref m_own, .int 0, .ref m_draft, .ref m_program, .ref m_goPlace, .int 0, .int 0, .ref m_isCome, .ref m_heap, .int 0, .ref m_now, .ref m_first, .ref m_second, .ref m_behind, .ref m_states, .int 0, .int 0, .int 0, .ref m_alone0, .ref m_endsBy, .ref m_kept0, .int 0, .int 0, .long 1]))]) [0] rfl
  have hD9 := hD.sub (ws' := [(h0, .inr (7, [.ref m_tape, .int 0, .int 0, .int 0, .int (-1), .int 1, .int 0, .int 0, .int (-1), .ref m_refused, .ref m_own, .int 0, .ref m_draft, .ref m_program, .ref m_goPlace, .int 0, .int 0, .ref m_isCome, .ref m_heap, .int 0, .ref m_now, .ref m_first, .ref m_second, .ref m_behind, .ref m_states, .int 0, .int 0, .int 0, .ref m_alone0, .ref m_endsBy, .ref m_kept0, .int 0, .int 0, .long 1]))]) [0] (by decide) rfl
  have hK9 := hK.sub (tys' := []) [] rfl
  exact W.iret (v := 0) hx hb hr (fun t ht hW => ⟨⟨0, (), rfl, rfl, by rw [ht]; exact hP9, va_K.moved hW.alike hK9, hD9⟩, hS.F ht⟩) hS.2.2 dX7_number_8

set_option maxHeartbeats 4000000 in
set_option maxRecDepth 100000 in
/-- asksSign -/
theorem c_X7_asksSign (l : Launch) (dC : Nat → ClassId) (dI : Nat → Nat → Nat) (sz : Nat) (h0 : Nat) (m_tape : Nat) (m_refused : Nat) (m_own : Nat) (m_draft : Nat) (m_program : Nat) (m_goPlace : Nat) (m_isCome : Nat) (m_heap : Nat) (m_now : Nat) (m_first : Nat) (m_second : Nat) (m_behind : Nat) (m_states : Nat) (m_alone0 : Nat) (m_endsBy : Nat) (m_kept0 : Nat) : Met l yX7_asksSign (Cond.code yX7_asksSign cX7_asksSign 2 none :: T0) ({ frames := 0, cells := 0, slots := 0, locals := 0 }) (va_Pc [.ref h0, .int 59] (ax_W dC dI sz [(h0, .inr (7, [.ref m_tape, .int 0, .int 0, .int 0, .int (-1), .int 1, .int 0, .int 0, .int (-1), .ref m_refused, .ref m_own, .int 0, .ref m_draft, .ref m_program, .ref m_goPlace, .int 0, .int 0, .ref m_isCome, .ref m_heap, .int 0, .ref m_now, .ref m_first, .ref m_second, .ref m_behind, .ref m_states, .int 0, .int 0, .int 0, .ref m_alone0, .ref m_endsBy, .ref m_kept0, .int 0, .int 0, .long 1]))] [])) (va_Qv (fun (_ : Unit) => True) (fun (_ : Unit) (t : State) => va_P (dC, dI) vwCl [(h0, .inr (7, [.ref m_tape, .int 0, .int 0, .int 0, .int (-1), .int 1, .int 0, .int 0, .int (-1), .ref m_refused, .ref m_own, .int 0, .ref m_draft, .ref m_program, .ref m_goPlace, .int 0, .int 0, .ref m_isCome, .ref m_heap, .int 0, .ref m_now, .ref m_first, .ref m_second, .ref m_behind, .ref m_states, .int 0, .int 0, .int 0, .ref m_alone0, .ref m_endsBy, .ref m_kept0, .int 0, .int 0, .long 1]))] t.heap ∧ va_K (dC, dI) vwCl [] t ∧ va_D (va_A [(h0, .inr (7, [.ref m_tape, .int 0, .int 0, .int 0, .int (-1), .int 1, .int 0, .int 0, .int (-1), .ref m_refused, .ref m_own, .int 0, .ref m_draft, .ref m_program, .ref m_goPlace, .int 0, .int 0, .ref m_isCome, .ref m_heap, .int 0, .ref m_now, .ref m_first, .ref m_second, .ref m_behind, .ref m_states, .int 0, .int 0, .int 0, .ref m_alone0, .ref m_endsBy, .ref m_kept0, .int 0, .int 0, .long 1]))] sz) [(h0, .inr (7, [.ref m_tape, .int 0, .int 0, .int 0, .int (-1), .int 1, .int 0, .int 0, .int (-1), .ref m_refused, .ref m_own, .int 0, .ref m_draft, .ref m_program, .ref m_goPlace, .int 0, .int 0, .ref m_isCome, .ref m_heap, .int 0, .ref m_now, .ref m_first, .ref m_second, .ref m_behind, .ref m_states, .int 0, .int 0, .int 0, .ref m_alone0, .ref m_endsBy, .ref m_kept0, .int 0, .int 0, .long 1]))]) (va_A [(h0, .inr (7, [.ref m_tape, .int 0, .int 0, .int 0, .int (-1), .int 1, .int 0, .int 0, .int (-1), .ref m_refused, .ref m_own, .int 0, .ref m_draft, .ref m_program, .ref m_goPlace, .int 0, .int 0, .ref m_isCome, .ref m_heap, .int 0, .ref m_now, .ref m_first, .ref m_second, .ref m_behind, .ref m_states, .int 0, .int 0, .int 0, .ref m_alone0, .ref m_endsBy, .ref m_kept0, .int 0, .int 0, .long 1]))] sz)) 0 0 (va_A [(h0, .inr (7, [.ref m_tape, .int 0, .int 0, .int 0, .int (-1), .int 1, .int 0, .int 0, .int (-1), .ref m_refused, .ref m_own, .int 0, .ref m_draft, .ref m_program, .ref m_goPlace, .int 0, .int 0, .ref m_isCome, .ref m_heap, .int 0, .ref m_now, .ref m_first, .ref m_second, .ref m_behind, .ref m_states, .int 0, .int 0, .int 0, .ref m_alone0, .ref m_endsBy, .ref m_kept0, .int 0, .int 0, .long 1]))] sz) := by
  refine Met.ofW (cc := cX7_asksSign) (maxL := 2) (ret := none) (by decide) rfl ?_
  intro p e s m args below meth c s₁ B hml hv
  obtain ⟨rfl, hsz, hP, hK, hD0, hN⟩ := hv
  have hx := B.exec
  have hb := B.bytes
  have hr := B.returns
  have hts : ∀ w ∈ T0, w.before _ s = true := fun w h => atoms_spec (ws := Cond.code yX7_asksSign cX7_asksSign 2 none :: T0) B.pre w (List.mem_cons_of_mem _ h)
  have hown : s.vm.findClass RX7 = some m.cls := findClass_of_methodNamed B.named
  have hlocks := B.notSynchronized
  subst hsz
  have hD := hD0.self (sz := s.heap.size)
  generalize hAe : va_A [(h0, .inr (7, [.ref m_tape, .int 0, .int 0, .int 0, .int (-1), .int 1, .int 0, .int 0, .int (-1), .ref m_refused, .ref m_own, .int 0, .ref m_draft, .ref m_program, .ref m_goPlace, .int 0, .int 0, .ref m_isCome, .ref m_heap, .int 0, .ref m_now, .ref m_first, .ref m_second, .ref m_behind, .ref m_states, .int 0, .int 0, .int 0, .ref m_alone0, .ref m_endsBy, .ref m_kept0, .int 0, .int 0, .long 1]))] s.heap.size = A at hD ⊢
  have hA : ∀ q : Nat, s.heap.size ≤ q → A q := fun q h => by rw [← hAe]; exact Or.inr h
  have hS : va_S A s.heap s.heap [] := va_S.rf
  have hP : va_P (dC, dI) vwCl [(h0, .inr (7, [.ref m_tape, .int 0, .int 0, .int 0, .int (-1), .int 1, .int 0, .int 0, .int (-1), .ref m_refused, .ref m_own, .int 0, .ref m_draft, .ref m_program, .ref m_goPlace, .int 0, .int 0, .ref m_isCome, .ref m_heap, .int 0, .ref m_now, .ref m_first, .ref m_second, .ref m_behind, .ref m_states, .int 0, .int 0, .int 0, .ref m_alone0, .ref m_endsBy, .ref m_kept0, .int 0, .int 0, .long 1]))] s.heap := hP
  have hl := lv_entry ([.ref h0, .int 59]) (n := 2) (Nat.le_of_ble_eq_true rfl)
  rw [lg_entry_eq]
  generalize (lg_sl ([.ref h0, .int 59]) ++ List.replicate (2 - (lg_sl ([.ref h0, .int 59])).length) Slot.unset).toArray = ls at hl ⊢
  refine ax_gen hP hD hS (fun H locs hP hD hS => ?_)
  have hl : lv_has ls 2 [(0, .ref h0), (1, .int 59)] := hl
  refine lv_aload_n hx hb dX7_asksSign_0 rfl (lv_at hl 0 rfl) ?_
  refine va_get (D := (dC, dI)) (ci := 7) (v := .int 1) (C := RX7) (T := TX7) (N := 34) hx hb hts inX7 hown hK hP 0 rfl rfl 5 (by decide) (hts _ T_199) (fun _ h9 => h9) rfl dX7_asksSign_1 ?_
  refine lv_if_ne (tgt := 24) hx hb dX7_asksSign_4 (by decide) (fun _ => ?_) (fun c => absurd c (by decide))
  have hP9 := hP.sub (ws' := [(h0, .inr (7, [.ref m_tape, .int 0, .int 0, .int 0, .int (-1), .int 1, .int 0, .int 0, .int (-1), .ref m_refused, .ref m_own, .int 0, .ref m_draft, .ref m_program, .ref m_goPlace, .int 0, .int 0, .ref m_isCome, .ref m_heap, .int 0, .ref m_now, .ref m_first, .ref m_second, .ref m_behind, .ref m_states, .int 0, .int 0, .int 0, .ref m_alone0, .ref m_endsBy, .ref m_kept0, .int 0, .int 0, .long 1]))]) [0] rfl
  have hD9 := hD.sub (ws' := [(h0, .inr (7, [.ref m_tape, .int 0, .int 0, .int 0, .int (-1), .int 1, .int 0, .int 0, .int (-1), .ref m_refused, .ref m_own, .int 0, .ref m_draft, .ref m_program, .ref m_goPlace, .int 0, .int 0, .ref m_isCome, .ref m_heap, .int 0, .ref m_now, .ref m_first, .ref m_second, .ref m_behind, .ref m_states, .int 0, .int 0, .int 0, .ref m_alone0, .ref m_endsBy, .ref m_kept0, .int 0, .int 0, .long 1]))]) [0] (by decide) rfl
  have hK9 := hK.sub (tys' := []) [] rfl
  exact W.vret hx hb hr (fun t ht hW => ⟨⟨(), rfl, trivial, by rw [ht]; exact hP9, va_K.moved hW.alike hK9, hD9⟩, hS.F ht⟩) hS.2.2 dX7_asksSign_24

set_option maxHeartbeats 4000000 in
set_option maxRecDepth 100000 in
theorem c_X7_drafted (l : Launch) (dC : Nat → ClassId) (dI : Nat → Nat → Nat) (sz : Nat) (h0 : Nat) (m_tape : Nat) (m_refused : Nat) (m_own : Nat) (m_draft : Nat) (m_program : Nat) (m_goPlace : Nat) (m_isCome : Nat) (m_heap : Nat) (m_now : Nat) (m_first : Nat) (m_second : Nat) (m_behind : Nat) (m_states : Nat) (m_alone0 : Nat) (m_endsBy : Nat) (m_kept0 : Nat) (kd : ClassId) : Met l yX7_drafted (Cond.code yX7_drafted cX7_drafted 1 (some .int) :: T0) ({ frames := 0, cells := 0, slots := 0, locals := 0 }) (va_Pc [.ref h0] (ax_W dC dI sz [(h0, .inr (7, [.ref m_tape, .int 0, .int 0, .int 0, .int (-1), .int 1, .int 0, .int 0, .int (-1), .ref m_refused, .ref m_own, .int 0, .ref m_draft, .ref m_program, .ref m_goPlace, .int 0, .int 1, .ref m_isCome, .ref m_heap, .int 0, .ref m_now, .ref m_first, .ref m_second, .ref m_behind, .ref m_states, .int 0, .int 0, .int 0, .ref m_alone0, .ref m_endsBy, .ref m_kept0, .int 0, .int 0, .long 1])), (m_draft, .inl (kd, 400, .inl (fun _ => 0)))] [(kd, .int)])) (va_Qi (fun (r : Int32) (_ : Unit) => r = 0) (fun (_ : Unit) (t : State) => va_P (dC, dI) vwCl [(h0, .inr (7, [.ref m_tape, .int 0, .int 0, .int 0, .int (-1), .int 1, .int 0, .int 0, .int (-1), .ref m_refused, .ref m_own, .int 0, .ref m_draft, .ref m_program, .ref m_goPlace, .int 0, .int 1, .ref m_isCome, .ref m_heap, .int 0, .ref m_now, .ref m_first, .ref m_second, .ref m_behind, .ref m_states, .int 0, .int 0, .int 0, .ref m_alone0, .ref m_endsBy, .ref m_kept0, .int 0, .int 0, .long 1]))] t.heap ∧ va_K (dC, dI) vwCl [] t ∧ va_D (va_A [(h0, .inr (7, [.ref m_tape, .int 0, .int 0, .int 0, .int (-1), .int 1, .int 0, .int 0, .int (-1), .ref m_refused, .ref m_own, .int 0, .ref m_draft, .ref m_program, .ref m_goPlace, .int 0, .int 1, .ref m_isCome, .ref m_heap, .int 0, .ref m_now, .ref m_first, .ref m_second, .ref m_behind, .ref m_states, .int 0, .int 0, .int 0, .ref m_alone0, .ref m_endsBy, .ref m_kept0, .int 0, .int 0, .long 1])), (m_draft, .inl (kd, 400, .inl (fun _ => 0)))] sz) [(h0, .inr (7, [.ref m_tape, .int 0, .int 0, .int 0, .int (-1), .int 1, .int 0, .int 0, .int (-1), .ref m_refused, .ref m_own, .int 0, .ref m_draft, .ref m_program, .ref m_goPlace, .int 0, .int 1, .ref m_isCome, .ref m_heap, .int 0, .ref m_now, .ref m_first, .ref m_second, .ref m_behind, .ref m_states, .int 0, .int 0, .int 0, .ref m_alone0, .ref m_endsBy, .ref m_kept0, .int 0, .int 0, .long 1]))]) (va_A [(h0, .inr (7, [.ref m_tape, .int 0, .int 0, .int 0, .int (-1), .int 1, .int 0, .int 0, .int (-1), .ref m_refused, .ref m_own, .int 0, .ref m_draft, .ref m_program, .ref m_goPlace, .int 0, .int 1, .ref m_isCome, .ref m_heap, .int 0, .ref m_now, .ref m_first, .ref m_second, .ref m_behind, .ref m_states, .int 0, .int 0, .int 0, .ref m_alone0, .ref m_endsBy, .ref m_kept0, .int 0, .int 0, .long 1])), (m_draft, .inl (kd, 400, .inl (fun _ => 0)))] sz)) 0 0 (va_A [(h0, .inr (7, [.ref m_tape, .int 0, .int 0, .int 0, .int (-1), .int 1, .int 0, .int 0, .int (-1), .ref m_refused, .ref m_own, .int 0, .ref m_draft, .ref m_program, .ref m_goPlace, .int 0, .int 1, .ref m_isCome, .ref m_heap, .int 0, .ref m_now, .ref m_first, .ref m_second, .ref m_behind, .ref m_states, .int 0, .int 0, .int 0, .ref m_alone0, .ref m_endsBy, .ref m_kept0, .int 0, .int 0, .long 1])), (m_draft, .inl (kd, 400, .inl (fun _ => 0)))] sz) := by
  refine Met.ofW (cc := cX7_drafted) (maxL := 1) (ret := (some .int)) (by decide) rfl ?_
  intro p e s m args below meth c s₁ B hml hv
  obtain ⟨rfl, hsz, hP, hK, hD0, hN⟩ := hv
  have hx := B.exec
  have hb := B.bytes
  have hr := B.returns
  have hts : ∀ w ∈ T0, w.before _ s = true := fun w h => atoms_spec (ws := Cond.code yX7_drafted cX7_drafted 1 (some .int) :: T0) B.pre w (List.mem_cons_of_mem _ h)
  have hown : s.vm.findClass RX7 = some m.cls := findClass_of_methodNamed B.named
  have hlocks := B.notSynchronized
  subst hsz
  have hD := hD0.self (sz := s.heap.size)
  generalize hAe : va_A [(h0, .inr (7, [.ref m_tape, .int 0, .int 0, .int 0, .int (-1), .int 1, .int 0, .int 0, .int (-1), .ref m_refused, .ref m_own, .int 0, .ref m_draft, .ref m_program, .ref m_goPlace, .int 0, .int 1, .ref m_isCome, .ref m_heap, .int 0, .ref m_now, .ref m_first, .ref m_second, .ref m_behind, .ref m_states, .int 0, .int 0, .int 0, .ref m_alone0, .ref m_endsBy, .ref m_kept0, .int 0, .int 0, .long 1])), (m_draft, .inl (kd, 400, .inl (fun _ => 0)))] s.heap.size = A at hD ⊢
  have hA : ∀ q : Nat, s.heap.size ≤ q → A q := fun q h => by rw [← hAe]; exact Or.inr h
  have hS : va_S A s.heap s.heap [] := va_S.rf
  have hP : va_P (dC, dI) vwCl [(h0, .inr (7, [.ref m_tape, .int 0, .int 0, .int 0, .int (-1), .int 1, .int 0, .int 0, .int (-1), .ref m_refused, .ref m_own, .int 0, .ref m_draft, .ref m_program, .ref m_goPlace, .int 0, .int 1, .ref m_isCome, .ref m_heap, .int 0, .ref m_now, .ref m_first, .ref m_second, .ref m_behind, .ref m_states, .int 0, .int 0, .int 0, .ref m_alone0, .ref m_endsBy, .ref m_kept0, .int 0, .int 0, .long 1])), (m_draft, .inl (kd, 400, .inl (fun _ => 0)))] s.heap := hP
  have hl := lv_entry ([.ref h0]) (n := 1) (Nat.le_of_ble_eq_true rfl)
  rw [lg_entry_eq]
  generalize (lg_sl ([.ref h0]) ++ List.replicate (1 - (lg_sl ([.ref h0])).length) Slot.unset).toArray = ls at hl ⊢
  refine ax_gen hP hD hS (fun H locs hP hD hS => ?_)
  have hl : lv_has ls 1 [(0, .ref h0)] := hl
  refine lv_aload_n hx hb dX7_drafted_0 rfl (lv_at hl 0 rfl) ?_
  refine va_get (D := (dC, dI)) (ci := 7) (v := .ref m_draft) (C := RX7) (T := TX7) (N := 34) hx hb hts inX7 hown hK hP 0 rfl rfl 12 (by decide) (hts _ T_168) (fun _ h9 => h9) rfl dX7_drafted_1 ?_
  refine lv_sipush (v := 387) hx hb dX7_drafted_4 (by decide) ?_
  refine va_iald hx hb hK hP 1 0 rfl rfl (ax_in (by decide)) dX7_drafted_7 ?_
  refine ax_eqi (y := 0) rfl ?_
  have hP9 := hP.sub (ws' := [(h0, .inr (7, [.ref m_tape, .int 0, .int 0, .int 0, .int (-1), .int 1, .int 0, .int 0, .int (-1), .ref m_refused, .ref m_own, .int 0, .ref m_draft, .ref m_program, .ref m_goPlace, .int 0, .int 1, .ref m_isCome, .ref m_heap, .int 0, .ref m_now, .ref m_first, .ref m_second, .ref m_behind, .ref m_states, .int 0, .int 0, .int 0, .ref m_alone0, .ref m_endsBy, .ref m_kept0, .int 0, .int 0, .long 1]))]) [0] rfl
  have hD9 := hD.sub (ws' := [(h0, .inr (7, [.ref m_tape, .int 0, .int 0, .int 0, .int (-1), .int 1, .int 0, .int 0, .int (-1), .ref m_refused, .ref m_own, .int 0, .ref m_draft, .ref m_program, .ref m_goPlace, .int 0, .int 1, .ref m_isCome, .ref m_heap, .int 0, .ref m_now, .ref m_first, .ref m_second, .ref m_behind, .ref m_states, .int 0, .int 0, .int 0, .ref m_alone0, .ref m_endsBy, .ref m_kept0, .int 0, .int 0, .long 1]))]) [0] (by decide) rfl
  have hK9 := hK.sub (tys' := []) [] rfl
  exact W.iret (v := 0) hx hb hr (fun t ht hW => ⟨⟨0, (), rfl, rfl, by rw [ht]; exact hP9, va_K.moved hW.alike hK9, hD9⟩, hS.F ht⟩) hS.2.2 dX7_drafted_8

set_option maxHeartbeats 4000000 in
set_option maxRecDepth 100000 in
/-- joins -/
theorem c_X7_joins (l : Launch) (dC : Nat → ClassId) (dI : Nat → Nat → Nat) (sz : Nat) (h0 : Nat) (m_tape : Nat) (m_refused : Nat) (m_own : Nat) (m_draft : Nat) (m_program : Nat) (m_goPlace : Nat) (m_isCome : Nat) (m_heap : Nat) (m_now : Nat) (m_first : Nat) (m_second : Nat) (m_behind : Nat) (m_states : Nat) (m_alone0 : Nat) (m_endsBy : Nat) (m_kept0 : Nat) (kd : ClassId) : Met l yX7_joins (Cond.code yX7_joins cX7_joins 4 none :: T0) ({ frames := 1, cells := 0, slots := 0, locals := 20 }) (va_Pc [.ref h0] (ax_W dC dI sz [(h0, .inr (7, [.ref m_tape, .int 0, .int 0, .int 0, .int (-1), .int 1, .int 0, .int 0, .int (-1), .ref m_refused, .ref m_own, .int 0, .ref m_draft, .ref m_program, .ref m_goPlace, .int 0, .int 1, .ref m_isCome, .ref m_heap, .int 0, .ref m_now, .ref m_first, .ref m_second, .ref m_behind, .ref m_states, .int 0, .int 0, .int 0, .ref m_alone0, .ref m_endsBy, .ref m_kept0, .int 0, .int 0, .long 1])), (m_draft, .inl (kd, 400, .inl (fun _ => 0)))] [(kd, .int)])) (va_Qv (fun (_ : Unit) => True) (fun (_ : Unit) (t : State) => va_P (dC, dI) vwCl [(h0, .inr (7, [.ref m_tape, .int 0, .int 0, .int 0, .int (-1), .int 1, .int 0, .int 0, .int (-1), .ref m_refused, .ref m_own, .int 0, .ref m_draft, .ref m_program, .ref m_goPlace, .int 0, .int 1, .ref m_isCome, .ref m_heap, .int 0, .ref m_now, .ref m_first, .ref m_second, .ref m_behind, .ref m_states, .int 0, .int 0, .int 0, .ref m_alone0, .ref m_endsBy, .ref m_kept0, .int 0, .int 0, .long 1]))] t.heap ∧ va_K (dC, dI) vwCl [] t ∧ va_D (va_A [(h0, .inr (7, [.ref m_tape, .int 0, .int 0, .int 0, .int (-1), .int 1, .int 0, .int 0, .int (-1), .ref m_refused, .ref m_own, .int 0, .ref m_draft, .ref m_program, .ref m_goPlace, .int 0, .int 1, .ref m_isCome, .ref m_heap, .int 0, .ref m_now, .ref m_first, .ref m_second, .ref m_behind, .ref m_states, .int 0, .int 0, .int 0, .ref m_alone0, .ref m_endsBy, .ref m_kept0, .int 0, .int 0, .long 1])), (m_draft, .inl (kd, 400, .inl (fun _ => 0)))] sz) [(h0, .inr (7, [.ref m_tape, .int 0, .int 0, .int 0, .int (-1), .int 1, .int 0, .int 0, .int (-1), .ref m_refused, .ref m_own, .int 0, .ref m_draft, .ref m_program, .ref m_goPlace, .int 0, .int 1, .ref m_isCome, .ref m_heap, .int 0, .ref m_now, .ref m_first, .ref m_second, .ref m_behind, .ref m_states, .int 0, .int 0, .int 0, .ref m_alone0, .ref m_endsBy, .ref m_kept0, .int 0, .int 0, .long 1]))]) (va_A [(h0, .inr (7, [.ref m_tape, .int 0, .int 0, .int 0, .int (-1), .int 1, .int 0, .int 0, .int (-1), .ref m_refused, .ref m_own, .int 0, .ref m_draft, .ref m_program, .ref m_goPlace, .int 0, .int 1, .ref m_isCome, .ref m_heap, .int 0, .ref m_now, .ref m_first, .ref m_second, .ref m_behind, .ref m_states, .int 0, .int 0, .int 0, .ref m_alone0, .ref m_endsBy, .ref m_kept0, .int 0, .int 0, .long 1])), (m_draft, .inl (kd, 400, .inl (fun _ => 0)))] sz)) 0 0 (va_A [(h0, .inr (7, [.ref m_tape, .int 0, .int 0, .int 0, .int (-1), .int 1, .int 0, .int 0, .int (-1), .ref m_refused, .ref m_own, .int 0, .ref m_draft, .ref m_program, .ref m_goPlace, .int 0, .int 1, .ref m_isCome, .ref m_heap, .int 0, .ref m_now, .ref m_first, .ref m_second, .ref m_behind, .ref m_states, .int 0, .int 0, .int 0, .ref m_alone0, .ref m_endsBy, .ref m_kept0, .int 0, .int 0, .long 1])), (m_draft, .inl (kd, 400, .inl (fun _ => 0)))] sz) := by
  refine Met.ofW (cc := cX7_joins) (maxL := 4) (ret := none) (by decide) rfl ?_
  intro p e s m args below meth c s₁ B hml hv
  obtain ⟨rfl, hsz, hP, hK, hD0, hN⟩ := hv
  have hx := B.exec
  have hb := B.bytes
  have hr := B.returns
  have hts : ∀ w ∈ T0, w.before _ s = true := fun w h => atoms_spec (ws := Cond.code yX7_joins cX7_joins 4 none :: T0) B.pre w (List.mem_cons_of_mem _ h)
  have hown : s.vm.findClass RX7 = some m.cls := findClass_of_methodNamed B.named
  have hlocks := B.notSynchronized
  subst hsz
  have hD := hD0.self (sz := s.heap.size)
  generalize hAe : va_A [(h0, .inr (7, [.ref m_tape, .int 0, .int 0, .int 0, .int (-1), .int 1, .int 0, .int 0, .int (-1), .ref m_refused, .ref m_own, .int 0, .ref m_draft, .ref m_program, .ref m_goPlace, .int 0, .int 1, .ref m_isCome, .ref m_heap, .int 0, .ref m_now, .ref m_first, .ref m_second, .ref m_behind, .ref m_states, .int 0, .int 0, .int 0, .ref m_alone0, .ref m_endsBy, .ref m_kept0, .int 0, .int 0, .long 1])), (m_draft, .inl (kd, 400, .inl (fun _ => 0)))] s.heap.size = A at hD ⊢
  have hA : ∀ q : Nat, s.heap.size ≤ q → A q := fun q h => by rw [← hAe]; exact Or.inr h
  have hS : va_S A s.heap s.heap [] := va_S.rf
  have hP : va_P (dC, dI) vwCl [(h0, .inr (7, [.ref m_tape, .int 0, .int 0, .int 0, .int (-1), .int 1, .int 0, .int 0, .int (-1), .ref m_refused, .ref m_own, .int 0, .ref m_draft, .ref m_program, .ref m_goPlace, .int 0, .int 1, .ref m_isCome, .ref m_heap, .int 0, .ref m_now, .ref m_first, .ref m_second, .ref m_behind, .ref m_states, .int 0, .int 0, .int 0, .ref m_alone0, .ref m_endsBy, .ref m_kept0, .int 0, .int 0, .long 1])), (m_draft, .inl (kd, 400, .inl (fun _ => 0)))] s.heap := hP
  have hl := lv_entry ([.ref h0]) (n := 4) (Nat.le_of_ble_eq_true rfl)
  rw [lg_entry_eq]
  generalize (lg_sl ([.ref h0]) ++ List.replicate (4 - (lg_sl ([.ref h0])).length) Slot.unset).toArray = ls at hl ⊢
  refine ax_gen hP hD hS (fun H locs hP hD hS => ?_)
  have hl : lv_has ls 4 [(0, .ref h0)] := hl
  refine lv_iconst (v := 0) hx hb dX7_joins_0 (by decide) ?_
  refine lv_istore_n (lv' := [(1, .int 0), (0, .ref h0)]) hx hb dX7_joins_1 rfl hl (by decide) rfl (fun ls hl => ?_)
  refine lv_iload_n hx hb dX7_joins_2 rfl (lv_at hl 0 rfl) ?_
  refine lv_aload_n hx hb dX7_joins_3 rfl (lv_at hl 1 rfl) ?_
  have hPc := hP.sub (ws' := [(h0, .inr (7, [.ref m_tape, .int 0, .int 0, .int 0, .int (-1), .int 1, .int 0, .int 0, .int (-1), .ref m_refused, .ref m_own, .int 0, .ref m_draft, .ref m_program, .ref m_goPlace, .int 0, .int 1, .ref m_isCome, .ref m_heap, .int 0, .ref m_now, .ref m_first, .ref m_second, .ref m_behind, .ref m_states, .int 0, .int 0, .int 0, .ref m_alone0, .ref m_endsBy, .ref m_kept0, .int 0, .int 0, .long 1])), (m_draft, .inl (kd, 400, .inl (fun _ => 0)))]) [0, 1] rfl
  have hDc := hD.sub (ws' := [(h0, .inr (7, [.ref m_tape, .int 0, .int 0, .int 0, .int (-1), .int 1, .int 0, .int 0, .int (-1), .ref m_refused, .ref m_own, .int 0, .ref m_draft, .ref m_program, .ref m_goPlace, .int 0, .int 1, .ref m_isCome, .ref m_heap, .int 0, .ref m_now, .ref m_first, .ref m_second, .ref m_behind, .ref m_states, .int 0, .int 0, .int 0, .ref m_alone0, .ref m_endsBy, .ref m_kept0, .int 0, .int 0, .long 1])), (m_draft, .inl (kd, 400, .inl (fun _ => 0)))]) [0, 1] (by decide) rfl
  have hKc := hK.sub (tys' := [(kd, .int)]) [0] rfl
  have hFc := va_free (wc := [(h0, .inr (7, [.ref m_tape, .int 0, .int 0, .int 0, .int (-1), .int 1, .int 0, .int 0, .int (-1), .ref m_refused, .ref m_own, .int 0, .ref m_draft, .ref m_program, .ref m_goPlace, .int 0, .int 1, .ref m_isCome, .ref m_heap, .int 0, .ref m_now, .ref m_first, .ref m_second, .ref m_behind, .ref m_states, .int 0, .int 0, .int 0, .ref m_alone0, .ref m_endsBy, .ref m_kept0, .int 0, .int 0, .long 1])), (m_draft, .inl (kd, 400, .inl (fun _ => 0)))]) hD hS hA [0, 1] rfl
  refine va_calli (va_runV (As := []) (rest := [.int 0]) ⟨hx, hb, hml, hown, hts⟩ (c_X7_drafted l dC dI H.size h0 m_tape m_refused m_own m_draft m_program m_goPlace m_isCome m_heap m_now m_first m_second m_behind m_states m_alone0 m_endsBy m_kept0 kd) (cwV 0 hts (ax_gV T_225 T_226 T_227 T_189 T_224) rfl rfl rfl (by decide +kernel) ⟨Nat.le_of_ble_eq_true rfl, Nat.le_of_ble_eq_true rfl⟩) ⟨fun a U g mk q => ⟨q.1, ax_pc rfl rfl q.2⟩, va_recv hKc hPc (ci := 7) (q0 := 0) rfl rfl, fun U hU hW => ⟨rfl, ax_pw hU hW hPc hKc hDc hN⟩⟩ rfl rfl hl.1 rfl (lv_room (Nat.le_of_ble_eq_true rfl)) dX7_joins_4 ⟨Nat.le_of_ble_eq_true rfl, Nat.le_of_ble_eq_true rfl⟩) hS (fun q _ h => hFc q h) hFc (fun r1 _ t H1 locs ht hvm hw hB hz1 hk1 hS => ?_)
  obtain ⟨hP1, hK1, hD1⟩ := hB
  rw [ht] at hP1
  have hK1 := va_K.moved hvm.symm hK1
  obtain ⟨hP, hD⟩ := va_join (wr := []) (w1 := [(h0, .inr (7, [.ref m_tape, .int 0, .int 0, .int 0, .int (-1), .int 1, .int 0, .int 0, .int (-1), .ref m_refused, .ref m_own, .int 0, .ref m_draft, .ref m_program, .ref m_goPlace, .int 0, .int 1, .ref m_isCome, .ref m_heap, .int 0, .ref m_now, .ref m_first, .ref m_second, .ref m_behind, .ref m_states, .int 0, .int 0, .int 0, .ref m_alone0, .ref m_endsBy, .ref m_kept0, .int 0, .int 0, .long 1]))]) hP hD [0, 1] [] rfl rfl (by decide) (by decide) hk1 hFc hP1 hD1
  generalize H1 = H at hP hS ⊢
  have hP : va_P (dC, dI) vwCl [(h0, .inr (7, [.ref m_tape, .int 0, .int 0, .int 0, .int (-1), .int 1, .int 0, .int 0, .int (-1), .ref m_refused, .ref m_own, .int 0, .ref m_draft, .ref m_program, .ref m_goPlace, .int 0, .int 1, .ref m_isCome, .ref m_heap, .int 0, .ref m_now, .ref m_first, .ref m_second, .ref m_behind, .ref m_states, .int 0, .int 0, .int 0, .ref m_alone0, .ref m_endsBy, .ref m_kept0, .int 0, .int 0, .long 1]))] H := hP
  have hD : va_D A [(h0, .inr (7, [.ref m_tape, .int 0, .int 0, .int 0, .int (-1), .int 1, .int 0, .int 0, .int (-1), .ref m_refused, .ref m_own, .int 0, .ref m_draft, .ref m_program, .ref m_goPlace, .int 0, .int 1, .ref m_isCome, .ref m_heap, .int 0, .ref m_now, .ref m_first, .ref m_second, .ref m_behind, .ref m_states, .int 0, .int 0, .int 0, .ref m_alone0, .ref m_endsBy, .ref m_kept0, .int 0, .int 0, .long 1]))] := hD
  subst hw
  refine lv_icmp_ge (tgt := 112) hx hb dX7_joins_7 (by decide) (fun _ => ?_) (fun c => absurd (by decide) c)
  have hP9 := hP.sub (ws' := [(h0, .inr (7, [.ref m_tape, .int 0, .int 0, .int 0, .int (-1), .int 1, .int 0, .int 0, .int (-1), .ref m_refused, .ref m_own, .int 0, .ref m_draft, .ref m_program, .ref m_goPlace, .int 0, .int 1, .ref m_isCome, .ref m_heap, .int 0, .ref m_now, .ref m_first, .ref m_second, .ref m_behind, .ref m_states, .int 0, .int 0, .int 0, .ref m_alone0, .ref m_endsBy, .ref m_kept0, .int 0, .int 0, .long 1]))]) [0] rfl
  have hD9 := hD.sub (ws' := [(h0, .inr (7, [.ref m_tape, .int 0, .int 0, .int 0, .int (-1), .int 1, .int 0, .int 0, .int (-1), .ref m_refused, .ref m_own, .int 0, .ref m_draft, .ref m_program, .ref m_goPlace, .int 0, .int 1, .ref m_isCome, .ref m_heap, .int 0, .ref m_now, .ref m_first, .ref m_second, .ref m_behind, .ref m_states, .int 0, .int 0, .int 0, .ref m_alone0, .ref m_endsBy, .ref m_kept0, .int 0, .int 0, .long 1]))]) [0] (by decide) rfl
  have hK9 := hK.sub (tys' := []) [] rfl
  exact W.vret hx hb hr (fun t ht hW => ⟨⟨(), rfl, trivial, by rw [ht]; exact hP9, va_K.moved hW.alike hK9, hD9⟩, hS.F ht⟩) hS.2.2 dX7_joins_112

