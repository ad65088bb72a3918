set_option maxHeartbeats 4000000 in
set_option maxRecDepth 100000 in
/-- program at an empty tape: NONE -/
theorem c_X7_program (l : Launch) (dC : Nat → ClassId) (dI : Nat → Nat → Nat) (sz : Nat) (h0 : Nat) (m_tape : Nat) (m_refused : Nat) (m_own : Nat) (m_draft : Nat) (m_program : Nat) (m_goPlace : Nat) (m_isCome : Nat) (m_heap : Nat) (m_now : Nat) (m_first : Nat) (m_second : Nat) (m_behind : Nat) (m_states : Nat) (m_alone0 : Nat) (m_endsBy : Nat) (m_kept0 : Nat) (kr : ClassId) (kd : ClassId) : Met l yX7_program (Cond.code yX7_program cX7_program 2 (some .int) :: T0) ({ frames := 5, cells := 0, slots := 0, locals := 106 }) (va_Pc [.ref h0] (ax_W dC dI sz [(h0, .inr (7, [.ref m_tape, .int 0, .int 0, .int 0, .int 0, .int 0, .int 0, .int 0, .int (-1), .ref m_refused, .ref m_own, .int 0, .ref m_draft, .ref m_program, .ref m_goPlace, .int 0, .int 0, .ref m_isCome, .ref m_heap, .int 0, .ref m_now, .ref m_first, .ref m_second, .ref m_behind, .ref m_states, .int 0, .int 0, .int 0, .ref m_alone0, .ref m_endsBy, .ref m_kept0, .int 0, .int 0, .long 1])), (m_refused, .inl (kr, 6, .inl (fun _ => 0))), (m_draft, .inl (kd, 400, .inl (fun _ => 0)))] [(kr, .int), (kd, .int)])) (va_Qi (fun (r : Int32) (_ : Unit) => r = (-1)) (fun (_ : Unit) (t : State) => va_P (dC, dI) vwCl [] t.heap ∧ va_K (dC, dI) vwCl [] t ∧ va_D (va_A [(h0, .inr (7, [.ref m_tape, .int 0, .int 0, .int 0, .int 0, .int 0, .int 0, .int 0, .int (-1), .ref m_refused, .ref m_own, .int 0, .ref m_draft, .ref m_program, .ref m_goPlace, .int 0, .int 0, .ref m_isCome, .ref m_heap, .int 0, .ref m_now, .ref m_first, .ref m_second, .ref m_behind, .ref m_states, .int 0, .int 0, .int 0, .ref m_alone0, .ref m_endsBy, .ref m_kept0, .int 0, .int 0, .long 1])), (m_refused, .inl (kr, 6, .inl (fun _ => 0))), (m_draft, .inl (kd, 400, .inl (fun _ => 0)))] sz) []) (va_A [(h0, .inr (7, [.ref m_tape, .int 0, .int 0, .int 0, .int 0, .int 0, .int 0, .int 0, .int (-1), .ref m_refused, .ref m_own, .int 0, .ref m_draft, .ref m_program, .ref m_goPlace, .int 0, .int 0, .ref m_isCome, .ref m_heap, .int 0, .ref m_now, .ref m_first, .ref m_second, .ref m_behind, .ref m_states, .int 0, .int 0, .int 0, .ref m_alone0, .ref m_endsBy, .ref m_kept0, .int 0, .int 0, .long 1])), (m_refused, .inl (kr, 6, .inl (fun _ => 0))), (m_draft, .inl (kd, 400, .inl (fun _ => 0)))] sz)) 0 0 (va_A [(h0, .inr (7, [.ref m_tape, .int 0, .int 0, .int 0, .int 0, .int 0, .int 0, .int 0, .int (-1), .ref m_refused, .ref m_own, .int 0, .ref m_draft, .ref m_program, .ref m_goPlace, .int 0, .int 0, .ref m_isCome, .ref m_heap, .int 0, .ref m_now, .ref m_first, .ref m_second, .ref m_behind, .ref m_states, .int 0, .int 0, .int 0, .ref m_alone0, .ref m_endsBy, .ref m_kept0, .int 0, .int 0, .long 1])), (m_refused, .inl (kr, 6, .inl (fun _ => 0))), (m_draft, .inl (kd, 400, .inl (fun _ => 0)))] sz) := by
  refine Met.ofW (cc := cX7_program) (maxL := 2) (ret := (some .int)) (by decide) rfl ?_
  intro p e s m args below meth c s₁ B hml hv
  obtain ⟨rfl, hsz, hP, hK, hD0, hN⟩ := hv
  have hx := B.exec
  have hb := B.bytes
  have hr := B.returns
  have hts : ∀ w ∈ T0, w.before _ s = true := fun w h => atoms_spec (ws := Cond.code yX7_program cX7_program 2 (some .int) :: T0) B.pre w (List.mem_cons_of_mem _ h)
  have hown : s.vm.findClass RX7 = some m.cls := findClass_of_methodNamed B.named
  have hlocks := B.notSynchronized
  subst hsz
  have hD := hD0.self (sz := s.heap.size)
  generalize hAe : va_A [(h0, .inr (7, [.ref m_tape, .int 0, .int 0, .int 0, .int 0, .int 0, .int 0, .int 0, .int (-1), .ref m_refused, .ref m_own, .int 0, .ref m_draft, .ref m_program, .ref m_goPlace, .int 0, .int 0, .ref m_isCome, .ref m_heap, .int 0, .ref m_now, .ref m_first, .ref m_second, .ref m_behind, .ref m_states, .int 0, .int 0, .int 0, .ref m_alone0, .ref m_endsBy, .ref m_kept0, .int 0, .int 0, .long 1])), (m_refused, .inl (kr, 6, .inl (fun _ => 0))), (m_draft, .inl (kd, 400, .inl (fun _ => 0)))] s.heap.size = A at hD ⊢
  have hA : ∀ q : Nat, s.heap.size ≤ q → A q := fun q h => by rw [← hAe]; exact Or.inr h
  have hS : va_S A s.heap s.heap [] := va_S.rf
  have hP : va_P (dC, dI) vwCl [(h0, .inr (7, [.ref m_tape, .int 0, .int 0, .int 0, .int 0, .int 0, .int 0, .int 0, .int (-1), .ref m_refused, .ref m_own, .int 0, .ref m_draft, .ref m_program, .ref m_goPlace, .int 0, .int 0, .ref m_isCome, .ref m_heap, .int 0, .ref m_now, .ref m_first, .ref m_second, .ref m_behind, .ref m_states, .int 0, .int 0, .int 0, .ref m_alone0, .ref m_endsBy, .ref m_kept0, .int 0, .int 0, .long 1])), (m_refused, .inl (kr, 6, .inl (fun _ => 0))), (m_draft, .inl (kd, 400, .inl (fun _ => 0)))] s.heap := hP
  have hl := lv_entry ([.ref h0]) (n := 2) (Nat.le_of_ble_eq_true rfl)
  rw [lg_entry_eq]
  generalize (lg_sl ([.ref h0]) ++ List.replicate (2 - (lg_sl ([.ref h0])).length) Slot.unset).toArray = ls at hl ⊢
  refine ax_gen hP hD hS (fun H locs hP hD hS => ?_)
  have hl : lv_has ls 2 [(0, .ref h0)] := hl
  refine lv_aload_n hx hb dX7_program_0 rfl (lv_at hl 0 rfl) ?_
  refine lv_aload_n hx hb dX7_program_1 rfl (lv_at hl 0 rfl) ?_
  refine va_get (D := (dC, dI)) (ci := 7) (v := .int 0) (C := RX7) (T := TX7) (N := 34) hx hb hts inX7 hown hK hP 0 rfl rfl 1 (by decide) (hts _ T_184) (fun _ h9 => h9) rfl dX7_program_2 ?_
  refine va_put (D := (dC, dI)) (ci := 7) (v := .int 0) (ty := .int) (C := RX7) (T := TX7) (N := 34) hx hb hts inX7 tyX7 tyX7_ok nmX7 hown hK hP hD hS 0 rfl rfl 3 (by decide) (hts _ T_198) (fun _ h9 => h9) rfl (by decide +kernel) rfl rfl (Nat.le_of_ble_eq_true rfl) dX7_program_5 (fun H locs hP hD hS => ?_)
  have hP : va_P (dC, dI) vwCl [(h0, .inr (7, [.ref m_tape, .int 0, .int 0, .int 0, .int 0, .int 0, .int 0, .int 0, .int (-1), .ref m_refused, .ref m_own, .int 0, .ref m_draft, .ref m_program, .ref m_goPlace, .int 0, .int 0, .ref m_isCome, .ref m_heap, .int 0, .ref m_now, .ref m_first, .ref m_second, .ref m_behind, .ref m_states, .int 0, .int 0, .int 0, .ref m_alone0, .ref m_endsBy, .ref m_kept0, .int 0, .int 0, .long 1])), (m_refused, .inl (kr, 6, .inl (fun _ => 0))), (m_draft, .inl (kd, 400, .inl (fun _ => 0)))] H := hP
  have hD : va_D A [(h0, .inr (7, [.ref m_tape, .int 0, .int 0, .int 0, .int 0, .int 0, .int 0, .int 0, .int (-1), .ref m_refused, .ref m_own, .int 0, .ref m_draft, .ref m_program, .ref m_goPlace, .int 0, .int 0, .ref m_isCome, .ref m_heap, .int 0, .ref m_now, .ref m_first, .ref m_second, .ref m_behind, .ref m_states, .int 0, .int 0, .int 0, .ref m_alone0, .ref m_endsBy, .ref m_kept0, .int 0, .int 0, .long 1])), (m_refused, .inl (kr, 6, .inl (fun _ => 0))), (m_draft, .inl (kd, 400, .inl (fun _ => 0)))] := hD
  refine lv_aload_n hx hb dX7_program_8 rfl (lv_at hl 0 rfl) ?_
  refine lv_iconst (v := 0) hx hb dX7_program_9 (by decide) ?_
  refine va_put (D := (dC, dI)) (ci := 7) (v := .int 0) (ty := .int) (C := RX7) (T := TX7) (N := 34) hx hb hts inX7 tyX7 tyX7_ok nmX7 hown hK hP hD hS 0 rfl rfl 1 (by decide) (hts _ T_184) (fun _ h9 => h9) rfl (by decide +kernel) rfl rfl (Nat.le_of_ble_eq_true rfl) dX7_program_10 (fun H locs hP hD hS => ?_)
  have hP : va_P (dC, dI) vwCl [(h0, .inr (7, [.ref m_tape, .int 0, .int 0, .int 0, .int 0, .int 0, .int 0, .int 0, .int (-1), .ref m_refused, .ref m_own, .int 0, .ref m_draft, .ref m_program, .ref m_goPlace, .int 0, .int 0, .ref m_isCome, .ref m_heap, .int 0, .ref m_now, .ref m_first, .ref m_second, .ref m_behind, .ref m_states, .int 0, .int 0, .int 0, .ref m_alone0, .ref m_endsBy, .ref m_kept0, .int 0, .int 0, .long 1])), (m_refused, .inl (kr, 6, .inl (fun _ => 0))), (m_draft, .inl (kd, 400, .inl (fun _ => 0)))] H := hP
  have hD : va_D A [(h0, .inr (7, [.ref m_tape, .int 0, .int 0, .int 0, .int 0, .int 0, .int 0, .int 0, .int (-1), .ref m_refused, .ref m_own, .int 0, .ref m_draft, .ref m_program, .ref m_goPlace, .int 0, .int 0, .ref m_isCome, .ref m_heap, .int 0, .ref m_now, .ref m_first, .ref m_second, .ref m_behind, .ref m_states, .int 0, .int 0, .int 0, .ref m_alone0, .ref m_endsBy, .ref m_kept0, .int 0, .int 0, .long 1])), (m_refused, .inl (kr, 6, .inl (fun _ => 0))), (m_draft, .inl (kd, 400, .inl (fun _ => 0)))] := hD
  refine lv_aload_n hx hb dX7_program_13 rfl (lv_at hl 0 rfl) ?_
  refine lv_iconst (v := 0) hx hb dX7_program_14 (by decide) ?_
  refine va_put (D := (dC, dI)) (ci := 7) (v := .int 0) (ty := .int) (C := RX7) (T := TX7) (N := 34) hx hb hts inX7 tyX7 tyX7_ok nmX7 hown hK hP hD hS 0 rfl rfl 2 (by decide) (hts _ T_197) (fun _ h9 => h9) rfl (by decide +kernel) rfl rfl (Nat.le_of_ble_eq_true rfl) dX7_program_15 (fun H locs hP hD hS => ?_)
  have hP : va_P (dC, dI) vwCl [(h0, .inr (7, [.ref m_tape, .int 0, .int 0, .int 0, .int 0, .int 0, .int 0, .int 0, .int (-1), .ref m_refused, .ref m_own, .int 0, .ref m_draft, .ref m_program, .ref m_goPlace, .int 0, .int 0, .ref m_isCome, .ref m_heap, .int 0, .ref m_now, .ref m_first, .ref m_second, .ref m_behind, .ref m_states, .int 0, .int 0, .int 0, .ref m_alone0, .ref m_endsBy, .ref m_kept0, .int 0, .int 0, .long 1])), (m_refused, .inl (kr, 6, .inl (fun _ => 0))), (m_draft, .inl (kd, 400, .inl (fun _ => 0)))] H := hP
  have hD : va_D A [(h0, .inr (7, [.ref m_tape, .int 0, .int 0, .int 0, .int 0, .int 0, .int 0, .int 0, .int (-1), .ref m_refused, .ref m_own, .int 0, .ref m_draft, .ref m_program, .ref m_goPlace, .int 0, .int 0, .ref m_isCome, .ref m_heap, .int 0, .ref m_now, .ref m_first, .ref m_second, .ref m_behind, .ref m_states, .int 0, .int 0, .int 0, .ref m_alone0, .ref m_endsBy, .ref m_kept0, .int 0, .int 0, .long 1])), (m_refused, .inl (kr, 6, .inl (fun _ => 0))), (m_draft, .inl (kd, 400, .inl (fun _ => 0)))] := hD
  refine lv_aload_n hx hb dX7_program_18 rfl (lv_at hl 0 rfl) ?_
  refine lv_iconst (v := (-1)) hx hb dX7_program_19 (by decide) ?_
  refine va_put (D := (dC, dI)) (ci := 7) (v := .int (-1)) (ty := .int) (C := RX7) (T := TX7) (N := 34) hx hb hts inX7 tyX7 tyX7_ok nmX7 hown hK hP hD hS 0 rfl rfl 4 (by decide) (hts _ T_228) (fun _ h9 => h9) rfl (by decide +kernel) rfl rfl (Nat.le_of_ble_eq_true rfl) dX7_program_20 (fun H locs hP hD hS => ?_)
  have hP : va_P (dC, dI) vwCl [(h0, .inr (7, [.ref m_tape, .int 0, .int 0, .int 0, .int (-1), .int 0, .int 0, .int 0, .int (-1), .ref m_refused, .ref m_own, .int 0, .ref m_draft, .ref m_program, .ref m_goPlace, .int 0, .int 0, .ref m_isCome, .ref m_heap, .int 0, .ref m_now, .ref m_first, .ref m_second, .ref m_behind, .ref m_states, .int 0, .int 0, .int 0, .ref m_alone0, .ref m_endsBy, .ref m_kept0, .int 0, .int 0, .long 1])), (m_refused, .inl (kr, 6, .inl (fun _ => 0))), (m_draft, .inl (kd, 400, .inl (fun _ => 0)))] H := hP
  have hD : va_D A [(h0, .inr (7, [.ref m_tape, .int 0, .int 0, .int 0, .int (-1), .int 0, .int 0, .int 0, .int (-1), .ref m_refused, .ref m_own, .int 0, .ref m_draft, .ref m_program, .ref m_goPlace, .int 0, .int 0, .ref m_isCome, .ref m_heap, .int 0, .ref m_now, .ref m_first, .ref m_second, .ref m_behind, .ref m_states, .int 0, .int 0, .int 0, .ref m_alone0, .ref m_endsBy, .ref m_kept0, .int 0, .int 0, .long 1])), (m_refused, .inl (kr, 6, .inl (fun _ => 0))), (m_draft, .inl (kd, 400, .inl (fun _ => 0)))] := hD
  refine lv_aload_n hx hb dX7_program_23 rfl (lv_at hl 0 rfl) ?_
  refine lv_iconst (v := 0) hx hb dX7_program_24 (by decide) ?_
  refine va_put (D := (dC, dI)) (ci := 7) (v := .int 0) (ty := .int) (C := RX7) (T := TX7) (N := 34) hx hb hts inX7 tyX7 tyX7_ok nmX7 hown hK hP hD hS 0 rfl rfl 5 (by decide) (hts _ T_199) (fun _ h9 => h9) rfl (by decide +kernel) rfl rfl (Nat.le_of_ble_eq_true rfl) dX7_program_25 (fun H locs hP hD hS => ?_)
  have hP : va_P (dC, dI) vwCl [(h0, .inr (7, [.ref m_tape, .int 0, .int 0, .int 0, .int (-1), .int 0, .int 0, .int 0, .int (-1), .ref m_refused, .ref m_own, .int 0, .ref m_draft, .ref m_program, .ref m_goPlace, .int 0, .int 0, .ref m_isCome, .ref m_heap, .int 0, .ref m_now, .ref m_first, .ref m_second, .ref m_behind, .ref m_states, .int 0, .int 0, .int 0, .ref m_alone0, .ref m_endsBy, .ref m_kept0, .int 0, .int 0, .long 1])), (m_refused, .inl (kr, 6, .inl (fun _ => 0))), (m_draft, .inl (kd, 400, .inl (fun _ => 0)))] H := hP
  have hD : va_D A [(h0, .inr (7, [.ref m_tape, .int 0, .int 0, .int 0, .int (-1), .int 0, .int 0, .int 0, .int (-1), .ref m_refused, .ref m_own, .int 0, .ref m_draft, .ref m_program, .ref m_goPlace, .int 0, .int 0, .ref m_isCome, .ref m_heap, .int 0, .ref m_now, .ref m_first, .ref m_second, .ref m_behind, .ref m_states, .int 0, .int 0, .int 0, .ref m_alone0, .ref m_endsBy, .ref m_kept0, .int 0, .int 0, .long 1])), (m_refused, .inl (kr, 6, .inl (fun _ => 0))), (m_draft, .inl (kd, 400, .inl (fun _ => 0)))] := hD
  refine lv_aload_n hx hb dX7_program_28 rfl (lv_at hl 0 rfl) ?_
  refine lv_iconst (v := (-1)) hx hb dX7_program_29 (by decide) ?_
  refine va_put (D := (dC, dI)) (ci := 7) (v := .int (-1)) (ty := .int) (C := RX7) (T := TX7) (N := 34) hx hb hts inX7 tyX7 tyX7_ok nmX7 hown hK hP hD hS 0 rfl rfl 6 (by decide) (hts _ T_215) (fun _ h9 => h9) rfl (by decide +kernel) rfl rfl (Nat.le_of_ble_eq_true rfl) dX7_program_30 (fun H locs hP hD hS => ?_)
  have hP : va_P (dC, dI) vwCl [(h0, .inr (7, [.ref m_tape, .int 0, .int 0, .int 0, .int (-1), .int 0, .int (-1), .int 0, .int (-1), .ref m_refused, .ref m_own, .int 0, .ref m_draft, .ref m_program, .ref m_goPlace, .int 0, .int 0, .ref m_isCome, .ref m_heap, .int 0, .ref m_now, .ref m_first, .ref m_second, .ref m_behind, .ref m_states, .int 0, .int 0, .int 0, .ref m_alone0, .ref m_endsBy, .ref m_kept0, .int 0, .int 0, .long 1])), (m_refused, .inl (kr, 6, .inl (fun _ => 0))), (m_draft, .inl (kd, 400, .inl (fun _ => 0)))] H := hP
  have hD : va_D A [(h0, .inr (7, [.ref m_tape, .int 0, .int 0, .int 0, .int (-1), .int 0, .int (-1), .int 0, .int (-1), .ref m_refused, .ref m_own, .int 0, .ref m_draft, .ref m_program, .ref m_goPlace, .int 0, .int 0, .ref m_isCome, .ref m_heap, .int 0, .ref m_now, .ref m_first, .ref m_second, .ref m_behind, .ref m_states, .int 0, .int 0, .int 0, .ref m_alone0, .ref m_endsBy, .ref m_kept0, .int 0, .int 0, .long 1])), (m_refused, .inl (kr, 6, .inl (fun _ => 0))), (m_draft, .inl (kd, 400, .inl (fun _ => 0)))] := hD
  refine lv_iconst (v := 0) hx hb dX7_program_33 (by decide) ?_
  refine lv_istore_n (lv' := [(1, .int 0), (0, .ref h0)]) hx hb dX7_program_34 rfl hl (by decide) rfl (fun ls hl => ?_)
  refine ax_gen hP hD hS (fun H locs hP hD hS => ?_)
  have hlo := hl
  clear hl
  obtain ⟨k, n, hkn, hl⟩ : ∃ k n : Nat, k + n = 400 ∧ lv_has ls 2 [(1, .int (nI k)), (0, .ref h0)] := ⟨0, 400, rfl, hlo⟩
  clear hlo
  induction n generalizing k H locs ls with
  | zero =>
    have hk : k = 400 := by omega
    subst hk
    refine lv_iload_n hx hb dX7_program_35 rfl (lv_at hl 0 rfl) ?_
    refine lv_sipush (v := 400) hx hb dX7_program_36 (by decide) ?_
    refine lv_icmp_ge (tgt := 55) hx hb dX7_program_39 (by decide) (fun _ => ?_) (fun c => absurd (by decide) c)
    refine lv_aload_n hx hb dX7_program_55 rfl (lv_at hl 1 rfl) ?_
    refine lv_bipush (v := 20) hx hb dX7_program_56 (by decide) ?_
    have hPc := hP.sub (ws' := [(h0, .inr (7, [.ref m_tape, .int 0, .int 0, .int 0, .int (-1), .int 0, .int (-1), .int 0, .int (-1), .ref m_refused, .ref m_own, .int 0, .ref m_draft, .ref m_program, .ref m_goPlace, .int 0, .int 0, .ref m_isCome, .ref m_heap, .int 0, .ref m_now, .ref m_first, .ref m_second, .ref m_behind, .ref m_states, .int 0, .int 0, .int 0, .ref m_alone0, .ref m_endsBy, .ref m_kept0, .int 0, .int 0, .long 1]))]) [0] rfl
    have hDc := hD.sub (ws' := [(h0, .inr (7, [.ref m_tape, .int 0, .int 0, .int 0, .int (-1), .int 0, .int (-1), .int 0, .int (-1), .ref m_refused, .ref m_own, .int 0, .ref m_draft, .ref m_program, .ref m_goPlace, .int 0, .int 0, .ref m_isCome, .ref m_heap, .int 0, .ref m_now, .ref m_first, .ref m_second, .ref m_behind, .ref m_states, .int 0, .int 0, .int 0, .ref m_alone0, .ref m_endsBy, .ref m_kept0, .int 0, .int 0, .long 1]))]) [0] (by decide) rfl
    have hKc := hK.sub (tys' := []) [] rfl
    have hFc := va_free (wc := [(h0, .inr (7, [.ref m_tape, .int 0, .int 0, .int 0, .int (-1), .int 0, .int (-1), .int 0, .int (-1), .ref m_refused, .ref m_own, .int 0, .ref m_draft, .ref m_program, .ref m_goPlace, .int 0, .int 0, .ref m_isCome, .ref m_heap, .int 0, .ref m_now, .ref m_first, .ref m_second, .ref m_behind, .ref m_states, .int 0, .int 0, .int 0, .ref m_alone0, .ref m_endsBy, .ref m_kept0, .int 0, .int 0, .long 1]))]) hD hS hA [0] rfl
    refine va_callv (va_runV (As := [.int 20]) (rest := []) ⟨hx, hb, hml, hown, hts⟩ (c_X7_asks l dC dI H.size h0 m_tape m_refused m_own m_draft m_program m_goPlace m_isCome m_heap m_now m_first m_second m_behind m_states m_alone0 m_endsBy m_kept0) (cwV 1 hts (ax_gV T_230 T_231 T_232 T_189 T_229) rfl rfl rfl (by decide +kernel) ⟨Nat.le_of_ble_eq_true rfl, Nat.le_of_ble_eq_true rfl⟩) ⟨fun a U g mk q => ⟨q.1, ax_pc rfl rfl q.2⟩, va_recv hKc hPc (ci := 7) (q0 := 0) rfl rfl, fun U hU hW => ⟨rfl, ax_pw hU hW hPc hKc hDc hN⟩⟩ rfl rfl hl.1 rfl (lv_room (Nat.le_of_ble_eq_true rfl)) dX7_program_58 ⟨Nat.le_of_ble_eq_true rfl, Nat.le_of_ble_eq_true rfl⟩) hS (fun q _ h => hFc q h) hFc (fun _ t H1 locs ht hvm hw hB hz1 hk1 hS => ?_)
    obtain ⟨hP1, hK1, hD1⟩ := hB
    rw [ht] at hP1
    have hK1 := va_K.moved hvm.symm hK1
    obtain ⟨hP, hD⟩ := va_join (wr := [(m_refused, .inl (kr, 6, .inl (fun _ => 0))), (m_draft, .inl (kd, 400, .inl (fun _ => 0)))]) (w1 := [(h0, .inr (7, [.ref m_tape, .int 0, .int 0, .int 0, .int (-1), .int 1, .int 0, .int 0, .int (-1), .ref m_refused, .ref m_own, .int 0, .ref m_draft, .ref m_program, .ref m_goPlace, .int 0, .int 0, .ref m_isCome, .ref m_heap, .int 0, .ref m_now, .ref m_first, .ref m_second, .ref m_behind, .ref m_states, .int 0, .int 0, .int 0, .ref m_alone0, .ref m_endsBy, .ref m_kept0, .int 0, .int 0, .long 1]))]) hP hD [0] [1, 2] rfl rfl (by decide) (by decide) hk1 hFc hP1 hD1
    generalize H1 = H at hP hS ⊢
    have hP : va_P (dC, dI) vwCl [(m_refused, .inl (kr, 6, .inl (fun _ => 0))), (m_draft, .inl (kd, 400, .inl (fun _ => 0))), (h0, .inr (7, [.ref m_tape, .int 0, .int 0, .int 0, .int (-1), .int 1, .int 0, .int 0, .int (-1), .ref m_refused, .ref m_own, .int 0, .ref m_draft, .ref m_program, .ref m_goPlace, .int 0, .int 0, .ref m_isCome, .ref m_heap, .int 0, .ref m_now, .ref m_first, .ref m_second, .ref m_behind, .ref m_states, .int 0, .int 0, .int 0, .ref m_alone0, .ref m_endsBy, .ref m_kept0, .int 0, .int 0, .long 1]))] H := hP
    have hD : va_D A [(m_refused, .inl (kr, 6, .inl (fun _ => 0))), (m_draft, .inl (kd, 400, .inl (fun _ => 0))), (h0, .inr (7, [.ref m_tape, .int 0, .int 0, .int 0, .int (-1), .int 1, .int 0, .int 0, .int (-1), .ref m_refused, .ref m_own, .int 0, .ref m_draft, .ref m_program, .ref m_goPlace, .int 0, .int 0, .ref m_isCome, .ref m_heap, .int 0, .ref m_now, .ref m_first, .ref m_second, .ref m_behind, .ref m_states, .int 0, .int 0, .int 0, .ref m_alone0, .ref m_endsBy, .ref m_kept0, .int 0, .int 0, .long 1]))] := hD
    refine lv_aload_n hx hb dX7_program_61 rfl (lv_at hl 1 rfl) ?_
    refine va_get (D := (dC, dI)) (ci := 7) (v := .ref m_draft) (C := RX7) (T := TX7) (N := 34) hx hb hts inX7 hown hK hP 2 rfl rfl 12 (by decide) (hts _ T_168) (fun _ h9 => h9) rfl dX7_program_62 ?_
    refine lv_sipush (v := 384) hx hb dX7_program_65 (by decide) ?_
    refine lv_aload_n hx hb dX7_program_68 rfl (lv_at hl 1 rfl) ?_
    refine lv_iconst (v := 1) hx hb dX7_program_69 (by decide) ?_
    refine lv_iconst (v := 4) hx hb dX7_program_70 (by decide) ?_
    have hPc := hP.sub (ws' := [(h0, .inr (7, [.ref m_tape, .int 0, .int 0, .int 0, .int (-1), .int 1, .int 0, .int 0, .int (-1), .ref m_refused, .ref m_own, .int 0, .ref m_draft, .ref m_program, .ref m_goPlace, .int 0, .int 0, .ref m_isCome, .ref m_heap, .int 0, .ref m_now, .ref m_first, .ref m_second, .ref m_behind, .ref m_states, .int 0, .int 0, .int 0, .ref m_alone0, .ref m_endsBy, .ref m_kept0, .int 0, .int 0, .long 1]))]) [2] rfl
    have hDc := hD.sub (ws' := [(h0, .inr (7, [.ref m_tape, .int 0, .int 0, .int 0, .int (-1), .int 1, .int 0, .int 0, .int (-1), .ref m_refused, .ref m_own, .int 0, .ref m_draft, .ref m_program, .ref m_goPlace, .int 0, .int 0, .ref m_isCome, .ref m_heap, .int 0, .ref m_now, .ref m_first, .ref m_second, .ref m_behind, .ref m_states, .int 0, .int 0, .int 0, .ref m_alone0, .ref m_endsBy, .ref m_kept0, .int 0, .int 0, .long 1]))]) [2] (by decide) rfl
    have hKc := hK.sub (tys' := []) [] rfl
    have hFc := va_free (wc := [(h0, .inr (7, [.ref m_tape, .int 0, .int 0, .int 0, .int (-1), .int 1, .int 0, .int 0, .int (-1), .ref m_refused, .ref m_own, .int 0, .ref m_draft, .ref m_program, .ref m_goPlace, .int 0, .int 0, .ref m_isCome, .ref m_heap, .int 0, .ref m_now, .ref m_first, .ref m_second, .ref m_behind, .ref m_states, .int 0, .int 0, .int 0, .ref m_alone0, .ref m_endsBy, .ref m_kept0, .int 0, .int 0, .long 1]))]) hD hS hA [2] rfl
    refine va_calli (va_runV (As := [.int 1, .int 4]) (rest := [.int 384, .ref m_draft]) ⟨hx, hb, hml, hown, hts⟩ (c_X7_number l dC dI H.size h0 m_tape m_refused m_own m_draft m_program m_goPlace m_isCome m_heap m_now m_first m_second m_behind m_states m_alone0 m_endsBy m_kept0) (cwV 2 hts (ax_gV T_234 T_235 T_236 T_189 T_233) rfl rfl rfl (by decide +kernel) ⟨Nat.le_of_ble_eq_true rfl, Nat.le_of_ble_eq_true rfl⟩) ⟨fun a U g mk q => ⟨q.1, ax_pc rfl rfl q.2⟩, va_recv hKc hPc (ci := 7) (q0 := 0) rfl rfl, fun U hU hW => ⟨rfl, ax_pw hU hW hPc hKc hDc hN⟩⟩ rfl rfl hl.1 rfl (lv_room (Nat.le_of_ble_eq_true rfl)) dX7_program_71 ⟨Nat.le_of_ble_eq_true rfl, Nat.le_of_ble_eq_true rfl⟩) hS (fun q _ h => hFc q h) hFc (fun r1 _ t H1 locs ht hvm hw hB hz1 hk1 hS => ?_)
    obtain ⟨hP1, hK1, hD1⟩ := hB
    rw [ht] at hP1
    have hK1 := va_K.moved hvm.symm hK1
    obtain ⟨hP, hD⟩ := va_join (wr := [(m_refused, .inl (kr, 6, .inl (fun _ => 0))), (m_draft, .inl (kd, 400, .inl (fun _ => 0)))]) (w1 := [(h0, .inr (7, [.ref m_tape, .int 0, .int 0, .int 0, .int (-1), .int 1, .int 0, .int 0, .int (-1), .ref m_refused, .ref m_own, .int 0, .ref m_draft, .ref m_program, .ref m_goPlace, .int 0, .int 0, .ref m_isCome, .ref m_heap, .int 0, .ref m_now, .ref m_first, .ref m_second, .ref m_behind, .ref m_states, .int 0, .int 0, .int 0, .ref m_alone0, .ref m_endsBy, .ref m_kept0, .int 0, .int 0, .long 1]))]) hP hD [2] [0, 1] rfl rfl (by decide) (by decide) hk1 hFc hP1 hD1
    generalize H1 = H at hP hS ⊢
    have hP : va_P (dC, dI) vwCl [(m_refused, .inl (kr, 6, .inl (fun _ => 0))), (m_draft, .inl (kd, 400, .inl (fun _ => 0))), (h0, .inr (7, [.ref m_tape, .int 0, .int 0, .int 0, .int (-1), .int 1, .int 0, .int 0, .int (-1), .ref m_refused, .ref m_own, .int 0, .ref m_draft, .ref m_program, .ref m_goPlace, .int 0, .int 0, .ref m_isCome, .ref m_heap, .int 0, .ref m_now, .ref m_first, .ref m_second, .ref m_behind, .ref m_states, .int 0, .int 0, .int 0, .ref m_alone0, .ref m_endsBy, .ref m_kept0, .int 0, .int 0, .long 1]))] H := hP
    have hD : va_D A [(m_refused, .inl (kr, 6, .inl (fun _ => 0))), (m_draft, .inl (kd, 400, .inl (fun _ => 0))), (h0, .inr (7, [.ref m_tape, .int 0, .int 0, .int 0, .int (-1), .int 1, .int 0, .int 0, .int (-1), .ref m_refused, .ref m_own, .int 0, .ref m_draft, .ref m_program, .ref m_goPlace, .int 0, .int 0, .ref m_isCome, .ref m_heap, .int 0, .ref m_now, .ref m_first, .ref m_second, .ref m_behind, .ref m_states, .int 0, .int 0, .int 0, .ref m_alone0, .ref m_endsBy, .ref m_kept0, .int 0, .int 0, .long 1]))] := hD
    subst hw
    refine va_iast hx hb hK hP hD hS 1 1 rfl rfl (ax_in (by decide)) dX7_program_74 (fun H locs hP hD hS => ?_)
    have hP : va_P (dC, dI) vwCl [(m_refused, .inl (kr, 6, .inl (fun _ => 0))), (m_draft, .inl (kd, 400, .inl (upd (fun _ => 0) (384 : Int32).toNatClampNeg 0))), (h0, .inr (7, [.ref m_tape, .int 0, .int 0, .int 0, .int (-1), .int 1, .int 0, .int 0, .int (-1), .ref m_refused, .ref m_own, .int 0, .ref m_draft, .ref m_program, .ref m_goPlace, .int 0, .int 0, .ref m_isCome, .ref m_heap, .int 0, .ref m_now, .ref m_first, .ref m_second, .ref m_behind, .ref m_states, .int 0, .int 0, .int 0, .ref m_alone0, .ref m_endsBy, .ref m_kept0, .int 0, .int 0, .long 1]))] H := hP
    have hD : va_D A [(m_refused, .inl (kr, 6, .inl (fun _ => 0))), (m_draft, .inl (kd, 400, .inl (upd (fun _ => 0) (384 : Int32).toNatClampNeg 0))), (h0, .inr (7, [.ref m_tape, .int 0, .int 0, .int 0, .int (-1), .int 1, .int 0, .int 0, .int (-1), .ref m_refused, .ref m_own, .int 0, .ref m_draft, .ref m_program, .ref m_goPlace, .int 0, .int 0, .ref m_isCome, .ref m_heap, .int 0, .ref m_now, .ref m_first, .ref m_second, .ref m_behind, .ref m_states, .int 0, .int 0, .int 0, .ref m_alone0, .ref m_endsBy, .ref m_kept0, .int 0, .int 0, .long 1]))] := hD
    rw [ax_upd0] at hP hD
    refine lv_aload_n hx hb dX7_program_75 rfl (lv_at hl 1 rfl) ?_
    refine lv_bipush (v := 59) hx hb dX7_program_76 (by decide) ?_
    have hPc := hP.sub (ws' := [(h0, .inr (7, [.ref m_tape, .int 0, .int 0, .int 0, .int (-1), .int 1, .int 0, .int 0, .int (-1), .ref m_refused, .ref m_own, .int 0, .ref m_draft, .ref m_program, .ref m_goPlace, .int 0, .int 0, .ref m_isCome, .ref m_heap, .int 0, .ref m_now, .ref m_first, .ref m_second, .ref m_behind, .ref m_states, .int 0, .int 0, .int 0, .ref m_alone0, .ref m_endsBy, .ref m_kept0, .int 0, .int 0, .long 1]))]) [2] rfl
    have hDc := hD.sub (ws' := [(h0, .inr (7, [.ref m_tape, .int 0, .int 0, .int 0, .int (-1), .int 1, .int 0, .int 0, .int (-1), .ref m_refused, .ref m_own, .int 0, .ref m_draft, .ref m_program, .ref m_goPlace, .int 0, .int 0, .ref m_isCome, .ref m_heap, .int 0, .ref m_now, .ref m_first, .ref m_second, .ref m_behind, .ref m_states, .int 0, .int 0, .int 0, .ref m_alone0, .ref m_endsBy, .ref m_kept0, .int 0, .int 0, .long 1]))]) [2] (by decide) rfl
    have hKc := hK.sub (tys' := []) [] rfl
    have hFc := va_free (wc := [(h0, .inr (7, [.ref m_tape, .int 0, .int 0, .int 0, .int (-1), .int 1, .int 0, .int 0, .int (-1), .ref m_refused, .ref m_own, .int 0, .ref m_draft, .ref m_program, .ref m_goPlace, .int 0, .int 0, .ref m_isCome, .ref m_heap, .int 0, .ref m_now, .ref m_first, .ref m_second, .ref m_behind, .ref m_states, .int 0, .int 0, .int 0, .ref m_alone0, .ref m_endsBy, .ref m_kept0, .int 0, .int 0, .long 1]))]) hD hS hA [2] rfl
    refine va_callv (va_runV (As := [.int 59]) (rest := []) ⟨hx, hb, hml, hown, hts⟩ (c_X7_asksSign l dC dI H.size h0 m_tape m_refused m_own m_draft m_program m_goPlace m_isCome m_heap m_now m_first m_second m_behind m_states m_alone0 m_endsBy m_kept0) (cwV 1 hts (ax_gV T_238 T_239 T_240 T_189 T_237) rfl rfl rfl (by decide +kernel) ⟨Nat.le_of_ble_eq_true rfl, Nat.le_of_ble_eq_true rfl⟩) ⟨fun a U g mk q => ⟨q.1, ax_pc rfl rfl q.2⟩, va_recv hKc hPc (ci := 7) (q0 := 0) rfl rfl, fun U hU hW => ⟨rfl, ax_pw hU hW hPc hKc hDc hN⟩⟩ rfl rfl hl.1 rfl (lv_room (Nat.le_of_ble_eq_true rfl)) dX7_program_78 ⟨Nat.le_of_ble_eq_true rfl, Nat.le_of_ble_eq_true rfl⟩) hS (fun q _ h => hFc q h) hFc (fun _ t H1 locs ht hvm hw hB hz1 hk1 hS => ?_)
    obtain ⟨hP1, hK1, hD1⟩ := hB
    rw [ht] at hP1
    have hK1 := va_K.moved hvm.symm hK1
    obtain ⟨hP, hD⟩ := va_join (wr := [(m_refused, .inl (kr, 6, .inl (fun _ => 0))), (m_draft, .inl (kd, 400, .inl (fun _ => 0)))]) (w1 := [(h0, .inr (7, [.ref m_tape, .int 0, .int 0, .int 0, .int (-1), .int 1, .int 0, .int 0, .int (-1), .ref m_refused, .ref m_own, .int 0, .ref m_draft, .ref m_program, .ref m_goPlace, .int 0, .int 0, .ref m_isCome, .ref m_heap, .int 0, .ref m_now, .ref m_first, .ref m_second, .ref m_behind, .ref m_states, .int 0, .int 0, .int 0, .ref m_alone0, .ref m_endsBy, .ref m_kept0, .int 0, .int 0, .long 1]))]) hP hD [2] [0, 1] rfl rfl (by decide) (by decide) hk1 hFc hP1 hD1
    generalize H1 = H at hP hS ⊢
    have hP : va_P (dC, dI) vwCl [(m_refused, .inl (kr, 6, .inl (fun _ => 0))), (m_draft, .inl (kd, 400, .inl (fun _ => 0))), (h0, .inr (7, [.ref m_tape, .int 0, .int 0, .int 0, .int (-1), .int 1, .int 0, .int 0, .int (-1), .ref m_refused, .ref m_own, .int 0, .ref m_draft, .ref m_program, .ref m_goPlace, .int 0, .int 0, .ref m_isCome, .ref m_heap, .int 0, .ref m_now, .ref m_first, .ref m_second, .ref m_behind, .ref m_states, .int 0, .int 0, .int 0, .ref m_alone0, .ref m_endsBy, .ref m_kept0, .int 0, .int 0, .long 1]))] H := hP
    have hD : va_D A [(m_refused, .inl (kr, 6, .inl (fun _ => 0))), (m_draft, .inl (kd, 400, .inl (fun _ => 0))), (h0, .inr (7, [.ref m_tape, .int 0, .int 0, .int 0, .int (-1), .int 1, .int 0, .int 0, .int (-1), .ref m_refused, .ref m_own, .int 0, .ref m_draft, .ref m_program, .ref m_goPlace, .int 0, .int 0, .ref m_isCome, .ref m_heap, .int 0, .ref m_now, .ref m_first, .ref m_second, .ref m_behind, .ref m_states, .int 0, .int 0, .int 0, .ref m_alone0, .ref m_endsBy, .ref m_kept0, .int 0, .int 0, .long 1]))] := hD
    refine lv_aload_n hx hb dX7_program_81 rfl (lv_at hl 1 rfl) ?_
    refine lv_iconst (v := 1) hx hb dX7_program_82 (by decide) ?_
    refine va_put (D := (dC, dI)) (ci := 7) (v := .int 1) (ty := .int) (C := RX7) (T := TX7) (N := 34) hx hb hts inX7 tyX7 tyX7_ok nmX7 hown hK hP hD hS 2 rfl rfl 16 (by decide) (hts _ T_241) (fun _ h9 => h9) rfl (by decide +kernel) rfl rfl (Nat.le_of_ble_eq_true rfl) dX7_program_83 (fun H locs hP hD hS => ?_)
    have hP : va_P (dC, dI) vwCl [(m_refused, .inl (kr, 6, .inl (fun _ => 0))), (m_draft, .inl (kd, 400, .inl (fun _ => 0))), (h0, .inr (7, [.ref m_tape, .int 0, .int 0, .int 0, .int (-1), .int 1, .int 0, .int 0, .int (-1), .ref m_refused, .ref m_own, .int 0, .ref m_draft, .ref m_program, .ref m_goPlace, .int 0, .int 1, .ref m_isCome, .ref m_heap, .int 0, .ref m_now, .ref m_first, .ref m_second, .ref m_behind, .ref m_states, .int 0, .int 0, .int 0, .ref m_alone0, .ref m_endsBy, .ref m_kept0, .int 0, .int 0, .long 1]))] H := hP
    have hD : va_D A [(m_refused, .inl (kr, 6, .inl (fun _ => 0))), (m_draft, .inl (kd, 400, .inl (fun _ => 0))), (h0, .inr (7, [.ref m_tape, .int 0, .int 0, .int 0, .int (-1), .int 1, .int 0, .int 0, .int (-1), .ref m_refused, .ref m_own, .int 0, .ref m_draft, .ref m_program, .ref m_goPlace, .int 0, .int 1, .ref m_isCome, .ref m_heap, .int 0, .ref m_now, .ref m_first, .ref m_second, .ref m_behind, .ref m_states, .int 0, .int 0, .int 0, .ref m_alone0, .ref m_endsBy, .ref m_kept0, .int 0, .int 0, .long 1]))] := hD
    refine lv_aload_n hx hb dX7_program_86 rfl (lv_at hl 1 rfl) ?_
    refine va_get (D := (dC, dI)) (ci := 7) (v := .int 1) (C := RX7) (T := TX7) (N := 34) hx hb hts inX7 hown hK hP 2 rfl rfl 5 (by decide) (hts _ T_199) (fun _ h9 => h9) rfl dX7_program_87 ?_
    refine lv_if_ne (tgt := 108) hx hb dX7_program_90 (by decide) (fun _ => ?_) (fun c => absurd c (by decide))
    refine lv_aload_n hx hb dX7_program_108 rfl (lv_at hl 1 rfl) ?_
    refine va_get (D := (dC, dI)) (ci := 7) (v := .int 1) (C := RX7) (T := TX7) (N := 34) hx hb hts inX7 hown hK hP 2 rfl rfl 5 (by decide) (hts _ T_199) (fun _ h9 => h9) rfl dX7_program_109 ?_
    refine lv_if_ne (tgt := 131) hx hb dX7_program_112 (by decide) (fun _ => ?_) (fun c => absurd c (by decide))
    refine lv_aload_n hx hb dX7_program_131 rfl (lv_at hl 1 rfl) ?_
    have hPc := hP.sub (ws' := [(h0, .inr (7, [.ref m_tape, .int 0, .int 0, .int 0, .int (-1), .int 1, .int 0, .int 0, .int (-1), .ref m_refused, .ref m_own, .int 0, .ref m_draft, .ref m_program, .ref m_goPlace, .int 0, .int 1, .ref m_isCome, .ref m_heap, .int 0, .ref m_now, .ref m_first, .ref m_second, .ref m_behind, .ref m_states, .int 0, .int 0, .int 0, .ref m_alone0, .ref m_endsBy, .ref m_kept0, .int 0, .int 0, .long 1])), (m_draft, .inl (kd, 400, .inl (fun _ => 0)))]) [2, 1] rfl
    have hDc := hD.sub (ws' := [(h0, .inr (7, [.ref m_tape, .int 0, .int 0, .int 0, .int (-1), .int 1, .int 0, .int 0, .int (-1), .ref m_refused, .ref m_own, .int 0, .ref m_draft, .ref m_program, .ref m_goPlace, .int 0, .int 1, .ref m_isCome, .ref m_heap, .int 0, .ref m_now, .ref m_first, .ref m_second, .ref m_behind, .ref m_states, .int 0, .int 0, .int 0, .ref m_alone0, .ref m_endsBy, .ref m_kept0, .int 0, .int 0, .long 1])), (m_draft, .inl (kd, 400, .inl (fun _ => 0)))]) [2, 1] (by decide) rfl
    have hKc := hK.sub (tys' := [(kd, .int)]) [1] rfl
    have hFc := va_free (wc := [(h0, .inr (7, [.ref m_tape, .int 0, .int 0, .int 0, .int (-1), .int 1, .int 0, .int 0, .int (-1), .ref m_refused, .ref m_own, .int 0, .ref m_draft, .ref m_program, .ref m_goPlace, .int 0, .int 1, .ref m_isCome, .ref m_heap, .int 0, .ref m_now, .ref m_first, .ref m_second, .ref m_behind, .ref m_states, .int 0, .int 0, .int 0, .ref m_alone0, .ref m_endsBy, .ref m_kept0, .int 0, .int 0, .long 1])), (m_draft, .inl (kd, 400, .inl (fun _ => 0)))]) hD hS hA [2, 1] rfl
    refine va_callv (va_runV (As := []) (rest := []) ⟨hx, hb, hml, hown, hts⟩ (c_X7_joins l dC dI H.size h0 m_tape m_refused m_own m_draft m_program m_goPlace m_isCome m_heap m_now m_first m_second m_behind m_states m_alone0 m_endsBy m_kept0 kd) (cwV 0 hts (ax_gV T_243 T_244 T_245 T_189 T_242) rfl rfl rfl (by decide +kernel) ⟨Nat.le_of_ble_eq_true rfl, Nat.le_of_ble_eq_true rfl⟩) ⟨fun a U g mk q => ⟨q.1, ax_pc rfl rfl q.2⟩, va_recv hKc hPc (ci := 7) (q0 := 0) rfl rfl, fun U hU hW => ⟨rfl, ax_pw hU hW hPc hKc hDc hN⟩⟩ rfl rfl hl.1 rfl (lv_room (Nat.le_of_ble_eq_true rfl)) dX7_program_132 ⟨Nat.le_of_ble_eq_true rfl, Nat.le_of_ble_eq_true rfl⟩) hS (fun q _ h => hFc q h) hFc (fun _ t H1 locs ht hvm hw hB hz1 hk1 hS => ?_)
    obtain ⟨hP1, hK1, hD1⟩ := hB
    rw [ht] at hP1
    have hK1 := va_K.moved hvm.symm hK1
    obtain ⟨hP, hD⟩ := va_join (wr := [(m_refused, .inl (kr, 6, .inl (fun _ => 0)))]) (w1 := [(h0, .inr (7, [.ref m_tape, .int 0, .int 0, .int 0, .int (-1), .int 1, .int 0, .int 0, .int (-1), .ref m_refused, .ref m_own, .int 0, .ref m_draft, .ref m_program, .ref m_goPlace, .int 0, .int 1, .ref m_isCome, .ref m_heap, .int 0, .ref m_now, .ref m_first, .ref m_second, .ref m_behind, .ref m_states, .int 0, .int 0, .int 0, .ref m_alone0, .ref m_endsBy, .ref m_kept0, .int 0, .int 0, .long 1]))]) hP hD [2, 1] [0] rfl rfl (by decide) (by decide) hk1 hFc hP1 hD1
    generalize H1 = H at hP hS ⊢
    have hP : va_P (dC, dI) vwCl [(m_refused, .inl (kr, 6, .inl (fun _ => 0))), (h0, .inr (7, [.ref m_tape, .int 0, .int 0, .int 0, .int (-1), .int 1, .int 0, .int 0, .int (-1), .ref m_refused, .ref m_own, .int 0, .ref m_draft, .ref m_program, .ref m_goPlace, .int 0, .int 1, .ref m_isCome, .ref m_heap, .int 0, .ref m_now, .ref m_first, .ref m_second, .ref m_behind, .ref m_states, .int 0, .int 0, .int 0, .ref m_alone0, .ref m_endsBy, .ref m_kept0, .int 0, .int 0, .long 1]))] H := hP
    have hD : va_D A [(m_refused, .inl (kr, 6, .inl (fun _ => 0))), (h0, .inr (7, [.ref m_tape, .int 0, .int 0, .int 0, .int (-1), .int 1, .int 0, .int 0, .int (-1), .ref m_refused, .ref m_own, .int 0, .ref m_draft, .ref m_program, .ref m_goPlace, .int 0, .int 1, .ref m_isCome, .ref m_heap, .int 0, .ref m_now, .ref m_first, .ref m_second, .ref m_behind, .ref m_states, .int 0, .int 0, .int 0, .ref m_alone0, .ref m_endsBy, .ref m_kept0, .int 0, .int 0, .long 1]))] := hD
    refine lv_aload_n hx hb dX7_program_135 rfl (lv_at hl 1 rfl) ?_
    refine lv_aload_n hx hb dX7_program_136 rfl (lv_at hl 1 rfl) ?_
    refine va_get (D := (dC, dI)) (ci := 7) (v := .int 1) (C := RX7) (T := TX7) (N := 34) hx hb hts inX7 hown hK hP 1 rfl rfl 5 (by decide) (hts _ T_199) (fun _ h9 => h9) rfl dX7_program_137 ?_
    refine va_put (D := (dC, dI)) (ci := 7) (v := .int 1) (ty := .int) (C := RX7) (T := TX7) (N := 34) hx hb hts inX7 tyX7 tyX7_ok nmX7 hown hK hP hD hS 1 rfl rfl 7 (by decide) (hts _ T_194) (fun _ h9 => h9) rfl (by decide +kernel) rfl rfl (Nat.le_of_ble_eq_true rfl) dX7_program_140 (fun H locs hP hD hS => ?_)
    have hP : va_P (dC, dI) vwCl [(m_refused, .inl (kr, 6, .inl (fun _ => 0))), (h0, .inr (7, [.ref m_tape, .int 0, .int 0, .int 0, .int (-1), .int 1, .int 0, .int 1, .int (-1), .ref m_refused, .ref m_own, .int 0, .ref m_draft, .ref m_program, .ref m_goPlace, .int 0, .int 1, .ref m_isCome, .ref m_heap, .int 0, .ref m_now, .ref m_first, .ref m_second, .ref m_behind, .ref m_states, .int 0, .int 0, .int 0, .ref m_alone0, .ref m_endsBy, .ref m_kept0, .int 0, .int 0, .long 1]))] H := hP
    have hD : va_D A [(m_refused, .inl (kr, 6, .inl (fun _ => 0))), (h0, .inr (7, [.ref m_tape, .int 0, .int 0, .int 0, .int (-1), .int 1, .int 0, .int 1, .int (-1), .ref m_refused, .ref m_own, .int 0, .ref m_draft, .ref m_program, .ref m_goPlace, .int 0, .int 1, .ref m_isCome, .ref m_heap, .int 0, .ref m_now, .ref m_first, .ref m_second, .ref m_behind, .ref m_states, .int 0, .int 0, .int 0, .ref m_alone0, .ref m_endsBy, .ref m_kept0, .int 0, .int 0, .long 1]))] := hD
    refine lv_aload_n hx hb dX7_program_143 rfl (lv_at hl 1 rfl) ?_
    refine lv_aload_n hx hb dX7_program_144 rfl (lv_at hl 1 rfl) ?_
    refine va_get (D := (dC, dI)) (ci := 7) (v := .int 0) (C := RX7) (T := TX7) (N := 34) hx hb hts inX7 hown hK hP 1 rfl rfl 6 (by decide) (hts _ T_215) (fun _ h9 => h9) rfl dX7_program_145 ?_
    refine va_put (D := (dC, dI)) (ci := 7) (v := .int 0) (ty := .int) (C := RX7) (T := TX7) (N := 34) hx hb hts inX7 tyX7 tyX7_ok nmX7 hown hK hP hD hS 1 rfl rfl 8 (by decide) (hts _ T_164) (fun _ h9 => h9) rfl (by decide +kernel) rfl rfl (Nat.le_of_ble_eq_true rfl) dX7_program_148 (fun H locs hP hD hS => ?_)
    have hP : va_P (dC, dI) vwCl [(m_refused, .inl (kr, 6, .inl (fun _ => 0))), (h0, .inr (7, [.ref m_tape, .int 0, .int 0, .int 0, .int (-1), .int 1, .int 0, .int 1, .int 0, .ref m_refused, .ref m_own, .int 0, .ref m_draft, .ref m_program, .ref m_goPlace, .int 0, .int 1, .ref m_isCome, .ref m_heap, .int 0, .ref m_now, .ref m_first, .ref m_second, .ref m_behind, .ref m_states, .int 0, .int 0, .int 0, .ref m_alone0, .ref m_endsBy, .ref m_kept0, .int 0, .int 0, .long 1]))] H := hP
    have hD : va_D A [(m_refused, .inl (kr, 6, .inl (fun _ => 0))), (h0, .inr (7, [.ref m_tape, .int 0, .int 0, .int 0, .int (-1), .int 1, .int 0, .int 1, .int 0, .ref m_refused, .ref m_own, .int 0, .ref m_draft, .ref m_program, .ref m_goPlace, .int 0, .int 1, .ref m_isCome, .ref m_heap, .int 0, .ref m_now, .ref m_first, .ref m_second, .ref m_behind, .ref m_states, .int 0, .int 0, .int 0, .ref m_alone0, .ref m_endsBy, .ref m_kept0, .int 0, .int 0, .long 1]))] := hD
    refine lv_aload_n hx hb dX7_program_151 rfl (lv_at hl 1 rfl) ?_
    refine va_get (D := (dC, dI)) (ci := 7) (v := .int 1) (C := RX7) (T := TX7) (N := 34) hx hb hts inX7 hown hK hP 1 rfl rfl 5 (by decide) (hts _ T_199) (fun _ h9 => h9) rfl dX7_program_152 ?_
    refine lv_if_eq (tgt := 164) hx hb dX7_program_155 (by decide) (fun c => absurd c (by decide)) (fun _ => ?_)
    refine lv_aload_n hx hb dX7_program_158 rfl (lv_at hl 1 rfl) ?_
    refine lv_iconst (v := 1) hx hb dX7_program_159 (by decide) ?_
    have hPc := hP.sub (ws' := [(h0, .inr (7, [.ref m_tape, .int 0, .int 0, .int 0, .int (-1), .int 1, .int 0, .int 1, .int 0, .ref m_refused, .ref m_own, .int 0, .ref m_draft, .ref m_program, .ref m_goPlace, .int 0, .int 1, .ref m_isCome, .ref m_heap, .int 0, .ref m_now, .ref m_first, .ref m_second, .ref m_behind, .ref m_states, .int 0, .int 0, .int 0, .ref m_alone0, .ref m_endsBy, .ref m_kept0, .int 0, .int 0, .long 1])), (m_refused, .inl (kr, 6, .inl (fun _ => 0)))]) [1, 0] rfl
    have hDc := hD.sub (ws' := [(h0, .inr (7, [.ref m_tape, .int 0, .int 0, .int 0, .int (-1), .int 1, .int 0, .int 1, .int 0, .ref m_refused, .ref m_own, .int 0, .ref m_draft, .ref m_program, .ref m_goPlace, .int 0, .int 1, .ref m_isCome, .ref m_heap, .int 0, .ref m_now, .ref m_first, .ref m_second, .ref m_behind, .ref m_states, .int 0, .int 0, .int 0, .ref m_alone0, .ref m_endsBy, .ref m_kept0, .int 0, .int 0, .long 1])), (m_refused, .inl (kr, 6, .inl (fun _ => 0)))]) [1, 0] (by decide) rfl
    have hKc := hK.sub (tys' := [(kr, .int)]) [0] rfl
    have hFc := va_free (wc := [(h0, .inr (7, [.ref m_tape, .int 0, .int 0, .int 0, .int (-1), .int 1, .int 0, .int 1, .int 0, .ref m_refused, .ref m_own, .int 0, .ref m_draft, .ref m_program, .ref m_goPlace, .int 0, .int 1, .ref m_isCome, .ref m_heap, .int 0, .ref m_now, .ref m_first, .ref m_second, .ref m_behind, .ref m_states, .int 0, .int 0, .int 0, .ref m_alone0, .ref m_endsBy, .ref m_kept0, .int 0, .int 0, .long 1])), (m_refused, .inl (kr, 6, .inl (fun _ => 0)))]) hD hS hA [1, 0] rfl
    refine va_calli (va_runV (As := [.int 1]) (rest := []) ⟨hx, hb, hml, hown, hts⟩ (c_X7_refuses_p l dC dI H.size h0 m_tape m_refused m_own m_draft m_program m_goPlace m_isCome m_heap m_now m_first m_second m_behind m_states m_alone0 m_endsBy m_kept0 kr (fun _ => 0) 1 (ax_in (by decide))) (cwV 1 hts (ax_gV T_247 T_248 T_249 T_189 T_246) rfl rfl rfl (by decide +kernel) ⟨Nat.le_of_ble_eq_true rfl, Nat.le_of_ble_eq_true rfl⟩) ⟨fun a U g mk q => ⟨q.1, ax_pc rfl rfl q.2⟩, va_recv hKc hPc (ci := 7) (q0 := 0) rfl rfl, fun U hU hW => ⟨rfl, ax_pw hU hW hPc hKc hDc hN⟩⟩ rfl rfl hl.1 rfl (lv_room (Nat.le_of_ble_eq_true rfl)) dX7_program_160 ⟨Nat.le_of_ble_eq_true rfl, Nat.le_of_ble_eq_true rfl⟩) hS (fun q _ h => hFc q h) hFc (fun r2 _ t H1 locs ht hvm hw hB hz1 hk1 hS => ?_)
    obtain ⟨hP1, hK1, hD1⟩ := hB
    rw [ht] at hP1
    have hK1 := va_K.moved hvm.symm hK1
    obtain ⟨hP, hD⟩ := va_join (wr := []) (w1 := []) hP hD [1, 0] [] rfl rfl (by decide) (by decide) hk1 hFc hP1 hD1
    generalize H1 = H at hP hS ⊢
    have hP : va_P (dC, dI) vwCl [] H := hP
    have hD : va_D A [] := hD
    subst hw
    have hP9 := hP.sub (ws' := []) [] rfl
    have hD9 := hD.sub (ws' := []) [] (by decide) rfl
    have hK9 := hK.sub (tys' := []) [] rfl
    exact W.iret (v := (-1)) hx hb hr (fun t ht hW => ⟨⟨(-1), (), rfl, rfl, by rw [ht]; exact hP9, va_K.moved hW.alike hK9, hD9⟩, hS.F ht⟩) hS.2.2 dX7_program_163
  | succ n ih =>
    have hlt : k < 400 := by omega
    refine lv_iload_n hx hb dX7_program_35 rfl (lv_at hl 0 rfl) ?_
    refine lv_sipush (v := 400) hx hb dX7_program_36 (by decide) ?_
    refine lv_icmp_ge (tgt := 55) hx hb dX7_program_39 (by decide) (fun c => absurd c (nI_ge hlt (by decide))) (fun _ => ?_)
    refine lv_aload_n hx hb dX7_program_42 rfl (lv_at hl 1 rfl) ?_
    refine va_get (D := (dC, dI)) (ci := 7) (v := .ref m_draft) (C := RX7) (T := TX7) (N := 34) hx hb hts inX7 hown hK hP 0 rfl rfl 12 (by decide) (hts _ T_168) (fun _ h9 => h9) rfl dX7_program_43 ?_
    refine lv_iload_n hx hb dX7_program_46 rfl (lv_at hl 0 rfl) ?_
    refine lv_iconst (v := 0) hx hb dX7_program_47 (by decide) ?_
    refine va_iast hx hb hK hP hD hS 2 1 rfl rfl (vp_in_nI hlt (by decide)) dX7_program_48 (fun H locs hP hD hS => ?_)
    have hP : va_P (dC, dI) vwCl [(h0, .inr (7, [.ref m_tape, .int 0, .int 0, .int 0, .int (-1), .int 0, .int (-1), .int 0, .int (-1), .ref m_refused, .ref m_own, .int 0, .ref m_draft, .ref m_program, .ref m_goPlace, .int 0, .int 0, .ref m_isCome, .ref m_heap, .int 0, .ref m_now, .ref m_first, .ref m_second, .ref m_behind, .ref m_states, .int 0, .int 0, .int 0, .ref m_alone0, .ref m_endsBy, .ref m_kept0, .int 0, .int 0, .long 1])), (m_refused, .inl (kr, 6, .inl (fun _ => 0))), (m_draft, .inl (kd, 400, .inl (upd (fun _ => 0) (nI k : Int32).toNatClampNeg 0)))] H := hP
    have hD : va_D A [(h0, .inr (7, [.ref m_tape, .int 0, .int 0, .int 0, .int (-1), .int 0, .int (-1), .int 0, .int (-1), .ref m_refused, .ref m_own, .int 0, .ref m_draft, .ref m_program, .ref m_goPlace, .int 0, .int 0, .ref m_isCome, .ref m_heap, .int 0, .ref m_now, .ref m_first, .ref m_second, .ref m_behind, .ref m_states, .int 0, .int 0, .int 0, .ref m_alone0, .ref m_endsBy, .ref m_kept0, .int 0, .int 0, .long 1])), (m_refused, .inl (kr, 6, .inl (fun _ => 0))), (m_draft, .inl (kd, 400, .inl (upd (fun _ => 0) (nI k : Int32).toNatClampNeg 0)))] := hD
    rw [ax_upd0] at hP hD
    refine lv_iinc (v := (nI (k + 1))) (lv' := [(1, .int (nI (k + 1))), (0, .ref h0)]) hx hb dX7_program_49 hl (k := 0) rfl (nI_1 k) (by decide) rfl (fun ls hl => ?_)
    refine lv_goto (tgt := 35) hx hb dX7_program_52 (by decide) ?_
    have hl : lv_has ls 2 [(1, .int (nI (k + 1))), (0, .ref h0)] := lv_sub hl [0, 1] rfl
    apply ih (k := k + 1)
    all_goals first | assumption | omega

set_option maxHeartbeats 4000000 in
set_option maxRecDepth 100000 in
theorem c_X7_isWarp (l : Launch) (dC : Nat → ClassId) (dI : Nat → Nat → Nat) (sz : Nat) (h0 : Nat) (m_tape : Nat) (m_refused : Nat) (m_own : Nat) (m_draft : Nat) (m_program : Nat) (m_goPlace : Nat) (m_isCome : Nat) (m_heap : Nat) (m_now : Nat) (m_first : Nat) (m_second : Nat) (m_behind : Nat) (m_states : Nat) (m_alone0 : Nat) (m_endsBy : Nat) (m_kept0 : Nat) (p0 : Int32) : Met l yX7_isWarp (Cond.code yX7_isWarp cX7_isWarp 2 (some .boolean) :: T0) ({ frames := 0, cells := 0, slots := 0, locals := 0 }) (va_Pc [.ref h0, .int p0] (ax_W dC dI sz [(h0, .inr (7, [.ref m_tape, .int 0, .int 0, .int 0, .int 0, .int 0, .int 0, .int 0, .int (-1), .ref m_refused, .ref m_own, .int 0, .ref m_draft, .ref m_program, .ref m_goPlace, .int 0, .int 0, .ref m_isCome, .ref m_heap, .int 0, .ref m_now, .ref m_first, .ref m_second, .ref m_behind, .ref m_states, .int 0, .int 0, .int 0, .ref m_alone0, .ref m_endsBy, .ref m_kept0, .int 0, .int 0, .long 1]))] [])) (va_Qi (fun (r : Int32) (_ : Unit) => r = 0) (fun (_ : Unit) (t : State) => va_P (dC, dI) vwCl [(h0, .inr (7, [.ref m_tape, .int 0, .int 0, .int 0, .int 0, .int 0, .int 0, .int 0, .int (-1), .ref m_refused, .ref m_own, .int 0, .ref m_draft, .ref m_program, .ref m_goPlace, .int 0, .int 0, .ref m_isCome, .ref m_heap, .int 0, .ref m_now, .ref m_first, .ref m_second, .ref m_behind, .ref m_states, .int 0, .int 0, .int 0, .ref m_alone0, .ref m_endsBy, .ref m_kept0, .int 0, .int 0, .long 1]))] t.heap ∧ va_K (dC, dI) vwCl [] t ∧ va_D (va_A [(h0, .inr (7, [.ref m_tape, .int 0, .int 0, .int 0, .int 0, .int 0, .int 0, .int 0, .int (-1), .ref m_refused, .ref m_own, .int 0, .ref m_draft, .ref m_program, .ref m_goPlace, .int 0, .int 0, .ref m_isCome, .ref m_heap, .int 0, .ref m_now, .ref m_first, .ref m_second, .ref m_behind, .ref m_states, .int 0, .int 0, .int 0, .ref m_alone0, .ref m_endsBy, .ref m_kept0, .int 0, .int 0, .long 1]))] sz) [(h0, .inr (7, [.ref m_tape, .int 0, .int 0, .int 0, .int 0, .int 0, .int 0, .int 0, .int (-1), .ref m_refused, .ref m_own, .int 0, .ref m_draft, .ref m_program, .ref m_goPlace, .int 0, .int 0, .ref m_isCome, .ref m_heap, .int 0, .ref m_now, .ref m_first, .ref m_second, .ref m_behind, .ref m_states, .int 0, .int 0, .int 0, .ref m_alone0, .ref m_endsBy, .ref m_kept0, .int 0, .int 0, .long 1]))]) (va_A [(h0, .inr (7, [.ref m_tape, .int 0, .int 0, .int 0, .int 0, .int 0, .int 0, .int 0, .int (-1), .ref m_refused, .ref m_own, .int 0, .ref m_draft, .ref m_program, .ref m_goPlace, .int 0, .int 0, .ref m_isCome, .ref m_heap, .int 0, .ref m_now, .ref m_first, .ref m_second, .ref m_behind, .ref m_states, .int 0, .int 0, .int 0, .ref m_alone0, .ref m_endsBy, .ref m_kept0, .int 0, .int 0, .long 1]))] sz)) 0 0 (va_A [(h0, .inr (7, [.ref m_tape, .int 0, .int 0, .int 0, .int 0, .int 0, .int 0, .int 0, .int (-1), .ref m_refused, .ref m_own, .int 0, .ref m_draft, .ref m_program, .ref m_goPlace, .int 0, .int 0, .ref m_isCome, .ref m_heap, .int 0, .ref m_now, .ref m_first, .ref m_second, .ref m_behind, .ref m_states, .int 0, .int 0, .int 0, .ref m_alone0, .ref m_endsBy, .ref m_kept0, .int 0, .int 0, .long 1]))] sz) := by
  refine Met.ofW (cc := cX7_isWarp) (maxL := 2) (ret := (some .boolean)) (by decide) rfl ?_
  intro p e s m args below meth c s₁ B hml hv
  obtain ⟨rfl, hsz, hP, hK, hD0, hN⟩ := hv
  have hx := B.exec
  have hb := B.bytes
  have hr := B.returns
  have hts : ∀ w ∈ T0, w.before _ s = true := fun w h => atoms_spec (ws := Cond.code yX7_isWarp cX7_isWarp 2 (some .boolean) :: T0) B.pre w (List.mem_cons_of_mem _ h)
  have hown : s.vm.findClass RX7 = some m.cls := findClass_of_methodNamed B.named
  have hlocks := B.notSynchronized
  subst hsz
  have hD := hD0.self (sz := s.heap.size)
  generalize hAe : va_A [(h0, .inr (7, [.ref m_tape, .int 0, .int 0, .int 0, .int 0, .int 0, .int 0, .int 0, .int (-1), .ref m_refused, .ref m_own, .int 0, .ref m_draft, .ref m_program, .ref m_goPlace, .int 0, .int 0, .ref m_isCome, .ref m_heap, .int 0, .ref m_now, .ref m_first, .ref m_second, .ref m_behind, .ref m_states, .int 0, .int 0, .int 0, .ref m_alone0, .ref m_endsBy, .ref m_kept0, .int 0, .int 0, .long 1]))] s.heap.size = A at hD ⊢
  have hA : ∀ q : Nat, s.heap.size ≤ q → A q := fun q h => by rw [← hAe]; exact Or.inr h
  have hS : va_S A s.heap s.heap [] := va_S.rf
  have hP : va_P (dC, dI) vwCl [(h0, .inr (7, [.ref m_tape, .int 0, .int 0, .int 0, .int 0, .int 0, .int 0, .int 0, .int (-1), .ref m_refused, .ref m_own, .int 0, .ref m_draft, .ref m_program, .ref m_goPlace, .int 0, .int 0, .ref m_isCome, .ref m_heap, .int 0, .ref m_now, .ref m_first, .ref m_second, .ref m_behind, .ref m_states, .int 0, .int 0, .int 0, .ref m_alone0, .ref m_endsBy, .ref m_kept0, .int 0, .int 0, .long 1]))] s.heap := hP
  have hl := lv_entry ([.ref h0, .int p0]) (n := 2) (Nat.le_of_ble_eq_true rfl)
  rw [lg_entry_eq]
  generalize (lg_sl ([.ref h0, .int p0]) ++ List.replicate (2 - (lg_sl ([.ref h0, .int p0])).length) Slot.unset).toArray = ls at hl ⊢
  refine ax_gen hP hD hS (fun H locs hP hD hS => ?_)
  have hl : lv_has ls 2 [(0, .ref h0), (1, .int p0)] := hl
  refine lv_aload_n hx hb dX7_isWarp_0 rfl (lv_at hl 0 rfl) ?_
  refine va_get (D := (dC, dI)) (ci := 7) (v := .int 0) (C := RX7) (T := TX7) (N := 34) hx hb hts inX7 hown hK hP 0 rfl rfl 15 (by decide) (hts _ T_196) (fun _ h9 => h9) rfl dX7_isWarp_1 ?_
  refine lv_if_eq (tgt := 27) hx hb dX7_isWarp_4 (by decide) (fun _ => ?_) (fun c => absurd (by decide) c)
  refine lv_iconst (v := 0) hx hb dX7_isWarp_27 (by decide) ?_
  have hP9 := hP.sub (ws' := [(h0, .inr (7, [.ref m_tape, .int 0, .int 0, .int 0, .int 0, .int 0, .int 0, .int 0, .int (-1), .ref m_refused, .ref m_own, .int 0, .ref m_draft, .ref m_program, .ref m_goPlace, .int 0, .int 0, .ref m_isCome, .ref m_heap, .int 0, .ref m_now, .ref m_first, .ref m_second, .ref m_behind, .ref m_states, .int 0, .int 0, .int 0, .ref m_alone0, .ref m_endsBy, .ref m_kept0, .int 0, .int 0, .long 1]))]) [0] rfl
  have hD9 := hD.sub (ws' := [(h0, .inr (7, [.ref m_tape, .int 0, .int 0, .int 0, .int 0, .int 0, .int 0, .int 0, .int (-1), .ref m_refused, .ref m_own, .int 0, .ref m_draft, .ref m_program, .ref m_goPlace, .int 0, .int 0, .ref m_isCome, .ref m_heap, .int 0, .ref m_now, .ref m_first, .ref m_second, .ref m_behind, .ref m_states, .int 0, .int 0, .int 0, .ref m_alone0, .ref m_endsBy, .ref m_kept0, .int 0, .int 0, .long 1]))]) [0] (by decide) rfl
  have hK9 := hK.sub (tys' := []) [] rfl
  exact W.zret (v := 0) (ty := .boolean) hx hb hr (by decide) (fun t ht hW => ⟨⟨0, (), rfl, rfl, by rw [ht]; exact hP9, va_K.moved hW.alike hK9, hD9⟩, hS.F ht⟩) hS.2.2 dX7_isWarp_28

set_option maxHeartbeats 4000000 in
set_option maxRecDepth 100000 in
theorem c_X7_isLane (l : Launch) (dC : Nat → ClassId) (dI : Nat → Nat → Nat) (sz : Nat) (h0 : Nat) (m_tape : Nat) (m_refused : Nat) (m_own : Nat) (m_draft : Nat) (m_program : Nat) (m_goPlace : Nat) (m_isCome : Nat) (m_heap : Nat) (m_now : Nat) (m_first : Nat) (m_second : Nat) (m_behind : Nat) (m_states : Nat) (m_alone0 : Nat) (m_endsBy : Nat) (m_kept0 : Nat) (p0 : Int32) (p1 : Int32) : Met l yX7_isLane (Cond.code yX7_isLane cX7_isLane 3 (some .boolean) :: T0) ({ frames := 1, cells := 0, slots := 0, locals := 21 }) (va_Pc [.ref h0, .int p0, .int p1] (ax_W dC dI sz [(h0, .inr (7, [.ref m_tape, .int 0, .int 0, .int 0, .int 0, .int 0, .int 0, .int 0, .int (-1), .ref m_refused, .ref m_own, .int 0, .ref m_draft, .ref m_program, .ref m_goPlace, .int 0, .int 0, .ref m_isCome, .ref m_heap, .int 0, .ref m_now, .ref m_first, .ref m_second, .ref m_behind, .ref m_states, .int 0, .int 0, .int 0, .ref m_alone0, .ref m_endsBy, .ref m_kept0, .int 0, .int 0, .long 1]))] [])) (va_Qi (fun (r : Int32) (_ : Unit) => r = 0) (fun (_ : Unit) (t : State) => va_P (dC, dI) vwCl [(h0, .inr (7, [.ref m_tape, .int 0, .int 0, .int 0, .int 0, .int 0, .int 0, .int 0, .int (-1), .ref m_refused, .ref m_own, .int 0, .ref m_draft, .ref m_program, .ref m_goPlace, .int 0, .int 0, .ref m_isCome, .ref m_heap, .int 0, .ref m_now, .ref m_first, .ref m_second, .ref m_behind, .ref m_states, .int 0, .int 0, .int 0, .ref m_alone0, .ref m_endsBy, .ref m_kept0, .int 0, .int 0, .long 1]))] t.heap ∧ va_K (dC, dI) vwCl [] t ∧ va_D (va_A [(h0, .inr (7, [.ref m_tape, .int 0, .int 0, .int 0, .int 0, .int 0, .int 0, .int 0, .int (-1), .ref m_refused, .ref m_own, .int 0, .ref m_draft, .ref m_program, .ref m_goPlace, .int 0, .int 0, .ref m_isCome, .ref m_heap, .int 0, .ref m_now, .ref m_first, .ref m_second, .ref m_behind, .ref m_states, .int 0, .int 0, .int 0, .ref m_alone0, .ref m_endsBy, .ref m_kept0, .int 0, .int 0, .long 1]))] sz) [(h0, .inr (7, [.ref m_tape, .int 0, .int 0, .int 0, .int 0, .int 0, .int 0, .int 0, .int (-1), .ref m_refused, .ref m_own, .int 0, .ref m_draft, .ref m_program, .ref m_goPlace, .int 0, .int 0, .ref m_isCome, .ref m_heap, .int 0, .ref m_now, .ref m_first, .ref m_second, .ref m_behind, .ref m_states, .int 0, .int 0, .int 0, .ref m_alone0, .ref m_endsBy, .ref m_kept0, .int 0, .int 0, .long 1]))]) (va_A [(h0, .inr (7, [.ref m_tape, .int 0, .int 0, .int 0, .int 0, .int 0, .int 0, .int 0, .int (-1), .ref m_refused, .ref m_own, .int 0, .ref m_draft, .ref m_program, .ref m_goPlace, .int 0, .int 0, .ref m_isCome, .ref m_heap, .int 0, .ref m_now, .ref m_first, .ref m_second, .ref m_behind, .ref m_states, .int 0, .int 0, .int 0, .ref m_alone0, .ref m_endsBy, .ref m_kept0, .int 0, .int 0, .long 1]))] sz)) 0 0 (va_A [(h0, .inr (7, [.ref m_tape, .int 0, .int 0, .int 0, .int 0, .int 0, .int 0, .int 0, .int (-1), .ref m_refused, .ref m_own, .int 0, .ref m_draft, .ref m_program, .ref m_goPlace, .int 0, .int 0, .ref m_isCome, .ref m_heap, .int 0, .ref m_now, .ref m_first, .ref m_second, .ref m_behind, .ref m_states, .int 0, .int 0, .int 0, .ref m_alone0, .ref m_endsBy, .ref m_kept0, .int 0, .int 0, .long 1]))] sz) := by
  refine Met.ofW (cc := cX7_isLane) (maxL := 3) (ret := (some .boolean)) (by decide) rfl ?_
  intro p e s m args below meth c s₁ B hml hv
  obtain ⟨rfl, hsz, hP, hK, hD0, hN⟩ := hv
  have hx := B.exec
  have hb := B.bytes
  have hr := B.returns
  have hts : ∀ w ∈ T0, w.before _ s = true := fun w h => atoms_spec (ws := Cond.code yX7_isLane cX7_isLane 3 (some .boolean) :: T0) B.pre w (List.mem_cons_of_mem _ h)
  have hown : s.vm.findClass RX7 = some m.cls := findClass_of_methodNamed B.named
  have hlocks := B.notSynchronized
  subst hsz
  have hD := hD0.self (sz := s.heap.size)
  generalize hAe : va_A [(h0, .inr (7, [.ref m_tape, .int 0, .int 0, .int 0, .int 0, .int 0, .int 0, .int 0, .int (-1), .ref m_refused, .ref m_own, .int 0, .ref m_draft, .ref m_program, .ref m_goPlace, .int 0, .int 0, .ref m_isCome, .ref m_heap, .int 0, .ref m_now, .ref m_first, .ref m_second, .ref m_behind, .ref m_states, .int 0, .int 0, .int 0, .ref m_alone0, .ref m_endsBy, .ref m_kept0, .int 0, .int 0, .long 1]))] s.heap.size = A at hD ⊢
  have hA : ∀ q : Nat, s.heap.size ≤ q → A q := fun q h => by rw [← hAe]; exact Or.inr h
  have hS : va_S A s.heap s.heap [] := va_S.rf
  have hP : va_P (dC, dI) vwCl [(h0, .inr (7, [.ref m_tape, .int 0, .int 0, .int 0, .int 0, .int 0, .int 0, .int 0, .int (-1), .ref m_refused, .ref m_own, .int 0, .ref m_draft, .ref m_program, .ref m_goPlace, .int 0, .int 0, .ref m_isCome, .ref m_heap, .int 0, .ref m_now, .ref m_first, .ref m_second, .ref m_behind, .ref m_states, .int 0, .int 0, .int 0, .ref m_alone0, .ref m_endsBy, .ref m_kept0, .int 0, .int 0, .long 1]))] s.heap := hP
  have hl := lv_entry ([.ref h0, .int p0, .int p1]) (n := 3) (Nat.le_of_ble_eq_true rfl)
  rw [lg_entry_eq]
  generalize (lg_sl ([.ref h0, .int p0, .int p1]) ++ List.replicate (3 - (lg_sl ([.ref h0, .int p0, .int p1])).length) Slot.unset).toArray = ls at hl ⊢
  refine ax_gen hP hD hS (fun H locs hP hD hS => ?_)
  have hl : lv_has ls 3 [(0, .ref h0), (1, .int p0), (2, .int p1)] := hl
  refine lv_aload_n hx hb dX7_isLane_0 rfl (lv_at hl 0 rfl) ?_
  refine lv_iload_n hx hb dX7_isLane_1 rfl (lv_at hl 1 rfl) ?_
  have hPc := hP.sub (ws' := [(h0, .inr (7, [.ref m_tape, .int 0, .int 0, .int 0, .int 0, .int 0, .int 0, .int 0, .int (-1), .ref m_refused, .ref m_own, .int 0, .ref m_draft, .ref m_program, .ref m_goPlace, .int 0, .int 0, .ref m_isCome, .ref m_heap, .int 0, .ref m_now, .ref m_first, .ref m_second, .ref m_behind, .ref m_states, .int 0, .int 0, .int 0, .ref m_alone0, .ref m_endsBy, .ref m_kept0, .int 0, .int 0, .long 1]))]) [0] rfl
  have hDc := hD.sub (ws' := [(h0, .inr (7, [.ref m_tape, .int 0, .int 0, .int 0, .int 0, .int 0, .int 0, .int 0, .int (-1), .ref m_refused, .ref m_own, .int 0, .ref m_draft, .ref m_program, .ref m_goPlace, .int 0, .int 0, .ref m_isCome, .ref m_heap, .int 0, .ref m_now, .ref m_first, .ref m_second, .ref m_behind, .ref m_states, .int 0, .int 0, .int 0, .ref m_alone0, .ref m_endsBy, .ref m_kept0, .int 0, .int 0, .long 1]))]) [0] (by decide) rfl
  have hKc := hK.sub (tys' := []) [] rfl
  have hFc := va_free (wc := [(h0, .inr (7, [.ref m_tape, .int 0, .int 0, .int 0, .int 0, .int 0, .int 0, .int 0, .int (-1), .ref m_refused, .ref m_own, .int 0, .ref m_draft, .ref m_program, .ref m_goPlace, .int 0, .int 0, .ref m_isCome, .ref m_heap, .int 0, .ref m_now, .ref m_first, .ref m_second, .ref m_behind, .ref m_states, .int 0, .int 0, .int 0, .ref m_alone0, .ref m_endsBy, .ref m_kept0, .int 0, .int 0, .long 1]))]) hD hS hA [0] rfl
  refine va_calli (va_runV (As := [.int p0]) (rest := []) ⟨hx, hb, hml, hown, hts⟩ (c_X7_isWarp l dC dI H.size h0 m_tape m_refused m_own m_draft m_program m_goPlace m_isCome m_heap m_now m_first m_second m_behind m_states m_alone0 m_endsBy m_kept0 p0) (cwV 1 hts (ax_gV T_251 T_252 T_253 T_189 T_250) rfl rfl rfl (by decide +kernel) ⟨Nat.le_of_ble_eq_true rfl, Nat.le_of_ble_eq_true rfl⟩) ⟨fun a U g mk q => ⟨q.1, ax_pc rfl rfl q.2⟩, va_recv hKc hPc (ci := 7) (q0 := 0) rfl rfl, fun U hU hW => ⟨rfl, ax_pw hU hW hPc hKc hDc hN⟩⟩ rfl rfl hl.1 rfl (lv_room (Nat.le_of_ble_eq_true rfl)) dX7_isLane_2 ⟨Nat.le_of_ble_eq_true rfl, Nat.le_of_ble_eq_true rfl⟩) hS (fun q _ h => hFc q h) hFc (fun r1 _ t H1 locs ht hvm hw hB hz1 hk1 hS => ?_)
  obtain ⟨hP1, hK1, hD1⟩ := hB
  rw [ht] at hP1
  have hK1 := va_K.moved hvm.symm hK1
  obtain ⟨hP, hD⟩ := va_join (wr := []) (w1 := [(h0, .inr (7, [.ref m_tape, .int 0, .int 0, .int 0, .int 0, .int 0, .int 0, .int 0, .int (-1), .ref m_refused, .ref m_own, .int 0, .ref m_draft, .ref m_program, .ref m_goPlace, .int 0, .int 0, .ref m_isCome, .ref m_heap, .int 0, .ref m_now, .ref m_first, .ref m_second, .ref m_behind, .ref m_states, .int 0, .int 0, .int 0, .ref m_alone0, .ref m_endsBy, .ref m_kept0, .int 0, .int 0, .long 1]))]) hP hD [0] [] rfl rfl (by decide) (by decide) hk1 hFc hP1 hD1
  generalize H1 = H at hP hS ⊢
  have hP : va_P (dC, dI) vwCl [(h0, .inr (7, [.ref m_tape, .int 0, .int 0, .int 0, .int 0, .int 0, .int 0, .int 0, .int (-1), .ref m_refused, .ref m_own, .int 0, .ref m_draft, .ref m_program, .ref m_goPlace, .int 0, .int 0, .ref m_isCome, .ref m_heap, .int 0, .ref m_now, .ref m_first, .ref m_second, .ref m_behind, .ref m_states, .int 0, .int 0, .int 0, .ref m_alone0, .ref m_endsBy, .ref m_kept0, .int 0, .int 0, .long 1]))] H := hP
  have hD : va_D A [(h0, .inr (7, [.ref m_tape, .int 0, .int 0, .int 0, .int 0, .int 0, .int 0, .int 0, .int (-1), .ref m_refused, .ref m_own, .int 0, .ref m_draft, .ref m_program, .ref m_goPlace, .int 0, .int 0, .ref m_isCome, .ref m_heap, .int 0, .ref m_now, .ref m_first, .ref m_second, .ref m_behind, .ref m_states, .int 0, .int 0, .int 0, .ref m_alone0, .ref m_endsBy, .ref m_kept0, .int 0, .int 0, .long 1]))] := hD
  subst hw
  refine lv_if_eq (tgt := 24) hx hb dX7_isLane_5 (by decide) (fun _ => ?_) (fun c => absurd (by decide) c)
  refine lv_iconst (v := 0) hx hb dX7_isLane_24 (by decide) ?_
  have hP9 := hP.sub (ws' := [(h0, .inr (7, [.ref m_tape, .int 0, .int 0, .int 0, .int 0, .int 0, .int 0, .int 0, .int (-1), .ref m_refused, .ref m_own, .int 0, .ref m_draft, .ref m_program, .ref m_goPlace, .int 0, .int 0, .ref m_isCome, .ref m_heap, .int 0, .ref m_now, .ref m_first, .ref m_second, .ref m_behind, .ref m_states, .int 0, .int 0, .int 0, .ref m_alone0, .ref m_endsBy, .ref m_kept0, .int 0, .int 0, .long 1]))]) [0] rfl
  have hD9 := hD.sub (ws' := [(h0, .inr (7, [.ref m_tape, .int 0, .int 0, .int 0, .int 0, .int 0, .int 0, .int 0, .int (-1), .ref m_refused, .ref m_own, .int 0, .ref m_draft, .ref m_program, .ref m_goPlace, .int 0, .int 0, .ref m_isCome, .ref m_heap, .int 0, .ref m_now, .ref m_first, .ref m_second, .ref m_behind, .ref m_states, .int 0, .int 0, .int 0, .ref m_alone0, .ref m_endsBy, .ref m_kept0, .int 0, .int 0, .long 1]))]) [0] (by decide) rfl
  have hK9 := hK.sub (tys' := []) [] rfl
  exact W.zret (v := 0) (ty := .boolean) hx hb hr (by decide) (fun t ht hW => ⟨⟨0, (), rfl, rfl, by rw [ht]; exact hP9, va_K.moved hW.alike hK9, hD9⟩, hS.F ht⟩) hS.2.2 dX7_isLane_25

set_option maxHeartbeats 4000000 in
set_option maxRecDepth 100000 in
theorem c_X7_wordOf (l : Launch) (dC : Nat → ClassId) (dI : Nat → Nat → Nat) (sz : Nat) (h0 : Nat) (m_tape : Nat) (m_refused : Nat) (m_own : Nat) (m_draft : Nat) (m_program : Nat) (m_goPlace : Nat) (m_isCome : Nat) (m_heap : Nat) (m_now : Nat) (m_first : Nat) (m_second : Nat) (m_behind : Nat) (m_states : Nat) (m_alone0 : Nat) (m_endsBy : Nat) (m_kept0 : Nat) (p0 : Int32) (p1 : Int32) : Met l yX7_wordOf (Cond.code yX7_wordOf cX7_wordOf 3 (some .int) :: T0) ({ frames := 0, cells := 0, slots := 0, locals := 0 }) (va_Pc [.ref h0, .int p0, .int p1] (ax_W dC dI sz [(h0, .inr (7, [.ref m_tape, .int 0, .int 0, .int 0, .int 0, .int 0, .int 0, .int 0, .int (-1), .ref m_refused, .ref m_own, .int 0, .ref m_draft, .ref m_program, .ref m_goPlace, .int 0, .int 0, .ref m_isCome, .ref m_heap, .int 0, .ref m_now, .ref m_first, .ref m_second, .ref m_behind, .ref m_states, .int 0, .int 0, .int 0, .ref m_alone0, .ref m_endsBy, .ref m_kept0, .int 0, .int 0, .long 1]))] [])) (va_Qi (fun (r : Int32) (_ : Unit) => r = (-1)) (fun (_ : Unit) (t : State) => va_P (dC, dI) vwCl [(h0, .inr (7, [.ref m_tape, .int 0, .int 0, .int 0, .int 0, .int 0, .int 0, .int 0, .int (-1), .ref m_refused, .ref m_own, .int 0, .ref m_draft, .ref m_program, .ref m_goPlace, .int 0, .int 0, .ref m_isCome, .ref m_heap, .int 0, .ref m_now, .ref m_first, .ref m_second, .ref m_behind, .ref m_states, .int 0, .int 0, .int 0, .ref m_alone0, .ref m_endsBy, .ref m_kept0, .int 0, .int 0, .long 1]))] t.heap ∧ va_K (dC, dI) vwCl [] t ∧ va_D (va_A [(h0, .inr (7, [.ref m_tape, .int 0, .int 0, .int 0, .int 0, .int 0, .int 0, .int 0, .int (-1), .ref m_refused, .ref m_own, .int 0, .ref m_draft, .ref m_program, .ref m_goPlace, .int 0, .int 0, .ref m_isCome, .ref m_heap, .int 0, .ref m_now, .ref m_first, .ref m_second, .ref m_behind, .ref m_states, .int 0, .int 0, .int 0, .ref m_alone0, .ref m_endsBy, .ref m_kept0, .int 0, .int 0, .long 1]))] sz) [(h0, .inr (7, [.ref m_tape, .int 0, .int 0, .int 0, .int 0, .int 0, .int 0, .int 0, .int (-1), .ref m_refused, .ref m_own, .int 0, .ref m_draft, .ref m_program, .ref m_goPlace, .int 0, .int 0, .ref m_isCome, .ref m_heap, .int 0, .ref m_now, .ref m_first, .ref m_second, .ref m_behind, .ref m_states, .int 0, .int 0, .int 0, .ref m_alone0, .ref m_endsBy, .ref m_kept0, .int 0, .int 0, .long 1]))]) (va_A [(h0, .inr (7, [.ref m_tape, .int 0, .int 0, .int 0, .int 0, .int 0, .int 0, .int 0, .int (-1), .ref m_refused, .ref m_own, .int 0, .ref m_draft, .ref m_program, .ref m_goPlace, .int 0, .int 0, .ref m_isCome, .ref m_heap, .int 0, .ref m_now, .ref m_first, .ref m_second, .ref m_behind, .ref m_states, .int 0, .int 0, .int 0, .ref m_alone0, .ref m_endsBy, .ref m_kept0, .int 0, .int 0, .long 1]))] sz)) 0 0 (va_A [(h0, .inr (7, [.ref m_tape, .int 0, .int 0, .int 0, .int 0, .int 0, .int 0, .int 0, .int (-1), .ref m_refused, .ref m_own, .int 0, .ref m_draft, .ref m_program, .ref m_goPlace, .int 0, .int 0, .ref m_isCome, .ref m_heap, .int 0, .ref m_now, .ref m_first, .ref m_second, .ref m_behind, .ref m_states, .int 0, .int 0, .int 0, .ref m_alone0, .ref m_endsBy, .ref m_kept0, .int 0, .int 0, .long 1]))] sz) := by
  refine Met.ofW (cc := cX7_wordOf) (maxL := 3) (ret := (some .int)) (by decide) rfl ?_
  intro p e s m args below meth c s₁ B hml hv
  obtain ⟨rfl, hsz, hP, hK, hD0, hN⟩ := hv
  have hx := B.exec
  have hb := B.bytes
  have hr := B.returns
  have hts : ∀ w ∈ T0, w.before _ s = true := fun w h => atoms_spec (ws := Cond.code yX7_wordOf cX7_wordOf 3 (some .int) :: T0) B.pre w (List.mem_cons_of_mem _ h)
  have hown : s.vm.findClass RX7 = some m.cls := findClass_of_methodNamed B.named
  have hlocks := B.notSynchronized
  subst hsz
  have hD := hD0.self (sz := s.heap.size)
  generalize hAe : va_A [(h0, .inr (7, [.ref m_tape, .int 0, .int 0, .int 0, .int 0, .int 0, .int 0, .int 0, .int (-1), .ref m_refused, .ref m_own, .int 0, .ref m_draft, .ref m_program, .ref m_goPlace, .int 0, .int 0, .ref m_isCome, .ref m_heap, .int 0, .ref m_now, .ref m_first, .ref m_second, .ref m_behind, .ref m_states, .int 0, .int 0, .int 0, .ref m_alone0, .ref m_endsBy, .ref m_kept0, .int 0, .int 0, .long 1]))] s.heap.size = A at hD ⊢
  have hA : ∀ q : Nat, s.heap.size ≤ q → A q := fun q h => by rw [← hAe]; exact Or.inr h
  have hS : va_S A s.heap s.heap [] := va_S.rf
  have hP : va_P (dC, dI) vwCl [(h0, .inr (7, [.ref m_tape, .int 0, .int 0, .int 0, .int 0, .int 0, .int 0, .int 0, .int (-1), .ref m_refused, .ref m_own, .int 0, .ref m_draft, .ref m_program, .ref m_goPlace, .int 0, .int 0, .ref m_isCome, .ref m_heap, .int 0, .ref m_now, .ref m_first, .ref m_second, .ref m_behind, .ref m_states, .int 0, .int 0, .int 0, .ref m_alone0, .ref m_endsBy, .ref m_kept0, .int 0, .int 0, .long 1]))] s.heap := hP
  have hl := lv_entry ([.ref h0, .int p0, .int p1]) (n := 3) (Nat.le_of_ble_eq_true rfl)
  rw [lg_entry_eq]
  generalize (lg_sl ([.ref h0, .int p0, .int p1]) ++ List.replicate (3 - (lg_sl ([.ref h0, .int p0, .int p1])).length) Slot.unset).toArray = ls at hl ⊢
  refine ax_gen hP hD hS (fun H locs hP hD hS => ?_)
  have hl : lv_has ls 3 [(0, .ref h0), (1, .int p0), (2, .int p1)] := hl
  refine lv_aload_n hx hb dX7_wordOf_0 rfl (lv_at hl 0 rfl) ?_
  refine va_get (D := (dC, dI)) (ci := 7) (v := .int 0) (C := RX7) (T := TX7) (N := 34) hx hb hts inX7 hown hK hP 0 rfl rfl 15 (by decide) (hts _ T_196) (fun _ h9 => h9) rfl dX7_wordOf_1 ?_
  refine lv_if_eq (tgt := 45) hx hb dX7_wordOf_4 (by decide) (fun _ => ?_) (fun c => absurd (by decide) c)
  refine lv_iconst (v := (-1)) hx hb dX7_wordOf_45 (by decide) ?_
  have hP9 := hP.sub (ws' := [(h0, .inr (7, [.ref m_tape, .int 0, .int 0, .int 0, .int 0, .int 0, .int 0, .int 0, .int (-1), .ref m_refused, .ref m_own, .int 0, .ref m_draft, .ref m_program, .ref m_goPlace, .int 0, .int 0, .ref m_isCome, .ref m_heap, .int 0, .ref m_now, .ref m_first, .ref m_second, .ref m_behind, .ref m_states, .int 0, .int 0, .int 0, .ref m_alone0, .ref m_endsBy, .ref m_kept0, .int 0, .int 0, .long 1]))]) [0] rfl
  have hD9 := hD.sub (ws' := [(h0, .inr (7, [.ref m_tape, .int 0, .int 0, .int 0, .int 0, .int 0, .int 0, .int 0, .int (-1), .ref m_refused, .ref m_own, .int 0, .ref m_draft, .ref m_program, .ref m_goPlace, .int 0, .int 0, .ref m_isCome, .ref m_heap, .int 0, .ref m_now, .ref m_first, .ref m_second, .ref m_behind, .ref m_states, .int 0, .int 0, .int 0, .ref m_alone0, .ref m_endsBy, .ref m_kept0, .int 0, .int 0, .long 1]))]) [0] (by decide) rfl
  have hK9 := hK.sub (tys' := []) [] rfl
  exact W.iret (v := (-1)) hx hb hr (fun t ht hW => ⟨⟨(-1), (), rfl, rfl, by rw [ht]; exact hP9, va_K.moved hW.alike hK9, hD9⟩, hS.F ht⟩) hS.2.2 dX7_wordOf_46

set_option maxHeartbeats 4000000 in
set_option maxRecDepth 100000 in
theorem c_X7_line (l : Launch) (dC : Nat → ClassId) (dI : Nat → Nat → Nat) (sz : Nat) (h0 : Nat) (m_tape : Nat) (m_refused : Nat) (m_own : Nat) (m_draft : Nat) (m_program : Nat) (m_goPlace : Nat) (m_isCome : Nat) (m_heap : Nat) (m_now : Nat) (m_first : Nat) (m_second : Nat) (m_behind : Nat) (m_states : Nat) (m_alone0 : Nat) (m_endsBy : Nat) (m_kept0 : Nat) (p0 : Int32) (p1 : Int32) : Met l yX7_line (Cond.code yX7_line cX7_line 3 (some .int) :: T0) ({ frames := 0, cells := 0, slots := 0, locals := 0 }) (va_Pc [.ref h0, .int p0, .int p1] (ax_W dC dI sz [(h0, .inr (7, [.ref m_tape, .int 0, .int 0, .int 0, .int 0, .int 0, .int 0, .int 0, .int (-1), .ref m_refused, .ref m_own, .int 0, .ref m_draft, .ref m_program, .ref m_goPlace, .int 0, .int 0, .ref m_isCome, .ref m_heap, .int 0, .ref m_now, .ref m_first, .ref m_second, .ref m_behind, .ref m_states, .int 0, .int 0, .int 0, .ref m_alone0, .ref m_endsBy, .ref m_kept0, .int 0, .int 0, .long 1]))] [])) (va_Qi (fun (r : Int32) (_ : Unit) => r = (-1000000)) (fun (_ : Unit) (t : State) => va_P (dC, dI) vwCl [] t.heap ∧ va_K (dC, dI) vwCl [] t ∧ va_D (va_A [(h0, .inr (7, [.ref m_tape, .int 0, .int 0, .int 0, .int 0, .int 0, .int 0, .int 0, .int (-1), .ref m_refused, .ref m_own, .int 0, .ref m_draft, .ref m_program, .ref m_goPlace, .int 0, .int 0, .ref m_isCome, .ref m_heap, .int 0, .ref m_now, .ref m_first, .ref m_second, .ref m_behind, .ref m_states, .int 0, .int 0, .int 0, .ref m_alone0, .ref m_endsBy, .ref m_kept0, .int 0, .int 0, .long 1]))] sz) []) (va_A [(h0, .inr (7, [.ref m_tape, .int 0, .int 0, .int 0, .int 0, .int 0, .int 0, .int 0, .int (-1), .ref m_refused, .ref m_own, .int 0, .ref m_draft, .ref m_program, .ref m_goPlace, .int 0, .int 0, .ref m_isCome, .ref m_heap, .int 0, .ref m_now, .ref m_first, .ref m_second, .ref m_behind, .ref m_states, .int 0, .int 0, .int 0, .ref m_alone0, .ref m_endsBy, .ref m_kept0, .int 0, .int 0, .long 1]))] sz)) 0 0 (va_A [(h0, .inr (7, [.ref m_tape, .int 0, .int 0, .int 0, .int 0, .int 0, .int 0, .int 0, .int (-1), .ref m_refused, .ref m_own, .int 0, .ref m_draft, .ref m_program, .ref m_goPlace, .int 0, .int 0, .ref m_isCome, .ref m_heap, .int 0, .ref m_now, .ref m_first, .ref m_second, .ref m_behind, .ref m_states, .int 0, .int 0, .int 0, .ref m_alone0, .ref m_endsBy, .ref m_kept0, .int 0, .int 0, .long 1]))] sz) := by
  refine Met.ofW (cc := cX7_line) (maxL := 3) (ret := (some .int)) (by decide) rfl ?_
  intro p e s m args below meth c s₁ B hml hv
  obtain ⟨rfl, hsz, hP, hK, hD0, hN⟩ := hv
  have hx := B.exec
  have hb := B.bytes
  have hr := B.returns
  have hts : ∀ w ∈ T0, w.before _ s = true := fun w h => atoms_spec (ws := Cond.code yX7_line cX7_line 3 (some .int) :: T0) B.pre w (List.mem_cons_of_mem _ h)
  have hown : s.vm.findClass RX7 = some m.cls := findClass_of_methodNamed B.named
  have hlocks := B.notSynchronized
  subst hsz
  have hD := hD0.self (sz := s.heap.size)
  generalize hAe : va_A [(h0, .inr (7, [.ref m_tape, .int 0, .int 0, .int 0, .int 0, .int 0, .int 0, .int 0, .int (-1), .ref m_refused, .ref m_own, .int 0, .ref m_draft, .ref m_program, .ref m_goPlace, .int 0, .int 0, .ref m_isCome, .ref m_heap, .int 0, .ref m_now, .ref m_first, .ref m_second, .ref m_behind, .ref m_states, .int 0, .int 0, .int 0, .ref m_alone0, .ref m_endsBy, .ref m_kept0, .int 0, .int 0, .long 1]))] s.heap.size = A at hD ⊢
  have hA : ∀ q : Nat, s.heap.size ≤ q → A q := fun q h => by rw [← hAe]; exact Or.inr h
  have hS : va_S A s.heap s.heap [] := va_S.rf
  have hP : va_P (dC, dI) vwCl [(h0, .inr (7, [.ref m_tape, .int 0, .int 0, .int 0, .int 0, .int 0, .int 0, .int 0, .int (-1), .ref m_refused, .ref m_own, .int 0, .ref m_draft, .ref m_program, .ref m_goPlace, .int 0, .int 0, .ref m_isCome, .ref m_heap, .int 0, .ref m_now, .ref m_first, .ref m_second, .ref m_behind, .ref m_states, .int 0, .int 0, .int 0, .ref m_alone0, .ref m_endsBy, .ref m_kept0, .int 0, .int 0, .long 1]))] s.heap := hP
  have hl := lv_entry ([.ref h0, .int p0, .int p1]) (n := 3) (Nat.le_of_ble_eq_true rfl)
  rw [lg_entry_eq]
  generalize (lg_sl ([.ref h0, .int p0, .int p1]) ++ List.replicate (3 - (lg_sl ([.ref h0, .int p0, .int p1])).length) Slot.unset).toArray = ls at hl ⊢
  refine ax_gen hP hD hS (fun H locs hP hD hS => ?_)
  have hl : lv_has ls 3 [(0, .ref h0), (1, .int p0), (2, .int p1)] := hl
  refine lv_aload_n hx hb dX7_line_0 rfl (lv_at hl 0 rfl) ?_
  refine va_get (D := (dC, dI)) (ci := 7) (v := .int 0) (C := RX7) (T := TX7) (N := 34) hx hb hts inX7 hown hK hP 0 rfl rfl 15 (by decide) (hts _ T_196) (fun _ h9 => h9) rfl dX7_line_1 ?_
  refine lv_if_eq (tgt := 44) hx hb dX7_line_4 (by decide) (fun _ => ?_) (fun c => absurd (by decide) c)
  refine lv_ldc hx hb hown (hts _ T_254) dX7_line_44 ?_
  have hP9 := hP.sub (ws' := []) [] rfl
  have hD9 := hD.sub (ws' := []) [] (by decide) rfl
  have hK9 := hK.sub (tys' := []) [] rfl
  exact W.iret (v := (-1000000)) hx hb hr (fun t ht hW => ⟨⟨(-1000000), (), rfl, rfl, by rw [ht]; exact hP9, va_K.moved hW.alike hK9, hD9⟩, hS.F ht⟩) hS.2.2 dX7_line_46

set_option maxHeartbeats 4000000 in
set_option maxRecDepth 100000 in
theorem c_X7_lane (l : Launch) (dC : Nat → ClassId) (dI : Nat → Nat → Nat) (sz : Nat) (h0 : Nat) (m_tape : Nat) (m_refused : Nat) (m_own : Nat) (m_draft : Nat) (m_program : Nat) (m_goPlace : Nat) (m_isCome : Nat) (m_heap : Nat) (m_now : Nat) (m_first : Nat) (m_second : Nat) (m_behind : Nat) (m_states : Nat) (m_alone0 : Nat) (m_endsBy : Nat) (m_kept0 : Nat) (p0 : Int32) (p1 : Int32) (p2 : Int32) : Met l yX7_lane (Cond.code yX7_lane cX7_lane 4 (some .int) :: T0) ({ frames := 2, cells := 0, slots := 0, locals := 43 }) (va_Pc [.ref h0, .int p0, .int p1, .int p2] (ax_W dC dI sz [(h0, .inr (7, [.ref m_tape, .int 0, .int 0, .int 0, .int 0, .int 0, .int 0, .int 0, .int (-1), .ref m_refused, .ref m_own, .int 0, .ref m_draft, .ref m_program, .ref m_goPlace, .int 0, .int 0, .ref m_isCome, .ref m_heap, .int 0, .ref m_now, .ref m_first, .ref m_second, .ref m_behind, .ref m_states, .int 0, .int 0, .int 0, .ref m_alone0, .ref m_endsBy, .ref m_kept0, .int 0, .int 0, .long 1]))] [])) (va_Qi (fun (r : Int32) (_ : Unit) => r = (-1000000)) (fun (_ : Unit) (t : State) => va_P (dC, dI) vwCl [] t.heap ∧ va_K (dC, dI) vwCl [] t ∧ va_D (va_A [(h0, .inr (7, [.ref m_tape, .int 0, .int 0, .int 0, .int 0, .int 0, .int 0, .int 0, .int (-1), .ref m_refused, .ref m_own, .int 0, .ref m_draft, .ref m_program, .ref m_goPlace, .int 0, .int 0, .ref m_isCome, .ref m_heap, .int 0, .ref m_now, .ref m_first, .ref m_second, .ref m_behind, .ref m_states, .int 0, .int 0, .int 0, .ref m_alone0, .ref m_endsBy, .ref m_kept0, .int 0, .int 0, .long 1]))] sz) []) (va_A [(h0, .inr (7, [.ref m_tape, .int 0, .int 0, .int 0, .int 0, .int 0, .int 0, .int 0, .int (-1), .ref m_refused, .ref m_own, .int 0, .ref m_draft, .ref m_program, .ref m_goPlace, .int 0, .int 0, .ref m_isCome, .ref m_heap, .int 0, .ref m_now, .ref m_first, .ref m_second, .ref m_behind, .ref m_states, .int 0, .int 0, .int 0, .ref m_alone0, .ref m_endsBy, .ref m_kept0, .int 0, .int 0, .long 1]))] sz)) 0 0 (va_A [(h0, .inr (7, [.ref m_tape, .int 0, .int 0, .int 0, .int 0, .int 0, .int 0, .int 0, .int (-1), .ref m_refused, .ref m_own, .int 0, .ref m_draft, .ref m_program, .ref m_goPlace, .int 0, .int 0, .ref m_isCome, .ref m_heap, .int 0, .ref m_now, .ref m_first, .ref m_second, .ref m_behind, .ref m_states, .int 0, .int 0, .int 0, .ref m_alone0, .ref m_endsBy, .ref m_kept0, .int 0, .int 0, .long 1]))] sz) := by
  refine Met.ofW (cc := cX7_lane) (maxL := 4) (ret := (some .int)) (by decide) rfl ?_
  intro p e s m args below meth c s₁ B hml hv
  obtain ⟨rfl, hsz, hP, hK, hD0, hN⟩ := hv
  have hx := B.exec
  have hb := B.bytes
  have hr := B.returns
  have hts : ∀ w ∈ T0, w.before _ s = true := fun w h => atoms_spec (ws := Cond.code yX7_lane cX7_lane 4 (some .int) :: T0) B.pre w (List.mem_cons_of_mem _ h)
  have hown : s.vm.findClass RX7 = some m.cls := findClass_of_methodNamed B.named
  have hlocks := B.notSynchronized
  subst hsz
  have hD := hD0.self (sz := s.heap.size)
  generalize hAe : va_A [(h0, .inr (7, [.ref m_tape, .int 0, .int 0, .int 0, .int 0, .int 0, .int 0, .int 0, .int (-1), .ref m_refused, .ref m_own, .int 0, .ref m_draft, .ref m_program, .ref m_goPlace, .int 0, .int 0, .ref m_isCome, .ref m_heap, .int 0, .ref m_now, .ref m_first, .ref m_second, .ref m_behind, .ref m_states, .int 0, .int 0, .int 0, .ref m_alone0, .ref m_endsBy, .ref m_kept0, .int 0, .int 0, .long 1]))] s.heap.size = A at hD ⊢
  have hA : ∀ q : Nat, s.heap.size ≤ q → A q := fun q h => by rw [← hAe]; exact Or.inr h
  have hS : va_S A s.heap s.heap [] := va_S.rf
  have hP : va_P (dC, dI) vwCl [(h0, .inr (7, [.ref m_tape, .int 0, .int 0, .int 0, .int 0, .int 0, .int 0, .int 0, .int (-1), .ref m_refused, .ref m_own, .int 0, .ref m_draft, .ref m_program, .ref m_goPlace, .int 0, .int 0, .ref m_isCome, .ref m_heap, .int 0, .ref m_now, .ref m_first, .ref m_second, .ref m_behind, .ref m_states, .int 0, .int 0, .int 0, .ref m_alone0, .ref m_endsBy, .ref m_kept0, .int 0, .int 0, .long 1]))] s.heap := hP
  have hl := lv_entry ([.ref h0, .int p0, .int p1, .int p2]) (n := 4) (Nat.le_of_ble_eq_true rfl)
  rw [lg_entry_eq]
  generalize (lg_sl ([.ref h0, .int p0, .int p1, .int p2]) ++ List.replicate (4 - (lg_sl ([.ref h0, .int p0, .int p1, .int p2])).length) Slot.unset).toArray = ls at hl ⊢
  refine ax_gen hP hD hS (fun H locs hP hD hS => ?_)
  have hl : lv_has ls 4 [(0, .ref h0), (1, .int p0), (2, .int p1), (3, .int p2)] := hl
  refine lv_aload_n hx hb dX7_lane_0 rfl (lv_at hl 0 rfl) ?_
  refine lv_iload_n hx hb dX7_lane_1 rfl (lv_at hl 1 rfl) ?_
  refine lv_iload_n hx hb dX7_lane_2 rfl (lv_at hl 2 rfl) ?_
  have hPc := hP.sub (ws' := [(h0, .inr (7, [.ref m_tape, .int 0, .int 0, .int 0, .int 0, .int 0, .int 0, .int 0, .int (-1), .ref m_refused, .ref m_own, .int 0, .ref m_draft, .ref m_program, .ref m_goPlace, .int 0, .int 0, .ref m_isCome, .ref m_heap, .int 0, .ref m_now, .ref m_first, .ref m_second, .ref m_behind, .ref m_states, .int 0, .int 0, .int 0, .ref m_alone0, .ref m_endsBy, .ref m_kept0, .int 0, .int 0, .long 1]))]) [0] rfl
  have hDc := hD.sub (ws' := [(h0, .inr (7, [.ref m_tape, .int 0, .int 0, .int 0, .int 0, .int 0, .int 0, .int 0, .int (-1), .ref m_refused, .ref m_own, .int 0, .ref m_draft, .ref m_program, .ref m_goPlace, .int 0, .int 0, .ref m_isCome, .ref m_heap, .int 0, .ref m_now, .ref m_first, .ref m_second, .ref m_behind, .ref m_states, .int 0, .int 0, .int 0, .ref m_alone0, .ref m_endsBy, .ref m_kept0, .int 0, .int 0, .long 1]))]) [0] (by decide) rfl
  have hKc := hK.sub (tys' := []) [] rfl
  have hFc := va_free (wc := [(h0, .inr (7, [.ref m_tape, .int 0, .int 0, .int 0, .int 0, .int 0, .int 0, .int 0, .int (-1), .ref m_refused, .ref m_own, .int 0, .ref m_draft, .ref m_program, .ref m_goPlace, .int 0, .int 0, .ref m_isCome, .ref m_heap, .int 0, .ref m_now, .ref m_first, .ref m_second, .ref m_behind, .ref m_states, .int 0, .int 0, .int 0, .ref m_alone0, .ref m_endsBy, .ref m_kept0, .int 0, .int 0, .long 1]))]) hD hS hA [0] rfl
  refine va_calli (va_runV (As := [.int p0, .int p1]) (rest := []) ⟨hx, hb, hml, hown, hts⟩ (c_X7_isLane l dC dI H.size h0 m_tape m_refused m_own m_draft m_program m_goPlace m_isCome m_heap m_now m_first m_second m_behind m_states m_alone0 m_endsBy m_kept0 p0 p1) (cwV 2 hts (ax_gV T_256 T_257 T_258 T_189 T_255) rfl rfl rfl (by decide +kernel) ⟨Nat.le_of_ble_eq_true rfl, Nat.le_of_ble_eq_true rfl⟩) ⟨fun a U g mk q => ⟨q.1, ax_pc rfl rfl q.2⟩, va_recv hKc hPc (ci := 7) (q0 := 0) rfl rfl, fun U hU hW => ⟨rfl, ax_pw hU hW hPc hKc hDc hN⟩⟩ rfl rfl hl.1 rfl (lv_room (Nat.le_of_ble_eq_true rfl)) dX7_lane_3 ⟨Nat.le_of_ble_eq_true rfl, Nat.le_of_ble_eq_true rfl⟩) hS (fun q _ h => hFc q h) hFc (fun r1 _ t H1 locs ht hvm hw hB hz1 hk1 hS => ?_)
  obtain ⟨hP1, hK1, hD1⟩ := hB
  rw [ht] at hP1
  have hK1 := va_K.moved hvm.symm hK1
  obtain ⟨hP, hD⟩ := va_join (wr := []) (w1 := [(h0, .inr (7, [.ref m_tape, .int 0, .int 0, .int 0, .int 0, .int 0, .int 0, .int 0, .int (-1), .ref m_refused, .ref m_own, .int 0, .ref m_draft, .ref m_program, .ref m_goPlace, .int 0, .int 0, .ref m_isCome, .ref m_heap, .int 0, .ref m_now, .ref m_first, .ref m_second, .ref m_behind, .ref m_states, .int 0, .int 0, .int 0, .ref m_alone0, .ref m_endsBy, .ref m_kept0, .int 0, .int 0, .long 1]))]) hP hD [0] [] rfl rfl (by decide) (by decide) hk1 hFc hP1 hD1
  generalize H1 = H at hP hS ⊢
  have hP : va_P (dC, dI) vwCl [(h0, .inr (7, [.ref m_tape, .int 0, .int 0, .int 0, .int 0, .int 0, .int 0, .int 0, .int (-1), .ref m_refused, .ref m_own, .int 0, .ref m_draft, .ref m_program, .ref m_goPlace, .int 0, .int 0, .ref m_isCome, .ref m_heap, .int 0, .ref m_now, .ref m_first, .ref m_second, .ref m_behind, .ref m_states, .int 0, .int 0, .int 0, .ref m_alone0, .ref m_endsBy, .ref m_kept0, .int 0, .int 0, .long 1]))] H := hP
  have hD : va_D A [(h0, .inr (7, [.ref m_tape, .int 0, .int 0, .int 0, .int 0, .int 0, .int 0, .int 0, .int (-1), .ref m_refused, .ref m_own, .int 0, .ref m_draft, .ref m_program, .ref m_goPlace, .int 0, .int 0, .ref m_isCome, .ref m_heap, .int 0, .ref m_now, .ref m_first, .ref m_second, .ref m_behind, .ref m_states, .int 0, .int 0, .int 0, .ref m_alone0, .ref m_endsBy, .ref m_kept0, .int 0, .int 0, .long 1]))] := hD
  subst hw
  refine lv_if_eq (tgt := 21) hx hb dX7_lane_6 (by decide) (fun _ => ?_) (fun c => absurd (by decide) c)
  refine lv_ldc hx hb hown (hts _ T_254) dX7_lane_21 ?_
  have hP9 := hP.sub (ws' := []) [] rfl
  have hD9 := hD.sub (ws' := []) [] (by decide) rfl
  have hK9 := hK.sub (tys' := []) [] rfl
  exact W.iret (v := (-1000000)) hx hb hr (fun t ht hW => ⟨⟨(-1000000), (), rfl, rfl, by rw [ht]; exact hP9, va_K.moved hW.alike hK9, hD9⟩, hS.F ht⟩) hS.2.2 dX7_lane_23

set_option maxHeartbeats 4000000 in
set_option maxRecDepth 100000 in
theorem c_X7_warp (l : Launch) (dC : Nat → ClassId) (dI : Nat → Nat → Nat) (sz : Nat) (h0 : Nat) (m_tape : Nat) (m_refused : Nat) (m_own : Nat) (m_draft : Nat) (m_program : Nat) (m_goPlace : Nat) (m_isCome : Nat) (m_heap : Nat) (m_now : Nat) (m_first : Nat) (m_second : Nat) (m_behind : Nat) (m_states : Nat) (m_alone0 : Nat) (m_endsBy : Nat) (m_kept0 : Nat) (p0 : Int32) (p1 : Int32) : Met l yX7_warp (Cond.code yX7_warp cX7_warp 3 (some .int) :: T0) ({ frames := 1, cells := 0, slots := 0, locals := 21 }) (va_Pc [.ref h0, .int p0, .int p1] (ax_W dC dI sz [(h0, .inr (7, [.ref m_tape, .int 0, .int 0, .int 0, .int 0, .int 0, .int 0, .int 0, .int (-1), .ref m_refused, .ref m_own, .int 0, .ref m_draft, .ref m_program, .ref m_goPlace, .int 0, .int 0, .ref m_isCome, .ref m_heap, .int 0, .ref m_now, .ref m_first, .ref m_second, .ref m_behind, .ref m_states, .int 0, .int 0, .int 0, .ref m_alone0, .ref m_endsBy, .ref m_kept0, .int 0, .int 0, .long 1]))] [])) (va_Qi (fun (r : Int32) (_ : Unit) => r = (-1)) (fun (_ : Unit) (t : State) => va_P (dC, dI) vwCl [] t.heap ∧ va_K (dC, dI) vwCl [] t ∧ va_D (va_A [(h0, .inr (7, [.ref m_tape, .int 0, .int 0, .int 0, .int 0, .int 0, .int 0, .int 0, .int (-1), .ref m_refused, .ref m_own, .int 0, .ref m_draft, .ref m_program, .ref m_goPlace, .int 0, .int 0, .ref m_isCome, .ref m_heap, .int 0, .ref m_now, .ref m_first, .ref m_second, .ref m_behind, .ref m_states, .int 0, .int 0, .int 0, .ref m_alone0, .ref m_endsBy, .ref m_kept0, .int 0, .int 0, .long 1]))] sz) []) (va_A [(h0, .inr (7, [.ref m_tape, .int 0, .int 0, .int 0, .int 0, .int 0, .int 0, .int 0, .int (-1), .ref m_refused, .ref m_own, .int 0, .ref m_draft, .ref m_program, .ref m_goPlace, .int 0, .int 0, .ref m_isCome, .ref m_heap, .int 0, .ref m_now, .ref m_first, .ref m_second, .ref m_behind, .ref m_states, .int 0, .int 0, .int 0, .ref m_alone0, .ref m_endsBy, .ref m_kept0, .int 0, .int 0, .long 1]))] sz)) 0 0 (va_A [(h0, .inr (7, [.ref m_tape, .int 0, .int 0, .int 0, .int 0, .int 0, .int 0, .int 0, .int (-1), .ref m_refused, .ref m_own, .int 0, .ref m_draft, .ref m_program, .ref m_goPlace, .int 0, .int 0, .ref m_isCome, .ref m_heap, .int 0, .ref m_now, .ref m_first, .ref m_second, .ref m_behind, .ref m_states, .int 0, .int 0, .int 0, .ref m_alone0, .ref m_endsBy, .ref m_kept0, .int 0, .int 0, .long 1]))] sz) := by
  refine Met.ofW (cc := cX7_warp) (maxL := 3) (ret := (some .int)) (by decide) rfl ?_
  intro p e s m args below meth c s₁ B hml hv
  obtain ⟨rfl, hsz, hP, hK, hD0, hN⟩ := hv
  have hx := B.exec
  have hb := B.bytes
  have hr := B.returns
  have hts : ∀ w ∈ T0, w.before _ s = true := fun w h => atoms_spec (ws := Cond.code yX7_warp cX7_warp 3 (some .int) :: T0) B.pre w (List.mem_cons_of_mem _ h)
  have hown : s.vm.findClass RX7 = some m.cls := findClass_of_methodNamed B.named
  have hlocks := B.notSynchronized
  subst hsz
  have hD := hD0.self (sz := s.heap.size)
  generalize hAe : va_A [(h0, .inr (7, [.ref m_tape, .int 0, .int 0, .int 0, .int 0, .int 0, .int 0, .int 0, .int (-1), .ref m_refused, .ref m_own, .int 0, .ref m_draft, .ref m_program, .ref m_goPlace, .int 0, .int 0, .ref m_isCome, .ref m_heap, .int 0, .ref m_now, .ref m_first, .ref m_second, .ref m_behind, .ref m_states, .int 0, .int 0, .int 0, .ref m_alone0, .ref m_endsBy, .ref m_kept0, .int 0, .int 0, .long 1]))] s.heap.size = A at hD ⊢
  have hA : ∀ q : Nat, s.heap.size ≤ q → A q := fun q h => by rw [← hAe]; exact Or.inr h
  have hS : va_S A s.heap s.heap [] := va_S.rf
  have hP : va_P (dC, dI) vwCl [(h0, .inr (7, [.ref m_tape, .int 0, .int 0, .int 0, .int 0, .int 0, .int 0, .int 0, .int (-1), .ref m_refused, .ref m_own, .int 0, .ref m_draft, .ref m_program, .ref m_goPlace, .int 0, .int 0, .ref m_isCome, .ref m_heap, .int 0, .ref m_now, .ref m_first, .ref m_second, .ref m_behind, .ref m_states, .int 0, .int 0, .int 0, .ref m_alone0, .ref m_endsBy, .ref m_kept0, .int 0, .int 0, .long 1]))] s.heap := hP
  have hl := lv_entry ([.ref h0, .int p0, .int p1]) (n := 3) (Nat.le_of_ble_eq_true rfl)
  rw [lg_entry_eq]
  generalize (lg_sl ([.ref h0, .int p0, .int p1]) ++ List.replicate (3 - (lg_sl ([.ref h0, .int p0, .int p1])).length) Slot.unset).toArray = ls at hl ⊢
  refine ax_gen hP hD hS (fun H locs hP hD hS => ?_)
  have hl : lv_has ls 3 [(0, .ref h0), (1, .int p0), (2, .int p1)] := hl
  refine lv_aload_n hx hb dX7_warp_0 rfl (lv_at hl 0 rfl) ?_
  refine lv_iload_n hx hb dX7_warp_1 rfl (lv_at hl 1 rfl) ?_
  have hPc := hP.sub (ws' := [(h0, .inr (7, [.ref m_tape, .int 0, .int 0, .int 0, .int 0, .int 0, .int 0, .int 0, .int (-1), .ref m_refused, .ref m_own, .int 0, .ref m_draft, .ref m_program, .ref m_goPlace, .int 0, .int 0, .ref m_isCome, .ref m_heap, .int 0, .ref m_now, .ref m_first, .ref m_second, .ref m_behind, .ref m_states, .int 0, .int 0, .int 0, .ref m_alone0, .ref m_endsBy, .ref m_kept0, .int 0, .int 0, .long 1]))]) [0] rfl
  have hDc := hD.sub (ws' := [(h0, .inr (7, [.ref m_tape, .int 0, .int 0, .int 0, .int 0, .int 0, .int 0, .int 0, .int (-1), .ref m_refused, .ref m_own, .int 0, .ref m_draft, .ref m_program, .ref m_goPlace, .int 0, .int 0, .ref m_isCome, .ref m_heap, .int 0, .ref m_now, .ref m_first, .ref m_second, .ref m_behind, .ref m_states, .int 0, .int 0, .int 0, .ref m_alone0, .ref m_endsBy, .ref m_kept0, .int 0, .int 0, .long 1]))]) [0] (by decide) rfl
  have hKc := hK.sub (tys' := []) [] rfl
  have hFc := va_free (wc := [(h0, .inr (7, [.ref m_tape, .int 0, .int 0, .int 0, .int 0, .int 0, .int 0, .int 0, .int (-1), .ref m_refused, .ref m_own, .int 0, .ref m_draft, .ref m_program, .ref m_goPlace, .int 0, .int 0, .ref m_isCome, .ref m_heap, .int 0, .ref m_now, .ref m_first, .ref m_second, .ref m_behind, .ref m_states, .int 0, .int 0, .int 0, .ref m_alone0, .ref m_endsBy, .ref m_kept0, .int 0, .int 0, .long 1]))]) hD hS hA [0] rfl
  refine va_calli (va_runV (As := [.int p0]) (rest := []) ⟨hx, hb, hml, hown, hts⟩ (c_X7_isWarp l dC dI H.size h0 m_tape m_refused m_own m_draft m_program m_goPlace m_isCome m_heap m_now m_first m_second m_behind m_states m_alone0 m_endsBy m_kept0 p0) (cwV 1 hts (ax_gV T_251 T_252 T_253 T_189 T_250) rfl rfl rfl (by decide +kernel) ⟨Nat.le_of_ble_eq_true rfl, Nat.le_of_ble_eq_true rfl⟩) ⟨fun a U g mk q => ⟨q.1, ax_pc rfl rfl q.2⟩, va_recv hKc hPc (ci := 7) (q0 := 0) rfl rfl, fun U hU hW => ⟨rfl, ax_pw hU hW hPc hKc hDc hN⟩⟩ rfl rfl hl.1 rfl (lv_room (Nat.le_of_ble_eq_true rfl)) dX7_warp_2 ⟨Nat.le_of_ble_eq_true rfl, Nat.le_of_ble_eq_true rfl⟩) hS (fun q _ h => hFc q h) hFc (fun r1 _ t H1 locs ht hvm hw hB hz1 hk1 hS => ?_)
  obtain ⟨hP1, hK1, hD1⟩ := hB
  rw [ht] at hP1
  have hK1 := va_K.moved hvm.symm hK1
  obtain ⟨hP, hD⟩ := va_join (wr := []) (w1 := [(h0, .inr (7, [.ref m_tape, .int 0, .int 0, .int 0, .int 0, .int 0, .int 0, .int 0, .int (-1), .ref m_refused, .ref m_own, .int 0, .ref m_draft, .ref m_program, .ref m_goPlace, .int 0, .int 0, .ref m_isCome, .ref m_heap, .int 0, .ref m_now, .ref m_first, .ref m_second, .ref m_behind, .ref m_states, .int 0, .int 0, .int 0, .ref m_alone0, .ref m_endsBy, .ref m_kept0, .int 0, .int 0, .long 1]))]) hP hD [0] [] rfl rfl (by decide) (by decide) hk1 hFc hP1 hD1
  generalize H1 = H at hP hS ⊢
  have hP : va_P (dC, dI) vwCl [(h0, .inr (7, [.ref m_tape, .int 0, .int 0, .int 0, .int 0, .int 0, .int 0, .int 0, .int (-1), .ref m_refused, .ref m_own, .int 0, .ref m_draft, .ref m_program, .ref m_goPlace, .int 0, .int 0, .ref m_isCome, .ref m_heap, .int 0, .ref m_now, .ref m_first, .ref m_second, .ref m_behind, .ref m_states, .int 0, .int 0, .int 0, .ref m_alone0, .ref m_endsBy, .ref m_kept0, .int 0, .int 0, .long 1]))] H := hP
  have hD : va_D A [(h0, .inr (7, [.ref m_tape, .int 0, .int 0, .int 0, .int 0, .int 0, .int 0, .int 0, .int (-1), .ref m_refused, .ref m_own, .int 0, .ref m_draft, .ref m_program, .ref m_goPlace, .int 0, .int 0, .ref m_isCome, .ref m_heap, .int 0, .ref m_now, .ref m_first, .ref m_second, .ref m_behind, .ref m_states, .int 0, .int 0, .int 0, .ref m_alone0, .ref m_endsBy, .ref m_kept0, .int 0, .int 0, .long 1]))] := hD
  subst hw
  refine lv_if_ne (tgt := 10) hx hb dX7_warp_5 (by decide) (fun c => absurd (by decide) c) (fun _ => ?_)
  refine lv_iconst (v := (-1)) hx hb dX7_warp_8 (by decide) ?_
  have hP9 := hP.sub (ws' := []) [] rfl
  have hD9 := hD.sub (ws' := []) [] (by decide) rfl
  have hK9 := hK.sub (tys' := []) [] rfl
  exact W.iret (v := (-1)) hx hb hr (fun t ht hW => ⟨⟨(-1), (), rfl, rfl, by rw [ht]; exact hP9, va_K.moved hW.alike hK9, hD9⟩, hS.F ht⟩) hS.2.2 dX7_warp_9

set_option maxHeartbeats 4000000 in
set_option maxRecDepth 100000 in
theorem c_X7_part (l : Launch) (dC : Nat → ClassId) (dI : Nat → Nat → Nat) (sz : Nat) (h0 : Nat) (m_tape : Nat) (m_refused : Nat) (m_own : Nat) (m_draft : Nat) (m_program : Nat) (m_goPlace : Nat) (m_isCome : Nat) (m_heap : Nat) (m_now : Nat) (m_first : Nat) (m_second : Nat) (m_behind : Nat) (m_states : Nat) (m_alone0 : Nat) (m_endsBy : Nat) (m_kept0 : Nat) (p0 : Int32) (p1 : Int32) (p2 : Int32) : Met l yX7_part (Cond.code yX7_part cX7_part 4 (some .int) :: T0) ({ frames := 1, cells := 0, slots := 0, locals := 21 }) (va_Pc [.ref h0, .int p0, .int p1, .int p2] (ax_W dC dI sz [(h0, .inr (7, [.ref m_tape, .int 0, .int 0, .int 0, .int 0, .int 0, .int 0, .int 0, .int (-1), .ref m_refused, .ref m_own, .int 0, .ref m_draft, .ref m_program, .ref m_goPlace, .int 0, .int 0, .ref m_isCome, .ref m_heap, .int 0, .ref m_now, .ref m_first, .ref m_second, .ref m_behind, .ref m_states, .int 0, .int 0, .int 0, .ref m_alone0, .ref m_endsBy, .ref m_kept0, .int 0, .int 0, .long 1]))] [])) (va_Qi (fun (r : Int32) (_ : Unit) => r = (-1)) (fun (_ : Unit) (t : State) => va_P (dC, dI) vwCl [] t.heap ∧ va_K (dC, dI) vwCl [] t ∧ va_D (va_A [(h0, .inr (7, [.ref m_tape, .int 0, .int 0, .int 0, .int 0, .int 0, .int 0, .int 0, .int (-1), .ref m_refused, .ref m_own, .int 0, .ref m_draft, .ref m_program, .ref m_goPlace, .int 0, .int 0, .ref m_isCome, .ref m_heap, .int 0, .ref m_now, .ref m_first, .ref m_second, .ref m_behind, .ref m_states, .int 0, .int 0, .int 0, .ref m_alone0, .ref m_endsBy, .ref m_kept0, .int 0, .int 0, .long 1]))] sz) []) (va_A [(h0, .inr (7, [.ref m_tape, .int 0, .int 0, .int 0, .int 0, .int 0, .int 0, .int 0, .int (-1), .ref m_refused, .ref m_own, .int 0, .ref m_draft, .ref m_program, .ref m_goPlace, .int 0, .int 0, .ref m_isCome, .ref m_heap, .int 0, .ref m_now, .ref m_first, .ref m_second, .ref m_behind, .ref m_states, .int 0, .int 0, .int 0, .ref m_alone0, .ref m_endsBy, .ref m_kept0, .int 0, .int 0, .long 1]))] sz)) 0 0 (va_A [(h0, .inr (7, [.ref m_tape, .int 0, .int 0, .int 0, .int 0, .int 0, .int 0, .int 0, .int (-1), .ref m_refused, .ref m_own, .int 0, .ref m_draft, .ref m_program, .ref m_goPlace, .int 0, .int 0, .ref m_isCome, .ref m_heap, .int 0, .ref m_now, .ref m_first, .ref m_second, .ref m_behind, .ref m_states, .int 0, .int 0, .int 0, .ref m_alone0, .ref m_endsBy, .ref m_kept0, .int 0, .int 0, .long 1]))] sz) := by
  refine Met.ofW (cc := cX7_part) (maxL := 4) (ret := (some .int)) (by decide) rfl ?_
  intro p e s m args below meth c s₁ B hml hv
  obtain ⟨rfl, hsz, hP, hK, hD0, hN⟩ := hv
  have hx := B.exec
  have hb := B.bytes
  have hr := B.returns
  have hts : ∀ w ∈ T0, w.before _ s = true := fun w h => atoms_spec (ws := Cond.code yX7_part cX7_part 4 (some .int) :: T0) B.pre w (List.mem_cons_of_mem _ h)
  have hown : s.vm.findClass RX7 = some m.cls := findClass_of_methodNamed B.named
  have hlocks := B.notSynchronized
  subst hsz
  have hD := hD0.self (sz := s.heap.size)
  generalize hAe : va_A [(h0, .inr (7, [.ref m_tape, .int 0, .int 0, .int 0, .int 0, .int 0, .int 0, .int 0, .int (-1), .ref m_refused, .ref m_own, .int 0, .ref m_draft, .ref m_program, .ref m_goPlace, .int 0, .int 0, .ref m_isCome, .ref m_heap, .int 0, .ref m_now, .ref m_first, .ref m_second, .ref m_behind, .ref m_states, .int 0, .int 0, .int 0, .ref m_alone0, .ref m_endsBy, .ref m_kept0, .int 0, .int 0, .long 1]))] s.heap.size = A at hD ⊢
  have hA : ∀ q : Nat, s.heap.size ≤ q → A q := fun q h => by rw [← hAe]; exact Or.inr h
  have hS : va_S A s.heap s.heap [] := va_S.rf
  have hP : va_P (dC, dI) vwCl [(h0, .inr (7, [.ref m_tape, .int 0, .int 0, .int 0, .int 0, .int 0, .int 0, .int 0, .int (-1), .ref m_refused, .ref m_own, .int 0, .ref m_draft, .ref m_program, .ref m_goPlace, .int 0, .int 0, .ref m_isCome, .ref m_heap, .int 0, .ref m_now, .ref m_first, .ref m_second, .ref m_behind, .ref m_states, .int 0, .int 0, .int 0, .ref m_alone0, .ref m_endsBy, .ref m_kept0, .int 0, .int 0, .long 1]))] s.heap := hP
  have hl := lv_entry ([.ref h0, .int p0, .int p1, .int p2]) (n := 4) (Nat.le_of_ble_eq_true rfl)
  rw [lg_entry_eq]
  generalize (lg_sl ([.ref h0, .int p0, .int p1, .int p2]) ++ List.replicate (4 - (lg_sl ([.ref h0, .int p0, .int p1, .int p2])).length) Slot.unset).toArray = ls at hl ⊢
  refine ax_gen hP hD hS (fun H locs hP hD hS => ?_)
  have hl : lv_has ls 4 [(0, .ref h0), (1, .int p0), (2, .int p1), (3, .int p2)] := hl
  refine lv_aload_n hx hb dX7_part_0 rfl (lv_at hl 0 rfl) ?_
  refine lv_iload_n hx hb dX7_part_1 rfl (lv_at hl 1 rfl) ?_
  have hPc := hP.sub (ws' := [(h0, .inr (7, [.ref m_tape, .int 0, .int 0, .int 0, .int 0, .int 0, .int 0, .int 0, .int (-1), .ref m_refused, .ref m_own, .int 0, .ref m_draft, .ref m_program, .ref m_goPlace, .int 0, .int 0, .ref m_isCome, .ref m_heap, .int 0, .ref m_now, .ref m_first, .ref m_second, .ref m_behind, .ref m_states, .int 0, .int 0, .int 0, .ref m_alone0, .ref m_endsBy, .ref m_kept0, .int 0, .int 0, .long 1]))]) [0] rfl
  have hDc := hD.sub (ws' := [(h0, .inr (7, [.ref m_tape, .int 0, .int 0, .int 0, .int 0, .int 0, .int 0, .int 0, .int (-1), .ref m_refused, .ref m_own, .int 0, .ref m_draft, .ref m_program, .ref m_goPlace, .int 0, .int 0, .ref m_isCome, .ref m_heap, .int 0, .ref m_now, .ref m_first, .ref m_second, .ref m_behind, .ref m_states, .int 0, .int 0, .int 0, .ref m_alone0, .ref m_endsBy, .ref m_kept0, .int 0, .int 0, .long 1]))]) [0] (by decide) rfl
  have hKc := hK.sub (tys' := []) [] rfl
  have hFc := va_free (wc := [(h0, .inr (7, [.ref m_tape, .int 0, .int 0, .int 0, .int 0, .int 0, .int 0, .int 0, .int (-1), .ref m_refused, .ref m_own, .int 0, .ref m_draft, .ref m_program, .ref m_goPlace, .int 0, .int 0, .ref m_isCome, .ref m_heap, .int 0, .ref m_now, .ref m_first, .ref m_second, .ref m_behind, .ref m_states, .int 0, .int 0, .int 0, .ref m_alone0, .ref m_endsBy, .ref m_kept0, .int 0, .int 0, .long 1]))]) hD hS hA [0] rfl
  refine va_calli (va_runV (As := [.int p0]) (rest := []) ⟨hx, hb, hml, hown, hts⟩ (c_X7_isWarp l dC dI H.size h0 m_tape m_refused m_own m_draft m_program m_goPlace m_isCome m_heap m_now m_first m_second m_behind m_states m_alone0 m_endsBy m_kept0 p0) (cwV 1 hts (ax_gV T_251 T_252 T_253 T_189 T_250) rfl rfl rfl (by decide +kernel) ⟨Nat.le_of_ble_eq_true rfl, Nat.le_of_ble_eq_true rfl⟩) ⟨fun a U g mk q => ⟨q.1, ax_pc rfl rfl q.2⟩, va_recv hKc hPc (ci := 7) (q0 := 0) rfl rfl, fun U hU hW => ⟨rfl, ax_pw hU hW hPc hKc hDc hN⟩⟩ rfl rfl hl.1 rfl (lv_room (Nat.le_of_ble_eq_true rfl)) dX7_part_2 ⟨Nat.le_of_ble_eq_true rfl, Nat.le_of_ble_eq_true rfl⟩) hS (fun q _ h => hFc q h) hFc (fun r1 _ t H1 locs ht hvm hw hB hz1 hk1 hS => ?_)
  obtain ⟨hP1, hK1, hD1⟩ := hB
  rw [ht] at hP1
  have hK1 := va_K.moved hvm.symm hK1
  obtain ⟨hP, hD⟩ := va_join (wr := []) (w1 := [(h0, .inr (7, [.ref m_tape, .int 0, .int 0, .int 0, .int 0, .int 0, .int 0, .int 0, .int (-1), .ref m_refused, .ref m_own, .int 0, .ref m_draft, .ref m_program, .ref m_goPlace, .int 0, .int 0, .ref m_isCome, .ref m_heap, .int 0, .ref m_now, .ref m_first, .ref m_second, .ref m_behind, .ref m_states, .int 0, .int 0, .int 0, .ref m_alone0, .ref m_endsBy, .ref m_kept0, .int 0, .int 0, .long 1]))]) hP hD [0] [] rfl rfl (by decide) (by decide) hk1 hFc hP1 hD1
  generalize H1 = H at hP hS ⊢
  have hP : va_P (dC, dI) vwCl [(h0, .inr (7, [.ref m_tape, .int 0, .int 0, .int 0, .int 0, .int 0, .int 0, .int 0, .int (-1), .ref m_refused, .ref m_own, .int 0, .ref m_draft, .ref m_program, .ref m_goPlace, .int 0, .int 0, .ref m_isCome, .ref m_heap, .int 0, .ref m_now, .ref m_first, .ref m_second, .ref m_behind, .ref m_states, .int 0, .int 0, .int 0, .ref m_alone0, .ref m_endsBy, .ref m_kept0, .int 0, .int 0, .long 1]))] H := hP
  have hD : va_D A [(h0, .inr (7, [.ref m_tape, .int 0, .int 0, .int 0, .int 0, .int 0, .int 0, .int 0, .int (-1), .ref m_refused, .ref m_own, .int 0, .ref m_draft, .ref m_program, .ref m_goPlace, .int 0, .int 0, .ref m_isCome, .ref m_heap, .int 0, .ref m_now, .ref m_first, .ref m_second, .ref m_behind, .ref m_states, .int 0, .int 0, .int 0, .ref m_alone0, .ref m_endsBy, .ref m_kept0, .int 0, .int 0, .long 1]))] := hD
  subst hw
  refine lv_if_eq (tgt := 49) hx hb dX7_part_5 (by decide) (fun _ => ?_) (fun c => absurd (by decide) c)
  refine lv_iconst (v := (-1)) hx hb dX7_part_49 (by decide) ?_
  have hP9 := hP.sub (ws' := []) [] rfl
  have hD9 := hD.sub (ws' := []) [] (by decide) rfl
  have hK9 := hK.sub (tys' := []) [] rfl
  exact W.iret (v := (-1)) hx hb hr (fun t ht hW => ⟨⟨(-1), (), rfl, rfl, by rw [ht]; exact hP9, va_K.moved hW.alike hK9, hD9⟩, hS.F ht⟩) hS.2.2 dX7_part_50

set_option maxHeartbeats 4000000 in
set_option maxRecDepth 100000 in
theorem c_X7_word (l : Launch) (dC : Nat → ClassId) (dI : Nat → Nat → Nat) (sz : Nat) (h0 : Nat) (m_tape : Nat) (m_refused : Nat) (m_own : Nat) (m_draft : Nat) (m_program : Nat) (m_goPlace : Nat) (m_isCome : Nat) (m_heap : Nat) (m_now : Nat) (m_first : Nat) (m_second : Nat) (m_behind : Nat) (m_states : Nat) (m_alone0 : Nat) (m_endsBy : Nat) (m_kept0 : Nat) (p0 : Int32) (p1 : Int32) : Met l yX7_word (Cond.code yX7_word cX7_word 4 (some .int) :: T0) ({ frames := 1, cells := 0, slots := 0, locals := 22 }) (va_Pc [.ref h0, .int p0, .int p1] (ax_W dC dI sz [(h0, .inr (7, [.ref m_tape, .int 0, .int 0, .int 0, .int 0, .int 0, .int 0, .int 0, .int (-1), .ref m_refused, .ref m_own, .int 0, .ref m_draft, .ref m_program, .ref m_goPlace, .int 0, .int 0, .ref m_isCome, .ref m_heap, .int 0, .ref m_now, .ref m_first, .ref m_second, .ref m_behind, .ref m_states, .int 0, .int 0, .int 0, .ref m_alone0, .ref m_endsBy, .ref m_kept0, .int 0, .int 0, .long 1]))] [])) (va_Qi (fun (r : Int32) (_ : Unit) => r = (-1000000)) (fun (_ : Unit) (t : State) => va_P (dC, dI) vwCl [] t.heap ∧ va_K (dC, dI) vwCl [] t ∧ va_D (va_A [(h0, .inr (7, [.ref m_tape, .int 0, .int 0, .int 0, .int 0, .int 0, .int 0, .int 0, .int (-1), .ref m_refused, .ref m_own, .int 0, .ref m_draft, .ref m_program, .ref m_goPlace, .int 0, .int 0, .ref m_isCome, .ref m_heap, .int 0, .ref m_now, .ref m_first, .ref m_second, .ref m_behind, .ref m_states, .int 0, .int 0, .int 0, .ref m_alone0, .ref m_endsBy, .ref m_kept0, .int 0, .int 0, .long 1]))] sz) []) (va_A [(h0, .inr (7, [.ref m_tape, .int 0, .int 0, .int 0, .int 0, .int 0, .int 0, .int 0, .int (-1), .ref m_refused, .ref m_own, .int 0, .ref m_draft, .ref m_program, .ref m_goPlace, .int 0, .int 0, .ref m_isCome, .ref m_heap, .int 0, .ref m_now, .ref m_first, .ref m_second, .ref m_behind, .ref m_states, .int 0, .int 0, .int 0, .ref m_alone0, .ref m_endsBy, .ref m_kept0, .int 0, .int 0, .long 1]))] sz)) 0 0 (va_A [(h0, .inr (7, [.ref m_tape, .int 0, .int 0, .int 0, .int 0, .int 0, .int 0, .int 0, .int (-1), .ref m_refused, .ref m_own, .int 0, .ref m_draft, .ref m_program, .ref m_goPlace, .int 0, .int 0, .ref m_isCome, .ref m_heap, .int 0, .ref m_now, .ref m_first, .ref m_second, .ref m_behind, .ref m_states, .int 0, .int 0, .int 0, .ref m_alone0, .ref m_endsBy, .ref m_kept0, .int 0, .int 0, .long 1]))] sz) := by
  refine Met.ofW (cc := cX7_word) (maxL := 4) (ret := (some .int)) (by decide) rfl ?_
  intro p e s m args below meth c s₁ B hml hv
  obtain ⟨rfl, hsz, hP, hK, hD0, hN⟩ := hv
  have hx := B.exec
  have hb := B.bytes
  have hr := B.returns
  have hts : ∀ w ∈ T0, w.before _ s = true := fun w h => atoms_spec (ws := Cond.code yX7_word cX7_word 4 (some .int) :: T0) B.pre w (List.mem_cons_of_mem _ h)
  have hown : s.vm.findClass RX7 = some m.cls := findClass_of_methodNamed B.named
  have hlocks := B.notSynchronized
  subst hsz
  have hD := hD0.self (sz := s.heap.size)
  generalize hAe : va_A [(h0, .inr (7, [.ref m_tape, .int 0, .int 0, .int 0, .int 0, .int 0, .int 0, .int 0, .int (-1), .ref m_refused, .ref m_own, .int 0, .ref m_draft, .ref m_program, .ref m_goPlace, .int 0, .int 0, .ref m_isCome, .ref m_heap, .int 0, .ref m_now, .ref m_first, .ref m_second, .ref m_behind, .ref m_states, .int 0, .int 0, .int 0, .ref m_alone0, .ref m_endsBy, .ref m_kept0, .int 0, .int 0, .long 1]))] s.heap.size = A at hD ⊢
  have hA : ∀ q : Nat, s.heap.size ≤ q → A q := fun q h => by rw [← hAe]; exact Or.inr h
  have hS : va_S A s.heap s.heap [] := va_S.rf
  have hP : va_P (dC, dI) vwCl [(h0, .inr (7, [.ref m_tape, .int 0, .int 0, .int 0, .int 0, .int 0, .int 0, .int 0, .int (-1), .ref m_refused, .ref m_own, .int 0, .ref m_draft, .ref m_program, .ref m_goPlace, .int 0, .int 0, .ref m_isCome, .ref m_heap, .int 0, .ref m_now, .ref m_first, .ref m_second, .ref m_behind, .ref m_states, .int 0, .int 0, .int 0, .ref m_alone0, .ref m_endsBy, .ref m_kept0, .int 0, .int 0, .long 1]))] s.heap := hP
  have hl := lv_entry ([.ref h0, .int p0, .int p1]) (n := 4) (Nat.le_of_ble_eq_true rfl)
  rw [lg_entry_eq]
  generalize (lg_sl ([.ref h0, .int p0, .int p1]) ++ List.replicate (4 - (lg_sl ([.ref h0, .int p0, .int p1])).length) Slot.unset).toArray = ls at hl ⊢
  refine ax_gen hP hD hS (fun H locs hP hD hS => ?_)
  have hl : lv_has ls 4 [(0, .ref h0), (1, .int p0), (2, .int p1)] := hl
  refine lv_aload_n hx hb dX7_word_0 rfl (lv_at hl 0 rfl) ?_
  refine lv_iload_n hx hb dX7_word_1 rfl (lv_at hl 1 rfl) ?_
  refine lv_iload_n hx hb dX7_word_2 rfl (lv_at hl 2 rfl) ?_
  have hPc := hP.sub (ws' := [(h0, .inr (7, [.ref m_tape, .int 0, .int 0, .int 0, .int 0, .int 0, .int 0, .int 0, .int (-1), .ref m_refused, .ref m_own, .int 0, .ref m_draft, .ref m_program, .ref m_goPlace, .int 0, .int 0, .ref m_isCome, .ref m_heap, .int 0, .ref m_now, .ref m_first, .ref m_second, .ref m_behind, .ref m_states, .int 0, .int 0, .int 0, .ref m_alone0, .ref m_endsBy, .ref m_kept0, .int 0, .int 0, .long 1]))]) [0] rfl
  have hDc := hD.sub (ws' := [(h0, .inr (7, [.ref m_tape, .int 0, .int 0, .int 0, .int 0, .int 0, .int 0, .int 0, .int (-1), .ref m_refused, .ref m_own, .int 0, .ref m_draft, .ref m_program, .ref m_goPlace, .int 0, .int 0, .ref m_isCome, .ref m_heap, .int 0, .ref m_now, .ref m_first, .ref m_second, .ref m_behind, .ref m_states, .int 0, .int 0, .int 0, .ref m_alone0, .ref m_endsBy, .ref m_kept0, .int 0, .int 0, .long 1]))]) [0] (by decide) rfl
  have hKc := hK.sub (tys' := []) [] rfl
  have hFc := va_free (wc := [(h0, .inr (7, [.ref m_tape, .int 0, .int 0, .int 0, .int 0, .int 0, .int 0, .int 0, .int (-1), .ref m_refused, .ref m_own, .int 0, .ref m_draft, .ref m_program, .ref m_goPlace, .int 0, .int 0, .ref m_isCome, .ref m_heap, .int 0, .ref m_now, .ref m_first, .ref m_second, .ref m_behind, .ref m_states, .int 0, .int 0, .int 0, .ref m_alone0, .ref m_endsBy, .ref m_kept0, .int 0, .int 0, .long 1]))]) hD hS hA [0] rfl
  refine va_calli (va_runV (As := [.int p0, .int p1]) (rest := []) ⟨hx, hb, hml, hown, hts⟩ (c_X7_wordOf l dC dI H.size h0 m_tape m_refused m_own m_draft m_program m_goPlace m_isCome m_heap m_now m_first m_second m_behind m_states m_alone0 m_endsBy m_kept0 p0 p1) (cwV 2 hts (ax_gV T_260 T_261 T_262 T_189 T_259) rfl rfl rfl (by decide +kernel) ⟨Nat.le_of_ble_eq_true rfl, Nat.le_of_ble_eq_true rfl⟩) ⟨fun a U g mk q => ⟨q.1, ax_pc rfl rfl q.2⟩, va_recv hKc hPc (ci := 7) (q0 := 0) rfl rfl, fun U hU hW => ⟨rfl, ax_pw hU hW hPc hKc hDc hN⟩⟩ rfl rfl hl.1 rfl (lv_room (Nat.le_of_ble_eq_true rfl)) dX7_word_3 ⟨Nat.le_of_ble_eq_true rfl, Nat.le_of_ble_eq_true rfl⟩) hS (fun q _ h => hFc q h) hFc (fun r1 _ t H1 locs ht hvm hw hB hz1 hk1 hS => ?_)
  obtain ⟨hP1, hK1, hD1⟩ := hB
  rw [ht] at hP1
  have hK1 := va_K.moved hvm.symm hK1
  obtain ⟨hP, hD⟩ := va_join (wr := []) (w1 := [(h0, .inr (7, [.ref m_tape, .int 0, .int 0, .int 0, .int 0, .int 0, .int 0, .int 0, .int (-1), .ref m_refused, .ref m_own, .int 0, .ref m_draft, .ref m_program, .ref m_goPlace, .int 0, .int 0, .ref m_isCome, .ref m_heap, .int 0, .ref m_now, .ref m_first, .ref m_second, .ref m_behind, .ref m_states, .int 0, .int 0, .int 0, .ref m_alone0, .ref m_endsBy, .ref m_kept0, .int 0, .int 0, .long 1]))]) hP hD [0] [] rfl rfl (by decide) (by decide) hk1 hFc hP1 hD1
  generalize H1 = H at hP hS ⊢
  have hP : va_P (dC, dI) vwCl [(h0, .inr (7, [.ref m_tape, .int 0, .int 0, .int 0, .int 0, .int 0, .int 0, .int 0, .int (-1), .ref m_refused, .ref m_own, .int 0, .ref m_draft, .ref m_program, .ref m_goPlace, .int 0, .int 0, .ref m_isCome, .ref m_heap, .int 0, .ref m_now, .ref m_first, .ref m_second, .ref m_behind, .ref m_states, .int 0, .int 0, .int 0, .ref m_alone0, .ref m_endsBy, .ref m_kept0, .int 0, .int 0, .long 1]))] H := hP
  have hD : va_D A [(h0, .inr (7, [.ref m_tape, .int 0, .int 0, .int 0, .int 0, .int 0, .int 0, .int 0, .int (-1), .ref m_refused, .ref m_own, .int 0, .ref m_draft, .ref m_program, .ref m_goPlace, .int 0, .int 0, .ref m_isCome, .ref m_heap, .int 0, .ref m_now, .ref m_first, .ref m_second, .ref m_behind, .ref m_states, .int 0, .int 0, .int 0, .ref m_alone0, .ref m_endsBy, .ref m_kept0, .int 0, .int 0, .long 1]))] := hD
  subst hw
  refine lv_istore_n (lv' := [(3, .int (-1)), (0, .ref h0), (1, .int p0), (2, .int p1)]) hx hb dX7_word_6 rfl hl (by decide) rfl (fun ls hl => ?_)
  refine lv_iload_n hx hb dX7_word_7 rfl (lv_at hl 0 rfl) ?_
  refine lv_iconst (v := (-1)) hx hb dX7_word_8 (by decide) ?_
  refine lv_icmp_ne (tgt := 17) hx hb dX7_word_9 (by decide) (fun c => absurd (by decide) c) (fun _ => ?_)
  refine lv_ldc hx hb hown (hts _ T_254) dX7_word_12 ?_
  refine lv_goto (tgt := 26) hx hb dX7_word_14 (by decide) ?_
  have hP9 := hP.sub (ws' := []) [] rfl
  have hD9 := hD.sub (ws' := []) [] (by decide) rfl
  have hK9 := hK.sub (tys' := []) [] rfl
  exact W.iret (v := (-1000000)) hx hb hr (fun t ht hW => ⟨⟨(-1000000), (), rfl, rfl, by rw [ht]; exact hP9, va_K.moved hW.alike hK9, hD9⟩, hS.F ht⟩) hS.2.2 dX7_word_26

set_option maxHeartbeats 4000000 in
set_option maxRecDepth 100000 in
theorem c_X7_raced (l : Launch) (dC : Nat → ClassId) (dI : Nat → Nat → Nat) (sz : Nat) (h0 : Nat) (m_tape : Nat) (m_refused : Nat) (m_own : Nat) (m_draft : Nat) (m_program : Nat) (m_goPlace : Nat) (m_isCome : Nat) (m_heap : Nat) (m_now : Nat) (m_first : Nat) (m_second : Nat) (m_behind : Nat) (m_states : Nat) (m_alone0 : Nat) (m_endsBy : Nat) (m_kept0 : Nat) (p0 : Int32) (p1 : Int32) : Met l yX7_raced (Cond.code yX7_raced cX7_raced 4 (some .int) :: T0) ({ frames := 1, cells := 0, slots := 0, locals := 22 }) (va_Pc [.ref h0, .int p0, .int p1] (ax_W dC dI sz [(h0, .inr (7, [.ref m_tape, .int 0, .int 0, .int 0, .int 0, .int 0, .int 0, .int 0, .int (-1), .ref m_refused, .ref m_own, .int 0, .ref m_draft, .ref m_program, .ref m_goPlace, .int 0, .int 0, .ref m_isCome, .ref m_heap, .int 0, .ref m_now, .ref m_first, .ref m_second, .ref m_behind, .ref m_states, .int 0, .int 0, .int 0, .ref m_alone0, .ref m_endsBy, .ref m_kept0, .int 0, .int 0, .long 1]))] [])) (va_Qi (fun (r : Int32) (_ : Unit) => r = (-1)) (fun (_ : Unit) (t : State) => va_P (dC, dI) vwCl [] t.heap ∧ va_K (dC, dI) vwCl [] t ∧ va_D (va_A [(h0, .inr (7, [.ref m_tape, .int 0, .int 0, .int 0, .int 0, .int 0, .int 0, .int 0, .int (-1), .ref m_refused, .ref m_own, .int 0, .ref m_draft, .ref m_program, .ref m_goPlace, .int 0, .int 0, .ref m_isCome, .ref m_heap, .int 0, .ref m_now, .ref m_first, .ref m_second, .ref m_behind, .ref m_states, .int 0, .int 0, .int 0, .ref m_alone0, .ref m_endsBy, .ref m_kept0, .int 0, .int 0, .long 1]))] sz) []) (va_A [(h0, .inr (7, [.ref m_tape, .int 0, .int 0, .int 0, .int 0, .int 0, .int 0, .int 0, .int (-1), .ref m_refused, .ref m_own, .int 0, .ref m_draft, .ref m_program, .ref m_goPlace, .int 0, .int 0, .ref m_isCome, .ref m_heap, .int 0, .ref m_now, .ref m_first, .ref m_second, .ref m_behind, .ref m_states, .int 0, .int 0, .int 0, .ref m_alone0, .ref m_endsBy, .ref m_kept0, .int 0, .int 0, .long 1]))] sz)) 0 0 (va_A [(h0, .inr (7, [.ref m_tape, .int 0, .int 0, .int 0, .int 0, .int 0, .int 0, .int 0, .int (-1), .ref m_refused, .ref m_own, .int 0, .ref m_draft, .ref m_program, .ref m_goPlace, .int 0, .int 0, .ref m_isCome, .ref m_heap, .int 0, .ref m_now, .ref m_first, .ref m_second, .ref m_behind, .ref m_states, .int 0, .int 0, .int 0, .ref m_alone0, .ref m_endsBy, .ref m_kept0, .int 0, .int 0, .long 1]))] sz) := by
  refine Met.ofW (cc := cX7_raced) (maxL := 4) (ret := (some .int)) (by decide) rfl ?_
  intro p e s m args below meth c s₁ B hml hv
  obtain ⟨rfl, hsz, hP, hK, hD0, hN⟩ := hv
  have hx := B.exec
  have hb := B.bytes
  have hr := B.returns
  have hts : ∀ w ∈ T0, w.before _ s = true := fun w h => atoms_spec (ws := Cond.code yX7_raced cX7_raced 4 (some .int) :: T0) B.pre w (List.mem_cons_of_mem _ h)
  have hown : s.vm.findClass RX7 = some m.cls := findClass_of_methodNamed B.named
  have hlocks := B.notSynchronized
  subst hsz
  have hD := hD0.self (sz := s.heap.size)
  generalize hAe : va_A [(h0, .inr (7, [.ref m_tape, .int 0, .int 0, .int 0, .int 0, .int 0, .int 0, .int 0, .int (-1), .ref m_refused, .ref m_own, .int 0, .ref m_draft, .ref m_program, .ref m_goPlace, .int 0, .int 0, .ref m_isCome, .ref m_heap, .int 0, .ref m_now, .ref m_first, .ref m_second, .ref m_behind, .ref m_states, .int 0, .int 0, .int 0, .ref m_alone0, .ref m_endsBy, .ref m_kept0, .int 0, .int 0, .long 1]))] s.heap.size = A at hD ⊢
  have hA : ∀ q : Nat, s.heap.size ≤ q → A q := fun q h => by rw [← hAe]; exact Or.inr h
  have hS : va_S A s.heap s.heap [] := va_S.rf
  have hP : va_P (dC, dI) vwCl [(h0, .inr (7, [.ref m_tape, .int 0, .int 0, .int 0, .int 0, .int 0, .int 0, .int 0, .int (-1), .ref m_refused, .ref m_own, .int 0, .ref m_draft, .ref m_program, .ref m_goPlace, .int 0, .int 0, .ref m_isCome, .ref m_heap, .int 0, .ref m_now, .ref m_first, .ref m_second, .ref m_behind, .ref m_states, .int 0, .int 0, .int 0, .ref m_alone0, .ref m_endsBy, .ref m_kept0, .int 0, .int 0, .long 1]))] s.heap := hP
  have hl := lv_entry ([.ref h0, .int p0, .int p1]) (n := 4) (Nat.le_of_ble_eq_true rfl)
  rw [lg_entry_eq]
  generalize (lg_sl ([.ref h0, .int p0, .int p1]) ++ List.replicate (4 - (lg_sl ([.ref h0, .int p0, .int p1])).length) Slot.unset).toArray = ls at hl ⊢
  refine ax_gen hP hD hS (fun H locs hP hD hS => ?_)
  have hl : lv_has ls 4 [(0, .ref h0), (1, .int p0), (2, .int p1)] := hl
  refine lv_aload_n hx hb dX7_raced_0 rfl (lv_at hl 0 rfl) ?_
  refine lv_iload_n hx hb dX7_raced_1 rfl (lv_at hl 1 rfl) ?_
  refine lv_iload_n hx hb dX7_raced_2 rfl (lv_at hl 2 rfl) ?_
  have hPc := hP.sub (ws' := [(h0, .inr (7, [.ref m_tape, .int 0, .int 0, .int 0, .int 0, .int 0, .int 0, .int 0, .int (-1), .ref m_refused, .ref m_own, .int 0, .ref m_draft, .ref m_program, .ref m_goPlace, .int 0, .int 0, .ref m_isCome, .ref m_heap, .int 0, .ref m_now, .ref m_first, .ref m_second, .ref m_behind, .ref m_states, .int 0, .int 0, .int 0, .ref m_alone0, .ref m_endsBy, .ref m_kept0, .int 0, .int 0, .long 1]))]) [0] rfl
  have hDc := hD.sub (ws' := [(h0, .inr (7, [.ref m_tape, .int 0, .int 0, .int 0, .int 0, .int 0, .int 0, .int 0, .int (-1), .ref m_refused, .ref m_own, .int 0, .ref m_draft, .ref m_program, .ref m_goPlace, .int 0, .int 0, .ref m_isCome, .ref m_heap, .int 0, .ref m_now, .ref m_first, .ref m_second, .ref m_behind, .ref m_states, .int 0, .int 0, .int 0, .ref m_alone0, .ref m_endsBy, .ref m_kept0, .int 0, .int 0, .long 1]))]) [0] (by decide) rfl
  have hKc := hK.sub (tys' := []) [] rfl
  have hFc := va_free (wc := [(h0, .inr (7, [.ref m_tape, .int 0, .int 0, .int 0, .int 0, .int 0, .int 0, .int 0, .int (-1), .ref m_refused, .ref m_own, .int 0, .ref m_draft, .ref m_program, .ref m_goPlace, .int 0, .int 0, .ref m_isCome, .ref m_heap, .int 0, .ref m_now, .ref m_first, .ref m_second, .ref m_behind, .ref m_states, .int 0, .int 0, .int 0, .ref m_alone0, .ref m_endsBy, .ref m_kept0, .int 0, .int 0, .long 1]))]) hD hS hA [0] rfl
  refine va_calli (va_runV (As := [.int p0, .int p1]) (rest := []) ⟨hx, hb, hml, hown, hts⟩ (c_X7_wordOf l dC dI H.size h0 m_tape m_refused m_own m_draft m_program m_goPlace m_isCome m_heap m_now m_first m_second m_behind m_states m_alone0 m_endsBy m_kept0 p0 p1) (cwV 2 hts (ax_gV T_260 T_261 T_262 T_189 T_259) rfl rfl rfl (by decide +kernel) ⟨Nat.le_of_ble_eq_true rfl, Nat.le_of_ble_eq_true rfl⟩) ⟨fun a U g mk q => ⟨q.1, ax_pc rfl rfl q.2⟩, va_recv hKc hPc (ci := 7) (q0 := 0) rfl rfl, fun U hU hW => ⟨rfl, ax_pw hU hW hPc hKc hDc hN⟩⟩ rfl rfl hl.1 rfl (lv_room (Nat.le_of_ble_eq_true rfl)) dX7_raced_3 ⟨Nat.le_of_ble_eq_true rfl, Nat.le_of_ble_eq_true rfl⟩) hS (fun q _ h => hFc q h) hFc (fun r1 _ t H1 locs ht hvm hw hB hz1 hk1 hS => ?_)
  obtain ⟨hP1, hK1, hD1⟩ := hB
  rw [ht] at hP1
  have hK1 := va_K.moved hvm.symm hK1
  obtain ⟨hP, hD⟩ := va_join (wr := []) (w1 := [(h0, .inr (7, [.ref m_tape, .int 0, .int 0, .int 0, .int 0, .int 0, .int 0, .int 0, .int (-1), .ref m_refused, .ref m_own, .int 0, .ref m_draft, .ref m_program, .ref m_goPlace, .int 0, .int 0, .ref m_isCome, .ref m_heap, .int 0, .ref m_now, .ref m_first, .ref m_second, .ref m_behind, .ref m_states, .int 0, .int 0, .int 0, .ref m_alone0, .ref m_endsBy, .ref m_kept0, .int 0, .int 0, .long 1]))]) hP hD [0] [] rfl rfl (by decide) (by decide) hk1 hFc hP1 hD1
  generalize H1 = H at hP hS ⊢
  have hP : va_P (dC, dI) vwCl [(h0, .inr (7, [.ref m_tape, .int 0, .int 0, .int 0, .int 0, .int 0, .int 0, .int 0, .int (-1), .ref m_refused, .ref m_own, .int 0, .ref m_draft, .ref m_program, .ref m_goPlace, .int 0, .int 0, .ref m_isCome, .ref m_heap, .int 0, .ref m_now, .ref m_first, .ref m_second, .ref m_behind, .ref m_states, .int 0, .int 0, .int 0, .ref m_alone0, .ref m_endsBy, .ref m_kept0, .int 0, .int 0, .long 1]))] H := hP
  have hD : va_D A [(h0, .inr (7, [.ref m_tape, .int 0, .int 0, .int 0, .int 0, .int 0, .int 0, .int 0, .int (-1), .ref m_refused, .ref m_own, .int 0, .ref m_draft, .ref m_program, .ref m_goPlace, .int 0, .int 0, .ref m_isCome, .ref m_heap, .int 0, .ref m_now, .ref m_first, .ref m_second, .ref m_behind, .ref m_states, .int 0, .int 0, .int 0, .ref m_alone0, .ref m_endsBy, .ref m_kept0, .int 0, .int 0, .long 1]))] := hD
  subst hw
  refine lv_istore_n (lv' := [(3, .int (-1)), (0, .ref h0), (1, .int p0), (2, .int p1)]) hx hb dX7_raced_6 rfl hl (by decide) rfl (fun ls hl => ?_)
  refine lv_iload_n hx hb dX7_raced_7 rfl (lv_at hl 0 rfl) ?_
  refine lv_iconst (v := (-1)) hx hb dX7_raced_8 (by decide) ?_
  refine lv_icmp_ne (tgt := 16) hx hb dX7_raced_9 (by decide) (fun c => absurd (by decide) c) (fun _ => ?_)
  refine lv_iconst (v := (-1)) hx hb dX7_raced_12 (by decide) ?_
  refine lv_goto (tgt := 26) hx hb dX7_raced_13 (by decide) ?_
  have hP9 := hP.sub (ws' := []) [] rfl
  have hD9 := hD.sub (ws' := []) [] (by decide) rfl
  have hK9 := hK.sub (tys' := []) [] rfl
  exact W.iret (v := (-1)) hx hb hr (fun t ht hW => ⟨⟨(-1), (), rfl, rfl, by rw [ht]; exact hP9, va_K.moved hW.alike hK9, hD9⟩, hS.F ht⟩) hS.2.2 dX7_raced_26

set_option maxHeartbeats 4000000 in
set_option maxRecDepth 100000 in
theorem c_X7_next (l : Launch) (dC : Nat → ClassId) (dI : Nat → Nat → Nat) (sz : Nat) (h0 : Nat) (m_tape : Nat) (m_refused : Nat) (m_own : Nat) (m_draft : Nat) (m_program : Nat) (m_goPlace : Nat) (m_isCome : Nat) (m_heap : Nat) (m_now : Nat) (m_first : Nat) (m_second : Nat) (m_behind : Nat) (m_states : Nat) (m_alone0 : Nat) (m_endsBy : Nat) (m_kept0 : Nat) (p0 : Int32) : Met l yX7_next (Cond.code yX7_next cX7_next 3 (some .int) :: T0) ({ frames := 0, cells := 0, slots := 0, locals := 0 }) (va_Pc [.ref h0, .int p0] (ax_W dC dI sz [(h0, .inr (7, [.ref m_tape, .int 0, .int 0, .int 0, .int 0, .int 0, .int 0, .int 0, .int (-1), .ref m_refused, .ref m_own, .int 0, .ref m_draft, .ref m_program, .ref m_goPlace, .int 0, .int 0, .ref m_isCome, .ref m_heap, .int 0, .ref m_now, .ref m_first, .ref m_second, .ref m_behind, .ref m_states, .int 0, .int 0, .int 0, .ref m_alone0, .ref m_endsBy, .ref m_kept0, .int 0, .int 0, .long 1]))] [])) (va_Qi (fun (r : Int32) (_ : Unit) => r = (-1)) (fun (_ : Unit) (t : State) => va_P (dC, dI) vwCl [] t.heap ∧ va_K (dC, dI) vwCl [] t ∧ va_D (va_A [(h0, .inr (7, [.ref m_tape, .int 0, .int 0, .int 0, .int 0, .int 0, .int 0, .int 0, .int (-1), .ref m_refused, .ref m_own, .int 0, .ref m_draft, .ref m_program, .ref m_goPlace, .int 0, .int 0, .ref m_isCome, .ref m_heap, .int 0, .ref m_now, .ref m_first, .ref m_second, .ref m_behind, .ref m_states, .int 0, .int 0, .int 0, .ref m_alone0, .ref m_endsBy, .ref m_kept0, .int 0, .int 0, .long 1]))] sz) []) (va_A [(h0, .inr (7, [.ref m_tape, .int 0, .int 0, .int 0, .int 0, .int 0, .int 0, .int 0, .int (-1), .ref m_refused, .ref m_own, .int 0, .ref m_draft, .ref m_program, .ref m_goPlace, .int 0, .int 0, .ref m_isCome, .ref m_heap, .int 0, .ref m_now, .ref m_first, .ref m_second, .ref m_behind, .ref m_states, .int 0, .int 0, .int 0, .ref m_alone0, .ref m_endsBy, .ref m_kept0, .int 0, .int 0, .long 1]))] sz)) 0 0 (va_A [(h0, .inr (7, [.ref m_tape, .int 0, .int 0, .int 0, .int 0, .int 0, .int 0, .int 0, .int (-1), .ref m_refused, .ref m_own, .int 0, .ref m_draft, .ref m_program, .ref m_goPlace, .int 0, .int 0, .ref m_isCome, .ref m_heap, .int 0, .ref m_now, .ref m_first, .ref m_second, .ref m_behind, .ref m_states, .int 0, .int 0, .int 0, .ref m_alone0, .ref m_endsBy, .ref m_kept0, .int 0, .int 0, .long 1]))] sz) := by
  refine Met.ofW (cc := cX7_next) (maxL := 3) (ret := (some .int)) (by decide) rfl ?_
  intro p e s m args below meth c s₁ B hml hv
  obtain ⟨rfl, hsz, hP, hK, hD0, hN⟩ := hv
  have hx := B.exec
  have hb := B.bytes
  have hr := B.returns
  have hts : ∀ w ∈ T0, w.before _ s = true := fun w h => atoms_spec (ws := Cond.code yX7_next cX7_next 3 (some .int) :: T0) B.pre w (List.mem_cons_of_mem _ h)
  have hown : s.vm.findClass RX7 = some m.cls := findClass_of_methodNamed B.named
  have hlocks := B.notSynchronized
  subst hsz
  have hD := hD0.self (sz := s.heap.size)
  generalize hAe : va_A [(h0, .inr (7, [.ref m_tape, .int 0, .int 0, .int 0, .int 0, .int 0, .int 0, .int 0, .int (-1), .ref m_refused, .ref m_own, .int 0, .ref m_draft, .ref m_program, .ref m_goPlace, .int 0, .int 0, .ref m_isCome, .ref m_heap, .int 0, .ref m_now, .ref m_first, .ref m_second, .ref m_behind, .ref m_states, .int 0, .int 0, .int 0, .ref m_alone0, .ref m_endsBy, .ref m_kept0, .int 0, .int 0, .long 1]))] s.heap.size = A at hD ⊢
  have hA : ∀ q : Nat, s.heap.size ≤ q → A q := fun q h => by rw [← hAe]; exact Or.inr h
  have hS : va_S A s.heap s.heap [] := va_S.rf
  have hP : va_P (dC, dI) vwCl [(h0, .inr (7, [.ref m_tape, .int 0, .int 0, .int 0, .int 0, .int 0, .int 0, .int 0, .int (-1), .ref m_refused, .ref m_own, .int 0, .ref m_draft, .ref m_program, .ref m_goPlace, .int 0, .int 0, .ref m_isCome, .ref m_heap, .int 0, .ref m_now, .ref m_first, .ref m_second, .ref m_behind, .ref m_states, .int 0, .int 0, .int 0, .ref m_alone0, .ref m_endsBy, .ref m_kept0, .int 0, .int 0, .long 1]))] s.heap := hP
  have hl := lv_entry ([.ref h0, .int p0]) (n := 3) (Nat.le_of_ble_eq_true rfl)
  rw [lg_entry_eq]
  generalize (lg_sl ([.ref h0, .int p0]) ++ List.replicate (3 - (lg_sl ([.ref h0, .int p0])).length) Slot.unset).toArray = ls at hl ⊢
  refine ax_gen hP hD hS (fun H locs hP hD hS => ?_)
  have hl : lv_has ls 3 [(0, .ref h0), (1, .int p0)] := hl
  refine lv_aload_n hx hb dX7_next_0 rfl (lv_at hl 0 rfl) ?_
  refine va_get (D := (dC, dI)) (ci := 7) (v := .int 0) (C := RX7) (T := TX7) (N := 34) hx hb hts inX7 hown hK hP 0 rfl rfl 15 (by decide) (hts _ T_196) (fun _ h9 => h9) rfl dX7_next_1 ?_
  refine lv_if_eq (tgt := 38) hx hb dX7_next_4 (by decide) (fun _ => ?_) (fun c => absurd (by decide) c)
  refine lv_iconst (v := (-1)) hx hb dX7_next_38 (by decide) ?_
  refine lv_istore_n (lv' := [(2, .int (-1)), (0, .ref h0), (1, .int p0)]) hx hb dX7_next_39 rfl hl (by decide) rfl (fun ls hl => ?_)
  refine lv_iload_n hx hb dX7_next_40 rfl (lv_at hl 0 rfl) ?_
  refine lv_iconst (v := (-1)) hx hb dX7_next_41 (by decide) ?_
  refine lv_icmp_ne (tgt := 47) hx hb dX7_next_42 (by decide) (fun c => absurd (by decide) c) (fun _ => ?_)
  refine lv_iconst (v := (-1)) hx hb dX7_next_45 (by decide) ?_
  have hP9 := hP.sub (ws' := []) [] rfl
  have hD9 := hD.sub (ws' := []) [] (by decide) rfl
  have hK9 := hK.sub (tys' := []) [] rfl
  exact W.iret (v := (-1)) hx hb hr (fun t ht hW => ⟨⟨(-1), (), rfl, rfl, by rw [ht]; exact hP9, va_K.moved hW.alike hK9, hD9⟩, hS.F ht⟩) hS.2.2 dX7_next_46

set_option maxHeartbeats 4000000 in
set_option maxRecDepth 100000 in
theorem c_X7_goes (l : Launch) (dC : Nat → ClassId) (dI : Nat → Nat → Nat) (sz : Nat) (h0 : Nat) (m_tape : Nat) (m_refused : Nat) (m_own : Nat) (m_draft : Nat) (m_program : Nat) (m_goPlace : Nat) (m_isCome : Nat) (m_heap : Nat) (m_now : Nat) (m_first : Nat) (m_second : Nat) (m_behind : Nat) (m_states : Nat) (m_alone0 : Nat) (m_endsBy : Nat) (m_kept0 : Nat) (p0 : Int32) : Met l yX7_goes (Cond.code yX7_goes cX7_goes 2 (some .int) :: T0) ({ frames := 0, cells := 0, slots := 0, locals := 0 }) (va_Pc [.ref h0, .int p0] (ax_W dC dI sz [(h0, .inr (7, [.ref m_tape, .int 0, .int 0, .int 0, .int 0, .int 0, .int 0, .int 0, .int (-1), .ref m_refused, .ref m_own, .int 0, .ref m_draft, .ref m_program, .ref m_goPlace, .int 0, .int 0, .ref m_isCome, .ref m_heap, .int 0, .ref m_now, .ref m_first, .ref m_second, .ref m_behind, .ref m_states, .int 0, .int 0, .int 0, .ref m_alone0, .ref m_endsBy, .ref m_kept0, .int 0, .int 0, .long 1]))] [])) (va_Qi (fun (r : Int32) (_ : Unit) => r = (-1)) (fun (_ : Unit) (t : State) => va_P (dC, dI) vwCl [] t.heap ∧ va_K (dC, dI) vwCl [] t ∧ va_D (va_A [(h0, .inr (7, [.ref m_tape, .int 0, .int 0, .int 0, .int 0, .int 0, .int 0, .int 0, .int (-1), .ref m_refused, .ref m_own, .int 0, .ref m_draft, .ref m_program, .ref m_goPlace, .int 0, .int 0, .ref m_isCome, .ref m_heap, .int 0, .ref m_now, .ref m_first, .ref m_second, .ref m_behind, .ref m_states, .int 0, .int 0, .int 0, .ref m_alone0, .ref m_endsBy, .ref m_kept0, .int 0, .int 0, .long 1]))] sz) []) (va_A [(h0, .inr (7, [.ref m_tape, .int 0, .int 0, .int 0, .int 0, .int 0, .int 0, .int 0, .int (-1), .ref m_refused, .ref m_own, .int 0, .ref m_draft, .ref m_program, .ref m_goPlace, .int 0, .int 0, .ref m_isCome, .ref m_heap, .int 0, .ref m_now, .ref m_first, .ref m_second, .ref m_behind, .ref m_states, .int 0, .int 0, .int 0, .ref m_alone0, .ref m_endsBy, .ref m_kept0, .int 0, .int 0, .long 1]))] sz)) 0 0 (va_A [(h0, .inr (7, [.ref m_tape, .int 0, .int 0, .int 0, .int 0, .int 0, .int 0, .int 0, .int (-1), .ref m_refused, .ref m_own, .int 0, .ref m_draft, .ref m_program, .ref m_goPlace, .int 0, .int 0, .ref m_isCome, .ref m_heap, .int 0, .ref m_now, .ref m_first, .ref m_second, .ref m_behind, .ref m_states, .int 0, .int 0, .int 0, .ref m_alone0, .ref m_endsBy, .ref m_kept0, .int 0, .int 0, .long 1]))] sz) := by
  refine Met.ofW (cc := cX7_goes) (maxL := 2) (ret := (some .int)) (by decide) rfl ?_
  intro p e s m args below meth c s₁ B hml hv
  obtain ⟨rfl, hsz, hP, hK, hD0, hN⟩ := hv
  have hx := B.exec
  have hb := B.bytes
  have hr := B.returns
  have hts : ∀ w ∈ T0, w.before _ s = true := fun w h => atoms_spec (ws := Cond.code yX7_goes cX7_goes 2 (some .int) :: T0) B.pre w (List.mem_cons_of_mem _ h)
  have hown : s.vm.findClass RX7 = some m.cls := findClass_of_methodNamed B.named
  have hlocks := B.notSynchronized
  subst hsz
  have hD := hD0.self (sz := s.heap.size)
  generalize hAe : va_A [(h0, .inr (7, [.ref m_tape, .int 0, .int 0, .int 0, .int 0, .int 0, .int 0, .int 0, .int (-1), .ref m_refused, .ref m_own, .int 0, .ref m_draft, .ref m_program, .ref m_goPlace, .int 0, .int 0, .ref m_isCome, .ref m_heap, .int 0, .ref m_now, .ref m_first, .ref m_second, .ref m_behind, .ref m_states, .int 0, .int 0, .int 0, .ref m_alone0, .ref m_endsBy, .ref m_kept0, .int 0, .int 0, .long 1]))] s.heap.size = A at hD ⊢
  have hA : ∀ q : Nat, s.heap.size ≤ q → A q := fun q h => by rw [← hAe]; exact Or.inr h
  have hS : va_S A s.heap s.heap [] := va_S.rf
  have hP : va_P (dC, dI) vwCl [(h0, .inr (7, [.ref m_tape, .int 0, .int 0, .int 0, .int 0, .int 0, .int 0, .int 0, .int (-1), .ref m_refused, .ref m_own, .int 0, .ref m_draft, .ref m_program, .ref m_goPlace, .int 0, .int 0, .ref m_isCome, .ref m_heap, .int 0, .ref m_now, .ref m_first, .ref m_second, .ref m_behind, .ref m_states, .int 0, .int 0, .int 0, .ref m_alone0, .ref m_endsBy, .ref m_kept0, .int 0, .int 0, .long 1]))] s.heap := hP
  have hl := lv_entry ([.ref h0, .int p0]) (n := 2) (Nat.le_of_ble_eq_true rfl)
  rw [lg_entry_eq]
  generalize (lg_sl ([.ref h0, .int p0]) ++ List.replicate (2 - (lg_sl ([.ref h0, .int p0])).length) Slot.unset).toArray = ls at hl ⊢
  refine ax_gen hP hD hS (fun H locs hP hD hS => ?_)
  have hl : lv_has ls 2 [(0, .ref h0), (1, .int p0)] := hl
  refine lv_aload_n hx hb dX7_goes_0 rfl (lv_at hl 0 rfl) ?_
  refine va_get (D := (dC, dI)) (ci := 7) (v := .int 0) (C := RX7) (T := TX7) (N := 34) hx hb hts inX7 hown hK hP 0 rfl rfl 15 (by decide) (hts _ T_196) (fun _ h9 => h9) rfl dX7_goes_1 ?_
  refine lv_if_eq (tgt := 19) hx hb dX7_goes_4 (by decide) (fun _ => ?_) (fun c => absurd (by decide) c)
  refine lv_iconst (v := (-1)) hx hb dX7_goes_19 (by decide) ?_
  have hP9 := hP.sub (ws' := []) [] rfl
  have hD9 := hD.sub (ws' := []) [] (by decide) rfl
  have hK9 := hK.sub (tys' := []) [] rfl
  exact W.iret (v := (-1)) hx hb hr (fun t ht hW => ⟨⟨(-1), (), rfl, rfl, by rw [ht]; exact hP9, va_K.moved hW.alike hK9, hD9⟩, hS.F ht⟩) hS.2.2 dX7_goes_20

set_option maxHeartbeats 4000000 in
set_option maxRecDepth 100000 in
theorem c_X7_later (l : Launch) (dC : Nat → ClassId) (dI : Nat → Nat → Nat) (sz : Nat) (h0 : Nat) (m_tape : Nat) (m_refused : Nat) (m_own : Nat) (m_draft : Nat) (m_program : Nat) (m_goPlace : Nat) (m_isCome : Nat) (m_heap : Nat) (m_now : Nat) (m_first : Nat) (m_second : Nat) (m_behind : Nat) (m_states : Nat) (m_alone0 : Nat) (m_endsBy : Nat) (m_kept0 : Nat) (p0 : Int32) (p1 : Int32) (p2 : Int32) (p3 : Int32) : Met l yX7_later (Cond.code yX7_later cX7_later 6 (some .int) :: T0) ({ frames := 2, cells := 0, slots := 0, locals := 43 }) (va_Pc [.ref h0, .int p0, .int p1, .int p2, .int p3] (ax_W dC dI sz [(h0, .inr (7, [.ref m_tape, .int 0, .int 0, .int 0, .int 0, .int 0, .int 0, .int 0, .int (-1), .ref m_refused, .ref m_own, .int 0, .ref m_draft, .ref m_program, .ref m_goPlace, .int 0, .int 0, .ref m_isCome, .ref m_heap, .int 0, .ref m_now, .ref m_first, .ref m_second, .ref m_behind, .ref m_states, .int 0, .int 0, .int 0, .ref m_alone0, .ref m_endsBy, .ref m_kept0, .int 0, .int 0, .long 1]))] [])) (va_Qi (fun (r : Int32) (_ : Unit) => r = (-1000000)) (fun (_ : Unit) (t : State) => va_P (dC, dI) vwCl [] t.heap ∧ va_K (dC, dI) vwCl [] t ∧ va_D (va_A [(h0, .inr (7, [.ref m_tape, .int 0, .int 0, .int 0, .int 0, .int 0, .int 0, .int 0, .int (-1), .ref m_refused, .ref m_own, .int 0, .ref m_draft, .ref m_program, .ref m_goPlace, .int 0, .int 0, .ref m_isCome, .ref m_heap, .int 0, .ref m_now, .ref m_first, .ref m_second, .ref m_behind, .ref m_states, .int 0, .int 0, .int 0, .ref m_alone0, .ref m_endsBy, .ref m_kept0, .int 0, .int 0, .long 1]))] sz) []) (va_A [(h0, .inr (7, [.ref m_tape, .int 0, .int 0, .int 0, .int 0, .int 0, .int 0, .int 0, .int (-1), .ref m_refused, .ref m_own, .int 0, .ref m_draft, .ref m_program, .ref m_goPlace, .int 0, .int 0, .ref m_isCome, .ref m_heap, .int 0, .ref m_now, .ref m_first, .ref m_second, .ref m_behind, .ref m_states, .int 0, .int 0, .int 0, .ref m_alone0, .ref m_endsBy, .ref m_kept0, .int 0, .int 0, .long 1]))] sz)) 0 0 (va_A [(h0, .inr (7, [.ref m_tape, .int 0, .int 0, .int 0, .int 0, .int 0, .int 0, .int 0, .int (-1), .ref m_refused, .ref m_own, .int 0, .ref m_draft, .ref m_program, .ref m_goPlace, .int 0, .int 0, .ref m_isCome, .ref m_heap, .int 0, .ref m_now, .ref m_first, .ref m_second, .ref m_behind, .ref m_states, .int 0, .int 0, .int 0, .ref m_alone0, .ref m_endsBy, .ref m_kept0, .int 0, .int 0, .long 1]))] sz) := by
  refine Met.ofW (cc := cX7_later) (maxL := 6) (ret := (some .int)) (by decide) rfl ?_
  intro p e s m args below meth c s₁ B hml hv
  obtain ⟨rfl, hsz, hP, hK, hD0, hN⟩ := hv
  have hx := B.exec
  have hb := B.bytes
  have hr := B.returns
  have hts : ∀ w ∈ T0, w.before _ s = true := fun w h => atoms_spec (ws := Cond.code yX7_later cX7_later 6 (some .int) :: T0) B.pre w (List.mem_cons_of_mem _ h)
  have hown : s.vm.findClass RX7 = some m.cls := findClass_of_methodNamed B.named
  have hlocks := B.notSynchronized
  subst hsz
  have hD := hD0.self (sz := s.heap.size)
  generalize hAe : va_A [(h0, .inr (7, [.ref m_tape, .int 0, .int 0, .int 0, .int 0, .int 0, .int 0, .int 0, .int (-1), .ref m_refused, .ref m_own, .int 0, .ref m_draft, .ref m_program, .ref m_goPlace, .int 0, .int 0, .ref m_isCome, .ref m_heap, .int 0, .ref m_now, .ref m_first, .ref m_second, .ref m_behind, .ref m_states, .int 0, .int 0, .int 0, .ref m_alone0, .ref m_endsBy, .ref m_kept0, .int 0, .int 0, .long 1]))] s.heap.size = A at hD ⊢
  have hA : ∀ q : Nat, s.heap.size ≤ q → A q := fun q h => by rw [← hAe]; exact Or.inr h
  have hS : va_S A s.heap s.heap [] := va_S.rf
  have hP : va_P (dC, dI) vwCl [(h0, .inr (7, [.ref m_tape, .int 0, .int 0, .int 0, .int 0, .int 0, .int 0, .int 0, .int (-1), .ref m_refused, .ref m_own, .int 0, .ref m_draft, .ref m_program, .ref m_goPlace, .int 0, .int 0, .ref m_isCome, .ref m_heap, .int 0, .ref m_now, .ref m_first, .ref m_second, .ref m_behind, .ref m_states, .int 0, .int 0, .int 0, .ref m_alone0, .ref m_endsBy, .ref m_kept0, .int 0, .int 0, .long 1]))] s.heap := hP
  have hl := lv_entry ([.ref h0, .int p0, .int p1, .int p2, .int p3]) (n := 6) (Nat.le_of_ble_eq_true rfl)
  rw [lg_entry_eq]
  generalize (lg_sl ([.ref h0, .int p0, .int p1, .int p2, .int p3]) ++ List.replicate (6 - (lg_sl ([.ref h0, .int p0, .int p1, .int p2, .int p3])).length) Slot.unset).toArray = ls at hl ⊢
  refine ax_gen hP hD hS (fun H locs hP hD hS => ?_)
  have hl : lv_has ls 6 [(0, .ref h0), (1, .int p0), (2, .int p1), (3, .int p2), (4, .int p3)] := hl
  refine lv_aload_n hx hb dX7_later_0 rfl (lv_at hl 0 rfl) ?_
  refine lv_iload_n hx hb dX7_later_1 rfl (lv_at hl 2 rfl) ?_
  refine lv_iload_n hx hb dX7_later_2 rfl (lv_at hl 3 rfl) ?_
  have hPc := hP.sub (ws' := [(h0, .inr (7, [.ref m_tape, .int 0, .int 0, .int 0, .int 0, .int 0, .int 0, .int 0, .int (-1), .ref m_refused, .ref m_own, .int 0, .ref m_draft, .ref m_program, .ref m_goPlace, .int 0, .int 0, .ref m_isCome, .ref m_heap, .int 0, .ref m_now, .ref m_first, .ref m_second, .ref m_behind, .ref m_states, .int 0, .int 0, .int 0, .ref m_alone0, .ref m_endsBy, .ref m_kept0, .int 0, .int 0, .long 1]))]) [0] rfl
  have hDc := hD.sub (ws' := [(h0, .inr (7, [.ref m_tape, .int 0, .int 0, .int 0, .int 0, .int 0, .int 0, .int 0, .int (-1), .ref m_refused, .ref m_own, .int 0, .ref m_draft, .ref m_program, .ref m_goPlace, .int 0, .int 0, .ref m_isCome, .ref m_heap, .int 0, .ref m_now, .ref m_first, .ref m_second, .ref m_behind, .ref m_states, .int 0, .int 0, .int 0, .ref m_alone0, .ref m_endsBy, .ref m_kept0, .int 0, .int 0, .long 1]))]) [0] (by decide) rfl
  have hKc := hK.sub (tys' := []) [] rfl
  have hFc := va_free (wc := [(h0, .inr (7, [.ref m_tape, .int 0, .int 0, .int 0, .int 0, .int 0, .int 0, .int 0, .int (-1), .ref m_refused, .ref m_own, .int 0, .ref m_draft, .ref m_program, .ref m_goPlace, .int 0, .int 0, .ref m_isCome, .ref m_heap, .int 0, .ref m_now, .ref m_first, .ref m_second, .ref m_behind, .ref m_states, .int 0, .int 0, .int 0, .ref m_alone0, .ref m_endsBy, .ref m_kept0, .int 0, .int 0, .long 1]))]) hD hS hA [0] rfl
  refine va_calli (va_runV (As := [.int p1, .int p2]) (rest := []) ⟨hx, hb, hml, hown, hts⟩ (c_X7_isLane l dC dI H.size h0 m_tape m_refused m_own m_draft m_program m_goPlace m_isCome m_heap m_now m_first m_second m_behind m_states m_alone0 m_endsBy m_kept0 p1 p2) (cwV 2 hts (ax_gV T_256 T_257 T_258 T_189 T_255) rfl rfl rfl (by decide +kernel) ⟨Nat.le_of_ble_eq_true rfl, Nat.le_of_ble_eq_true rfl⟩) ⟨fun a U g mk q => ⟨q.1, ax_pc rfl rfl q.2⟩, va_recv hKc hPc (ci := 7) (q0 := 0) rfl rfl, fun U hU hW => ⟨rfl, ax_pw hU hW hPc hKc hDc hN⟩⟩ rfl rfl hl.1 rfl (lv_room (Nat.le_of_ble_eq_true rfl)) dX7_later_3 ⟨Nat.le_of_ble_eq_true rfl, Nat.le_of_ble_eq_true rfl⟩) hS (fun q _ h => hFc q h) hFc (fun r1 _ t H1 locs ht hvm hw hB hz1 hk1 hS => ?_)
  obtain ⟨hP1, hK1, hD1⟩ := hB
  rw [ht] at hP1
  have hK1 := va_K.moved hvm.symm hK1
  obtain ⟨hP, hD⟩ := va_join (wr := []) (w1 := [(h0, .inr (7, [.ref m_tape, .int 0, .int 0, .int 0, .int 0, .int 0, .int 0, .int 0, .int (-1), .ref m_refused, .ref m_own, .int 0, .ref m_draft, .ref m_program, .ref m_goPlace, .int 0, .int 0, .ref m_isCome, .ref m_heap, .int 0, .ref m_now, .ref m_first, .ref m_second, .ref m_behind, .ref m_states, .int 0, .int 0, .int 0, .ref m_alone0, .ref m_endsBy, .ref m_kept0, .int 0, .int 0, .long 1]))]) hP hD [0] [] rfl rfl (by decide) (by decide) hk1 hFc hP1 hD1
  generalize H1 = H at hP hS ⊢
  have hP : va_P (dC, dI) vwCl [(h0, .inr (7, [.ref m_tape, .int 0, .int 0, .int 0, .int 0, .int 0, .int 0, .int 0, .int (-1), .ref m_refused, .ref m_own, .int 0, .ref m_draft, .ref m_program, .ref m_goPlace, .int 0, .int 0, .ref m_isCome, .ref m_heap, .int 0, .ref m_now, .ref m_first, .ref m_second, .ref m_behind, .ref m_states, .int 0, .int 0, .int 0, .ref m_alone0, .ref m_endsBy, .ref m_kept0, .int 0, .int 0, .long 1]))] H := hP
  have hD : va_D A [(h0, .inr (7, [.ref m_tape, .int 0, .int 0, .int 0, .int 0, .int 0, .int 0, .int 0, .int (-1), .ref m_refused, .ref m_own, .int 0, .ref m_draft, .ref m_program, .ref m_goPlace, .int 0, .int 0, .ref m_isCome, .ref m_heap, .int 0, .ref m_now, .ref m_first, .ref m_second, .ref m_behind, .ref m_states, .int 0, .int 0, .int 0, .ref m_alone0, .ref m_endsBy, .ref m_kept0, .int 0, .int 0, .long 1]))] := hD
  subst hw
  refine lv_if_eq (tgt := 34) hx hb dX7_later_6 (by decide) (fun _ => ?_) (fun c => absurd (by decide) c)
  refine lv_ldc hx hb hown (hts _ T_254) dX7_later_34 ?_
  have hP9 := hP.sub (ws' := []) [] rfl
  have hD9 := hD.sub (ws' := []) [] (by decide) rfl
  have hK9 := hK.sub (tys' := []) [] rfl
  exact W.iret (v := (-1000000)) hx hb hr (fun t ht hW => ⟨⟨(-1000000), (), rfl, rfl, by rw [ht]; exact hP9, va_K.moved hW.alike hK9, hD9⟩, hS.F ht⟩) hS.2.2 dX7_later_36

set_option maxHeartbeats 4000000 in
set_option maxRecDepth 100000 in
theorem c_X7_by (l : Launch) (dC : Nat → ClassId) (dI : Nat → Nat → Nat) (sz : Nat) (h0 : Nat) (m_tape : Nat) (m_refused : Nat) (m_own : Nat) (m_draft : Nat) (m_program : Nat) (m_goPlace : Nat) (m_isCome : Nat) (m_heap : Nat) (m_now : Nat) (m_first : Nat) (m_second : Nat) (m_behind : Nat) (m_states : Nat) (m_alone0 : Nat) (m_endsBy : Nat) (m_kept0 : Nat) (p0 : Int32) (p1 : Int32) (p2 : Int32) : Met l yX7_by (Cond.code yX7_by cX7_by 4 (some .int) :: T0) ({ frames := 0, cells := 0, slots := 0, locals := 0 }) (va_Pc [.ref h0, .int p0, .int p1, .int p2] (ax_W dC dI sz [(h0, .inr (7, [.ref m_tape, .int 0, .int 0, .int 0, .int 0, .int 0, .int 0, .int 0, .int (-1), .ref m_refused, .ref m_own, .int 0, .ref m_draft, .ref m_program, .ref m_goPlace, .int 0, .int 0, .ref m_isCome, .ref m_heap, .int 0, .ref m_now, .ref m_first, .ref m_second, .ref m_behind, .ref m_states, .int 0, .int 0, .int 0, .ref m_alone0, .ref m_endsBy, .ref m_kept0, .int 0, .int 0, .long 1]))] [])) (va_Qi (fun (r : Int32) (_ : Unit) => r = (-1)) (fun (_ : Unit) (t : State) => va_P (dC, dI) vwCl [] t.heap ∧ va_K (dC, dI) vwCl [] t ∧ va_D (va_A [(h0, .inr (7, [.ref m_tape, .int 0, .int 0, .int 0, .int 0, .int 0, .int 0, .int 0, .int (-1), .ref m_refused, .ref m_own, .int 0, .ref m_draft, .ref m_program, .ref m_goPlace, .int 0, .int 0, .ref m_isCome, .ref m_heap, .int 0, .ref m_now, .ref m_first, .ref m_second, .ref m_behind, .ref m_states, .int 0, .int 0, .int 0, .ref m_alone0, .ref m_endsBy, .ref m_kept0, .int 0, .int 0, .long 1]))] sz) []) (va_A [(h0, .inr (7, [.ref m_tape, .int 0, .int 0, .int 0, .int 0, .int 0, .int 0, .int 0, .int (-1), .ref m_refused, .ref m_own, .int 0, .ref m_draft, .ref m_program, .ref m_goPlace, .int 0, .int 0, .ref m_isCome, .ref m_heap, .int 0, .ref m_now, .ref m_first, .ref m_second, .ref m_behind, .ref m_states, .int 0, .int 0, .int 0, .ref m_alone0, .ref m_endsBy, .ref m_kept0, .int 0, .int 0, .long 1]))] sz)) 0 0 (va_A [(h0, .inr (7, [.ref m_tape, .int 0, .int 0, .int 0, .int 0, .int 0, .int 0, .int 0, .int (-1), .ref m_refused, .ref m_own, .int 0, .ref m_draft, .ref m_program, .ref m_goPlace, .int 0, .int 0, .ref m_isCome, .ref m_heap, .int 0, .ref m_now, .ref m_first, .ref m_second, .ref m_behind, .ref m_states, .int 0, .int 0, .int 0, .ref m_alone0, .ref m_endsBy, .ref m_kept0, .int 0, .int 0, .long 1]))] sz) := by
  refine Met.ofW (cc := cX7_by) (maxL := 4) (ret := (some .int)) (by decide) rfl ?_
  intro p e s m args below meth c s₁ B hml hv
  obtain ⟨rfl, hsz, hP, hK, hD0, hN⟩ := hv
  have hx := B.exec
  have hb := B.bytes
  have hr := B.returns
  have hts : ∀ w ∈ T0, w.before _ s = true := fun w h => atoms_spec (ws := Cond.code yX7_by cX7_by 4 (some .int) :: T0) B.pre w (List.mem_cons_of_mem _ h)
  have hown : s.vm.findClass RX7 = some m.cls := findClass_of_methodNamed B.named
  have hlocks := B.notSynchronized
  subst hsz
  have hD := hD0.self (sz := s.heap.size)
  generalize hAe : va_A [(h0, .inr (7, [.ref m_tape, .int 0, .int 0, .int 0, .int 0, .int 0, .int 0, .int 0, .int (-1), .ref m_refused, .ref m_own, .int 0, .ref m_draft, .ref m_program, .ref m_goPlace, .int 0, .int 0, .ref m_isCome, .ref m_heap, .int 0, .ref m_now, .ref m_first, .ref m_second, .ref m_behind, .ref m_states, .int 0, .int 0, .int 0, .ref m_alone0, .ref m_endsBy, .ref m_kept0, .int 0, .int 0, .long 1]))] s.heap.size = A at hD ⊢
  have hA : ∀ q : Nat, s.heap.size ≤ q → A q := fun q h => by rw [← hAe]; exact Or.inr h
  have hS : va_S A s.heap s.heap [] := va_S.rf
  have hP : va_P (dC, dI) vwCl [(h0, .inr (7, [.ref m_tape, .int 0, .int 0, .int 0, .int 0, .int 0, .int 0, .int 0, .int (-1), .ref m_refused, .ref m_own, .int 0, .ref m_draft, .ref m_program, .ref m_goPlace, .int 0, .int 0, .ref m_isCome, .ref m_heap, .int 0, .ref m_now, .ref m_first, .ref m_second, .ref m_behind, .ref m_states, .int 0, .int 0, .int 0, .ref m_alone0, .ref m_endsBy, .ref m_kept0, .int 0, .int 0, .long 1]))] s.heap := hP
  have hl := lv_entry ([.ref h0, .int p0, .int p1, .int p2]) (n := 4) (Nat.le_of_ble_eq_true rfl)
  rw [lg_entry_eq]
  generalize (lg_sl ([.ref h0, .int p0, .int p1, .int p2]) ++ List.replicate (4 - (lg_sl ([.ref h0, .int p0, .int p1, .int p2])).length) Slot.unset).toArray = ls at hl ⊢
  refine ax_gen hP hD hS (fun H locs hP hD hS => ?_)
  have hl : lv_has ls 4 [(0, .ref h0), (1, .int p0), (2, .int p1), (3, .int p2)] := hl
  refine lv_aload_n hx hb dX7_by_0 rfl (lv_at hl 0 rfl) ?_
  refine va_get (D := (dC, dI)) (ci := 7) (v := .int 0) (C := RX7) (T := TX7) (N := 34) hx hb hts inX7 hown hK hP 0 rfl rfl 15 (by decide) (hts _ T_196) (fun _ h9 => h9) rfl dX7_by_1 ?_
  refine lv_if_eq (tgt := 39) hx hb dX7_by_4 (by decide) (fun _ => ?_) (fun c => absurd (by decide) c)
  refine lv_iconst (v := (-1)) hx hb dX7_by_39 (by decide) ?_
  have hP9 := hP.sub (ws' := []) [] rfl
  have hD9 := hD.sub (ws' := []) [] (by decide) rfl
  have hK9 := hK.sub (tys' := []) [] rfl
  exact W.iret (v := (-1)) hx hb hr (fun t ht hW => ⟨⟨(-1), (), rfl, rfl, by rw [ht]; exact hP9, va_K.moved hW.alike hK9, hD9⟩, hS.F ht⟩) hS.2.2 dX7_by_40

set_option maxHeartbeats 4000000 in
set_option maxRecDepth 100000 in
theorem c_X7_skew (l : Launch) (dC : Nat → ClassId) (dI : Nat → Nat → Nat) (sz : Nat) (h0 : Nat) (m_tape : Nat) (m_refused : Nat) (m_own : Nat) (m_draft : Nat) (m_program : Nat) (m_goPlace : Nat) (m_isCome : Nat) (m_heap : Nat) (m_now : Nat) (m_first : Nat) (m_second : Nat) (m_behind : Nat) (m_states : Nat) (m_alone0 : Nat) (m_endsBy : Nat) (m_kept0 : Nat) (p0 : Int32) : Met l yX7_skew (Cond.code yX7_skew cX7_skew 6 (some .int) :: T0) ({ frames := 0, cells := 0, slots := 0, locals := 0 }) (va_Pc [.ref h0, .int p0] (ax_W dC dI sz [(h0, .inr (7, [.ref m_tape, .int 0, .int 0, .int 0, .int 0, .int 0, .int 0, .int 0, .int (-1), .ref m_refused, .ref m_own, .int 0, .ref m_draft, .ref m_program, .ref m_goPlace, .int 0, .int 0, .ref m_isCome, .ref m_heap, .int 0, .ref m_now, .ref m_first, .ref m_second, .ref m_behind, .ref m_states, .int 0, .int 0, .int 0, .ref m_alone0, .ref m_endsBy, .ref m_kept0, .int 0, .int 0, .long 1]))] [])) (va_Qi (fun (r : Int32) (_ : Unit) => r = (-1)) (fun (_ : Unit) (t : State) => va_P (dC, dI) vwCl [] t.heap ∧ va_K (dC, dI) vwCl [] t ∧ va_D (va_A [(h0, .inr (7, [.ref m_tape, .int 0, .int 0, .int 0, .int 0, .int 0, .int 0, .int 0, .int (-1), .ref m_refused, .ref m_own, .int 0, .ref m_draft, .ref m_program, .ref m_goPlace, .int 0, .int 0, .ref m_isCome, .ref m_heap, .int 0, .ref m_now, .ref m_first, .ref m_second, .ref m_behind, .ref m_states, .int 0, .int 0, .int 0, .ref m_alone0, .ref m_endsBy, .ref m_kept0, .int 0, .int 0, .long 1]))] sz) []) (va_A [(h0, .inr (7, [.ref m_tape, .int 0, .int 0, .int 0, .int 0, .int 0, .int 0, .int 0, .int (-1), .ref m_refused, .ref m_own, .int 0, .ref m_draft, .ref m_program, .ref m_goPlace, .int 0, .int 0, .ref m_isCome, .ref m_heap, .int 0, .ref m_now, .ref m_first, .ref m_second, .ref m_behind, .ref m_states, .int 0, .int 0, .int 0, .ref m_alone0, .ref m_endsBy, .ref m_kept0, .int 0, .int 0, .long 1]))] sz)) 0 0 (va_A [(h0, .inr (7, [.ref m_tape, .int 0, .int 0, .int 0, .int 0, .int 0, .int 0, .int 0, .int (-1), .ref m_refused, .ref m_own, .int 0, .ref m_draft, .ref m_program, .ref m_goPlace, .int 0, .int 0, .ref m_isCome, .ref m_heap, .int 0, .ref m_now, .ref m_first, .ref m_second, .ref m_behind, .ref m_states, .int 0, .int 0, .int 0, .ref m_alone0, .ref m_endsBy, .ref m_kept0, .int 0, .int 0, .long 1]))] sz) := by
  refine Met.ofW (cc := cX7_skew) (maxL := 6) (ret := (some .int)) (by decide) rfl ?_
  intro p e s m args below meth c s₁ B hml hv
  obtain ⟨rfl, hsz, hP, hK, hD0, hN⟩ := hv
  have hx := B.exec
  have hb := B.bytes
  have hr := B.returns
  have hts : ∀ w ∈ T0, w.before _ s = true := fun w h => atoms_spec (ws := Cond.code yX7_skew cX7_skew 6 (some .int) :: T0) B.pre w (List.mem_cons_of_mem _ h)
  have hown : s.vm.findClass RX7 = some m.cls := findClass_of_methodNamed B.named
  have hlocks := B.notSynchronized
  subst hsz
  have hD := hD0.self (sz := s.heap.size)
  generalize hAe : va_A [(h0, .inr (7, [.ref m_tape, .int 0, .int 0, .int 0, .int 0, .int 0, .int 0, .int 0, .int (-1), .ref m_refused, .ref m_own, .int 0, .ref m_draft, .ref m_program, .ref m_goPlace, .int 0, .int 0, .ref m_isCome, .ref m_heap, .int 0, .ref m_now, .ref m_first, .ref m_second, .ref m_behind, .ref m_states, .int 0, .int 0, .int 0, .ref m_alone0, .ref m_endsBy, .ref m_kept0, .int 0, .int 0, .long 1]))] s.heap.size = A at hD ⊢
  have hA : ∀ q : Nat, s.heap.size ≤ q → A q := fun q h => by rw [← hAe]; exact Or.inr h
  have hS : va_S A s.heap s.heap [] := va_S.rf
  have hP : va_P (dC, dI) vwCl [(h0, .inr (7, [.ref m_tape, .int 0, .int 0, .int 0, .int 0, .int 0, .int 0, .int 0, .int (-1), .ref m_refused, .ref m_own, .int 0, .ref m_draft, .ref m_program, .ref m_goPlace, .int 0, .int 0, .ref m_isCome, .ref m_heap, .int 0, .ref m_now, .ref m_first, .ref m_second, .ref m_behind, .ref m_states, .int 0, .int 0, .int 0, .ref m_alone0, .ref m_endsBy, .ref m_kept0, .int 0, .int 0, .long 1]))] s.heap := hP
  have hl := lv_entry ([.ref h0, .int p0]) (n := 6) (Nat.le_of_ble_eq_true rfl)
  rw [lg_entry_eq]
  generalize (lg_sl ([.ref h0, .int p0]) ++ List.replicate (6 - (lg_sl ([.ref h0, .int p0])).length) Slot.unset).toArray = ls at hl ⊢
  refine ax_gen hP hD hS (fun H locs hP hD hS => ?_)
  have hl : lv_has ls 6 [(0, .ref h0), (1, .int p0)] := hl
  refine lv_aload_n hx hb dX7_skew_0 rfl (lv_at hl 0 rfl) ?_
  refine va_get (D := (dC, dI)) (ci := 7) (v := .int 0) (C := RX7) (T := TX7) (N := 34) hx hb hts inX7 hown hK hP 0 rfl rfl 15 (by decide) (hts _ T_196) (fun _ h9 => h9) rfl dX7_skew_1 ?_
  refine lv_if_eq (tgt := 17) hx hb dX7_skew_4 (by decide) (fun _ => ?_) (fun c => absurd (by decide) c)
  refine lv_iconst (v := (-1)) hx hb dX7_skew_17 (by decide) ?_
  have hP9 := hP.sub (ws' := []) [] rfl
  have hD9 := hD.sub (ws' := []) [] (by decide) rfl
  have hK9 := hK.sub (tys' := []) [] rfl
  exact W.iret (v := (-1)) hx hb hr (fun t ht hW => ⟨⟨(-1), (), rfl, rfl, by rw [ht]; exact hP9, va_K.moved hW.alike hK9, hD9⟩, hS.F ht⟩) hS.2.2 dX7_skew_18

set_option maxHeartbeats 4000000 in
set_option maxRecDepth 100000 in
theorem c_X7_alone (l : Launch) (dC : Nat → ClassId) (dI : Nat → Nat → Nat) (sz : Nat) (h0 : Nat) (m_tape : Nat) (m_refused : Nat) (m_own : Nat) (m_draft : Nat) (m_program : Nat) (m_goPlace : Nat) (m_isCome : Nat) (m_heap : Nat) (m_now : Nat) (m_first : Nat) (m_second : Nat) (m_behind : Nat) (m_states : Nat) (m_alone0 : Nat) (m_endsBy : Nat) (m_kept0 : Nat) (p0 : Int32) (p1 : Int32) (p2 : Int32) : Met l yX7_alone (Cond.code yX7_alone cX7_alone 4 (some .int) :: T0) ({ frames := 2, cells := 0, slots := 0, locals := 43 }) (va_Pc [.ref h0, .int p0, .int p1, .int p2] (ax_W dC dI sz [(h0, .inr (7, [.ref m_tape, .int 0, .int 0, .int 0, .int 0, .int 0, .int 0, .int 0, .int (-1), .ref m_refused, .ref m_own, .int 0, .ref m_draft, .ref m_program, .ref m_goPlace, .int 0, .int 0, .ref m_isCome, .ref m_heap, .int 0, .ref m_now, .ref m_first, .ref m_second, .ref m_behind, .ref m_states, .int 0, .int 0, .int 0, .ref m_alone0, .ref m_endsBy, .ref m_kept0, .int 0, .int 0, .long 1]))] [])) (va_Qi (fun (r : Int32) (_ : Unit) => r = (-1000000)) (fun (_ : Unit) (t : State) => va_P (dC, dI) vwCl [] t.heap ∧ va_K (dC, dI) vwCl [] t ∧ va_D (va_A [(h0, .inr (7, [.ref m_tape, .int 0, .int 0, .int 0, .int 0, .int 0, .int 0, .int 0, .int (-1), .ref m_refused, .ref m_own, .int 0, .ref m_draft, .ref m_program, .ref m_goPlace, .int 0, .int 0, .ref m_isCome, .ref m_heap, .int 0, .ref m_now, .ref m_first, .ref m_second, .ref m_behind, .ref m_states, .int 0, .int 0, .int 0, .ref m_alone0, .ref m_endsBy, .ref m_kept0, .int 0, .int 0, .long 1]))] sz) []) (va_A [(h0, .inr (7, [.ref m_tape, .int 0, .int 0, .int 0, .int 0, .int 0, .int 0, .int 0, .int (-1), .ref m_refused, .ref m_own, .int 0, .ref m_draft, .ref m_program, .ref m_goPlace, .int 0, .int 0, .ref m_isCome, .ref m_heap, .int 0, .ref m_now, .ref m_first, .ref m_second, .ref m_behind, .ref m_states, .int 0, .int 0, .int 0, .ref m_alone0, .ref m_endsBy, .ref m_kept0, .int 0, .int 0, .long 1]))] sz)) 0 0 (va_A [(h0, .inr (7, [.ref m_tape, .int 0, .int 0, .int 0, .int 0, .int 0, .int 0, .int 0, .int (-1), .ref m_refused, .ref m_own, .int 0, .ref m_draft, .ref m_program, .ref m_goPlace, .int 0, .int 0, .ref m_isCome, .ref m_heap, .int 0, .ref m_now, .ref m_first, .ref m_second, .ref m_behind, .ref m_states, .int 0, .int 0, .int 0, .ref m_alone0, .ref m_endsBy, .ref m_kept0, .int 0, .int 0, .long 1]))] sz) := by
  refine Met.ofW (cc := cX7_alone) (maxL := 4) (ret := (some .int)) (by decide) rfl ?_
  intro p e s m args below meth c s₁ B hml hv
  obtain ⟨rfl, hsz, hP, hK, hD0, hN⟩ := hv
  have hx := B.exec
  have hb := B.bytes
  have hr := B.returns
  have hts : ∀ w ∈ T0, w.before _ s = true := fun w h => atoms_spec (ws := Cond.code yX7_alone cX7_alone 4 (some .int) :: T0) B.pre w (List.mem_cons_of_mem _ h)
  have hown : s.vm.findClass RX7 = some m.cls := findClass_of_methodNamed B.named
  have hlocks := B.notSynchronized
  subst hsz
  have hD := hD0.self (sz := s.heap.size)
  generalize hAe : va_A [(h0, .inr (7, [.ref m_tape, .int 0, .int 0, .int 0, .int 0, .int 0, .int 0, .int 0, .int (-1), .ref m_refused, .ref m_own, .int 0, .ref m_draft, .ref m_program, .ref m_goPlace, .int 0, .int 0, .ref m_isCome, .ref m_heap, .int 0, .ref m_now, .ref m_first, .ref m_second, .ref m_behind, .ref m_states, .int 0, .int 0, .int 0, .ref m_alone0, .ref m_endsBy, .ref m_kept0, .int 0, .int 0, .long 1]))] s.heap.size = A at hD ⊢
  have hA : ∀ q : Nat, s.heap.size ≤ q → A q := fun q h => by rw [← hAe]; exact Or.inr h
  have hS : va_S A s.heap s.heap [] := va_S.rf
  have hP : va_P (dC, dI) vwCl [(h0, .inr (7, [.ref m_tape, .int 0, .int 0, .int 0, .int 0, .int 0, .int 0, .int 0, .int (-1), .ref m_refused, .ref m_own, .int 0, .ref m_draft, .ref m_program, .ref m_goPlace, .int 0, .int 0, .ref m_isCome, .ref m_heap, .int 0, .ref m_now, .ref m_first, .ref m_second, .ref m_behind, .ref m_states, .int 0, .int 0, .int 0, .ref m_alone0, .ref m_endsBy, .ref m_kept0, .int 0, .int 0, .long 1]))] s.heap := hP
  have hl := lv_entry ([.ref h0, .int p0, .int p1, .int p2]) (n := 4) (Nat.le_of_ble_eq_true rfl)
  rw [lg_entry_eq]
  generalize (lg_sl ([.ref h0, .int p0, .int p1, .int p2]) ++ List.replicate (4 - (lg_sl ([.ref h0, .int p0, .int p1, .int p2])).length) Slot.unset).toArray = ls at hl ⊢
  refine ax_gen hP hD hS (fun H locs hP hD hS => ?_)
  have hl : lv_has ls 4 [(0, .ref h0), (1, .int p0), (2, .int p1), (3, .int p2)] := hl
  refine lv_aload_n hx hb dX7_alone_0 rfl (lv_at hl 0 rfl) ?_
  refine lv_iload_n hx hb dX7_alone_1 rfl (lv_at hl 1 rfl) ?_
  refine lv_iload_n hx hb dX7_alone_2 rfl (lv_at hl 2 rfl) ?_
  have hPc := hP.sub (ws' := [(h0, .inr (7, [.ref m_tape, .int 0, .int 0, .int 0, .int 0, .int 0, .int 0, .int 0, .int (-1), .ref m_refused, .ref m_own, .int 0, .ref m_draft, .ref m_program, .ref m_goPlace, .int 0, .int 0, .ref m_isCome, .ref m_heap, .int 0, .ref m_now, .ref m_first, .ref m_second, .ref m_behind, .ref m_states, .int 0, .int 0, .int 0, .ref m_alone0, .ref m_endsBy, .ref m_kept0, .int 0, .int 0, .long 1]))]) [0] rfl
  have hDc := hD.sub (ws' := [(h0, .inr (7, [.ref m_tape, .int 0, .int 0, .int 0, .int 0, .int 0, .int 0, .int 0, .int (-1), .ref m_refused, .ref m_own, .int 0, .ref m_draft, .ref m_program, .ref m_goPlace, .int 0, .int 0, .ref m_isCome, .ref m_heap, .int 0, .ref m_now, .ref m_first, .ref m_second, .ref m_behind, .ref m_states, .int 0, .int 0, .int 0, .ref m_alone0, .ref m_endsBy, .ref m_kept0, .int 0, .int 0, .long 1]))]) [0] (by decide) rfl
  have hKc := hK.sub (tys' := []) [] rfl
  have hFc := va_free (wc := [(h0, .inr (7, [.ref m_tape, .int 0, .int 0, .int 0, .int 0, .int 0, .int 0, .int 0, .int (-1), .ref m_refused, .ref m_own, .int 0, .ref m_draft, .ref m_program, .ref m_goPlace, .int 0, .int 0, .ref m_isCome, .ref m_heap, .int 0, .ref m_now, .ref m_first, .ref m_second, .ref m_behind, .ref m_states, .int 0, .int 0, .int 0, .ref m_alone0, .ref m_endsBy, .ref m_kept0, .int 0, .int 0, .long 1]))]) hD hS hA [0] rfl
  refine va_calli (va_runV (As := [.int p0, .int p1]) (rest := []) ⟨hx, hb, hml, hown, hts⟩ (c_X7_isLane l dC dI H.size h0 m_tape m_refused m_own m_draft m_program m_goPlace m_isCome m_heap m_now m_first m_second m_behind m_states m_alone0 m_endsBy m_kept0 p0 p1) (cwV 2 hts (ax_gV T_256 T_257 T_258 T_189 T_255) rfl rfl rfl (by decide +kernel) ⟨Nat.le_of_ble_eq_true rfl, Nat.le_of_ble_eq_true rfl⟩) ⟨fun a U g mk q => ⟨q.1, ax_pc rfl rfl q.2⟩, va_recv hKc hPc (ci := 7) (q0 := 0) rfl rfl, fun U hU hW => ⟨rfl, ax_pw hU hW hPc hKc hDc hN⟩⟩ rfl rfl hl.1 rfl (lv_room (Nat.le_of_ble_eq_true rfl)) dX7_alone_3 ⟨Nat.le_of_ble_eq_true rfl, Nat.le_of_ble_eq_true rfl⟩) hS (fun q _ h => hFc q h) hFc (fun r1 _ t H1 locs ht hvm hw hB hz1 hk1 hS => ?_)
  obtain ⟨hP1, hK1, hD1⟩ := hB
  rw [ht] at hP1
  have hK1 := va_K.moved hvm.symm hK1
  obtain ⟨hP, hD⟩ := va_join (wr := []) (w1 := [(h0, .inr (7, [.ref m_tape, .int 0, .int 0, .int 0, .int 0, .int 0, .int 0, .int 0, .int (-1), .ref m_refused, .ref m_own, .int 0, .ref m_draft, .ref m_program, .ref m_goPlace, .int 0, .int 0, .ref m_isCome, .ref m_heap, .int 0, .ref m_now, .ref m_first, .ref m_second, .ref m_behind, .ref m_states, .int 0, .int 0, .int 0, .ref m_alone0, .ref m_endsBy, .ref m_kept0, .int 0, .int 0, .long 1]))]) hP hD [0] [] rfl rfl (by decide) (by decide) hk1 hFc hP1 hD1
  generalize H1 = H at hP hS ⊢
  have hP : va_P (dC, dI) vwCl [(h0, .inr (7, [.ref m_tape, .int 0, .int 0, .int 0, .int 0, .int 0, .int 0, .int 0, .int (-1), .ref m_refused, .ref m_own, .int 0, .ref m_draft, .ref m_program, .ref m_goPlace, .int 0, .int 0, .ref m_isCome, .ref m_heap, .int 0, .ref m_now, .ref m_first, .ref m_second, .ref m_behind, .ref m_states, .int 0, .int 0, .int 0, .ref m_alone0, .ref m_endsBy, .ref m_kept0, .int 0, .int 0, .long 1]))] H := hP
  have hD : va_D A [(h0, .inr (7, [.ref m_tape, .int 0, .int 0, .int 0, .int 0, .int 0, .int 0, .int 0, .int (-1), .ref m_refused, .ref m_own, .int 0, .ref m_draft, .ref m_program, .ref m_goPlace, .int 0, .int 0, .ref m_isCome, .ref m_heap, .int 0, .ref m_now, .ref m_first, .ref m_second, .ref m_behind, .ref m_states, .int 0, .int 0, .int 0, .ref m_alone0, .ref m_endsBy, .ref m_kept0, .int 0, .int 0, .long 1]))] := hD
  subst hw
  refine lv_if_eq (tgt := 39) hx hb dX7_alone_6 (by decide) (fun _ => ?_) (fun c => absurd (by decide) c)
  refine lv_ldc hx hb hown (hts _ T_254) dX7_alone_39 ?_
  have hP9 := hP.sub (ws' := []) [] rfl
  have hD9 := hD.sub (ws' := []) [] (by decide) rfl
  have hK9 := hK.sub (tys' := []) [] rfl
  exact W.iret (v := (-1000000)) hx hb hr (fun t ht hW => ⟨⟨(-1000000), (), rfl, rfl, by rw [ht]; exact hP9, va_K.moved hW.alike hK9, hD9⟩, hS.F ht⟩) hS.2.2 dX7_alone_41

set_option maxHeartbeats 4000000 in
set_option maxRecDepth 100000 in
theorem c_X7_agrees (l : Launch) (dC : Nat → ClassId) (dI : Nat → Nat → Nat) (sz : Nat) (h0 : Nat) (m_tape : Nat) (m_refused : Nat) (m_own : Nat) (m_draft : Nat) (m_program : Nat) (m_goPlace : Nat) (m_isCome : Nat) (m_heap : Nat) (m_now : Nat) (m_first : Nat) (m_second : Nat) (m_behind : Nat) (m_states : Nat) (m_alone0 : Nat) (m_endsBy : Nat) (m_kept0 : Nat) : Met l yX7_agrees (Cond.code yX7_agrees cX7_agrees 3 (some .int) :: T0) ({ frames := 0, cells := 0, slots := 0, locals := 0 }) (va_Pc [.ref h0] (ax_W dC dI sz [(h0, .inr (7, [.ref m_tape, .int 0, .int 0, .int 0, .int 0, .int 0, .int 0, .int 0, .int (-1), .ref m_refused, .ref m_own, .int 0, .ref m_draft, .ref m_program, .ref m_goPlace, .int 0, .int 0, .ref m_isCome, .ref m_heap, .int 0, .ref m_now, .ref m_first, .ref m_second, .ref m_behind, .ref m_states, .int 0, .int 0, .int 0, .ref m_alone0, .ref m_endsBy, .ref m_kept0, .int 0, .int 0, .long 1]))] [])) (va_Qi (fun (r : Int32) (_ : Unit) => r = (-1)) (fun (_ : Unit) (t : State) => va_P (dC, dI) vwCl [] t.heap ∧ va_K (dC, dI) vwCl [] t ∧ va_D (va_A [(h0, .inr (7, [.ref m_tape, .int 0, .int 0, .int 0, .int 0, .int 0, .int 0, .int 0, .int (-1), .ref m_refused, .ref m_own, .int 0, .ref m_draft, .ref m_program, .ref m_goPlace, .int 0, .int 0, .ref m_isCome, .ref m_heap, .int 0, .ref m_now, .ref m_first, .ref m_second, .ref m_behind, .ref m_states, .int 0, .int 0, .int 0, .ref m_alone0, .ref m_endsBy, .ref m_kept0, .int 0, .int 0, .long 1]))] sz) []) (va_A [(h0, .inr (7, [.ref m_tape, .int 0, .int 0, .int 0, .int 0, .int 0, .int 0, .int 0, .int (-1), .ref m_refused, .ref m_own, .int 0, .ref m_draft, .ref m_program, .ref m_goPlace, .int 0, .int 0, .ref m_isCome, .ref m_heap, .int 0, .ref m_now, .ref m_first, .ref m_second, .ref m_behind, .ref m_states, .int 0, .int 0, .int 0, .ref m_alone0, .ref m_endsBy, .ref m_kept0, .int 0, .int 0, .long 1]))] sz)) 0 0 (va_A [(h0, .inr (7, [.ref m_tape, .int 0, .int 0, .int 0, .int 0, .int 0, .int 0, .int 0, .int (-1), .ref m_refused, .ref m_own, .int 0, .ref m_draft, .ref m_program, .ref m_goPlace, .int 0, .int 0, .ref m_isCome, .ref m_heap, .int 0, .ref m_now, .ref m_first, .ref m_second, .ref m_behind, .ref m_states, .int 0, .int 0, .int 0, .ref m_alone0, .ref m_endsBy, .ref m_kept0, .int 0, .int 0, .long 1]))] sz) := by
  refine Met.ofW (cc := cX7_agrees) (maxL := 3) (ret := (some .int)) (by decide) rfl ?_
  intro p e s m args below meth c s₁ B hml hv
  obtain ⟨rfl, hsz, hP, hK, hD0, hN⟩ := hv
  have hx := B.exec
  have hb := B.bytes
  have hr := B.returns
  have hts : ∀ w ∈ T0, w.before _ s = true := fun w h => atoms_spec (ws := Cond.code yX7_agrees cX7_agrees 3 (some .int) :: T0) B.pre w (List.mem_cons_of_mem _ h)
  have hown : s.vm.findClass RX7 = some m.cls := findClass_of_methodNamed B.named
  have hlocks := B.notSynchronized
  subst hsz
  have hD := hD0.self (sz := s.heap.size)
  generalize hAe : va_A [(h0, .inr (7, [.ref m_tape, .int 0, .int 0, .int 0, .int 0, .int 0, .int 0, .int 0, .int (-1), .ref m_refused, .ref m_own, .int 0, .ref m_draft, .ref m_program, .ref m_goPlace, .int 0, .int 0, .ref m_isCome, .ref m_heap, .int 0, .ref m_now, .ref m_first, .ref m_second, .ref m_behind, .ref m_states, .int 0, .int 0, .int 0, .ref m_alone0, .ref m_endsBy, .ref m_kept0, .int 0, .int 0, .long 1]))] s.heap.size = A at hD ⊢
  have hA : ∀ q : Nat, s.heap.size ≤ q → A q := fun q h => by rw [← hAe]; exact Or.inr h
  have hS : va_S A s.heap s.heap [] := va_S.rf
  have hP : va_P (dC, dI) vwCl [(h0, .inr (7, [.ref m_tape, .int 0, .int 0, .int 0, .int 0, .int 0, .int 0, .int 0, .int (-1), .ref m_refused, .ref m_own, .int 0, .ref m_draft, .ref m_program, .ref m_goPlace, .int 0, .int 0, .ref m_isCome, .ref m_heap, .int 0, .ref m_now, .ref m_first, .ref m_second, .ref m_behind, .ref m_states, .int 0, .int 0, .int 0, .ref m_alone0, .ref m_endsBy, .ref m_kept0, .int 0, .int 0, .long 1]))] s.heap := hP
  have hl := lv_entry ([.ref h0]) (n := 3) (Nat.le_of_ble_eq_true rfl)
  rw [lg_entry_eq]
  generalize (lg_sl ([.ref h0]) ++ List.replicate (3 - (lg_sl ([.ref h0])).length) Slot.unset).toArray = ls at hl ⊢
  refine ax_gen hP hD hS (fun H locs hP hD hS => ?_)
  have hl : lv_has ls 3 [(0, .ref h0)] := hl
  refine lv_aload_n hx hb dX7_agrees_0 rfl (lv_at hl 0 rfl) ?_
  refine va_get (D := (dC, dI)) (ci := 7) (v := .int 0) (C := RX7) (T := TX7) (N := 34) hx hb hts inX7 hown hK hP 0 rfl rfl 15 (by decide) (hts _ T_196) (fun _ h9 => h9) rfl dX7_agrees_1 ?_
  refine lv_if_ne (tgt := 9) hx hb dX7_agrees_4 (by decide) (fun c => absurd (by decide) c) (fun _ => ?_)
  refine lv_iconst (v := (-1)) hx hb dX7_agrees_7 (by decide) ?_
  have hP9 := hP.sub (ws' := []) [] rfl
  have hD9 := hD.sub (ws' := []) [] (by decide) rfl
  have hK9 := hK.sub (tys' := []) [] rfl
  exact W.iret (v := (-1)) hx hb hr (fun t ht hW => ⟨⟨(-1), (), rfl, rfl, by rw [ht]; exact hP9, va_K.moved hW.alike hK9, hD9⟩, hS.F ht⟩) hS.2.2 dX7_agrees_8

set_option maxHeartbeats 4000000 in
set_option maxRecDepth 100000 in
theorem c_X7_likely (l : Launch) (dC : Nat → ClassId) (dI : Nat → Nat → Nat) (sz : Nat) (h0 : Nat) (m_tape : Nat) (m_refused : Nat) (m_own : Nat) (m_draft : Nat) (m_program : Nat) (m_goPlace : Nat) (m_isCome : Nat) (m_heap : Nat) (m_now : Nat) (m_first : Nat) (m_second : Nat) (m_behind : Nat) (m_states : Nat) (m_alone0 : Nat) (m_endsBy : Nat) (m_kept0 : Nat) (p0 : Int32) (p1 : Int32) (p2 : Int32) : Met l yX7_likely (Cond.code yX7_likely cX7_likely 6 (some .int) :: T0) ({ frames := 0, cells := 0, slots := 0, locals := 0 }) (va_Pc [.ref h0, .int p0, .int p1, .int p2] (ax_W dC dI sz [(h0, .inr (7, [.ref m_tape, .int 0, .int 0, .int 0, .int 0, .int 0, .int 0, .int 0, .int (-1), .ref m_refused, .ref m_own, .int 0, .ref m_draft, .ref m_program, .ref m_goPlace, .int 0, .int 0, .ref m_isCome, .ref m_heap, .int 0, .ref m_now, .ref m_first, .ref m_second, .ref m_behind, .ref m_states, .int 0, .int 0, .int 0, .ref m_alone0, .ref m_endsBy, .ref m_kept0, .int 0, .int 0, .long 1]))] [])) (va_Qi (fun (r : Int32) (_ : Unit) => r = (-1)) (fun (_ : Unit) (t : State) => va_P (dC, dI) vwCl [] t.heap ∧ va_K (dC, dI) vwCl [] t ∧ va_D (va_A [(h0, .inr (7, [.ref m_tape, .int 0, .int 0, .int 0, .int 0, .int 0, .int 0, .int 0, .int (-1), .ref m_refused, .ref m_own, .int 0, .ref m_draft, .ref m_program, .ref m_goPlace, .int 0, .int 0, .ref m_isCome, .ref m_heap, .int 0, .ref m_now, .ref m_first, .ref m_second, .ref m_behind, .ref m_states, .int 0, .int 0, .int 0, .ref m_alone0, .ref m_endsBy, .ref m_kept0, .int 0, .int 0, .long 1]))] sz) []) (va_A [(h0, .inr (7, [.ref m_tape, .int 0, .int 0, .int 0, .int 0, .int 0, .int 0, .int 0, .int (-1), .ref m_refused, .ref m_own, .int 0, .ref m_draft, .ref m_program, .ref m_goPlace, .int 0, .int 0, .ref m_isCome, .ref m_heap, .int 0, .ref m_now, .ref m_first, .ref m_second, .ref m_behind, .ref m_states, .int 0, .int 0, .int 0, .ref m_alone0, .ref m_endsBy, .ref m_kept0, .int 0, .int 0, .long 1]))] sz)) 0 0 (va_A [(h0, .inr (7, [.ref m_tape, .int 0, .int 0, .int 0, .int 0, .int 0, .int 0, .int 0, .int (-1), .ref m_refused, .ref m_own, .int 0, .ref m_draft, .ref m_program, .ref m_goPlace, .int 0, .int 0, .ref m_isCome, .ref m_heap, .int 0, .ref m_now, .ref m_first, .ref m_second, .ref m_behind, .ref m_states, .int 0, .int 0, .int 0, .ref m_alone0, .ref m_endsBy, .ref m_kept0, .int 0, .int 0, .long 1]))] sz) := by
  refine Met.ofW (cc := cX7_likely) (maxL := 6) (ret := (some .int)) (by decide) rfl ?_
  intro p e s m args below meth c s₁ B hml hv
  obtain ⟨rfl, hsz, hP, hK, hD0, hN⟩ := hv
  have hx := B.exec
  have hb := B.bytes
  have hr := B.returns
  have hts : ∀ w ∈ T0, w.before _ s = true := fun w h => atoms_spec (ws := Cond.code yX7_likely cX7_likely 6 (some .int) :: T0) B.pre w (List.mem_cons_of_mem _ h)
  have hown : s.vm.findClass RX7 = some m.cls := findClass_of_methodNamed B.named
  have hlocks := B.notSynchronized
  subst hsz
  have hD := hD0.self (sz := s.heap.size)
  generalize hAe : va_A [(h0, .inr (7, [.ref m_tape, .int 0, .int 0, .int 0, .int 0, .int 0, .int 0, .int 0, .int (-1), .ref m_refused, .ref m_own, .int 0, .ref m_draft, .ref m_program, .ref m_goPlace, .int 0, .int 0, .ref m_isCome, .ref m_heap, .int 0, .ref m_now, .ref m_first, .ref m_second, .ref m_behind, .ref m_states, .int 0, .int 0, .int 0, .ref m_alone0, .ref m_endsBy, .ref m_kept0, .int 0, .int 0, .long 1]))] s.heap.size = A at hD ⊢
  have hA : ∀ q : Nat, s.heap.size ≤ q → A q := fun q h => by rw [← hAe]; exact Or.inr h
  have hS : va_S A s.heap s.heap [] := va_S.rf
  have hP : va_P (dC, dI) vwCl [(h0, .inr (7, [.ref m_tape, .int 0, .int 0, .int 0, .int 0, .int 0, .int 0, .int 0, .int (-1), .ref m_refused, .ref m_own, .int 0, .ref m_draft, .ref m_program, .ref m_goPlace, .int 0, .int 0, .ref m_isCome, .ref m_heap, .int 0, .ref m_now, .ref m_first, .ref m_second, .ref m_behind, .ref m_states, .int 0, .int 0, .int 0, .ref m_alone0, .ref m_endsBy, .ref m_kept0, .int 0, .int 0, .long 1]))] s.heap := hP
  have hl := lv_entry ([.ref h0, .int p0, .int p1, .int p2]) (n := 6) (Nat.le_of_ble_eq_true rfl)
  rw [lg_entry_eq]
  generalize (lg_sl ([.ref h0, .int p0, .int p1, .int p2]) ++ List.replicate (6 - (lg_sl ([.ref h0, .int p0, .int p1, .int p2])).length) Slot.unset).toArray = ls at hl ⊢
  refine ax_gen hP hD hS (fun H locs hP hD hS => ?_)
  have hl : lv_has ls 6 [(0, .ref h0), (1, .int p0), (2, .int p1), (3, .int p2)] := hl
  refine lv_aload_n hx hb dX7_likely_0 rfl (lv_at hl 0 rfl) ?_
  refine va_get (D := (dC, dI)) (ci := 7) (v := .int 0) (C := RX7) (T := TX7) (N := 34) hx hb hts inX7 hown hK hP 0 rfl rfl 15 (by decide) (hts _ T_196) (fun _ h9 => h9) rfl dX7_likely_1 ?_
  refine lv_if_eq (tgt := 36) hx hb dX7_likely_4 (by decide) (fun _ => ?_) (fun c => absurd (by decide) c)
  refine lv_iconst (v := (-1)) hx hb dX7_likely_36 (by decide) ?_
  have hP9 := hP.sub (ws' := []) [] rfl
  have hD9 := hD.sub (ws' := []) [] (by decide) rfl
  have hK9 := hK.sub (tys' := []) [] rfl
  exact W.iret (v := (-1)) hx hb hr (fun t ht hW => ⟨⟨(-1), (), rfl, rfl, by rw [ht]; exact hP9, va_K.moved hW.alike hK9, hD9⟩, hS.F ht⟩) hS.2.2 dX7_likely_37

set_option maxHeartbeats 4000000 in
set_option maxRecDepth 100000 in
theorem c_X7_tells (l : Launch) (dC : Nat → ClassId) (dI : Nat → Nat → Nat) (sz : Nat) (h0 : Nat) (m_tape : Nat) (m_refused : Nat) (m_own : Nat) (m_draft : Nat) (m_program : Nat) (m_goPlace : Nat) (m_isCome : Nat) (m_heap : Nat) (m_now : Nat) (m_first : Nat) (m_second : Nat) (m_behind : Nat) (m_states : Nat) (m_alone0 : Nat) (m_endsBy : Nat) (m_kept0 : Nat) (p0 : Int32) : Met l yX7_tells (Cond.code yX7_tells cX7_tells 5 (some .int) :: T0) ({ frames := 0, cells := 0, slots := 0, locals := 0 }) (va_Pc [.ref h0, .int p0] (ax_W dC dI sz [(h0, .inr (7, [.ref m_tape, .int 0, .int 0, .int 0, .int 0, .int 0, .int 0, .int 0, .int (-1), .ref m_refused, .ref m_own, .int 0, .ref m_draft, .ref m_program, .ref m_goPlace, .int 0, .int 0, .ref m_isCome, .ref m_heap, .int 0, .ref m_now, .ref m_first, .ref m_second, .ref m_behind, .ref m_states, .int 0, .int 0, .int 0, .ref m_alone0, .ref m_endsBy, .ref m_kept0, .int 0, .int 0, .long 1]))] [])) (va_Qi (fun (r : Int32) (_ : Unit) => r = (-1)) (fun (_ : Unit) (t : State) => va_P (dC, dI) vwCl [] t.heap ∧ va_K (dC, dI) vwCl [] t ∧ va_D (va_A [(h0, .inr (7, [.ref m_tape, .int 0, .int 0, .int 0, .int 0, .int 0, .int 0, .int 0, .int (-1), .ref m_refused, .ref m_own, .int 0, .ref m_draft, .ref m_program, .ref m_goPlace, .int 0, .int 0, .ref m_isCome, .ref m_heap, .int 0, .ref m_now, .ref m_first, .ref m_second, .ref m_behind, .ref m_states, .int 0, .int 0, .int 0, .ref m_alone0, .ref m_endsBy, .ref m_kept0, .int 0, .int 0, .long 1]))] sz) []) (va_A [(h0, .inr (7, [.ref m_tape, .int 0, .int 0, .int 0, .int 0, .int 0, .int 0, .int 0, .int (-1), .ref m_refused, .ref m_own, .int 0, .ref m_draft, .ref m_program, .ref m_goPlace, .int 0, .int 0, .ref m_isCome, .ref m_heap, .int 0, .ref m_now, .ref m_first, .ref m_second, .ref m_behind, .ref m_states, .int 0, .int 0, .int 0, .ref m_alone0, .ref m_endsBy, .ref m_kept0, .int 0, .int 0, .long 1]))] sz)) 0 0 (va_A [(h0, .inr (7, [.ref m_tape, .int 0, .int 0, .int 0, .int 0, .int 0, .int 0, .int 0, .int (-1), .ref m_refused, .ref m_own, .int 0, .ref m_draft, .ref m_program, .ref m_goPlace, .int 0, .int 0, .ref m_isCome, .ref m_heap, .int 0, .ref m_now, .ref m_first, .ref m_second, .ref m_behind, .ref m_states, .int 0, .int 0, .int 0, .ref m_alone0, .ref m_endsBy, .ref m_kept0, .int 0, .int 0, .long 1]))] sz) := by
  refine Met.ofW (cc := cX7_tells) (maxL := 5) (ret := (some .int)) (by decide) rfl ?_
  intro p e s m args below meth c s₁ B hml hv
  obtain ⟨rfl, hsz, hP, hK, hD0, hN⟩ := hv
  have hx := B.exec
  have hb := B.bytes
  have hr := B.returns
  have hts : ∀ w ∈ T0, w.before _ s = true := fun w h => atoms_spec (ws := Cond.code yX7_tells cX7_tells 5 (some .int) :: T0) B.pre w (List.mem_cons_of_mem _ h)
  have hown : s.vm.findClass RX7 = some m.cls := findClass_of_methodNamed B.named
  have hlocks := B.notSynchronized
  subst hsz
  have hD := hD0.self (sz := s.heap.size)
  generalize hAe : va_A [(h0, .inr (7, [.ref m_tape, .int 0, .int 0, .int 0, .int 0, .int 0, .int 0, .int 0, .int (-1), .ref m_refused, .ref m_own, .int 0, .ref m_draft, .ref m_program, .ref m_goPlace, .int 0, .int 0, .ref m_isCome, .ref m_heap, .int 0, .ref m_now, .ref m_first, .ref m_second, .ref m_behind, .ref m_states, .int 0, .int 0, .int 0, .ref m_alone0, .ref m_endsBy, .ref m_kept0, .int 0, .int 0, .long 1]))] s.heap.size = A at hD ⊢
  have hA : ∀ q : Nat, s.heap.size ≤ q → A q := fun q h => by rw [← hAe]; exact Or.inr h
  have hS : va_S A s.heap s.heap [] := va_S.rf
  have hP : va_P (dC, dI) vwCl [(h0, .inr (7, [.ref m_tape, .int 0, .int 0, .int 0, .int 0, .int 0, .int 0, .int 0, .int (-1), .ref m_refused, .ref m_own, .int 0, .ref m_draft, .ref m_program, .ref m_goPlace, .int 0, .int 0, .ref m_isCome, .ref m_heap, .int 0, .ref m_now, .ref m_first, .ref m_second, .ref m_behind, .ref m_states, .int 0, .int 0, .int 0, .ref m_alone0, .ref m_endsBy, .ref m_kept0, .int 0, .int 0, .long 1]))] s.heap := hP
  have hl := lv_entry ([.ref h0, .int p0]) (n := 5) (Nat.le_of_ble_eq_true rfl)
  rw [lg_entry_eq]
  generalize (lg_sl ([.ref h0, .int p0]) ++ List.replicate (5 - (lg_sl ([.ref h0, .int p0])).length) Slot.unset).toArray = ls at hl ⊢
  refine ax_gen hP hD hS (fun H locs hP hD hS => ?_)
  have hl : lv_has ls 5 [(0, .ref h0), (1, .int p0)] := hl
  refine lv_aload_n hx hb dX7_tells_0 rfl (lv_at hl 0 rfl) ?_
  refine va_get (D := (dC, dI)) (ci := 7) (v := .int 0) (C := RX7) (T := TX7) (N := 34) hx hb hts inX7 hown hK hP 0 rfl rfl 15 (by decide) (hts _ T_196) (fun _ h9 => h9) rfl dX7_tells_1 ?_
  refine lv_if_eq (tgt := 17) hx hb dX7_tells_4 (by decide) (fun _ => ?_) (fun c => absurd (by decide) c)
  refine lv_iconst (v := (-1)) hx hb dX7_tells_17 (by decide) ?_
  have hP9 := hP.sub (ws' := []) [] rfl
  have hD9 := hD.sub (ws' := []) [] (by decide) rfl
  have hK9 := hK.sub (tys' := []) [] rfl
  exact W.iret (v := (-1)) hx hb hr (fun t ht hW => ⟨⟨(-1), (), rfl, rfl, by rw [ht]; exact hP9, va_K.moved hW.alike hK9, hD9⟩, hS.F ht⟩) hS.2.2 dX7_tells_18

set_option maxHeartbeats 4000000 in
set_option maxRecDepth 100000 in
theorem c_X7_kept (l : Launch) (dC : Nat → ClassId) (dI : Nat → Nat → Nat) (sz : Nat) (h0 : Nat) (m_tape : Nat) (m_refused : Nat) (m_own : Nat) (m_draft : Nat) (m_program : Nat) (m_goPlace : Nat) (m_isCome : Nat) (m_heap : Nat) (m_now : Nat) (m_first : Nat) (m_second : Nat) (m_behind : Nat) (m_states : Nat) (m_alone0 : Nat) (m_endsBy : Nat) (m_kept0 : Nat) (kn : ClassId) (p0 : Int32) (p1 : Int32) : Met l yX7_kept (Cond.code yX7_kept cX7_kept 3 (some .int) :: T0) ({ frames := 1, cells := 0, slots := 0, locals := 25 }) (va_Pc [.ref h0, .int p0, .int p1] (ax_W dC dI sz [(h0, .inr (7, [.ref m_tape, .int 0, .int 0, .int 0, .int 0, .int 0, .int 0, .int 0, .int (-1), .ref m_refused, .ref m_own, .int 0, .ref m_draft, .ref m_program, .ref m_goPlace, .int 0, .int 0, .ref m_isCome, .ref m_heap, .int 0, .ref m_now, .ref m_first, .ref m_second, .ref m_behind, .ref m_states, .int 0, .int 0, .int 0, .ref m_alone0, .ref m_endsBy, .ref m_kept0, .int 0, .int 0, .long 1])), (m_now, .inl (kn, 918, .inl (fun _ => 0)))] [(kn, .int)])) (va_Qi (fun (r : Int32) (_ : Unit) => r = (-1)) (fun (_ : Unit) (t : State) => va_P (dC, dI) vwCl [] t.heap ∧ va_K (dC, dI) vwCl [] t ∧ va_D (va_A [(h0, .inr (7, [.ref m_tape, .int 0, .int 0, .int 0, .int 0, .int 0, .int 0, .int 0, .int (-1), .ref m_refused, .ref m_own, .int 0, .ref m_draft, .ref m_program, .ref m_goPlace, .int 0, .int 0, .ref m_isCome, .ref m_heap, .int 0, .ref m_now, .ref m_first, .ref m_second, .ref m_behind, .ref m_states, .int 0, .int 0, .int 0, .ref m_alone0, .ref m_endsBy, .ref m_kept0, .int 0, .int 0, .long 1])), (m_now, .inl (kn, 918, .inl (fun _ => 0)))] sz) []) (va_A [(h0, .inr (7, [.ref m_tape, .int 0, .int 0, .int 0, .int 0, .int 0, .int 0, .int 0, .int (-1), .ref m_refused, .ref m_own, .int 0, .ref m_draft, .ref m_program, .ref m_goPlace, .int 0, .int 0, .ref m_isCome, .ref m_heap, .int 0, .ref m_now, .ref m_first, .ref m_second, .ref m_behind, .ref m_states, .int 0, .int 0, .int 0, .ref m_alone0, .ref m_endsBy, .ref m_kept0, .int 0, .int 0, .long 1])), (m_now, .inl (kn, 918, .inl (fun _ => 0)))] sz)) 0 0 (va_A [(h0, .inr (7, [.ref m_tape, .int 0, .int 0, .int 0, .int 0, .int 0, .int 0, .int 0, .int (-1), .ref m_refused, .ref m_own, .int 0, .ref m_draft, .ref m_program, .ref m_goPlace, .int 0, .int 0, .ref m_isCome, .ref m_heap, .int 0, .ref m_now, .ref m_first, .ref m_second, .ref m_behind, .ref m_states, .int 0, .int 0, .int 0, .ref m_alone0, .ref m_endsBy, .ref m_kept0, .int 0, .int 0, .long 1])), (m_now, .inl (kn, 918, .inl (fun _ => 0)))] sz) := by
  refine Met.ofW (cc := cX7_kept) (maxL := 3) (ret := (some .int)) (by decide) rfl ?_
  intro p e s m args below meth c s₁ B hml hv
  obtain ⟨rfl, hsz, hP, hK, hD0, hN⟩ := hv
  have hx := B.exec
  have hb := B.bytes
  have hr := B.returns
  have hts : ∀ w ∈ T0, w.before _ s = true := fun w h => atoms_spec (ws := Cond.code yX7_kept cX7_kept 3 (some .int) :: T0) B.pre w (List.mem_cons_of_mem _ h)
  have hown : s.vm.findClass RX7 = some m.cls := findClass_of_methodNamed B.named
  have hlocks := B.notSynchronized
  subst hsz
  have hD := hD0.self (sz := s.heap.size)
  generalize hAe : va_A [(h0, .inr (7, [.ref m_tape, .int 0, .int 0, .int 0, .int 0, .int 0, .int 0, .int 0, .int (-1), .ref m_refused, .ref m_own, .int 0, .ref m_draft, .ref m_program, .ref m_goPlace, .int 0, .int 0, .ref m_isCome, .ref m_heap, .int 0, .ref m_now, .ref m_first, .ref m_second, .ref m_behind, .ref m_states, .int 0, .int 0, .int 0, .ref m_alone0, .ref m_endsBy, .ref m_kept0, .int 0, .int 0, .long 1])), (m_now, .inl (kn, 918, .inl (fun _ => 0)))] s.heap.size = A at hD ⊢
  have hA : ∀ q : Nat, s.heap.size ≤ q → A q := fun q h => by rw [← hAe]; exact Or.inr h
  have hS : va_S A s.heap s.heap [] := va_S.rf
  have hP : va_P (dC, dI) vwCl [(h0, .inr (7, [.ref m_tape, .int 0, .int 0, .int 0, .int 0, .int 0, .int 0, .int 0, .int (-1), .ref m_refused, .ref m_own, .int 0, .ref m_draft, .ref m_program, .ref m_goPlace, .int 0, .int 0, .ref m_isCome, .ref m_heap, .int 0, .ref m_now, .ref m_first, .ref m_second, .ref m_behind, .ref m_states, .int 0, .int 0, .int 0, .ref m_alone0, .ref m_endsBy, .ref m_kept0, .int 0, .int 0, .long 1])), (m_now, .inl (kn, 918, .inl (fun _ => 0)))] s.heap := hP
  have hl := lv_entry ([.ref h0, .int p0, .int p1]) (n := 3) (Nat.le_of_ble_eq_true rfl)
  rw [lg_entry_eq]
  generalize (lg_sl ([.ref h0, .int p0, .int p1]) ++ List.replicate (3 - (lg_sl ([.ref h0, .int p0, .int p1])).length) Slot.unset).toArray = ls at hl ⊢
  refine ax_gen hP hD hS (fun H locs hP hD hS => ?_)
  have hl : lv_has ls 3 [(0, .ref h0), (1, .int p0), (2, .int p1)] := hl
  refine lv_iload_n hx hb dX7_kept_0 rfl (lv_at hl 1 rfl) ?_
  refine lv_i2l (v := p0.toInt64) hx hb dX7_kept_1 rfl ?_
  refine lv_lconst (v := 0) hx hb dX7_kept_2 (by decide) ?_
  refine lv_aload_n hx hb dX7_kept_3 rfl (lv_at hl 0 rfl) ?_
  refine va_get (D := (dC, dI)) (ci := 7) (v := .ref m_now) (C := RX7) (T := TX7) (N := 34) hx hb hts inX7 hown hK hP 0 rfl rfl 20 (by decide) (hts _ T_174) (fun _ h9 => h9) rfl dX7_kept_4 ?_
  refine lv_bipush (v := 7) hx hb dX7_kept_7 (by decide) ?_
  refine va_iald hx hb hK hP 1 0 rfl rfl (ax_in (by decide)) dX7_kept_9 ?_
  refine ax_eqi (y := 0) rfl ?_
  refine lv_iconst (v := 1) hx hb dX7_kept_10 (by decide) ?_
  refine lv_isub hx hb dX7_kept_11 ?_
  refine ax_eqi (y := (-1)) (by decide) ?_
  refine lv_i2l (v := (-1)) hx hb dX7_kept_12 (by decide) ?_
  have hPc := hP.sub (ws' := []) [] rfl
  have hDc := hD.sub (ws' := []) [] (by decide) rfl
  have hKc := hK.sub (tys' := []) [] rfl
  have hFc := va_free (wc := []) hD hS hA [] rfl
  refine va_calli (va_runS (As := [.long p0.toInt64, .long 0, .long (-1)]) (rest := []) ⟨hx, hb, hml, hown, hts⟩ (c_X7_isIn l dC dI H.size (p0.toInt64) 0 (-1)) (cwS 3 hts (ax_gS T_192 T_193 T_189 T_191) rfl rfl rfl (by decide +kernel) ⟨Nat.le_of_ble_eq_true rfl, Nat.le_of_ble_eq_true rfl⟩) ⟨fun a U g mk q => ⟨q.1, ax_pc rfl rfl q.2⟩, fun U hU hW => ⟨rfl, ax_pw hU hW hPc hKc hDc hN⟩⟩ rfl rfl hl.1 rfl (lv_room (Nat.le_of_ble_eq_true rfl)) dX7_kept_13 ⟨Nat.le_of_ble_eq_true rfl, Nat.le_of_ble_eq_true rfl⟩) hS (fun q _ h => hFc q h) hFc (fun r1 _ t H1 locs ht hvm hw hB hz1 hk1 hS => ?_)
  obtain ⟨hP1, hK1, hD1⟩ := hB
  rw [ht] at hP1
  have hK1 := va_K.moved hvm.symm hK1
  obtain ⟨hP, hD⟩ := va_join (wr := [(h0, .inr (7, [.ref m_tape, .int 0, .int 0, .int 0, .int 0, .int 0, .int 0, .int 0, .int (-1), .ref m_refused, .ref m_own, .int 0, .ref m_draft, .ref m_program, .ref m_goPlace, .int 0, .int 0, .ref m_isCome, .ref m_heap, .int 0, .ref m_now, .ref m_first, .ref m_second, .ref m_behind, .ref m_states, .int 0, .int 0, .int 0, .ref m_alone0, .ref m_endsBy, .ref m_kept0, .int 0, .int 0, .long 1])), (m_now, .inl (kn, 918, .inl (fun _ => 0)))]) (w1 := []) hP hD [] [0, 1] rfl rfl (by decide) (by decide) hk1 hFc hP1 hD1
  generalize H1 = H at hP hS ⊢
  have hP : va_P (dC, dI) vwCl [(h0, .inr (7, [.ref m_tape, .int 0, .int 0, .int 0, .int 0, .int 0, .int 0, .int 0, .int (-1), .ref m_refused, .ref m_own, .int 0, .ref m_draft, .ref m_program, .ref m_goPlace, .int 0, .int 0, .ref m_isCome, .ref m_heap, .int 0, .ref m_now, .ref m_first, .ref m_second, .ref m_behind, .ref m_states, .int 0, .int 0, .int 0, .ref m_alone0, .ref m_endsBy, .ref m_kept0, .int 0, .int 0, .long 1])), (m_now, .inl (kn, 918, .inl (fun _ => 0)))] H := hP
  have hD : va_D A [(h0, .inr (7, [.ref m_tape, .int 0, .int 0, .int 0, .int 0, .int 0, .int 0, .int 0, .int (-1), .ref m_refused, .ref m_own, .int 0, .ref m_draft, .ref m_program, .ref m_goPlace, .int 0, .int 0, .ref m_isCome, .ref m_heap, .int 0, .ref m_now, .ref m_first, .ref m_second, .ref m_behind, .ref m_states, .int 0, .int 0, .int 0, .ref m_alone0, .ref m_endsBy, .ref m_kept0, .int 0, .int 0, .long 1])), (m_now, .inl (kn, 918, .inl (fun _ => 0)))] := hD
  have er1 : r1 = a_isIn (p0.toInt64) 0 (-1) := hw
  refine lv_if_eq (tgt := 48) hx hb dX7_kept_16 (by decide) (fun _ => ?_) (fun c => absurd ((ax_isIn (m := 0) (n := (-1)) (by decide) (by decide) er1).mpr (by omega)) c)
  refine lv_iconst (v := (-1)) hx hb dX7_kept_48 (by decide) ?_
  have hP9 := hP.sub (ws' := []) [] rfl
  have hD9 := hD.sub (ws' := []) [] (by decide) rfl
  have hK9 := hK.sub (tys' := []) [] rfl
  exact W.iret (v := (-1)) hx hb hr (fun t ht hW => ⟨⟨(-1), (), rfl, rfl, by rw [ht]; exact hP9, va_K.moved hW.alike hK9, hD9⟩, hS.F ht⟩) hS.2.2 dX7_kept_49

