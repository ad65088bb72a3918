set_option maxHeartbeats 4000000 in
set_option maxRecDepth 100000 in
/-- feed: 20 -/
theorem c_X6_feed (l : Launch) (dC : Nat → ClassId) (dI : Nat → Nat → Nat) (sz : Nat) (h0 : Nat) (qt : Nat) (qr : Nat) (qc : Nat) (qs : Nat) (qn : Nat) (qp : Nat) (qm : Nat) (qf : Nat) (qx : Nat) (kt : ClassId) (p0 : Int32) (p1 : Int32) (p2 : Int32) (p3 : Int32) (p4 : Int32) : Met l yX6_feed (Cond.code yX6_feed cX6_feed 6 (some .int) :: T0) ({ frames := 1, cells := 0, slots := 0, locals := 22 }) (va_Pc [.ref h0, .int p0, .int p1, .int p2, .int p3, .int p4] (ax_W dC dI sz [(h0, .inr (6, [.ref qt, .int 0, .ref qr, .ref qc, .ref qs, .int 0, .ref qn, .ref qp, .int 0, .int 0, .ref qm, .ref qf, .ref qx, .long 1])), (qt, .inl (kt, 1600, .inl (fun _ => 0)))] [(kt, .byte)])) (va_Qi (fun (r : Int32) (_ : Unit) => r = 20) (fun (_ : Unit) (t : State) => va_P (dC, dI) vwCl [] t.heap ∧ va_K (dC, dI) vwCl [] t ∧ va_D (va_A [(h0, .inr (6, [.ref qt, .int 0, .ref qr, .ref qc, .ref qs, .int 0, .ref qn, .ref qp, .int 0, .int 0, .ref qm, .ref qf, .ref qx, .long 1])), (qt, .inl (kt, 1600, .inl (fun _ => 0)))] sz) []) (va_A [(h0, .inr (6, [.ref qt, .int 0, .ref qr, .ref qc, .ref qs, .int 0, .ref qn, .ref qp, .int 0, .int 0, .ref qm, .ref qf, .ref qx, .long 1])), (qt, .inl (kt, 1600, .inl (fun _ => 0)))] sz)) 0 0 (va_A [(h0, .inr (6, [.ref qt, .int 0, .ref qr, .ref qc, .ref qs, .int 0, .ref qn, .ref qp, .int 0, .int 0, .ref qm, .ref qf, .ref qx, .long 1])), (qt, .inl (kt, 1600, .inl (fun _ => 0)))] sz) := by
  refine Met.ofW (cc := cX6_feed) (maxL := 6) (ret := (some .int)) (by decide) rfl ?_
  intro p e s m args below meth c s₁ B hml hv
  obtain ⟨rfl, hsz, hP, hK, hD0, hN⟩ := hv
  have hx := B.exec
  have hb := B.bytes
  have hr := B.returns
  have hts : ∀ w ∈ T0, w.before _ s = true := fun w h => atoms_spec (ws := Cond.code yX6_feed cX6_feed 6 (some .int) :: T0) B.pre w (List.mem_cons_of_mem _ h)
  have hown : s.vm.findClass RX6 = some m.cls := findClass_of_methodNamed B.named
  have hlocks := B.notSynchronized
  subst hsz
  have hD := hD0.self (sz := s.heap.size)
  generalize hAe : va_A [(h0, .inr (6, [.ref qt, .int 0, .ref qr, .ref qc, .ref qs, .int 0, .ref qn, .ref qp, .int 0, .int 0, .ref qm, .ref qf, .ref qx, .long 1])), (qt, .inl (kt, 1600, .inl (fun _ => 0)))] s.heap.size = A at hD ⊢
  have hA : ∀ q : Nat, s.heap.size ≤ q → A q := fun q h => by rw [← hAe]; exact Or.inr h
  have hS : va_S A s.heap s.heap [] := va_S.rf
  have hP : va_P (dC, dI) vwCl [(h0, .inr (6, [.ref qt, .int 0, .ref qr, .ref qc, .ref qs, .int 0, .ref qn, .ref qp, .int 0, .int 0, .ref qm, .ref qf, .ref qx, .long 1])), (qt, .inl (kt, 1600, .inl (fun _ => 0)))] s.heap := hP
  have hl := lv_entry ([.ref h0, .int p0, .int p1, .int p2, .int p3, .int p4]) (n := 6) (Nat.le_of_ble_eq_true rfl)
  rw [lg_entry_eq]
  generalize (lg_sl ([.ref h0, .int p0, .int p1, .int p2, .int p3, .int p4]) ++ List.replicate (6 - (lg_sl ([.ref h0, .int p0, .int p1, .int p2, .int p3, .int p4])).length) Slot.unset).toArray = ls at hl ⊢
  refine ax_gen hP hD hS (fun H locs hP hD hS => ?_)
  have hl : lv_has ls 6 [(0, .ref h0), (1, .int p0), (2, .int p1), (3, .int p2), (4, .int p3), (5, .int p4)] := hl
  refine lv_aload_n hx hb dX6_feed_0 rfl (lv_at hl 0 rfl) ?_
  refine va_get (D := (dC, dI)) (ci := 6) (v := .int 0) (C := RX6) (T := TX6) (N := 14) hx hb hts inX6 hown hK hP 0 rfl rfl 1 (by decide) (hts _ T_101) (fun _ h9 => h9) rfl dX6_feed_1 ?_
  refine lv_bipush (v := 20) hx hb dX6_feed_4 (by decide) ?_
  refine lv_iadd hx hb dX6_feed_6 ?_
  refine ax_eqi (y := 20) (by decide) ?_
  refine lv_sipush (v := 1600) hx hb dX6_feed_7 (by decide) ?_
  refine lv_icmp_le (tgt := 19) hx hb dX6_feed_10 (by decide) (fun _ => ?_) (fun c => absurd (by decide) c)
  refine lv_aload_n hx hb dX6_feed_19 rfl (lv_at hl 0 rfl) ?_
  refine lv_iload_n hx hb dX6_feed_20 rfl (lv_at hl 1 rfl) ?_
  have hPc := hP.sub (ws' := [(h0, .inr (6, [.ref qt, .int 0, .ref qr, .ref qc, .ref qs, .int 0, .ref qn, .ref qp, .int 0, .int 0, .ref qm, .ref qf, .ref qx, .long 1])), (qt, .inl (kt, 1600, .inl (fun _ => 0)))]) [0, 1] rfl
  have hDc := hD.sub (ws' := [(h0, .inr (6, [.ref qt, .int 0, .ref qr, .ref qc, .ref qs, .int 0, .ref qn, .ref qp, .int 0, .int 0, .ref qm, .ref qf, .ref qx, .long 1])), (qt, .inl (kt, 1600, .inl (fun _ => 0)))]) [0, 1] (by decide) rfl
  have hKc := hK.sub (tys' := [(kt, .byte)]) [0] rfl
  have hFc := va_free (wc := [(h0, .inr (6, [.ref qt, .int 0, .ref qr, .ref qc, .ref qs, .int 0, .ref qn, .ref qp, .int 0, .int 0, .ref qm, .ref qf, .ref qx, .long 1])), (qt, .inl (kt, 1600, .inl (fun _ => 0)))]) hD hS hA [0, 1] rfl
  refine va_callv (va_runV (As := [.int p0]) (rest := []) ⟨hx, hb, hml, hown, hts⟩ (c_X6_layBytes_0 l dC dI H.size h0 qt qr qc qs qn qp qm qf qx kt (fun _ => 0) p0) (cwV 1 hts (ax_gV T_103 T_104 T_105 T_106 T_102) rfl rfl rfl (by decide +kernel) ⟨Nat.le_of_ble_eq_true rfl, Nat.le_of_ble_eq_true rfl⟩) ⟨fun a U g mk q => ⟨q.1, ax_pc rfl rfl q.2⟩, va_recv hKc hPc (ci := 6) (q0 := 0) rfl rfl, fun U hU hW => ⟨rfl, ax_pw hU hW hPc hKc hDc hN⟩⟩ rfl rfl hl.1 rfl (lv_room (Nat.le_of_ble_eq_true rfl)) dX6_feed_21 ⟨Nat.le_of_ble_eq_true rfl, Nat.le_of_ble_eq_true rfl⟩) hS (fun q _ h => hFc q h) hFc (fun _ t H1 locs ht hvm hw hB hz1 hk1 hS => ?_)
  obtain ⟨f1, hP1, hK1, hD1⟩ := hB
  rw [ht] at hP1
  have hK1 := va_K.moved hvm.symm hK1
  obtain ⟨hP, hD⟩ := va_join (wr := []) (w1 := [(h0, .inr (6, [.ref qt, .int 4, .ref qr, .ref qc, .ref qs, .int 0, .ref qn, .ref qp, .int 0, .int 0, .ref qm, .ref qf, .ref qx, .long 1])), (qt, .inl (kt, 1600, .inl f1))]) hP hD [0, 1] [] rfl rfl (by decide) (by decide) hk1 hFc hP1 hD1
  generalize H1 = H at hP hS ⊢
  have hP : va_P (dC, dI) vwCl [(h0, .inr (6, [.ref qt, .int 4, .ref qr, .ref qc, .ref qs, .int 0, .ref qn, .ref qp, .int 0, .int 0, .ref qm, .ref qf, .ref qx, .long 1])), (qt, .inl (kt, 1600, .inl f1))] H := hP
  have hD : va_D A [(h0, .inr (6, [.ref qt, .int 4, .ref qr, .ref qc, .ref qs, .int 0, .ref qn, .ref qp, .int 0, .int 0, .ref qm, .ref qf, .ref qx, .long 1])), (qt, .inl (kt, 1600, .inl f1))] := hD
  refine lv_aload_n hx hb dX6_feed_24 rfl (lv_at hl 0 rfl) ?_
  refine lv_iload_n hx hb dX6_feed_25 rfl (lv_at hl 2 rfl) ?_
  have hPc := hP.sub (ws' := [(h0, .inr (6, [.ref qt, .int 4, .ref qr, .ref qc, .ref qs, .int 0, .ref qn, .ref qp, .int 0, .int 0, .ref qm, .ref qf, .ref qx, .long 1])), (qt, .inl (kt, 1600, .inl f1))]) [0, 1] rfl
  have hDc := hD.sub (ws' := [(h0, .inr (6, [.ref qt, .int 4, .ref qr, .ref qc, .ref qs, .int 0, .ref qn, .ref qp, .int 0, .int 0, .ref qm, .ref qf, .ref qx, .long 1])), (qt, .inl (kt, 1600, .inl f1))]) [0, 1] (by decide) rfl
  have hKc := hK.sub (tys' := [(kt, .byte)]) [0] rfl
  have hFc := va_free (wc := [(h0, .inr (6, [.ref qt, .int 4, .ref qr, .ref qc, .ref qs, .int 0, .ref qn, .ref qp, .int 0, .int 0, .ref qm, .ref qf, .ref qx, .long 1])), (qt, .inl (kt, 1600, .inl f1))]) hD hS hA [0, 1] rfl
  refine va_callv (va_runV (As := [.int p1]) (rest := []) ⟨hx, hb, hml, hown, hts⟩ (c_X6_layBytes_4 l dC dI H.size h0 qt qr qc qs qn qp qm qf qx kt f1 p1) (cwV 1 hts (ax_gV T_103 T_104 T_105 T_106 T_102) rfl rfl rfl (by decide +kernel) ⟨Nat.le_of_ble_eq_true rfl, Nat.le_of_ble_eq_true rfl⟩) ⟨fun a U g mk q => ⟨q.1, ax_pc rfl rfl q.2⟩, va_recv hKc hPc (ci := 6) (q0 := 0) rfl rfl, fun U hU hW => ⟨rfl, ax_pw hU hW hPc hKc hDc hN⟩⟩ rfl rfl hl.1 rfl (lv_room (Nat.le_of_ble_eq_true rfl)) dX6_feed_26 ⟨Nat.le_of_ble_eq_true rfl, Nat.le_of_ble_eq_true rfl⟩) hS (fun q _ h => hFc q h) hFc (fun _ t H1 locs ht hvm hw hB hz1 hk1 hS => ?_)
  obtain ⟨f2, hP1, hK1, hD1⟩ := hB
  rw [ht] at hP1
  have hK1 := va_K.moved hvm.symm hK1
  obtain ⟨hP, hD⟩ := va_join (wr := []) (w1 := [(h0, .inr (6, [.ref qt, .int 8, .ref qr, .ref qc, .ref qs, .int 0, .ref qn, .ref qp, .int 0, .int 0, .ref qm, .ref qf, .ref qx, .long 1])), (qt, .inl (kt, 1600, .inl f2))]) hP hD [0, 1] [] rfl rfl (by decide) (by decide) hk1 hFc hP1 hD1
  generalize H1 = H at hP hS ⊢
  have hP : va_P (dC, dI) vwCl [(h0, .inr (6, [.ref qt, .int 8, .ref qr, .ref qc, .ref qs, .int 0, .ref qn, .ref qp, .int 0, .int 0, .ref qm, .ref qf, .ref qx, .long 1])), (qt, .inl (kt, 1600, .inl f2))] H := hP
  have hD : va_D A [(h0, .inr (6, [.ref qt, .int 8, .ref qr, .ref qc, .ref qs, .int 0, .ref qn, .ref qp, .int 0, .int 0, .ref qm, .ref qf, .ref qx, .long 1])), (qt, .inl (kt, 1600, .inl f2))] := hD
  refine lv_aload_n hx hb dX6_feed_29 rfl (lv_at hl 0 rfl) ?_
  refine lv_iload_n hx hb dX6_feed_30 rfl (lv_at hl 3 rfl) ?_
  have hPc := hP.sub (ws' := [(h0, .inr (6, [.ref qt, .int 8, .ref qr, .ref qc, .ref qs, .int 0, .ref qn, .ref qp, .int 0, .int 0, .ref qm, .ref qf, .ref qx, .long 1])), (qt, .inl (kt, 1600, .inl f2))]) [0, 1] rfl
  have hDc := hD.sub (ws' := [(h0, .inr (6, [.ref qt, .int 8, .ref qr, .ref qc, .ref qs, .int 0, .ref qn, .ref qp, .int 0, .int 0, .ref qm, .ref qf, .ref qx, .long 1])), (qt, .inl (kt, 1600, .inl f2))]) [0, 1] (by decide) rfl
  have hKc := hK.sub (tys' := [(kt, .byte)]) [0] rfl
  have hFc := va_free (wc := [(h0, .inr (6, [.ref qt, .int 8, .ref qr, .ref qc, .ref qs, .int 0, .ref qn, .ref qp, .int 0, .int 0, .ref qm, .ref qf, .ref qx, .long 1])), (qt, .inl (kt, 1600, .inl f2))]) hD hS hA [0, 1] rfl
  refine va_callv (va_runV (As := [.int p2]) (rest := []) ⟨hx, hb, hml, hown, hts⟩ (c_X6_layBytes_8 l dC dI H.size h0 qt qr qc qs qn qp qm qf qx kt f2 p2) (cwV 1 hts (ax_gV T_103 T_104 T_105 T_106 T_102) rfl rfl rfl (by decide +kernel) ⟨Nat.le_of_ble_eq_true rfl, Nat.le_of_ble_eq_true rfl⟩) ⟨fun a U g mk q => ⟨q.1, ax_pc rfl rfl q.2⟩, va_recv hKc hPc (ci := 6) (q0 := 0) rfl rfl, fun U hU hW => ⟨rfl, ax_pw hU hW hPc hKc hDc hN⟩⟩ rfl rfl hl.1 rfl (lv_room (Nat.le_of_ble_eq_true rfl)) dX6_feed_31 ⟨Nat.le_of_ble_eq_true rfl, Nat.le_of_ble_eq_true rfl⟩) hS (fun q _ h => hFc q h) hFc (fun _ t H1 locs ht hvm hw hB hz1 hk1 hS => ?_)
  obtain ⟨f3, hP1, hK1, hD1⟩ := hB
  rw [ht] at hP1
  have hK1 := va_K.moved hvm.symm hK1
  obtain ⟨hP, hD⟩ := va_join (wr := []) (w1 := [(h0, .inr (6, [.ref qt, .int 12, .ref qr, .ref qc, .ref qs, .int 0, .ref qn, .ref qp, .int 0, .int 0, .ref qm, .ref qf, .ref qx, .long 1])), (qt, .inl (kt, 1600, .inl f3))]) hP hD [0, 1] [] rfl rfl (by decide) (by decide) hk1 hFc hP1 hD1
  generalize H1 = H at hP hS ⊢
  have hP : va_P (dC, dI) vwCl [(h0, .inr (6, [.ref qt, .int 12, .ref qr, .ref qc, .ref qs, .int 0, .ref qn, .ref qp, .int 0, .int 0, .ref qm, .ref qf, .ref qx, .long 1])), (qt, .inl (kt, 1600, .inl f3))] H := hP
  have hD : va_D A [(h0, .inr (6, [.ref qt, .int 12, .ref qr, .ref qc, .ref qs, .int 0, .ref qn, .ref qp, .int 0, .int 0, .ref qm, .ref qf, .ref qx, .long 1])), (qt, .inl (kt, 1600, .inl f3))] := hD
  refine lv_aload_n hx hb dX6_feed_34 rfl (lv_at hl 0 rfl) ?_
  refine lv_iload hx hb dX6_feed_35 (lv_at hl 4 rfl) ?_
  have hPc := hP.sub (ws' := [(h0, .inr (6, [.ref qt, .int 12, .ref qr, .ref qc, .ref qs, .int 0, .ref qn, .ref qp, .int 0, .int 0, .ref qm, .ref qf, .ref qx, .long 1])), (qt, .inl (kt, 1600, .inl f3))]) [0, 1] rfl
  have hDc := hD.sub (ws' := [(h0, .inr (6, [.ref qt, .int 12, .ref qr, .ref qc, .ref qs, .int 0, .ref qn, .ref qp, .int 0, .int 0, .ref qm, .ref qf, .ref qx, .long 1])), (qt, .inl (kt, 1600, .inl f3))]) [0, 1] (by decide) rfl
  have hKc := hK.sub (tys' := [(kt, .byte)]) [0] rfl
  have hFc := va_free (wc := [(h0, .inr (6, [.ref qt, .int 12, .ref qr, .ref qc, .ref qs, .int 0, .ref qn, .ref qp, .int 0, .int 0, .ref qm, .ref qf, .ref qx, .long 1])), (qt, .inl (kt, 1600, .inl f3))]) hD hS hA [0, 1] rfl
  refine va_callv (va_runV (As := [.int p3]) (rest := []) ⟨hx, hb, hml, hown, hts⟩ (c_X6_layBytes_12 l dC dI H.size h0 qt qr qc qs qn qp qm qf qx kt f3 p3) (cwV 1 hts (ax_gV T_103 T_104 T_105 T_106 T_102) rfl rfl rfl (by decide +kernel) ⟨Nat.le_of_ble_eq_true rfl, Nat.le_of_ble_eq_true rfl⟩) ⟨fun a U g mk q => ⟨q.1, ax_pc rfl rfl q.2⟩, va_recv hKc hPc (ci := 6) (q0 := 0) rfl rfl, fun U hU hW => ⟨rfl, ax_pw hU hW hPc hKc hDc hN⟩⟩ rfl rfl hl.1 rfl (lv_room (Nat.le_of_ble_eq_true rfl)) dX6_feed_37 ⟨Nat.le_of_ble_eq_true rfl, Nat.le_of_ble_eq_true rfl⟩) hS (fun q _ h => hFc q h) hFc (fun _ t H1 locs ht hvm hw hB hz1 hk1 hS => ?_)
  obtain ⟨f4, hP1, hK1, hD1⟩ := hB
  rw [ht] at hP1
  have hK1 := va_K.moved hvm.symm hK1
  obtain ⟨hP, hD⟩ := va_join (wr := []) (w1 := [(h0, .inr (6, [.ref qt, .int 16, .ref qr, .ref qc, .ref qs, .int 0, .ref qn, .ref qp, .int 0, .int 0, .ref qm, .ref qf, .ref qx, .long 1])), (qt, .inl (kt, 1600, .inl f4))]) hP hD [0, 1] [] rfl rfl (by decide) (by decide) hk1 hFc hP1 hD1
  generalize H1 = H at hP hS ⊢
  have hP : va_P (dC, dI) vwCl [(h0, .inr (6, [.ref qt, .int 16, .ref qr, .ref qc, .ref qs, .int 0, .ref qn, .ref qp, .int 0, .int 0, .ref qm, .ref qf, .ref qx, .long 1])), (qt, .inl (kt, 1600, .inl f4))] H := hP
  have hD : va_D A [(h0, .inr (6, [.ref qt, .int 16, .ref qr, .ref qc, .ref qs, .int 0, .ref qn, .ref qp, .int 0, .int 0, .ref qm, .ref qf, .ref qx, .long 1])), (qt, .inl (kt, 1600, .inl f4))] := hD
  refine lv_aload_n hx hb dX6_feed_40 rfl (lv_at hl 0 rfl) ?_
  refine lv_iload hx hb dX6_feed_41 (lv_at hl 5 rfl) ?_
  have hPc := hP.sub (ws' := [(h0, .inr (6, [.ref qt, .int 16, .ref qr, .ref qc, .ref qs, .int 0, .ref qn, .ref qp, .int 0, .int 0, .ref qm, .ref qf, .ref qx, .long 1])), (qt, .inl (kt, 1600, .inl f4))]) [0, 1] rfl
  have hDc := hD.sub (ws' := [(h0, .inr (6, [.ref qt, .int 16, .ref qr, .ref qc, .ref qs, .int 0, .ref qn, .ref qp, .int 0, .int 0, .ref qm, .ref qf, .ref qx, .long 1])), (qt, .inl (kt, 1600, .inl f4))]) [0, 1] (by decide) rfl
  have hKc := hK.sub (tys' := [(kt, .byte)]) [0] rfl
  have hFc := va_free (wc := [(h0, .inr (6, [.ref qt, .int 16, .ref qr, .ref qc, .ref qs, .int 0, .ref qn, .ref qp, .int 0, .int 0, .ref qm, .ref qf, .ref qx, .long 1])), (qt, .inl (kt, 1600, .inl f4))]) hD hS hA [0, 1] rfl
  refine va_callv (va_runV (As := [.int p4]) (rest := []) ⟨hx, hb, hml, hown, hts⟩ (c_X6_layBytes_16 l dC dI H.size h0 qt qr qc qs qn qp qm qf qx kt f4 p4) (cwV 1 hts (ax_gV T_103 T_104 T_105 T_106 T_102) rfl rfl rfl (by decide +kernel) ⟨Nat.le_of_ble_eq_true rfl, Nat.le_of_ble_eq_true rfl⟩) ⟨fun a U g mk q => ⟨q.1, ax_pc rfl rfl q.2⟩, va_recv hKc hPc (ci := 6) (q0 := 0) rfl rfl, fun U hU hW => ⟨rfl, ax_pw hU hW hPc hKc hDc hN⟩⟩ rfl rfl hl.1 rfl (lv_room (Nat.le_of_ble_eq_true rfl)) dX6_feed_43 ⟨Nat.le_of_ble_eq_true rfl, Nat.le_of_ble_eq_true rfl⟩) hS (fun q _ h => hFc q h) hFc (fun _ t H1 locs ht hvm hw hB hz1 hk1 hS => ?_)
  obtain ⟨f5, hP1, hK1, hD1⟩ := hB
  rw [ht] at hP1
  have hK1 := va_K.moved hvm.symm hK1
  obtain ⟨hP, hD⟩ := va_join (wr := []) (w1 := [(h0, .inr (6, [.ref qt, .int 20, .ref qr, .ref qc, .ref qs, .int 0, .ref qn, .ref qp, .int 0, .int 0, .ref qm, .ref qf, .ref qx, .long 1])), (qt, .inl (kt, 1600, .inl f5))]) hP hD [0, 1] [] rfl rfl (by decide) (by decide) hk1 hFc hP1 hD1
  generalize H1 = H at hP hS ⊢
  have hP : va_P (dC, dI) vwCl [(h0, .inr (6, [.ref qt, .int 20, .ref qr, .ref qc, .ref qs, .int 0, .ref qn, .ref qp, .int 0, .int 0, .ref qm, .ref qf, .ref qx, .long 1])), (qt, .inl (kt, 1600, .inl f5))] H := hP
  have hD : va_D A [(h0, .inr (6, [.ref qt, .int 20, .ref qr, .ref qc, .ref qs, .int 0, .ref qn, .ref qp, .int 0, .int 0, .ref qm, .ref qf, .ref qx, .long 1])), (qt, .inl (kt, 1600, .inl f5))] := hD
  refine lv_aload_n hx hb dX6_feed_46 rfl (lv_at hl 0 rfl) ?_
  refine va_get (D := (dC, dI)) (ci := 6) (v := .int 20) (C := RX6) (T := TX6) (N := 14) hx hb hts inX6 hown hK hP 0 rfl rfl 1 (by decide) (hts _ T_101) (fun _ h9 => h9) rfl dX6_feed_47 ?_
  have hP9 := hP.sub (ws' := []) [] rfl
  have hD9 := hD.sub (ws' := []) [] (by decide) rfl
  have hK9 := hK.sub (tys' := []) [] rfl
  exact W.iret (v := 20) hx hb hr (fun t ht hW => ⟨⟨20, (), rfl, rfl, by rw [ht]; exact hP9, va_K.moved hW.alike hK9, hD9⟩, hS.F ht⟩) hS.2.2 dX6_feed_50

set_option maxHeartbeats 4000000 in
set_option maxRecDepth 100000 in
/-- end -/
theorem c_X6_end (l : Launch) (dC : Nat → ClassId) (dI : Nat → Nat → Nat) (sz : Nat) (h0 : Nat) (qt : Nat) (qr : Nat) (qc : Nat) (qs : Nat) (qn : Nat) (qp : Nat) (qm : Nat) (qf : Nat) (qx : Nat) (kr : ClassId) (p0 : Int32) : Met l yX6_end (Cond.code yX6_end cX6_end 2 (some .boolean) :: T0) ({ frames := 1, cells := 0, slots := 0, locals := 21 }) (va_Pc [.ref h0, .int p0] (ax_W dC dI sz [(h0, .inr (6, [.ref qt, .int 0, .ref qr, .ref qc, .ref qs, .int 0, .ref qn, .ref qp, .int 0, .int 0, .ref qm, .ref qf, .ref qx, .long 1])), (qx, .inl (kr, 6, .inl (fun _ => 0)))] [(kr, .int)])) (va_Qi (fun (r : Int32) (_ : Unit) => r = a_end p0) (fun (_ : Unit) (t : State) => va_P (dC, dI) vwCl [] t.heap ∧ va_K (dC, dI) vwCl [] t ∧ va_D (va_A [(h0, .inr (6, [.ref qt, .int 0, .ref qr, .ref qc, .ref qs, .int 0, .ref qn, .ref qp, .int 0, .int 0, .ref qm, .ref qf, .ref qx, .long 1])), (qx, .inl (kr, 6, .inl (fun _ => 0)))] sz) []) (va_A [(h0, .inr (6, [.ref qt, .int 0, .ref qr, .ref qc, .ref qs, .int 0, .ref qn, .ref qp, .int 0, .int 0, .ref qm, .ref qf, .ref qx, .long 1])), (qx, .inl (kr, 6, .inl (fun _ => 0)))] sz)) 0 0 (va_A [(h0, .inr (6, [.ref qt, .int 0, .ref qr, .ref qc, .ref qs, .int 0, .ref qn, .ref qp, .int 0, .int 0, .ref qm, .ref qf, .ref qx, .long 1])), (qx, .inl (kr, 6, .inl (fun _ => 0)))] sz) := by
  refine Met.ofW (cc := cX6_end) (maxL := 2) (ret := (some .boolean)) (by decide) rfl ?_
  intro p e s m args below meth c s₁ B hml hv
  obtain ⟨rfl, hsz, hP, hK, hD0, hN⟩ := hv
  have hx := B.exec
  have hb := B.bytes
  have hr := B.returns
  have hts : ∀ w ∈ T0, w.before _ s = true := fun w h => atoms_spec (ws := Cond.code yX6_end cX6_end 2 (some .boolean) :: T0) B.pre w (List.mem_cons_of_mem _ h)
  have hown : s.vm.findClass RX6 = some m.cls := findClass_of_methodNamed B.named
  have hlocks := B.notSynchronized
  subst hsz
  have hD := hD0.self (sz := s.heap.size)
  generalize hAe : va_A [(h0, .inr (6, [.ref qt, .int 0, .ref qr, .ref qc, .ref qs, .int 0, .ref qn, .ref qp, .int 0, .int 0, .ref qm, .ref qf, .ref qx, .long 1])), (qx, .inl (kr, 6, .inl (fun _ => 0)))] s.heap.size = A at hD ⊢
  have hA : ∀ q : Nat, s.heap.size ≤ q → A q := fun q h => by rw [← hAe]; exact Or.inr h
  have hS : va_S A s.heap s.heap [] := va_S.rf
  have hP : va_P (dC, dI) vwCl [(h0, .inr (6, [.ref qt, .int 0, .ref qr, .ref qc, .ref qs, .int 0, .ref qn, .ref qp, .int 0, .int 0, .ref qm, .ref qf, .ref qx, .long 1])), (qx, .inl (kr, 6, .inl (fun _ => 0)))] s.heap := hP
  have hl := lv_entry ([.ref h0, .int p0]) (n := 2) (Nat.le_of_ble_eq_true rfl)
  rw [lg_entry_eq]
  generalize (lg_sl ([.ref h0, .int p0]) ++ List.replicate (2 - (lg_sl ([.ref h0, .int p0])).length) Slot.unset).toArray = ls at hl ⊢
  refine ax_gen hP hD hS (fun H locs hP hD hS => ?_)
  have hl : lv_has ls 2 [(0, .ref h0), (1, .int p0)] := hl
  refine lv_iload_n hx hb dX6_end_0 rfl (lv_at hl 1 rfl) ?_
  refine lv_if_lt (tgt := 12) hx hb dX6_end_1 (by decide) (fun c1 => ?_) (fun c1 => ?_)
  · refine lv_aload_n hx hb dX6_end_12 rfl (lv_at hl 0 rfl) ?_
    refine lv_iconst (v := 0) hx hb dX6_end_13 (by decide) ?_
    have hPc := hP.sub (ws' := [(h0, .inr (6, [.ref qt, .int 0, .ref qr, .ref qc, .ref qs, .int 0, .ref qn, .ref qp, .int 0, .int 0, .ref qm, .ref qf, .ref qx, .long 1])), (qx, .inl (kr, 6, .inl (fun _ => 0)))]) [0, 1] rfl
    have hDc := hD.sub (ws' := [(h0, .inr (6, [.ref qt, .int 0, .ref qr, .ref qc, .ref qs, .int 0, .ref qn, .ref qp, .int 0, .int 0, .ref qm, .ref qf, .ref qx, .long 1])), (qx, .inl (kr, 6, .inl (fun _ => 0)))]) [0, 1] (by decide) rfl
    have hKc := hK.sub (tys' := [(kr, .int)]) [0] rfl
    have hFc := va_free (wc := [(h0, .inr (6, [.ref qt, .int 0, .ref qr, .ref qc, .ref qs, .int 0, .ref qn, .ref qp, .int 0, .int 0, .ref qm, .ref qf, .ref qx, .long 1])), (qx, .inl (kr, 6, .inl (fun _ => 0)))]) hD hS hA [0, 1] rfl
    refine va_calli (va_runV (As := [.int 0]) (rest := []) ⟨hx, hb, hml, hown, hts⟩ (c_X6_refuse l dC dI H.size h0 qt qr qc qs qn qp qm qf qx kr (fun _ => 0) 0 (ax_in (by decide))) (cwV 1 hts (ax_gV T_108 T_109 T_110 T_106 T_107) rfl rfl rfl (by decide +kernel) ⟨Nat.le_of_ble_eq_true rfl, Nat.le_of_ble_eq_true rfl⟩) ⟨fun a U g mk q => ⟨q.1, ax_pc rfl rfl q.2⟩, va_recv hKc hPc (ci := 6) (q0 := 0) rfl rfl, fun U hU hW => ⟨rfl, ax_pw hU hW hPc hKc hDc hN⟩⟩ rfl rfl hl.1 rfl (lv_room (Nat.le_of_ble_eq_true rfl)) dX6_end_14 ⟨Nat.le_of_ble_eq_true rfl, Nat.le_of_ble_eq_true rfl⟩) hS (fun q _ h => hFc q h) hFc (fun r2 _ t H1 locs ht hvm hw hB hz1 hk1 hS => ?_)
    obtain ⟨hP1, hK1, hD1⟩ := hB
    rw [ht] at hP1
    have hK1 := va_K.moved hvm.symm hK1
    obtain ⟨hP, hD⟩ := va_join (wr := []) (w1 := []) hP hD [0, 1] [] rfl rfl (by decide) (by decide) hk1 hFc hP1 hD1
    generalize H1 = H at hP hS ⊢
    have hP : va_P (dC, dI) vwCl [] H := hP
    have hD : va_D A [] := hD
    subst hw
    refine lv_pop hx hb dX6_end_17 rfl ?_
    refine lv_iconst (v := 0) hx hb dX6_end_18 (by decide) ?_
    have hP9 := hP.sub (ws' := []) [] rfl
    have hD9 := hD.sub (ws' := []) [] (by decide) rfl
    have hK9 := hK.sub (tys' := []) [] rfl
    exact W.zret (v := 0) (ty := .boolean) hx hb hr (by decide) (fun t ht hW => ⟨⟨0, (), rfl, (by have h_0 := (ax_lt (n := 0) (by decide)).mp c1; unfold a_end; first | (rw [if_pos (by omega)]; done) | (rw [if_neg (by omega)]; done)), by rw [ht]; exact hP9, va_K.moved hW.alike hK9, hD9⟩, hS.F ht⟩) hS.2.2 dX6_end_19
  · refine lv_iload_n hx hb dX6_end_4 rfl (lv_at hl 1 rfl) ?_
    refine lv_aload_n hx hb dX6_end_5 rfl (lv_at hl 0 rfl) ?_
    refine va_get (D := (dC, dI)) (ci := 6) (v := .int 0) (C := RX6) (T := TX6) (N := 14) hx hb hts inX6 hown hK hP 0 rfl rfl 1 (by decide) (hts _ T_101) (fun _ h9 => h9) rfl dX6_end_6 ?_
    refine lv_icmp_le (tgt := 20) hx hb dX6_end_9 (by decide) (fun c3 => ?_) (fun c3 => ?_)
    · refine lv_aload_n hx hb dX6_end_20 rfl (lv_at hl 0 rfl) ?_
      refine lv_iload_n hx hb dX6_end_21 rfl (lv_at hl 1 rfl) ?_
      refine va_put (D := (dC, dI)) (ci := 6) (v := .int p0) (ty := .int) (C := RX6) (T := TX6) (N := 14) hx hb hts inX6 tyX6 tyX6_ok nmX6 hown hK hP hD hS 0 rfl rfl 1 (by decide) (hts _ T_101) (fun _ h9 => h9) rfl (by decide +kernel) rfl rfl (Nat.le_of_ble_eq_true rfl) dX6_end_22 (fun H locs hP hD hS => ?_)
      have hP : va_P (dC, dI) vwCl [(h0, .inr (6, [.ref qt, .int p0, .ref qr, .ref qc, .ref qs, .int 0, .ref qn, .ref qp, .int 0, .int 0, .ref qm, .ref qf, .ref qx, .long 1])), (qx, .inl (kr, 6, .inl (fun _ => 0)))] H := hP
      have hD : va_D A [(h0, .inr (6, [.ref qt, .int p0, .ref qr, .ref qc, .ref qs, .int 0, .ref qn, .ref qp, .int 0, .int 0, .ref qm, .ref qf, .ref qx, .long 1])), (qx, .inl (kr, 6, .inl (fun _ => 0)))] := hD
      refine lv_iconst (v := 1) hx hb dX6_end_25 (by decide) ?_
      have hP9 := hP.sub (ws' := []) [] rfl
      have hD9 := hD.sub (ws' := []) [] (by decide) rfl
      have hK9 := hK.sub (tys' := []) [] rfl
      exact W.zret (v := 1) (ty := .boolean) hx hb hr (by decide) (fun t ht hW => ⟨⟨1, (), rfl, (by have h_0 := mt (ax_lt (n := 0) (by decide)).mpr c1; have h_1 := (ax_le (n := 0) (by decide)).mp c3; unfold a_end; first | (rw [if_pos (by omega)]; done) | (rw [if_neg (by omega)]; done)), by rw [ht]; exact hP9, va_K.moved hW.alike hK9, hD9⟩, hS.F ht⟩) hS.2.2 dX6_end_26
    · refine lv_aload_n hx hb dX6_end_12 rfl (lv_at hl 0 rfl) ?_
      refine lv_iconst (v := 0) hx hb dX6_end_13 (by decide) ?_
      have hPc := hP.sub (ws' := [(h0, .inr (6, [.ref qt, .int 0, .ref qr, .ref qc, .ref qs, .int 0, .ref qn, .ref qp, .int 0, .int 0, .ref qm, .ref qf, .ref qx, .long 1])), (qx, .inl (kr, 6, .inl (fun _ => 0)))]) [0, 1] rfl
      have hDc := hD.sub (ws' := [(h0, .inr (6, [.ref qt, .int 0, .ref qr, .ref qc, .ref qs, .int 0, .ref qn, .ref qp, .int 0, .int 0, .ref qm, .ref qf, .ref qx, .long 1])), (qx, .inl (kr, 6, .inl (fun _ => 0)))]) [0, 1] (by decide) rfl
      have hKc := hK.sub (tys' := [(kr, .int)]) [0] rfl
      have hFc := va_free (wc := [(h0, .inr (6, [.ref qt, .int 0, .ref qr, .ref qc, .ref qs, .int 0, .ref qn, .ref qp, .int 0, .int 0, .ref qm, .ref qf, .ref qx, .long 1])), (qx, .inl (kr, 6, .inl (fun _ => 0)))]) hD hS hA [0, 1] rfl
      refine va_calli (va_runV (As := [.int 0]) (rest := []) ⟨hx, hb, hml, hown, hts⟩ (c_X6_refuse l dC dI H.size h0 qt qr qc qs qn qp qm qf qx kr (fun _ => 0) 0 (ax_in (by decide))) (cwV 1 hts (ax_gV T_108 T_109 T_110 T_106 T_107) rfl rfl rfl (by decide +kernel) ⟨Nat.le_of_ble_eq_true rfl, Nat.le_of_ble_eq_true rfl⟩) ⟨fun a U g mk q => ⟨q.1, ax_pc rfl rfl q.2⟩, va_recv hKc hPc (ci := 6) (q0 := 0) rfl rfl, fun U hU hW => ⟨rfl, ax_pw hU hW hPc hKc hDc hN⟩⟩ rfl rfl hl.1 rfl (lv_room (Nat.le_of_ble_eq_true rfl)) dX6_end_14 ⟨Nat.le_of_ble_eq_true rfl, Nat.le_of_ble_eq_true rfl⟩) hS (fun q _ h => hFc q h) hFc (fun r4 _ t H1 locs ht hvm hw hB hz1 hk1 hS => ?_)
      obtain ⟨hP1, hK1, hD1⟩ := hB
      rw [ht] at hP1
      have hK1 := va_K.moved hvm.symm hK1
      obtain ⟨hP, hD⟩ := va_join (wr := []) (w1 := []) hP hD [0, 1] [] rfl rfl (by decide) (by decide) hk1 hFc hP1 hD1
      generalize H1 = H at hP hS ⊢
      have hP : va_P (dC, dI) vwCl [] H := hP
      have hD : va_D A [] := hD
      subst hw
      refine lv_pop hx hb dX6_end_17 rfl ?_
      refine lv_iconst (v := 0) hx hb dX6_end_18 (by decide) ?_
      have hP9 := hP.sub (ws' := []) [] rfl
      have hD9 := hD.sub (ws' := []) [] (by decide) rfl
      have hK9 := hK.sub (tys' := []) [] rfl
      exact W.zret (v := 0) (ty := .boolean) hx hb hr (by decide) (fun t ht hW => ⟨⟨0, (), rfl, (by have h_0 := mt (ax_lt (n := 0) (by decide)).mpr c1; have h_1 := mt (ax_le (n := 0) (by decide)).mpr c3; unfold a_end; first | (rw [if_pos (by omega)]; done) | (rw [if_neg (by omega)]; done)), by rw [ht]; exact hP9, va_K.moved hW.alike hK9, hD9⟩, hS.F ht⟩) hS.2.2 dX6_end_19

set_option maxHeartbeats 4000000 in
set_option maxRecDepth 100000 in
/-- Arrays.fill of 64 numbers -/
theorem c_J7_fill (l : Launch) (dC : Nat → ClassId) (dI : Nat → Nat → Nat) (sz : Nat) (h0 : Nat) (ka : ClassId) (f : Nat → Int32) : Met l yJ7_fill_53178 (Cond.code yJ7_fill_53178 cJ7_fill_53178 4 none :: T0) ({ frames := 0, cells := 0, slots := 0, locals := 0 }) (va_Pc [.ref h0, .int 0] (ax_W dC dI sz [(h0, .inl (ka, 64, .inl f))] [(ka, .int)])) (va_Qv (fun (_ : Unit) => True) (fun (_ : Unit) (t : State) => va_P (dC, dI) vwCl [] t.heap ∧ va_K (dC, dI) vwCl [] t ∧ va_D (va_A [(h0, .inl (ka, 64, .inl f))] sz) []) (va_A [(h0, .inl (ka, 64, .inl f))] sz)) 0 0 (va_A [(h0, .inl (ka, 64, .inl f))] sz) := by
  refine Met.ofW (cc := cJ7_fill_53178) (maxL := 4) (ret := none) (by decide) rfl ?_
  intro p e s m args below meth c s₁ B hml hv
  obtain ⟨rfl, hsz, hP, hK, hD0, hN⟩ := hv
  have hx := B.exec
  have hb := B.bytes
  have hr := B.returns
  have hts : ∀ w ∈ T0, w.before _ s = true := fun w h => atoms_spec (ws := Cond.code yJ7_fill_53178 cJ7_fill_53178 4 none :: T0) B.pre w (List.mem_cons_of_mem _ h)
  have hown : s.vm.findClass RJ7 = some m.cls := findClass_of_methodNamed B.named
  have hlocks := B.notSynchronized
  subst hsz
  have hD := hD0.self (sz := s.heap.size)
  generalize hAe : va_A [(h0, .inl (ka, 64, .inl f))] s.heap.size = A at hD ⊢
  have hA : ∀ q : Nat, s.heap.size ≤ q → A q := fun q h => by rw [← hAe]; exact Or.inr h
  have hS : va_S A s.heap s.heap [] := va_S.rf
  have hP : va_P (dC, dI) vwCl [(h0, .inl (ka, 64, .inl f))] s.heap := hP
  have hl := lv_entry ([.ref h0, .int 0]) (n := 4) (Nat.le_of_ble_eq_true rfl)
  rw [lg_entry_eq]
  generalize (lg_sl ([.ref h0, .int 0]) ++ List.replicate (4 - (lg_sl ([.ref h0, .int 0])).length) Slot.unset).toArray = ls at hl ⊢
  refine ax_gen hP hD hS (fun H locs hP hD hS => ?_)
  have hl : lv_has ls 4 [(0, .ref h0), (1, .int 0)] := hl
  refine lv_iconst (v := 0) hx hb dJ7_fill_53178_0 (by decide) ?_
  refine lv_istore_n (lv' := [(2, .int 0), (0, .ref h0), (1, .int 0)]) hx hb dJ7_fill_53178_1 rfl hl (by decide) rfl (fun ls hl => ?_)
  refine lv_aload_n hx hb dJ7_fill_53178_2 rfl (lv_at hl 1 rfl) ?_
  refine va_alen hx hb hK hP 0 0 rfl rfl (v := 64) rfl dJ7_fill_53178_3 ?_
  refine lv_istore_n (lv' := [(3, .int 64), (2, .int 0), (0, .ref h0), (1, .int 0)]) hx hb dJ7_fill_53178_4 rfl hl (by decide) rfl (fun ls hl => ?_)
  refine ax_gen hP hD hS (fun H locs hPo hDo hS => ?_)
  obtain ⟨f1, hP, hD⟩ : ∃ f : Nat → Int32, va_P (dC, dI) vwCl [(h0, .inl (ka, 64, .inl f))] H ∧ va_D A [(h0, .inl (ka, 64, .inl f))] := ⟨_, hPo, hDo⟩
  clear hPo hDo
  have hlo := hl
  clear hl
  obtain ⟨k, n, hkn, hl⟩ : ∃ k n : Nat, k + n = 64 ∧ lv_has ls 4 [(3, .int 64), (2, .int (nI k)), (0, .ref h0), (1, .int 0)] := ⟨0, 64, rfl, hlo⟩
  clear hlo
  induction n generalizing k H locs ls f1 with
  | zero =>
    have hk : k = 64 := by omega
    subst hk
    refine lv_iload_n hx hb dJ7_fill_53178_5 rfl (lv_at hl 1 rfl) ?_
    refine lv_iload_n hx hb dJ7_fill_53178_6 rfl (lv_at hl 0 rfl) ?_
    refine lv_icmp_ge (tgt := 20) hx hb dJ7_fill_53178_7 (by decide) (fun _ => ?_) (fun c => absurd (by decide) c)
    have hP9 := hP.sub (ws' := []) [] rfl
    have hD9 := hD.sub (ws' := []) [] (by decide) rfl
    have hK9 := hK.sub (tys' := []) [] rfl
    exact W.vret hx hb hr (fun t ht hW => ⟨⟨(), rfl, trivial, by rw [ht]; exact hP9, va_K.moved hW.alike hK9, hD9⟩, hS.F ht⟩) hS.2.2 dJ7_fill_53178_20
  | succ n ih =>
    have hlt : k < 64 := by omega
    refine lv_iload_n hx hb dJ7_fill_53178_5 rfl (lv_at hl 1 rfl) ?_
    refine lv_iload_n hx hb dJ7_fill_53178_6 rfl (lv_at hl 0 rfl) ?_
    refine lv_icmp_ge (tgt := 20) hx hb dJ7_fill_53178_7 (by decide) (fun c => absurd c (nI_ge hlt (by decide))) (fun _ => ?_)
    refine lv_aload_n hx hb dJ7_fill_53178_10 rfl (lv_at hl 2 rfl) ?_
    refine lv_iload_n hx hb dJ7_fill_53178_11 rfl (lv_at hl 1 rfl) ?_
    refine lv_iload_n hx hb dJ7_fill_53178_12 rfl (lv_at hl 3 rfl) ?_
    refine va_iast hx hb hK hP hD hS 0 0 rfl rfl (vp_in_nI hlt (by decide)) dJ7_fill_53178_13 (fun H locs hP hD hS => ?_)
    have hP : va_P (dC, dI) vwCl [(h0, .inl (ka, 64, .inl (upd f1 (nI k : Int32).toNatClampNeg 0)))] H := hP
    have hD : va_D A [(h0, .inl (ka, 64, .inl (upd f1 (nI k : Int32).toNatClampNeg 0)))] := hD
    obtain ⟨f2, hP, hD⟩ : ∃ f : Nat → Int32, va_P (dC, dI) vwCl [(h0, .inl (ka, 64, .inl f))] H ∧ va_D A [(h0, .inl (ka, 64, .inl f))] := ⟨_, hP, hD⟩
    refine lv_iinc (v := (nI (k + 1))) (lv' := [(2, .int (nI (k + 1))), (3, .int 64), (0, .ref h0), (1, .int 0)]) hx hb dJ7_fill_53178_14 hl (k := 1) rfl (nI_1 k) (by decide) rfl (fun ls hl => ?_)
    refine lv_goto (tgt := 5) hx hb dJ7_fill_53178_17 (by decide) ?_
    have hl : lv_has ls 4 [(3, .int 64), (2, .int (nI (k + 1))), (0, .ref h0), (1, .int 0)] := lv_sub hl [1, 0, 2, 3] rfl
    apply ih (k := k + 1) (f1 := f2)
    all_goals first | assumption | omega

set_option maxHeartbeats 4000000 in
set_option maxRecDepth 100000 in
/-- Program.clear of a fresh program -/
theorem c_X2_clear (l : Launch) (dC : Nat → ClassId) (dI : Nat → Nat → Nat) (sz : Nat) (h0 : Nat) (sa0 : Nat) (sa1 : Nat) (sa2 : Nat) (ks : ClassId) (f : Nat → Int32) : Met l yX2_clear (Cond.code yX2_clear cX2_clear 1 none :: T0) ({ frames := 1, cells := 0, slots := 0, locals := 23 }) (va_Pc [.ref h0] (ax_W dC dI sz [(h0, .inr (2, [.ref sa0, .ref sa1, .ref sa2, .int 0, .int 0, .int 0, .int 0])), (sa1, .inl (ks, 64, .inl f))] [(ks, .int)])) (va_Qv (fun (_ : Unit) => True) (fun (_ : Unit) (t : State) => va_P (dC, dI) vwCl [(h0, .inr (2, [.ref sa0, .ref sa1, .ref sa2, .int 0, .int 0, .int 0, .int 0]))] t.heap ∧ va_K (dC, dI) vwCl [] t ∧ va_D (va_A [(h0, .inr (2, [.ref sa0, .ref sa1, .ref sa2, .int 0, .int 0, .int 0, .int 0])), (sa1, .inl (ks, 64, .inl f))] sz) [(h0, .inr (2, [.ref sa0, .ref sa1, .ref sa2, .int 0, .int 0, .int 0, .int 0]))]) (va_A [(h0, .inr (2, [.ref sa0, .ref sa1, .ref sa2, .int 0, .int 0, .int 0, .int 0])), (sa1, .inl (ks, 64, .inl f))] sz)) 0 0 (va_A [(h0, .inr (2, [.ref sa0, .ref sa1, .ref sa2, .int 0, .int 0, .int 0, .int 0])), (sa1, .inl (ks, 64, .inl f))] sz) := by
  refine Met.ofW (cc := cX2_clear) (maxL := 1) (ret := none) (by decide) rfl ?_
  intro p e s m args below meth c s₁ B hml hv
  obtain ⟨rfl, hsz, hP, hK, hD0, hN⟩ := hv
  have hx := B.exec
  have hb := B.bytes
  have hr := B.returns
  have hts : ∀ w ∈ T0, w.before _ s = true := fun w h => atoms_spec (ws := Cond.code yX2_clear cX2_clear 1 none :: T0) B.pre w (List.mem_cons_of_mem _ h)
  have hown : s.vm.findClass RX2 = some m.cls := findClass_of_methodNamed B.named
  have hlocks := B.notSynchronized
  subst hsz
  have hD := hD0.self (sz := s.heap.size)
  generalize hAe : va_A [(h0, .inr (2, [.ref sa0, .ref sa1, .ref sa2, .int 0, .int 0, .int 0, .int 0])), (sa1, .inl (ks, 64, .inl f))] s.heap.size = A at hD ⊢
  have hA : ∀ q : Nat, s.heap.size ≤ q → A q := fun q h => by rw [← hAe]; exact Or.inr h
  have hS : va_S A s.heap s.heap [] := va_S.rf
  have hP : va_P (dC, dI) vwCl [(h0, .inr (2, [.ref sa0, .ref sa1, .ref sa2, .int 0, .int 0, .int 0, .int 0])), (sa1, .inl (ks, 64, .inl f))] s.heap := hP
  have hl := lv_entry ([.ref h0]) (n := 1) (Nat.le_of_ble_eq_true rfl)
  rw [lg_entry_eq]
  generalize (lg_sl ([.ref h0]) ++ List.replicate (1 - (lg_sl ([.ref h0])).length) Slot.unset).toArray = ls at hl ⊢
  refine ax_gen hP hD hS (fun H locs hP hD hS => ?_)
  have hl : lv_has ls 1 [(0, .ref h0)] := hl
  refine lv_aload_n hx hb dX2_clear_0 rfl (lv_at hl 0 rfl) ?_
  refine va_get (D := (dC, dI)) (ci := 2) (v := .ref sa1) (C := RX2) (T := TX2) (N := 7) hx hb hts inX2 hown hK hP 0 rfl rfl 1 (by decide) (hts _ T_30) (fun _ h9 => h9) rfl dX2_clear_1 ?_
  refine lv_iconst (v := 0) hx hb dX2_clear_4 (by decide) ?_
  have hPc := hP.sub (ws' := [(sa1, .inl (ks, 64, .inl f))]) [1] rfl
  have hDc := hD.sub (ws' := [(sa1, .inl (ks, 64, .inl f))]) [1] (by decide) rfl
  have hKc := hK.sub (tys' := [(ks, .int)]) [0] rfl
  have hFc := va_free (wc := [(sa1, .inl (ks, 64, .inl f))]) hD hS hA [1] rfl
  refine va_callv (va_runS (As := [.ref sa1, .int 0]) (rest := []) ⟨hx, hb, hml, hown, hts⟩ (c_J7_fill l dC dI H.size sa1 ks f) ⟨callB_of 2 hts (ax_gT T_111) rfl rfl rfl (hts _ T_112) (hts _ T_113) (by decide +kernel) ⟨Nat.le_of_ble_eq_true rfl, Nat.le_of_ble_eq_true rfl⟩, hts _ T_114⟩ ⟨fun a U g mk q => ⟨q.1, ax_pc rfl rfl q.2⟩, fun U hU hW => ⟨rfl, ax_pw hU hW hPc hKc hDc hN⟩⟩ rfl rfl hl.1 rfl (lv_room (Nat.le_of_ble_eq_true rfl)) dX2_clear_5 ⟨Nat.le_of_ble_eq_true rfl, Nat.le_of_ble_eq_true rfl⟩) hS (fun q _ h => hFc q h) hFc (fun _ t H1 locs ht hvm hw hB hz1 hk1 hS => ?_)
  obtain ⟨hP1, hK1, hD1⟩ := hB
  rw [ht] at hP1
  have hK1 := va_K.moved hvm.symm hK1
  obtain ⟨hP, hD⟩ := va_join (wr := [(h0, .inr (2, [.ref sa0, .ref sa1, .ref sa2, .int 0, .int 0, .int 0, .int 0]))]) (w1 := []) hP hD [1] [0] rfl rfl (by decide) (by decide) hk1 hFc hP1 hD1
  generalize H1 = H at hP hS ⊢
  have hP : va_P (dC, dI) vwCl [(h0, .inr (2, [.ref sa0, .ref sa1, .ref sa2, .int 0, .int 0, .int 0, .int 0]))] H := hP
  have hD : va_D A [(h0, .inr (2, [.ref sa0, .ref sa1, .ref sa2, .int 0, .int 0, .int 0, .int 0]))] := hD
  refine lv_aload_n hx hb dX2_clear_8 rfl (lv_at hl 0 rfl) ?_
  refine lv_iconst (v := 0) hx hb dX2_clear_9 (by decide) ?_
  refine va_put (D := (dC, dI)) (ci := 2) (v := .int 0) (ty := .int) (C := RX2) (T := TX2) (N := 7) hx hb hts inX2 tyX2 tyX2_ok nmX2 hown hK hP hD hS 0 rfl rfl 3 (by decide) (hts _ T_115) (fun _ h9 => h9) rfl (by decide +kernel) rfl rfl (Nat.le_of_ble_eq_true rfl) dX2_clear_10 (fun H locs hP hD hS => ?_)
  have hP : va_P (dC, dI) vwCl [(h0, .inr (2, [.ref sa0, .ref sa1, .ref sa2, .int 0, .int 0, .int 0, .int 0]))] H := hP
  have hD : va_D A [(h0, .inr (2, [.ref sa0, .ref sa1, .ref sa2, .int 0, .int 0, .int 0, .int 0]))] := hD
  refine lv_aload_n hx hb dX2_clear_13 rfl (lv_at hl 0 rfl) ?_
  refine lv_iconst (v := 0) hx hb dX2_clear_14 (by decide) ?_
  refine va_put (D := (dC, dI)) (ci := 2) (v := .int 0) (ty := .int) (C := RX2) (T := TX2) (N := 7) hx hb hts inX2 tyX2 tyX2_ok nmX2 hown hK hP hD hS 0 rfl rfl 4 (by decide) (hts _ T_116) (fun _ h9 => h9) rfl (by decide +kernel) rfl rfl (Nat.le_of_ble_eq_true rfl) dX2_clear_15 (fun H locs hP hD hS => ?_)
  have hP : va_P (dC, dI) vwCl [(h0, .inr (2, [.ref sa0, .ref sa1, .ref sa2, .int 0, .int 0, .int 0, .int 0]))] H := hP
  have hD : va_D A [(h0, .inr (2, [.ref sa0, .ref sa1, .ref sa2, .int 0, .int 0, .int 0, .int 0]))] := hD
  refine lv_aload_n hx hb dX2_clear_18 rfl (lv_at hl 0 rfl) ?_
  refine lv_iconst (v := 0) hx hb dX2_clear_19 (by decide) ?_
  refine va_put (D := (dC, dI)) (ci := 2) (v := .int 0) (ty := .int) (C := RX2) (T := TX2) (N := 7) hx hb hts inX2 tyX2 tyX2_ok nmX2 hown hK hP hD hS 0 rfl rfl 5 (by decide) (hts _ T_117) (fun _ h9 => h9) rfl (by decide +kernel) rfl rfl (Nat.le_of_ble_eq_true rfl) dX2_clear_20 (fun H locs hP hD hS => ?_)
  have hP : va_P (dC, dI) vwCl [(h0, .inr (2, [.ref sa0, .ref sa1, .ref sa2, .int 0, .int 0, .int 0, .int 0]))] H := hP
  have hD : va_D A [(h0, .inr (2, [.ref sa0, .ref sa1, .ref sa2, .int 0, .int 0, .int 0, .int 0]))] := hD
  refine lv_aload_n hx hb dX2_clear_23 rfl (lv_at hl 0 rfl) ?_
  refine lv_iconst (v := 0) hx hb dX2_clear_24 (by decide) ?_
  refine va_put (D := (dC, dI)) (ci := 2) (v := .int 0) (ty := .int) (C := RX2) (T := TX2) (N := 7) hx hb hts inX2 tyX2 tyX2_ok nmX2 hown hK hP hD hS 0 rfl rfl 6 (by decide) (hts _ T_118) (fun _ h9 => h9) rfl (by decide +kernel) rfl rfl (Nat.le_of_ble_eq_true rfl) dX2_clear_25 (fun H locs hP hD hS => ?_)
  have hP : va_P (dC, dI) vwCl [(h0, .inr (2, [.ref sa0, .ref sa1, .ref sa2, .int 0, .int 0, .int 0, .int 0]))] H := hP
  have hD : va_D A [(h0, .inr (2, [.ref sa0, .ref sa1, .ref sa2, .int 0, .int 0, .int 0, .int 0]))] := hD
  have hP9 := hP.sub (ws' := [(h0, .inr (2, [.ref sa0, .ref sa1, .ref sa2, .int 0, .int 0, .int 0, .int 0]))]) [0] rfl
  have hD9 := hD.sub (ws' := [(h0, .inr (2, [.ref sa0, .ref sa1, .ref sa2, .int 0, .int 0, .int 0, .int 0]))]) [0] (by decide) rfl
  have hK9 := hK.sub (tys' := []) [] rfl
  exact W.vret hx hb hr (fun t ht hW => ⟨⟨(), rfl, trivial, by rw [ht]; exact hP9, va_K.moved hW.alike hK9, hD9⟩, hS.F ht⟩) hS.2.2 dX2_clear_28

set_option maxHeartbeats 4000000 in
set_option maxRecDepth 100000 in
/-- scan at the end of the text -/
theorem c_X3_scan (l : Launch) (dC : Nat → ClassId) (dI : Nat → Nat → Nat) (sz : Nat) (h0 : Nat) (ra0 : Nat) (ra1 : Nat) (ra2 : Nat) (ra3 : Nat) (qt : Nat) (qs : Nat) : Met l yX3_scan (Cond.code yX3_scan cX3_scan 3 none :: T0) ({ frames := 0, cells := 0, slots := 0, locals := 0 }) (va_Pc [.ref h0] (ax_W dC dI sz [(h0, .inr (3, [.ref ra0, .ref ra1, .ref ra2, .ref ra3, .ref qt, .int 0, .ref qs, .int 0, .int 0, .int 0, .int 0, .int 0, .int 0, .int 0, .int (-1)]))] [])) (va_Qv (fun (_ : Unit) => True) (fun (_ : Unit) (t : State) => va_P (dC, dI) vwCl [(h0, .inr (3, [.ref ra0, .ref ra1, .ref ra2, .ref ra3, .ref qt, .int 0, .ref qs, .int 0, .int 0, .int 0, .int (-1), .int 0, .int 0, .int 0, .int (-1)]))] t.heap ∧ va_K (dC, dI) vwCl [] t ∧ va_D (va_A [(h0, .inr (3, [.ref ra0, .ref ra1, .ref ra2, .ref ra3, .ref qt, .int 0, .ref qs, .int 0, .int 0, .int 0, .int 0, .int 0, .int 0, .int 0, .int (-1)]))] sz) [(h0, .inr (3, [.ref ra0, .ref ra1, .ref ra2, .ref ra3, .ref qt, .int 0, .ref qs, .int 0, .int 0, .int 0, .int (-1), .int 0, .int 0, .int 0, .int (-1)]))]) (va_A [(h0, .inr (3, [.ref ra0, .ref ra1, .ref ra2, .ref ra3, .ref qt, .int 0, .ref qs, .int 0, .int 0, .int 0, .int 0, .int 0, .int 0, .int 0, .int (-1)]))] sz)) 0 0 (va_A [(h0, .inr (3, [.ref ra0, .ref ra1, .ref ra2, .ref ra3, .ref qt, .int 0, .ref qs, .int 0, .int 0, .int 0, .int 0, .int 0, .int 0, .int 0, .int (-1)]))] sz) := by
  refine Met.ofW (cc := cX3_scan) (maxL := 3) (ret := none) (by decide) rfl ?_
  intro p e s m args below meth c s₁ B hml hv
  obtain ⟨rfl, hsz, hP, hK, hD0, hN⟩ := hv
  have hx := B.exec
  have hb := B.bytes
  have hr := B.returns
  have hts : ∀ w ∈ T0, w.before _ s = true := fun w h => atoms_spec (ws := Cond.code yX3_scan cX3_scan 3 none :: T0) B.pre w (List.mem_cons_of_mem _ h)
  have hown : s.vm.findClass RX3 = some m.cls := findClass_of_methodNamed B.named
  have hlocks := B.notSynchronized
  subst hsz
  have hD := hD0.self (sz := s.heap.size)
  generalize hAe : va_A [(h0, .inr (3, [.ref ra0, .ref ra1, .ref ra2, .ref ra3, .ref qt, .int 0, .ref qs, .int 0, .int 0, .int 0, .int 0, .int 0, .int 0, .int 0, .int (-1)]))] s.heap.size = A at hD ⊢
  have hA : ∀ q : Nat, s.heap.size ≤ q → A q := fun q h => by rw [← hAe]; exact Or.inr h
  have hS : va_S A s.heap s.heap [] := va_S.rf
  have hP : va_P (dC, dI) vwCl [(h0, .inr (3, [.ref ra0, .ref ra1, .ref ra2, .ref ra3, .ref qt, .int 0, .ref qs, .int 0, .int 0, .int 0, .int 0, .int 0, .int 0, .int 0, .int (-1)]))] s.heap := hP
  have hl := lv_entry ([.ref h0]) (n := 3) (Nat.le_of_ble_eq_true rfl)
  rw [lg_entry_eq]
  generalize (lg_sl ([.ref h0]) ++ List.replicate (3 - (lg_sl ([.ref h0])).length) Slot.unset).toArray = ls at hl ⊢
  refine ax_gen hP hD hS (fun H locs hP hD hS => ?_)
  have hl : lv_has ls 3 [(0, .ref h0)] := hl
  refine lv_aload_n hx hb dX3_scan_0 rfl (lv_at hl 0 rfl) ?_
  refine va_get (D := (dC, dI)) (ci := 3) (v := .int 0) (C := RX3) (T := TX3) (N := 15) hx hb hts inX3 hown hK hP 0 rfl rfl 7 (by decide) (hts _ T_119) (fun _ h9 => h9) rfl dX3_scan_1 ?_
  refine lv_iconst (v := 1) hx hb dX3_scan_4 (by decide) ?_
  refine lv_icmp_eq (tgt := 16) hx hb dX3_scan_5 (by decide) (fun c => absurd c (by decide)) (fun _ => ?_)
  refine lv_aload_n hx hb dX3_scan_8 rfl (lv_at hl 0 rfl) ?_
  refine va_get (D := (dC, dI)) (ci := 3) (v := .int 0) (C := RX3) (T := TX3) (N := 15) hx hb hts inX3 hown hK hP 0 rfl rfl 7 (by decide) (hts _ T_119) (fun _ h9 => h9) rfl dX3_scan_9 ?_
  refine lv_iconst (v := 2) hx hb dX3_scan_12 (by decide) ?_
  refine lv_icmp_ne (tgt := 20) hx hb dX3_scan_13 (by decide) (fun _ => ?_) (fun c => absurd c (by decide))
  refine lv_iconst (v := 0) hx hb dX3_scan_20 (by decide) ?_
  refine lv_istore_n (lv' := [(1, .int 0), (0, .ref h0)]) hx hb dX3_scan_21 rfl hl (by decide) rfl (fun ls hl => ?_)
  refine lv_aload_n hx hb dX3_scan_22 rfl (lv_at hl 1 rfl) ?_
  refine lv_aload_n hx hb dX3_scan_23 rfl (lv_at hl 1 rfl) ?_
  refine va_get (D := (dC, dI)) (ci := 3) (v := .int 0) (C := RX3) (T := TX3) (N := 15) hx hb hts inX3 hown hK hP 0 rfl rfl 9 (by decide) (hts _ T_120) (fun _ h9 => h9) rfl dX3_scan_24 ?_
  refine va_put (D := (dC, dI)) (ci := 3) (v := .int 0) (ty := .int) (C := RX3) (T := TX3) (N := 15) hx hb hts inX3 tyX3 tyX3_ok nmX3 hown hK hP hD hS 0 rfl rfl 8 (by decide) (hts _ T_121) (fun _ h9 => h9) rfl (by decide +kernel) rfl rfl (Nat.le_of_ble_eq_true rfl) dX3_scan_27 (fun H locs hP hD hS => ?_)
  have hP : va_P (dC, dI) vwCl [(h0, .inr (3, [.ref ra0, .ref ra1, .ref ra2, .ref ra3, .ref qt, .int 0, .ref qs, .int 0, .int 0, .int 0, .int 0, .int 0, .int 0, .int 0, .int (-1)]))] H := hP
  have hD : va_D A [(h0, .inr (3, [.ref ra0, .ref ra1, .ref ra2, .ref ra3, .ref qt, .int 0, .ref qs, .int 0, .int 0, .int 0, .int 0, .int 0, .int 0, .int 0, .int (-1)]))] := hD
  refine lv_aload_n hx hb dX3_scan_30 rfl (lv_at hl 1 rfl) ?_
  refine va_get (D := (dC, dI)) (ci := 3) (v := .int 0) (C := RX3) (T := TX3) (N := 15) hx hb hts inX3 hown hK hP 0 rfl rfl 8 (by decide) (hts _ T_121) (fun _ h9 => h9) rfl dX3_scan_31 ?_
  refine lv_aload_n hx hb dX3_scan_34 rfl (lv_at hl 1 rfl) ?_
  refine va_get (D := (dC, dI)) (ci := 3) (v := .int 0) (C := RX3) (T := TX3) (N := 15) hx hb hts inX3 hown hK hP 0 rfl rfl 5 (by decide) (hts _ T_122) (fun _ h9 => h9) rfl dX3_scan_35 ?_
  refine lv_icmp_ge (tgt := 82) hx hb dX3_scan_38 (by decide) (fun _ => ?_) (fun c => absurd (by decide) c)
  refine lv_iload_n hx hb dX3_scan_82 rfl (lv_at hl 0 rfl) ?_
  refine lv_if_eq (tgt := 101) hx hb dX3_scan_83 (by decide) (fun _ => ?_) (fun c => absurd (by decide) c)
  refine lv_iconst (v := 0) hx hb dX3_scan_101 (by decide) ?_
  refine lv_istore_n (lv' := [(2, .int 0), (1, .int 0), (0, .ref h0)]) hx hb dX3_scan_102 rfl hl (by decide) rfl (fun ls hl => ?_)
  refine lv_aload_n hx hb dX3_scan_103 rfl (lv_at hl 2 rfl) ?_
  refine lv_aload_n hx hb dX3_scan_104 rfl (lv_at hl 2 rfl) ?_
  refine va_get (D := (dC, dI)) (ci := 3) (v := .int 0) (C := RX3) (T := TX3) (N := 15) hx hb hts inX3 hown hK hP 0 rfl rfl 8 (by decide) (hts _ T_121) (fun _ h9 => h9) rfl dX3_scan_105 ?_
  refine va_put (D := (dC, dI)) (ci := 3) (v := .int 0) (ty := .int) (C := RX3) (T := TX3) (N := 15) hx hb hts inX3 tyX3 tyX3_ok nmX3 hown hK hP hD hS 0 rfl rfl 9 (by decide) (hts _ T_120) (fun _ h9 => h9) rfl (by decide +kernel) rfl rfl (Nat.le_of_ble_eq_true rfl) dX3_scan_108 (fun H locs hP hD hS => ?_)
  have hP : va_P (dC, dI) vwCl [(h0, .inr (3, [.ref ra0, .ref ra1, .ref ra2, .ref ra3, .ref qt, .int 0, .ref qs, .int 0, .int 0, .int 0, .int 0, .int 0, .int 0, .int 0, .int (-1)]))] H := hP
  have hD : va_D A [(h0, .inr (3, [.ref ra0, .ref ra1, .ref ra2, .ref ra3, .ref qt, .int 0, .ref qs, .int 0, .int 0, .int 0, .int 0, .int 0, .int 0, .int 0, .int (-1)]))] := hD
  refine lv_aload_n hx hb dX3_scan_111 rfl (lv_at hl 2 rfl) ?_
  refine lv_iconst (v := (-1)) hx hb dX3_scan_112 (by decide) ?_
  refine va_put (D := (dC, dI)) (ci := 3) (v := .int (-1)) (ty := .int) (C := RX3) (T := TX3) (N := 15) hx hb hts inX3 tyX3 tyX3_ok nmX3 hown hK hP hD hS 0 rfl rfl 10 (by decide) (hts _ T_123) (fun _ h9 => h9) rfl (by decide +kernel) rfl rfl (Nat.le_of_ble_eq_true rfl) dX3_scan_113 (fun H locs hP hD hS => ?_)
  have hP : va_P (dC, dI) vwCl [(h0, .inr (3, [.ref ra0, .ref ra1, .ref ra2, .ref ra3, .ref qt, .int 0, .ref qs, .int 0, .int 0, .int 0, .int (-1), .int 0, .int 0, .int 0, .int (-1)]))] H := hP
  have hD : va_D A [(h0, .inr (3, [.ref ra0, .ref ra1, .ref ra2, .ref ra3, .ref qt, .int 0, .ref qs, .int 0, .int 0, .int 0, .int (-1), .int 0, .int 0, .int 0, .int (-1)]))] := hD
  refine lv_aload_n hx hb dX3_scan_116 rfl (lv_at hl 2 rfl) ?_
  refine va_get (D := (dC, dI)) (ci := 3) (v := .int 0) (C := RX3) (T := TX3) (N := 15) hx hb hts inX3 hown hK hP 0 rfl rfl 8 (by decide) (hts _ T_121) (fun _ h9 => h9) rfl dX3_scan_117 ?_
  refine lv_aload_n hx hb dX3_scan_120 rfl (lv_at hl 2 rfl) ?_
  refine va_get (D := (dC, dI)) (ci := 3) (v := .int 0) (C := RX3) (T := TX3) (N := 15) hx hb hts inX3 hown hK hP 0 rfl rfl 5 (by decide) (hts _ T_122) (fun _ h9 => h9) rfl dX3_scan_121 ?_
  refine lv_icmp_lt (tgt := 135) hx hb dX3_scan_124 (by decide) (fun c => absurd c (by decide)) (fun _ => ?_)
  refine lv_aload_n hx hb dX3_scan_127 rfl (lv_at hl 2 rfl) ?_
  refine lv_iconst (v := 0) hx hb dX3_scan_128 (by decide) ?_
  refine va_put (D := (dC, dI)) (ci := 3) (v := .int 0) (ty := .int) (C := RX3) (T := TX3) (N := 15) hx hb hts inX3 tyX3 tyX3_ok nmX3 hown hK hP hD hS 0 rfl rfl 7 (by decide) (hts _ T_119) (fun _ h9 => h9) rfl (by decide +kernel) rfl rfl (Nat.le_of_ble_eq_true rfl) dX3_scan_129 (fun H locs hP hD hS => ?_)
  have hP : va_P (dC, dI) vwCl [(h0, .inr (3, [.ref ra0, .ref ra1, .ref ra2, .ref ra3, .ref qt, .int 0, .ref qs, .int 0, .int 0, .int 0, .int (-1), .int 0, .int 0, .int 0, .int (-1)]))] H := hP
  have hD : va_D A [(h0, .inr (3, [.ref ra0, .ref ra1, .ref ra2, .ref ra3, .ref qt, .int 0, .ref qs, .int 0, .int 0, .int 0, .int (-1), .int 0, .int 0, .int 0, .int (-1)]))] := hD
  refine lv_goto (tgt := 236) hx hb dX3_scan_132 (by decide) ?_
  have hP9 := hP.sub (ws' := [(h0, .inr (3, [.ref ra0, .ref ra1, .ref ra2, .ref ra3, .ref qt, .int 0, .ref qs, .int 0, .int 0, .int 0, .int (-1), .int 0, .int 0, .int 0, .int (-1)]))]) [0] rfl
  have hD9 := hD.sub (ws' := [(h0, .inr (3, [.ref ra0, .ref ra1, .ref ra2, .ref ra3, .ref qt, .int 0, .ref qs, .int 0, .int 0, .int 0, .int (-1), .int 0, .int 0, .int 0, .int (-1)]))]) [0] (by decide) rfl
  have hK9 := hK.sub (tys' := []) [] rfl
  exact W.vret hx hb hr (fun t ht hW => ⟨⟨(), rfl, trivial, by rw [ht]; exact hP9, va_K.moved hW.alike hK9, hD9⟩, hS.F ht⟩) hS.2.2 dX3_scan_236

set_option maxHeartbeats 4000000 in
set_option maxRecDepth 100000 in
/-- fail -/
theorem c_X3_fail (l : Launch) (dC : Nat → ClassId) (dI : Nat → Nat → Nat) (sz : Nat) (h0 : Nat) (ra0 : Nat) (ra1 : Nat) (ra2 : Nat) (ra3 : Nat) (qt : Nat) (qs : Nat) : Met l yX3_fail (Cond.code yX3_fail cX3_fail 3 (some .boolean) :: T0) ({ frames := 0, cells := 0, slots := 0, locals := 0 }) (va_Pc [.ref h0, .int 1, .int 0] (ax_W dC dI sz [(h0, .inr (3, [.ref ra0, .ref ra1, .ref ra2, .ref ra3, .ref qt, .int 0, .ref qs, .int 0, .int 0, .int 0, .int (-1), .int 0, .int 0, .int 0, .int (-1)]))] [])) (va_Qi (fun (r : Int32) (_ : Unit) => r = 0) (fun (_ : Unit) (t : State) => va_P (dC, dI) vwCl [] t.heap ∧ va_K (dC, dI) vwCl [] t ∧ va_D (va_A [(h0, .inr (3, [.ref ra0, .ref ra1, .ref ra2, .ref ra3, .ref qt, .int 0, .ref qs, .int 0, .int 0, .int 0, .int (-1), .int 0, .int 0, .int 0, .int (-1)]))] sz) []) (va_A [(h0, .inr (3, [.ref ra0, .ref ra1, .ref ra2, .ref ra3, .ref qt, .int 0, .ref qs, .int 0, .int 0, .int 0, .int (-1), .int 0, .int 0, .int 0, .int (-1)]))] sz)) 0 0 (va_A [(h0, .inr (3, [.ref ra0, .ref ra1, .ref ra2, .ref ra3, .ref qt, .int 0, .ref qs, .int 0, .int 0, .int 0, .int (-1), .int 0, .int 0, .int 0, .int (-1)]))] sz) := by
  refine Met.ofW (cc := cX3_fail) (maxL := 3) (ret := (some .boolean)) (by decide) rfl ?_
  intro p e s m args below meth c s₁ B hml hv
  obtain ⟨rfl, hsz, hP, hK, hD0, hN⟩ := hv
  have hx := B.exec
  have hb := B.bytes
  have hr := B.returns
  have hts : ∀ w ∈ T0, w.before _ s = true := fun w h => atoms_spec (ws := Cond.code yX3_fail cX3_fail 3 (some .boolean) :: T0) B.pre w (List.mem_cons_of_mem _ h)
  have hown : s.vm.findClass RX3 = some m.cls := findClass_of_methodNamed B.named
  have hlocks := B.notSynchronized
  subst hsz
  have hD := hD0.self (sz := s.heap.size)
  generalize hAe : va_A [(h0, .inr (3, [.ref ra0, .ref ra1, .ref ra2, .ref ra3, .ref qt, .int 0, .ref qs, .int 0, .int 0, .int 0, .int (-1), .int 0, .int 0, .int 0, .int (-1)]))] s.heap.size = A at hD ⊢
  have hA : ∀ q : Nat, s.heap.size ≤ q → A q := fun q h => by rw [← hAe]; exact Or.inr h
  have hS : va_S A s.heap s.heap [] := va_S.rf
  have hP : va_P (dC, dI) vwCl [(h0, .inr (3, [.ref ra0, .ref ra1, .ref ra2, .ref ra3, .ref qt, .int 0, .ref qs, .int 0, .int 0, .int 0, .int (-1), .int 0, .int 0, .int 0, .int (-1)]))] s.heap := hP
  have hl := lv_entry ([.ref h0, .int 1, .int 0]) (n := 3) (Nat.le_of_ble_eq_true rfl)
  rw [lg_entry_eq]
  generalize (lg_sl ([.ref h0, .int 1, .int 0]) ++ List.replicate (3 - (lg_sl ([.ref h0, .int 1, .int 0])).length) Slot.unset).toArray = ls at hl ⊢
  refine ax_gen hP hD hS (fun H locs hP hD hS => ?_)
  have hl : lv_has ls 3 [(0, .ref h0), (1, .int 1), (2, .int 0)] := hl
  refine lv_aload_n hx hb dX3_fail_0 rfl (lv_at hl 0 rfl) ?_
  refine lv_iload_n hx hb dX3_fail_1 rfl (lv_at hl 1 rfl) ?_
  refine va_put (D := (dC, dI)) (ci := 3) (v := .int 1) (ty := .int) (C := RX3) (T := TX3) (N := 15) hx hb hts inX3 tyX3 tyX3_ok nmX3 hown hK hP hD hS 0 rfl rfl 13 (by decide) (hts _ T_124) (fun _ h9 => h9) rfl (by decide +kernel) rfl rfl (Nat.le_of_ble_eq_true rfl) dX3_fail_2 (fun H locs hP hD hS => ?_)
  have hP : va_P (dC, dI) vwCl [(h0, .inr (3, [.ref ra0, .ref ra1, .ref ra2, .ref ra3, .ref qt, .int 0, .ref qs, .int 0, .int 0, .int 0, .int (-1), .int 0, .int 0, .int 1, .int (-1)]))] H := hP
  have hD : va_D A [(h0, .inr (3, [.ref ra0, .ref ra1, .ref ra2, .ref ra3, .ref qt, .int 0, .ref qs, .int 0, .int 0, .int 0, .int (-1), .int 0, .int 0, .int 1, .int (-1)]))] := hD
  refine lv_aload_n hx hb dX3_fail_5 rfl (lv_at hl 0 rfl) ?_
  refine lv_iload_n hx hb dX3_fail_6 rfl (lv_at hl 2 rfl) ?_
  refine va_put (D := (dC, dI)) (ci := 3) (v := .int 0) (ty := .int) (C := RX3) (T := TX3) (N := 15) hx hb hts inX3 tyX3 tyX3_ok nmX3 hown hK hP hD hS 0 rfl rfl 14 (by decide) (hts _ T_38) (fun _ h9 => h9) rfl (by decide +kernel) rfl rfl (Nat.le_of_ble_eq_true rfl) dX3_fail_7 (fun H locs hP hD hS => ?_)
  have hP : va_P (dC, dI) vwCl [(h0, .inr (3, [.ref ra0, .ref ra1, .ref ra2, .ref ra3, .ref qt, .int 0, .ref qs, .int 0, .int 0, .int 0, .int (-1), .int 0, .int 0, .int 1, .int 0]))] H := hP
  have hD : va_D A [(h0, .inr (3, [.ref ra0, .ref ra1, .ref ra2, .ref ra3, .ref qt, .int 0, .ref qs, .int 0, .int 0, .int 0, .int (-1), .int 0, .int 0, .int 1, .int 0]))] := hD
  refine lv_iconst (v := 0) hx hb dX3_fail_10 (by decide) ?_
  have hP9 := hP.sub (ws' := []) [] rfl
  have hD9 := hD.sub (ws' := []) [] (by decide) rfl
  have hK9 := hK.sub (tys' := []) [] rfl
  exact W.zret (v := 0) (ty := .boolean) hx hb hr (by decide) (fun t ht hW => ⟨⟨0, (), rfl, rfl, by rw [ht]; exact hP9, va_K.moved hW.alike hK9, hD9⟩, hS.F ht⟩) hS.2.2 dX3_fail_11

set_option maxHeartbeats 4000000 in
set_option maxRecDepth 100000 in
/-- read of an empty tape: it has a fault -/
theorem c_X3_read (l : Launch) (dC : Nat → ClassId) (dI : Nat → Nat → Nat) (sz : Nat) (h0 : Nat) (ra0 : Nat) (ra1 : Nat) (ra2 : Nat) (ra3 : Nat) (qt : Nat) (qs : Nat) (sa0 : Nat) (sa1 : Nat) (sa2 : Nat) (ks : ClassId) (f : Nat → Int32) : Met l yX3_read (Cond.code yX3_read cX3_read 6 (some .boolean) :: T0) ({ frames := 2, cells := 0, slots := 0, locals := 43 }) (va_Pc [.ref h0, .ref qt, .int 0, .ref qs] (ax_W dC dI sz [(h0, .inr (3, [.ref ra0, .ref ra1, .ref ra2, .ref ra3, .null, .int 0, .null, .int 0, .int 0, .int 0, .int 0, .int 0, .int 0, .int 0, .int (-1)])), (qs, .inr (2, [.ref sa0, .ref sa1, .ref sa2, .int 0, .int 0, .int 0, .int 0])), (sa1, .inl (ks, 64, .inl f))] [(ks, .int)])) (va_Qi (fun (r : Int32) (_ : Unit) => r = 0) (fun (_ : Unit) (t : State) => va_P (dC, dI) vwCl [] t.heap ∧ va_K (dC, dI) vwCl [] t ∧ va_D (va_A [(h0, .inr (3, [.ref ra0, .ref ra1, .ref ra2, .ref ra3, .null, .int 0, .null, .int 0, .int 0, .int 0, .int 0, .int 0, .int 0, .int 0, .int (-1)])), (qs, .inr (2, [.ref sa0, .ref sa1, .ref sa2, .int 0, .int 0, .int 0, .int 0])), (sa1, .inl (ks, 64, .inl f))] sz) []) (va_A [(h0, .inr (3, [.ref ra0, .ref ra1, .ref ra2, .ref ra3, .null, .int 0, .null, .int 0, .int 0, .int 0, .int 0, .int 0, .int 0, .int 0, .int (-1)])), (qs, .inr (2, [.ref sa0, .ref sa1, .ref sa2, .int 0, .int 0, .int 0, .int 0])), (sa1, .inl (ks, 64, .inl f))] sz)) 0 0 (va_A [(h0, .inr (3, [.ref ra0, .ref ra1, .ref ra2, .ref ra3, .null, .int 0, .null, .int 0, .int 0, .int 0, .int 0, .int 0, .int 0, .int 0, .int (-1)])), (qs, .inr (2, [.ref sa0, .ref sa1, .ref sa2, .int 0, .int 0, .int 0, .int 0])), (sa1, .inl (ks, 64, .inl f))] sz) := by
  refine Met.ofW (cc := cX3_read) (maxL := 6) (ret := (some .boolean)) (by decide) rfl ?_
  intro p e s m args below meth c s₁ B hml hv
  obtain ⟨rfl, hsz, hP, hK, hD0, hN⟩ := hv
  have hx := B.exec
  have hb := B.bytes
  have hr := B.returns
  have hts : ∀ w ∈ T0, w.before _ s = true := fun w h => atoms_spec (ws := Cond.code yX3_read cX3_read 6 (some .boolean) :: T0) B.pre w (List.mem_cons_of_mem _ h)
  have hown : s.vm.findClass RX3 = some m.cls := findClass_of_methodNamed B.named
  have hlocks := B.notSynchronized
  subst hsz
  have hD := hD0.self (sz := s.heap.size)
  generalize hAe : va_A [(h0, .inr (3, [.ref ra0, .ref ra1, .ref ra2, .ref ra3, .null, .int 0, .null, .int 0, .int 0, .int 0, .int 0, .int 0, .int 0, .int 0, .int (-1)])), (qs, .inr (2, [.ref sa0, .ref sa1, .ref sa2, .int 0, .int 0, .int 0, .int 0])), (sa1, .inl (ks, 64, .inl f))] s.heap.size = A at hD ⊢
  have hA : ∀ q : Nat, s.heap.size ≤ q → A q := fun q h => by rw [← hAe]; exact Or.inr h
  have hS : va_S A s.heap s.heap [] := va_S.rf
  have hP : va_P (dC, dI) vwCl [(h0, .inr (3, [.ref ra0, .ref ra1, .ref ra2, .ref ra3, .null, .int 0, .null, .int 0, .int 0, .int 0, .int 0, .int 0, .int 0, .int 0, .int (-1)])), (qs, .inr (2, [.ref sa0, .ref sa1, .ref sa2, .int 0, .int 0, .int 0, .int 0])), (sa1, .inl (ks, 64, .inl f))] s.heap := hP
  have hl := lv_entry ([.ref h0, .ref qt, .int 0, .ref qs]) (n := 6) (Nat.le_of_ble_eq_true rfl)
  rw [lg_entry_eq]
  generalize (lg_sl ([.ref h0, .ref qt, .int 0, .ref qs]) ++ List.replicate (6 - (lg_sl ([.ref h0, .ref qt, .int 0, .ref qs])).length) Slot.unset).toArray = ls at hl ⊢
  refine ax_gen hP hD hS (fun H locs hP hD hS => ?_)
  have hl : lv_has ls 6 [(0, .ref h0), (1, .ref qt), (2, .int 0), (3, .ref qs)] := hl
  refine lv_aload_n hx hb dX3_read_0 rfl (lv_at hl 0 rfl) ?_
  refine lv_aload_n hx hb dX3_read_1 rfl (lv_at hl 1 rfl) ?_
  refine va_put (D := (dC, dI)) (ci := 3) (v := .ref qt) (ty := .array .byte) (C := RX3) (T := TX3) (N := 15) hx hb hts inX3 tyX3 tyX3_ok nmX3 hown hK hP hD hS 0 rfl rfl 4 (by decide) (hts _ T_125) (fun _ h9 => h9) rfl (by decide +kernel) rfl rfl (Nat.le_of_ble_eq_true rfl) dX3_read_2 (fun H locs hP hD hS => ?_)
  have hP : va_P (dC, dI) vwCl [(h0, .inr (3, [.ref ra0, .ref ra1, .ref ra2, .ref ra3, .ref qt, .int 0, .null, .int 0, .int 0, .int 0, .int 0, .int 0, .int 0, .int 0, .int (-1)])), (qs, .inr (2, [.ref sa0, .ref sa1, .ref sa2, .int 0, .int 0, .int 0, .int 0])), (sa1, .inl (ks, 64, .inl f))] H := hP
  have hD : va_D A [(h0, .inr (3, [.ref ra0, .ref ra1, .ref ra2, .ref ra3, .ref qt, .int 0, .null, .int 0, .int 0, .int 0, .int 0, .int 0, .int 0, .int 0, .int (-1)])), (qs, .inr (2, [.ref sa0, .ref sa1, .ref sa2, .int 0, .int 0, .int 0, .int 0])), (sa1, .inl (ks, 64, .inl f))] := hD
  refine lv_aload_n hx hb dX3_read_5 rfl (lv_at hl 0 rfl) ?_
  refine lv_iload_n hx hb dX3_read_6 rfl (lv_at hl 2 rfl) ?_
  refine va_put (D := (dC, dI)) (ci := 3) (v := .int 0) (ty := .int) (C := RX3) (T := TX3) (N := 15) hx hb hts inX3 tyX3 tyX3_ok nmX3 hown hK hP hD hS 0 rfl rfl 5 (by decide) (hts _ T_122) (fun _ h9 => h9) rfl (by decide +kernel) rfl rfl (Nat.le_of_ble_eq_true rfl) dX3_read_7 (fun H locs hP hD hS => ?_)
  have hP : va_P (dC, dI) vwCl [(h0, .inr (3, [.ref ra0, .ref ra1, .ref ra2, .ref ra3, .ref qt, .int 0, .null, .int 0, .int 0, .int 0, .int 0, .int 0, .int 0, .int 0, .int (-1)])), (qs, .inr (2, [.ref sa0, .ref sa1, .ref sa2, .int 0, .int 0, .int 0, .int 0])), (sa1, .inl (ks, 64, .inl f))] H := hP
  have hD : va_D A [(h0, .inr (3, [.ref ra0, .ref ra1, .ref ra2, .ref ra3, .ref qt, .int 0, .null, .int 0, .int 0, .int 0, .int 0, .int 0, .int 0, .int 0, .int (-1)])), (qs, .inr (2, [.ref sa0, .ref sa1, .ref sa2, .int 0, .int 0, .int 0, .int 0])), (sa1, .inl (ks, 64, .inl f))] := hD
  refine lv_aload_n hx hb dX3_read_10 rfl (lv_at hl 0 rfl) ?_
  refine lv_aload_n hx hb dX3_read_11 rfl (lv_at hl 3 rfl) ?_
  refine va_put (D := (dC, dI)) (ci := 3) (v := .ref qs) (ty := .object "LaneWarps$Program") (C := RX3) (T := TX3) (N := 15) hx hb hts inX3 tyX3 tyX3_ok nmX3 hown hK hP hD hS 0 rfl rfl 6 (by decide) (hts _ T_126) (fun _ h9 => h9) rfl (by decide +kernel) rfl rfl (Nat.le_of_ble_eq_true rfl) dX3_read_12 (fun H locs hP hD hS => ?_)
  have hP : va_P (dC, dI) vwCl [(h0, .inr (3, [.ref ra0, .ref ra1, .ref ra2, .ref ra3, .ref qt, .int 0, .ref qs, .int 0, .int 0, .int 0, .int 0, .int 0, .int 0, .int 0, .int (-1)])), (qs, .inr (2, [.ref sa0, .ref sa1, .ref sa2, .int 0, .int 0, .int 0, .int 0])), (sa1, .inl (ks, 64, .inl f))] H := hP
  have hD : va_D A [(h0, .inr (3, [.ref ra0, .ref ra1, .ref ra2, .ref ra3, .ref qt, .int 0, .ref qs, .int 0, .int 0, .int 0, .int 0, .int 0, .int 0, .int 0, .int (-1)])), (qs, .inr (2, [.ref sa0, .ref sa1, .ref sa2, .int 0, .int 0, .int 0, .int 0])), (sa1, .inl (ks, 64, .inl f))] := hD
  refine lv_aload_n hx hb dX3_read_15 rfl (lv_at hl 0 rfl) ?_
  refine va_get (D := (dC, dI)) (ci := 3) (v := .ref qs) (C := RX3) (T := TX3) (N := 15) hx hb hts inX3 hown hK hP 0 rfl rfl 6 (by decide) (hts _ T_126) (fun _ h9 => h9) rfl dX3_read_16 ?_
  have hPc := hP.sub (ws' := [(qs, .inr (2, [.ref sa0, .ref sa1, .ref sa2, .int 0, .int 0, .int 0, .int 0])), (sa1, .inl (ks, 64, .inl f))]) [1, 2] rfl
  have hDc := hD.sub (ws' := [(qs, .inr (2, [.ref sa0, .ref sa1, .ref sa2, .int 0, .int 0, .int 0, .int 0])), (sa1, .inl (ks, 64, .inl f))]) [1, 2] (by decide) rfl
  have hKc := hK.sub (tys' := [(ks, .int)]) [0] rfl
  have hFc := va_free (wc := [(qs, .inr (2, [.ref sa0, .ref sa1, .ref sa2, .int 0, .int 0, .int 0, .int 0])), (sa1, .inl (ks, 64, .inl f))]) hD hS hA [1, 2] rfl
  refine va_callv (va_runV (As := []) (rest := []) ⟨hx, hb, hml, hown, hts⟩ (c_X2_clear l dC dI H.size qs sa0 sa1 sa2 ks f) (cwV 0 hts (ax_gV T_128 T_129 T_130 T_77 T_127) rfl rfl rfl (by decide +kernel) ⟨Nat.le_of_ble_eq_true rfl, Nat.le_of_ble_eq_true rfl⟩) ⟨fun a U g mk q => ⟨q.1, ax_pc rfl rfl q.2⟩, va_recv hKc hPc (ci := 2) (q0 := 0) rfl rfl, fun U hU hW => ⟨rfl, ax_pw hU hW hPc hKc hDc hN⟩⟩ rfl rfl hl.1 rfl (lv_room (Nat.le_of_ble_eq_true rfl)) dX3_read_19 ⟨Nat.le_of_ble_eq_true rfl, Nat.le_of_ble_eq_true rfl⟩) hS (fun q _ h => hFc q h) hFc (fun _ t H1 locs ht hvm hw hB hz1 hk1 hS => ?_)
  obtain ⟨hP1, hK1, hD1⟩ := hB
  rw [ht] at hP1
  have hK1 := va_K.moved hvm.symm hK1
  obtain ⟨hP, hD⟩ := va_join (wr := [(h0, .inr (3, [.ref ra0, .ref ra1, .ref ra2, .ref ra3, .ref qt, .int 0, .ref qs, .int 0, .int 0, .int 0, .int 0, .int 0, .int 0, .int 0, .int (-1)]))]) (w1 := [(qs, .inr (2, [.ref sa0, .ref sa1, .ref sa2, .int 0, .int 0, .int 0, .int 0]))]) hP hD [1, 2] [0] rfl rfl (by decide) (by decide) hk1 hFc hP1 hD1
  generalize H1 = H at hP hS ⊢
  have hP : va_P (dC, dI) vwCl [(h0, .inr (3, [.ref ra0, .ref ra1, .ref ra2, .ref ra3, .ref qt, .int 0, .ref qs, .int 0, .int 0, .int 0, .int 0, .int 0, .int 0, .int 0, .int (-1)])), (qs, .inr (2, [.ref sa0, .ref sa1, .ref sa2, .int 0, .int 0, .int 0, .int 0]))] H := hP
  have hD : va_D A [(h0, .inr (3, [.ref ra0, .ref ra1, .ref ra2, .ref ra3, .ref qt, .int 0, .ref qs, .int 0, .int 0, .int 0, .int 0, .int 0, .int 0, .int 0, .int (-1)])), (qs, .inr (2, [.ref sa0, .ref sa1, .ref sa2, .int 0, .int 0, .int 0, .int 0]))] := hD
  refine lv_aload_n hx hb dX3_read_22 rfl (lv_at hl 0 rfl) ?_
  refine lv_iconst (v := 0) hx hb dX3_read_23 (by decide) ?_
  refine va_put (D := (dC, dI)) (ci := 3) (v := .int 0) (ty := .int) (C := RX3) (T := TX3) (N := 15) hx hb hts inX3 tyX3 tyX3_ok nmX3 hown hK hP hD hS 0 rfl rfl 7 (by decide) (hts _ T_119) (fun _ h9 => h9) rfl (by decide +kernel) rfl rfl (Nat.le_of_ble_eq_true rfl) dX3_read_24 (fun H locs hP hD hS => ?_)
  have hP : va_P (dC, dI) vwCl [(h0, .inr (3, [.ref ra0, .ref ra1, .ref ra2, .ref ra3, .ref qt, .int 0, .ref qs, .int 0, .int 0, .int 0, .int 0, .int 0, .int 0, .int 0, .int (-1)])), (qs, .inr (2, [.ref sa0, .ref sa1, .ref sa2, .int 0, .int 0, .int 0, .int 0]))] H := hP
  have hD : va_D A [(h0, .inr (3, [.ref ra0, .ref ra1, .ref ra2, .ref ra3, .ref qt, .int 0, .ref qs, .int 0, .int 0, .int 0, .int 0, .int 0, .int 0, .int 0, .int (-1)])), (qs, .inr (2, [.ref sa0, .ref sa1, .ref sa2, .int 0, .int 0, .int 0, .int 0]))] := hD
  refine lv_aload_n hx hb dX3_read_27 rfl (lv_at hl 0 rfl) ?_
  refine lv_iconst (v := 0) hx hb dX3_read_28 (by decide) ?_
  refine va_put (D := (dC, dI)) (ci := 3) (v := .int 0) (ty := .int) (C := RX3) (T := TX3) (N := 15) hx hb hts inX3 tyX3 tyX3_ok nmX3 hown hK hP hD hS 0 rfl rfl 9 (by decide) (hts _ T_120) (fun _ h9 => h9) rfl (by decide +kernel) rfl rfl (Nat.le_of_ble_eq_true rfl) dX3_read_29 (fun H locs hP hD hS => ?_)
  have hP : va_P (dC, dI) vwCl [(h0, .inr (3, [.ref ra0, .ref ra1, .ref ra2, .ref ra3, .ref qt, .int 0, .ref qs, .int 0, .int 0, .int 0, .int 0, .int 0, .int 0, .int 0, .int (-1)])), (qs, .inr (2, [.ref sa0, .ref sa1, .ref sa2, .int 0, .int 0, .int 0, .int 0]))] H := hP
  have hD : va_D A [(h0, .inr (3, [.ref ra0, .ref ra1, .ref ra2, .ref ra3, .ref qt, .int 0, .ref qs, .int 0, .int 0, .int 0, .int 0, .int 0, .int 0, .int 0, .int (-1)])), (qs, .inr (2, [.ref sa0, .ref sa1, .ref sa2, .int 0, .int 0, .int 0, .int 0]))] := hD
  refine lv_aload_n hx hb dX3_read_32 rfl (lv_at hl 0 rfl) ?_
  refine lv_iconst (v := 0) hx hb dX3_read_33 (by decide) ?_
  refine va_put (D := (dC, dI)) (ci := 3) (v := .int 0) (ty := .int) (C := RX3) (T := TX3) (N := 15) hx hb hts inX3 tyX3 tyX3_ok nmX3 hown hK hP hD hS 0 rfl rfl 13 (by decide) (hts _ T_124) (fun _ h9 => h9) rfl (by decide +kernel) rfl rfl (Nat.le_of_ble_eq_true rfl) dX3_read_34 (fun H locs hP hD hS => ?_)
  have hP : va_P (dC, dI) vwCl [(h0, .inr (3, [.ref ra0, .ref ra1, .ref ra2, .ref ra3, .ref qt, .int 0, .ref qs, .int 0, .int 0, .int 0, .int 0, .int 0, .int 0, .int 0, .int (-1)])), (qs, .inr (2, [.ref sa0, .ref sa1, .ref sa2, .int 0, .int 0, .int 0, .int 0]))] H := hP
  have hD : va_D A [(h0, .inr (3, [.ref ra0, .ref ra1, .ref ra2, .ref ra3, .ref qt, .int 0, .ref qs, .int 0, .int 0, .int 0, .int 0, .int 0, .int 0, .int 0, .int (-1)])), (qs, .inr (2, [.ref sa0, .ref sa1, .ref sa2, .int 0, .int 0, .int 0, .int 0]))] := hD
  refine lv_aload_n hx hb dX3_read_37 rfl (lv_at hl 0 rfl) ?_
  refine lv_iconst (v := (-1)) hx hb dX3_read_38 (by decide) ?_
  refine va_put (D := (dC, dI)) (ci := 3) (v := .int (-1)) (ty := .int) (C := RX3) (T := TX3) (N := 15) hx hb hts inX3 tyX3 tyX3_ok nmX3 hown hK hP hD hS 0 rfl rfl 14 (by decide) (hts _ T_38) (fun _ h9 => h9) rfl (by decide +kernel) rfl rfl (Nat.le_of_ble_eq_true rfl) dX3_read_39 (fun H locs hP hD hS => ?_)
  have hP : va_P (dC, dI) vwCl [(h0, .inr (3, [.ref ra0, .ref ra1, .ref ra2, .ref ra3, .ref qt, .int 0, .ref qs, .int 0, .int 0, .int 0, .int 0, .int 0, .int 0, .int 0, .int (-1)])), (qs, .inr (2, [.ref sa0, .ref sa1, .ref sa2, .int 0, .int 0, .int 0, .int 0]))] H := hP
  have hD : va_D A [(h0, .inr (3, [.ref ra0, .ref ra1, .ref ra2, .ref ra3, .ref qt, .int 0, .ref qs, .int 0, .int 0, .int 0, .int 0, .int 0, .int 0, .int 0, .int (-1)])), (qs, .inr (2, [.ref sa0, .ref sa1, .ref sa2, .int 0, .int 0, .int 0, .int 0]))] := hD
  refine lv_iconst (v := 1) hx hb dX3_read_42 (by decide) ?_
  refine lv_istore (lv' := [(4, .int 1), (0, .ref h0), (1, .ref qt), (2, .int 0), (3, .ref qs)]) hx hb dX3_read_43 hl (by decide) rfl (fun ls hl => ?_)
  refine lv_aload_n hx hb dX3_read_45 rfl (lv_at hl 1 rfl) ?_
  have hPc := hP.sub (ws' := [(h0, .inr (3, [.ref ra0, .ref ra1, .ref ra2, .ref ra3, .ref qt, .int 0, .ref qs, .int 0, .int 0, .int 0, .int 0, .int 0, .int 0, .int 0, .int (-1)]))]) [0] rfl
  have hDc := hD.sub (ws' := [(h0, .inr (3, [.ref ra0, .ref ra1, .ref ra2, .ref ra3, .ref qt, .int 0, .ref qs, .int 0, .int 0, .int 0, .int 0, .int 0, .int 0, .int 0, .int (-1)]))]) [0] (by decide) rfl
  have hKc := hK.sub (tys' := []) [] rfl
  have hFc := va_free (wc := [(h0, .inr (3, [.ref ra0, .ref ra1, .ref ra2, .ref ra3, .ref qt, .int 0, .ref qs, .int 0, .int 0, .int 0, .int 0, .int 0, .int 0, .int 0, .int (-1)]))]) hD hS hA [0] rfl
  refine va_callv (va_runV (As := []) (rest := []) ⟨hx, hb, hml, hown, hts⟩ (c_X3_scan l dC dI H.size h0 ra0 ra1 ra2 ra3 qt qs) (cwV 0 hts (ax_gV T_132 T_133 T_134 T_71 T_131) rfl rfl rfl (by decide +kernel) ⟨Nat.le_of_ble_eq_true rfl, Nat.le_of_ble_eq_true rfl⟩) ⟨fun a U g mk q => ⟨q.1, ax_pc rfl rfl q.2⟩, va_recv hKc hPc (ci := 3) (q0 := 0) rfl rfl, fun U hU hW => ⟨rfl, ax_pw hU hW hPc hKc hDc hN⟩⟩ rfl rfl hl.1 rfl (lv_room (Nat.le_of_ble_eq_true rfl)) dX3_read_46 ⟨Nat.le_of_ble_eq_true rfl, Nat.le_of_ble_eq_true rfl⟩) hS (fun q _ h => hFc q h) hFc (fun _ t H1 locs ht hvm hw hB hz1 hk1 hS => ?_)
  obtain ⟨hP1, hK1, hD1⟩ := hB
  rw [ht] at hP1
  have hK1 := va_K.moved hvm.symm hK1
  obtain ⟨hP, hD⟩ := va_join (wr := [(qs, .inr (2, [.ref sa0, .ref sa1, .ref sa2, .int 0, .int 0, .int 0, .int 0]))]) (w1 := [(h0, .inr (3, [.ref ra0, .ref ra1, .ref ra2, .ref ra3, .ref qt, .int 0, .ref qs, .int 0, .int 0, .int 0, .int (-1), .int 0, .int 0, .int 0, .int (-1)]))]) hP hD [0] [1] rfl rfl (by decide) (by decide) hk1 hFc hP1 hD1
  generalize H1 = H at hP hS ⊢
  have hP : va_P (dC, dI) vwCl [(qs, .inr (2, [.ref sa0, .ref sa1, .ref sa2, .int 0, .int 0, .int 0, .int 0])), (h0, .inr (3, [.ref ra0, .ref ra1, .ref ra2, .ref ra3, .ref qt, .int 0, .ref qs, .int 0, .int 0, .int 0, .int (-1), .int 0, .int 0, .int 0, .int (-1)]))] H := hP
  have hD : va_D A [(qs, .inr (2, [.ref sa0, .ref sa1, .ref sa2, .int 0, .int 0, .int 0, .int 0])), (h0, .inr (3, [.ref ra0, .ref ra1, .ref ra2, .ref ra3, .ref qt, .int 0, .ref qs, .int 0, .int 0, .int 0, .int (-1), .int 0, .int 0, .int 0, .int (-1)]))] := hD
  refine lv_iconst (v := 0) hx hb dX3_read_49 (by decide) ?_
  refine lv_istore (lv' := [(5, .int 0), (4, .int 1), (0, .ref h0), (1, .ref qt), (2, .int 0), (3, .ref qs)]) hx hb dX3_read_50 hl (by decide) rfl (fun ls hl => ?_)
  refine lv_iload hx hb dX3_read_52 (lv_at hl 1 rfl) ?_
  refine lv_if_eq (tgt := 85) hx hb dX3_read_54 (by decide) (fun c => absurd c (by decide)) (fun _ => ?_)
  refine lv_aload_n hx hb dX3_read_57 rfl (lv_at hl 2 rfl) ?_
  refine va_get (D := (dC, dI)) (ci := 3) (v := .int 0) (C := RX3) (T := TX3) (N := 15) hx hb hts inX3 hown hK hP 1 rfl rfl 7 (by decide) (hts _ T_119) (fun _ h9 => h9) rfl dX3_read_58 ?_
  refine lv_if_eq (tgt := 85) hx hb dX3_read_61 (by decide) (fun _ => ?_) (fun c => absurd (by decide) c)
  refine lv_iload hx hb dX3_read_85 (lv_at hl 1 rfl) ?_
  refine lv_if_eq (tgt := 110) hx hb dX3_read_87 (by decide) (fun c => absurd c (by decide)) (fun _ => ?_)
  refine lv_aload_n hx hb dX3_read_90 rfl (lv_at hl 2 rfl) ?_
  refine va_get (D := (dC, dI)) (ci := 3) (v := .ref qs) (C := RX3) (T := TX3) (N := 15) hx hb hts inX3 hown hK hP 1 rfl rfl 6 (by decide) (hts _ T_126) (fun _ h9 => h9) rfl dX3_read_91 ?_
  refine va_getN (D := (dC, dI)) (ci := 2) (v := .int 0) (C := RX2) (T := TX2) (N := 7) hx hb hts inX2 hown hK hP 0 rfl rfl 3 (by decide) (va_Nw.use rfl hN.2.2.2.2.2.2.2.2.2.1) (fun _ h9 => h9) rfl dX3_read_94 ?_
  refine lv_if_ne (tgt := 110) hx hb dX3_read_97 (by decide) (fun c => absurd (by decide) c) (fun _ => ?_)
  refine lv_aload_n hx hb dX3_read_100 rfl (lv_at hl 2 rfl) ?_
  refine lv_iconst (v := 1) hx hb dX3_read_101 (by decide) ?_
  refine lv_aload_n hx hb dX3_read_102 rfl (lv_at hl 2 rfl) ?_
  refine va_get (D := (dC, dI)) (ci := 3) (v := .int 0) (C := RX3) (T := TX3) (N := 15) hx hb hts inX3 hown hK hP 1 rfl rfl 5 (by decide) (hts _ T_122) (fun _ h9 => h9) rfl dX3_read_103 ?_
  have hPc := hP.sub (ws' := [(h0, .inr (3, [.ref ra0, .ref ra1, .ref ra2, .ref ra3, .ref qt, .int 0, .ref qs, .int 0, .int 0, .int 0, .int (-1), .int 0, .int 0, .int 0, .int (-1)]))]) [1] rfl
  have hDc := hD.sub (ws' := [(h0, .inr (3, [.ref ra0, .ref ra1, .ref ra2, .ref ra3, .ref qt, .int 0, .ref qs, .int 0, .int 0, .int 0, .int (-1), .int 0, .int 0, .int 0, .int (-1)]))]) [1] (by decide) rfl
  have hKc := hK.sub (tys' := []) [] rfl
  have hFc := va_free (wc := [(h0, .inr (3, [.ref ra0, .ref ra1, .ref ra2, .ref ra3, .ref qt, .int 0, .ref qs, .int 0, .int 0, .int 0, .int (-1), .int 0, .int 0, .int 0, .int (-1)]))]) hD hS hA [1] rfl
  refine va_calli (va_runV (As := [.int 1, .int 0]) (rest := []) ⟨hx, hb, hml, hown, hts⟩ (c_X3_fail l dC dI H.size h0 ra0 ra1 ra2 ra3 qt qs) (cwV 2 hts (ax_gV T_136 T_137 T_138 T_71 T_135) rfl rfl rfl (by decide +kernel) ⟨Nat.le_of_ble_eq_true rfl, Nat.le_of_ble_eq_true rfl⟩) ⟨fun a U g mk q => ⟨q.1, ax_pc rfl rfl q.2⟩, va_recv hKc hPc (ci := 3) (q0 := 0) rfl rfl, fun U hU hW => ⟨rfl, ax_pw hU hW hPc hKc hDc hN⟩⟩ rfl rfl hl.1 rfl (lv_room (Nat.le_of_ble_eq_true rfl)) dX3_read_106 ⟨Nat.le_of_ble_eq_true rfl, Nat.le_of_ble_eq_true rfl⟩) hS (fun q _ h => hFc q h) hFc (fun r1 _ t H1 locs ht hvm hw hB hz1 hk1 hS => ?_)
  obtain ⟨hP1, hK1, hD1⟩ := hB
  rw [ht] at hP1
  have hK1 := va_K.moved hvm.symm hK1
  obtain ⟨hP, hD⟩ := va_join (wr := [(qs, .inr (2, [.ref sa0, .ref sa1, .ref sa2, .int 0, .int 0, .int 0, .int 0]))]) (w1 := []) hP hD [1] [0] rfl rfl (by decide) (by decide) hk1 hFc hP1 hD1
  generalize H1 = H at hP hS ⊢
  have hP : va_P (dC, dI) vwCl [(qs, .inr (2, [.ref sa0, .ref sa1, .ref sa2, .int 0, .int 0, .int 0, .int 0]))] H := hP
  have hD : va_D A [(qs, .inr (2, [.ref sa0, .ref sa1, .ref sa2, .int 0, .int 0, .int 0, .int 0]))] := hD
  subst hw
  have hP9 := hP.sub (ws' := []) [] rfl
  have hD9 := hD.sub (ws' := []) [] (by decide) rfl
  have hK9 := hK.sub (tys' := []) [] rfl
  exact W.zret (v := 0) (ty := .boolean) hx hb hr (by decide) (fun t ht hW => ⟨⟨0, (), rfl, rfl, by rw [ht]; exact hP9, va_K.moved hW.alike hK9, hD9⟩, hS.F ht⟩) hS.2.2 dX3_read_109

set_option maxHeartbeats 4000000 in
set_option maxRecDepth 100000 in
/-- program at an empty tape: NONE -/
theorem c_X6_program (l : Launch) (dC : Nat → ClassId) (dI : Nat → Nat → Nat) (sz : Nat) (h0 : Nat) (qt : Nat) (qr : Nat) (qc : Nat) (qs : Nat) (qn : Nat) (qp : Nat) (qm : Nat) (qf : Nat) (qx : Nat) (ra0 : Nat) (ra1 : Nat) (ra2 : Nat) (ra3 : Nat) (sa0 : Nat) (sa1 : Nat) (sa2 : Nat) (ks : ClassId) (kr : ClassId) : Met l yX6_program (Cond.code yX6_program cX6_program 3 (some .int) :: T0) ({ frames := 3, cells := 0, slots := 0, locals := 68 }) (va_Pc [.ref h0] (ax_W dC dI sz [(h0, .inr (6, [.ref qt, .int 0, .ref qr, .ref qc, .ref qs, .int 0, .ref qn, .ref qp, .int 0, .int 0, .ref qm, .ref qf, .ref qx, .long 1])), (qr, .inr (3, [.ref ra0, .ref ra1, .ref ra2, .ref ra3, .null, .int 0, .null, .int 0, .int 0, .int 0, .int 0, .int 0, .int 0, .int 0, .int (-1)])), (qs, .inr (2, [.ref sa0, .ref sa1, .ref sa2, .int 0, .int 0, .int 0, .int 0])), (sa1, .inl (ks, 64, .inl (fun _ => 0))), (qx, .inl (kr, 6, .inl (fun _ => 0)))] [(ks, .int), (kr, .int)])) (va_Qi (fun (r : Int32) (_ : Unit) => r = (-1)) (fun (_ : Unit) (t : State) => va_P (dC, dI) vwCl [] t.heap ∧ va_K (dC, dI) vwCl [] t ∧ va_D (va_A [(h0, .inr (6, [.ref qt, .int 0, .ref qr, .ref qc, .ref qs, .int 0, .ref qn, .ref qp, .int 0, .int 0, .ref qm, .ref qf, .ref qx, .long 1])), (qr, .inr (3, [.ref ra0, .ref ra1, .ref ra2, .ref ra3, .null, .int 0, .null, .int 0, .int 0, .int 0, .int 0, .int 0, .int 0, .int 0, .int (-1)])), (qs, .inr (2, [.ref sa0, .ref sa1, .ref sa2, .int 0, .int 0, .int 0, .int 0])), (sa1, .inl (ks, 64, .inl (fun _ => 0))), (qx, .inl (kr, 6, .inl (fun _ => 0)))] sz) []) (va_A [(h0, .inr (6, [.ref qt, .int 0, .ref qr, .ref qc, .ref qs, .int 0, .ref qn, .ref qp, .int 0, .int 0, .ref qm, .ref qf, .ref qx, .long 1])), (qr, .inr (3, [.ref ra0, .ref ra1, .ref ra2, .ref ra3, .null, .int 0, .null, .int 0, .int 0, .int 0, .int 0, .int 0, .int 0, .int 0, .int (-1)])), (qs, .inr (2, [.ref sa0, .ref sa1, .ref sa2, .int 0, .int 0, .int 0, .int 0])), (sa1, .inl (ks, 64, .inl (fun _ => 0))), (qx, .inl (kr, 6, .inl (fun _ => 0)))] sz)) 0 0 (va_A [(h0, .inr (6, [.ref qt, .int 0, .ref qr, .ref qc, .ref qs, .int 0, .ref qn, .ref qp, .int 0, .int 0, .ref qm, .ref qf, .ref qx, .long 1])), (qr, .inr (3, [.ref ra0, .ref ra1, .ref ra2, .ref ra3, .null, .int 0, .null, .int 0, .int 0, .int 0, .int 0, .int 0, .int 0, .int 0, .int (-1)])), (qs, .inr (2, [.ref sa0, .ref sa1, .ref sa2, .int 0, .int 0, .int 0, .int 0])), (sa1, .inl (ks, 64, .inl (fun _ => 0))), (qx, .inl (kr, 6, .inl (fun _ => 0)))] sz) := by
  refine Met.ofW (cc := cX6_program) (maxL := 3) (ret := (some .int)) (by decide) rfl ?_
  intro p e s m args below meth c s₁ B hml hv
  obtain ⟨rfl, hsz, hP, hK, hD0, hN⟩ := hv
  have hx := B.exec
  have hb := B.bytes
  have hr := B.returns
  have hts : ∀ w ∈ T0, w.before _ s = true := fun w h => atoms_spec (ws := Cond.code yX6_program cX6_program 3 (some .int) :: T0) B.pre w (List.mem_cons_of_mem _ h)
  have hown : s.vm.findClass RX6 = some m.cls := findClass_of_methodNamed B.named
  have hlocks := B.notSynchronized
  subst hsz
  have hD := hD0.self (sz := s.heap.size)
  generalize hAe : va_A [(h0, .inr (6, [.ref qt, .int 0, .ref qr, .ref qc, .ref qs, .int 0, .ref qn, .ref qp, .int 0, .int 0, .ref qm, .ref qf, .ref qx, .long 1])), (qr, .inr (3, [.ref ra0, .ref ra1, .ref ra2, .ref ra3, .null, .int 0, .null, .int 0, .int 0, .int 0, .int 0, .int 0, .int 0, .int 0, .int (-1)])), (qs, .inr (2, [.ref sa0, .ref sa1, .ref sa2, .int 0, .int 0, .int 0, .int 0])), (sa1, .inl (ks, 64, .inl (fun _ => 0))), (qx, .inl (kr, 6, .inl (fun _ => 0)))] s.heap.size = A at hD ⊢
  have hA : ∀ q : Nat, s.heap.size ≤ q → A q := fun q h => by rw [← hAe]; exact Or.inr h
  have hS : va_S A s.heap s.heap [] := va_S.rf
  have hP : va_P (dC, dI) vwCl [(h0, .inr (6, [.ref qt, .int 0, .ref qr, .ref qc, .ref qs, .int 0, .ref qn, .ref qp, .int 0, .int 0, .ref qm, .ref qf, .ref qx, .long 1])), (qr, .inr (3, [.ref ra0, .ref ra1, .ref ra2, .ref ra3, .null, .int 0, .null, .int 0, .int 0, .int 0, .int 0, .int 0, .int 0, .int 0, .int (-1)])), (qs, .inr (2, [.ref sa0, .ref sa1, .ref sa2, .int 0, .int 0, .int 0, .int 0])), (sa1, .inl (ks, 64, .inl (fun _ => 0))), (qx, .inl (kr, 6, .inl (fun _ => 0)))] s.heap := hP
  have hl := lv_entry ([.ref h0]) (n := 3) (Nat.le_of_ble_eq_true rfl)
  rw [lg_entry_eq]
  generalize (lg_sl ([.ref h0]) ++ List.replicate (3 - (lg_sl ([.ref h0])).length) Slot.unset).toArray = ls at hl ⊢
  refine ax_gen hP hD hS (fun H locs hP hD hS => ?_)
  have hl : lv_has ls 3 [(0, .ref h0)] := hl
  refine lv_aload_n hx hb dX6_program_0 rfl (lv_at hl 0 rfl) ?_
  refine va_get (D := (dC, dI)) (ci := 6) (v := .ref qr) (C := RX6) (T := TX6) (N := 14) hx hb hts inX6 hown hK hP 0 rfl rfl 2 (by decide) (hts _ T_74) (fun _ h9 => h9) rfl dX6_program_1 ?_
  refine lv_aload_n hx hb dX6_program_4 rfl (lv_at hl 0 rfl) ?_
  refine va_get (D := (dC, dI)) (ci := 6) (v := .ref qt) (C := RX6) (T := TX6) (N := 14) hx hb hts inX6 hown hK hP 0 rfl rfl 0 (by decide) (hts _ T_68) (fun _ h9 => h9) rfl dX6_program_5 ?_
  refine lv_aload_n hx hb dX6_program_8 rfl (lv_at hl 0 rfl) ?_
  refine va_get (D := (dC, dI)) (ci := 6) (v := .int 0) (C := RX6) (T := TX6) (N := 14) hx hb hts inX6 hown hK hP 0 rfl rfl 1 (by decide) (hts _ T_101) (fun _ h9 => h9) rfl dX6_program_9 ?_
  refine lv_aload_n hx hb dX6_program_12 rfl (lv_at hl 0 rfl) ?_
  refine va_get (D := (dC, dI)) (ci := 6) (v := .ref qs) (C := RX6) (T := TX6) (N := 14) hx hb hts inX6 hown hK hP 0 rfl rfl 4 (by decide) (hts _ T_81) (fun _ h9 => h9) rfl dX6_program_13 ?_
  have hPc := hP.sub (ws' := [(qr, .inr (3, [.ref ra0, .ref ra1, .ref ra2, .ref ra3, .null, .int 0, .null, .int 0, .int 0, .int 0, .int 0, .int 0, .int 0, .int 0, .int (-1)])), (qs, .inr (2, [.ref sa0, .ref sa1, .ref sa2, .int 0, .int 0, .int 0, .int 0])), (sa1, .inl (ks, 64, .inl (fun _ => 0)))]) [1, 2, 3] rfl
  have hDc := hD.sub (ws' := [(qr, .inr (3, [.ref ra0, .ref ra1, .ref ra2, .ref ra3, .null, .int 0, .null, .int 0, .int 0, .int 0, .int 0, .int 0, .int 0, .int 0, .int (-1)])), (qs, .inr (2, [.ref sa0, .ref sa1, .ref sa2, .int 0, .int 0, .int 0, .int 0])), (sa1, .inl (ks, 64, .inl (fun _ => 0)))]) [1, 2, 3] (by decide) rfl
  have hKc := hK.sub (tys' := [(ks, .int)]) [0] rfl
  have hFc := va_free (wc := [(qr, .inr (3, [.ref ra0, .ref ra1, .ref ra2, .ref ra3, .null, .int 0, .null, .int 0, .int 0, .int 0, .int 0, .int 0, .int 0, .int 0, .int (-1)])), (qs, .inr (2, [.ref sa0, .ref sa1, .ref sa2, .int 0, .int 0, .int 0, .int 0])), (sa1, .inl (ks, 64, .inl (fun _ => 0)))]) hD hS hA [1, 2, 3] rfl
  refine va_calli (va_runV (As := [.ref qt, .int 0, .ref qs]) (rest := []) ⟨hx, hb, hml, hown, hts⟩ (c_X3_read l dC dI H.size qr ra0 ra1 ra2 ra3 qt qs sa0 sa1 sa2 ks (fun _ => 0)) (cwV 3 hts (ax_gV T_140 T_141 T_142 T_71 T_139) rfl rfl rfl (by decide +kernel) ⟨Nat.le_of_ble_eq_true rfl, Nat.le_of_ble_eq_true rfl⟩) ⟨fun a U g mk q => ⟨q.1, ax_pc rfl rfl q.2⟩, va_recv hKc hPc (ci := 3) (q0 := 0) rfl rfl, fun U hU hW => ⟨rfl, ax_pw hU hW hPc hKc hDc hN⟩⟩ rfl rfl hl.1 rfl (lv_room (Nat.le_of_ble_eq_true rfl)) dX6_program_16 ⟨Nat.le_of_ble_eq_true rfl, Nat.le_of_ble_eq_true rfl⟩) hS (fun q _ h => hFc q h) hFc (fun r1 _ t H1 locs ht hvm hw hB hz1 hk1 hS => ?_)
  obtain ⟨hP1, hK1, hD1⟩ := hB
  rw [ht] at hP1
  have hK1 := va_K.moved hvm.symm hK1
  obtain ⟨hP, hD⟩ := va_join (wr := [(h0, .inr (6, [.ref qt, .int 0, .ref qr, .ref qc, .ref qs, .int 0, .ref qn, .ref qp, .int 0, .int 0, .ref qm, .ref qf, .ref qx, .long 1])), (qx, .inl (kr, 6, .inl (fun _ => 0)))]) (w1 := []) hP hD [1, 2, 3] [0, 4] rfl rfl (by decide) (by decide) hk1 hFc hP1 hD1
  generalize H1 = H at hP hS ⊢
  have hP : va_P (dC, dI) vwCl [(h0, .inr (6, [.ref qt, .int 0, .ref qr, .ref qc, .ref qs, .int 0, .ref qn, .ref qp, .int 0, .int 0, .ref qm, .ref qf, .ref qx, .long 1])), (qx, .inl (kr, 6, .inl (fun _ => 0)))] H := hP
  have hD : va_D A [(h0, .inr (6, [.ref qt, .int 0, .ref qr, .ref qc, .ref qs, .int 0, .ref qn, .ref qp, .int 0, .int 0, .ref qm, .ref qf, .ref qx, .long 1])), (qx, .inl (kr, 6, .inl (fun _ => 0)))] := hD
  subst hw
  refine lv_istore_n (lv' := [(1, .int 0), (0, .ref h0)]) hx hb dX6_program_19 rfl hl (by decide) rfl (fun ls hl => ?_)
  refine lv_aload_n hx hb dX6_program_20 rfl (lv_at hl 1 rfl) ?_
  refine lv_iconst (v := 0) hx hb dX6_program_21 (by decide) ?_
  refine va_put (D := (dC, dI)) (ci := 6) (v := .int 0) (ty := .int) (C := RX6) (T := TX6) (N := 14) hx hb hts inX6 tyX6 tyX6_ok nmX6 hown hK hP hD hS 0 rfl rfl 1 (by decide) (hts _ T_101) (fun _ h9 => h9) rfl (by decide +kernel) rfl rfl (Nat.le_of_ble_eq_true rfl) dX6_program_22 (fun H locs hP hD hS => ?_)
  have hP : va_P (dC, dI) vwCl [(h0, .inr (6, [.ref qt, .int 0, .ref qr, .ref qc, .ref qs, .int 0, .ref qn, .ref qp, .int 0, .int 0, .ref qm, .ref qf, .ref qx, .long 1])), (qx, .inl (kr, 6, .inl (fun _ => 0)))] H := hP
  have hD : va_D A [(h0, .inr (6, [.ref qt, .int 0, .ref qr, .ref qc, .ref qs, .int 0, .ref qn, .ref qp, .int 0, .int 0, .ref qm, .ref qf, .ref qx, .long 1])), (qx, .inl (kr, 6, .inl (fun _ => 0)))] := hD
  refine lv_iload_n hx hb dX6_program_25 rfl (lv_at hl 0 rfl) ?_
  refine lv_if_ne (tgt := 35) hx hb dX6_program_26 (by decide) (fun c => absurd (by decide) c) (fun _ => ?_)
  refine lv_aload_n hx hb dX6_program_29 rfl (lv_at hl 1 rfl) ?_
  refine lv_iconst (v := 1) hx hb dX6_program_30 (by decide) ?_
  have hPc := hP.sub (ws' := [(h0, .inr (6, [.ref qt, .int 0, .ref qr, .ref qc, .ref qs, .int 0, .ref qn, .ref qp, .int 0, .int 0, .ref qm, .ref qf, .ref qx, .long 1])), (qx, .inl (kr, 6, .inl (fun _ => 0)))]) [0, 1] rfl
  have hDc := hD.sub (ws' := [(h0, .inr (6, [.ref qt, .int 0, .ref qr, .ref qc, .ref qs, .int 0, .ref qn, .ref qp, .int 0, .int 0, .ref qm, .ref qf, .ref qx, .long 1])), (qx, .inl (kr, 6, .inl (fun _ => 0)))]) [0, 1] (by decide) rfl
  have hKc := hK.sub (tys' := [(kr, .int)]) [1] rfl
  have hFc := va_free (wc := [(h0, .inr (6, [.ref qt, .int 0, .ref qr, .ref qc, .ref qs, .int 0, .ref qn, .ref qp, .int 0, .int 0, .ref qm, .ref qf, .ref qx, .long 1])), (qx, .inl (kr, 6, .inl (fun _ => 0)))]) hD hS hA [0, 1] rfl
  refine va_calli (va_runV (As := [.int 1]) (rest := []) ⟨hx, hb, hml, hown, hts⟩ (c_X6_refuse l dC dI H.size h0 qt qr qc qs qn qp qm qf qx kr (fun _ => 0) 1 (ax_in (by decide))) (cwV 1 hts (ax_gV T_108 T_109 T_110 T_106 T_107) rfl rfl rfl (by decide +kernel) ⟨Nat.le_of_ble_eq_true rfl, Nat.le_of_ble_eq_true rfl⟩) ⟨fun a U g mk q => ⟨q.1, ax_pc rfl rfl q.2⟩, va_recv hKc hPc (ci := 6) (q0 := 0) rfl rfl, fun U hU hW => ⟨rfl, ax_pw hU hW hPc hKc hDc hN⟩⟩ rfl rfl hl.1 rfl (lv_room (Nat.le_of_ble_eq_true rfl)) dX6_program_31 ⟨Nat.le_of_ble_eq_true rfl, Nat.le_of_ble_eq_true rfl⟩) hS (fun q _ h => hFc q h) hFc (fun r2 _ t H1 locs ht hvm hw hB hz1 hk1 hS => ?_)
  obtain ⟨hP1, hK1, hD1⟩ := hB
  rw [ht] at hP1
  have hK1 := va_K.moved hvm.symm hK1
  obtain ⟨hP, hD⟩ := va_join (wr := []) (w1 := []) hP hD [0, 1] [] rfl rfl (by decide) (by decide) hk1 hFc hP1 hD1
  generalize H1 = H at hP hS ⊢
  have hP : va_P (dC, dI) vwCl [] H := hP
  have hD : va_D A [] := hD
  subst hw
  have hP9 := hP.sub (ws' := []) [] rfl
  have hD9 := hD.sub (ws' := []) [] (by decide) rfl
  have hK9 := hK.sub (tys' := []) [] rfl
  exact W.iret (v := (-1)) hx hb hr (fun t ht hW => ⟨⟨(-1), (), rfl, rfl, by rw [ht]; exact hP9, va_K.moved hW.alike hK9, hD9⟩, hS.F ht⟩) hS.2.2 dX6_program_34

