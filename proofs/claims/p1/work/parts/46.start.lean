set_option maxHeartbeats 4000000 in
set_option maxRecDepth 100000 in
/-- THE LAW, from its entry -/
theorem whole_start {p : Program} {e : Env} {s : State} {m : MethodId} {below : List Frame} {meth : Method} {c : Code} (l : Launch) (hflags : l.flags = flags0) {b L : Nat} {xs : Nat → Int32} (hL : L ≤ 6) (C0 : lw_At p s m meth c b L xs) : W p l e room_1 s m #[Value.ref b] below meth c s.heap [] 0 0 (lw_Z below #[Value.ref b] s) (entryFrame m ([Value.ref b] : List Value).toArray 4) := by
  obtain ⟨hx, hb, hr, hml, hown0, hts0, hX, hbl, hlocks, hgv⟩ := id C0
  have hown : s.vm.findClass RL = some m.cls := hown0
  have hts : ∀ w ∈ T0, w.before #[Value.ref b] s = true := fun w h => hts0 w (ax_law w h).1
  have hN : ax_N s := ax_Nlaw hts0
  have hA : ∀ q : Nat, s.heap.size ≤ q → (fun q : Nat => s.heap.size ≤ q) q := fun _ h => h
  have hbA : ¬ (fun q : Nat => s.heap.size ≤ q) b := Nat.not_le.mpr hbl
  obtain ⟨c0, iS0, hKn0⟩ := u_known (C := RX0) (T := TX0) (N := 14) (n := 14) hts inX0 (hts _ T_89)
  obtain ⟨c1, iS1, hKn1⟩ := u_known (C := RX1) (T := TX1) (N := 12) (n := 12) hts inX1 (hts _ T_41)
  obtain ⟨c2, iS2, hKn2⟩ := u_known (C := RX2) (T := TX2) (N := 7) (n := 7) hts inX2 (hts _ T_76)
  obtain ⟨c3, iS3, hKn3⟩ := u_known (C := RX3) (T := TX3) (N := 15) (n := 15) hts inX3 (hts _ T_70)
  obtain ⟨c4, iS4, hKn4⟩ := u_known (C := RX4) (T := TX4) (N := 15) (n := 15) hts inX4 (hts _ T_47)
  obtain ⟨c5, iS5, hKn5⟩ := u_known (C := RX5) (T := TX5) (N := 11) (n := 11) hts inX5 (hts _ T_19)
  obtain ⟨c6, iS6, hKn6⟩ := u_known (C := RX6) (T := TX6) (N := 14) (n := 14) hts inX6 (hts _ T_496)
  obtain ⟨c7, iS7, hKn7⟩ := u_known (C := RX7) (T := TX7) (N := 34) (n := 34) hts inX7 (hts _ T_497)
  obtain ⟨dC, dI, hKc⟩ : ∃ (dC : Nat → ClassId) (dI : Nat → Nat → Nat), ∀ (k : Nat) (q : vw_C), vwCl[k]? = some q → u_Kn s q.1 q.2.1 q.2.2 (dC k) (dI k) := by
    refine ⟨fun k => if k = 0 then c0 else if k = 1 then c1 else if k = 2 then c2 else if k = 3 then c3 else if k = 4 then c4 else if k = 5 then c5 else if k = 6 then c6 else c7, fun k => if k = 0 then iS0 else if k = 1 then iS1 else if k = 2 then iS2 else if k = 3 then iS3 else if k = 4 then iS4 else if k = 5 then iS5 else if k = 6 then iS6 else iS7, ?_⟩
    intro k q hq
    match k, hq with
    | 0, hq => cases hq; exact hKn0
    | 1, hq => cases hq; exact hKn1
    | 2, hq => cases hq; exact hKn2
    | 3, hq => cases hq; exact hKn3
    | 4, hq => cases hq; exact hKn4
    | 5, hq => cases hq; exact hKn5
    | 6, hq => cases hq; exact hKn6
    | 7, hq => cases hq; exact hKn7
    | k + 8, hq => simp [vwCl] at hq
  have hS : va_S (fun q : Nat => s.heap.size ≤ q) s.heap s.heap [] := va_S.rf
  have hK : va_K (dC, dI) vwCl [] s := ⟨hKc, fun k q h => by simp at h⟩
  have hP : va_P (dC, dI) vwCl [] s.heap := fun k q h => by simp at h
  have hD : va_D (fun q : Nat => s.heap.size ≤ q) [] := ⟨fun i j p q h => by simp at h, fun k q h => by simp at h⟩
  have hl := lv_entry ([.ref b]) (n := 4) (Nat.le_of_ble_eq_true rfl)
  rw [lg_entry_eq]
  generalize (lg_sl ([.ref b]) ++ List.replicate (4 - (lg_sl ([.ref b])).length) Slot.unset).toArray = ls at hl ⊢
  have hl : lv_has ls 4 [(0, .ref b)] := hl
  refine ax_gen hP hD hS (fun H locs hP hD hS => ?_)
  refine va_new (ci := 6) (fs := [.null, .int 0, .null, .null, .null, .int 0, .null, .null, .int 0, .int 0, .null, .null, .null, .long 0]) (C := RX6) (T := TX6) (N := 14) hx hb hts inX6 tyX6 tyX6_ok hown (hts _ T_498) (hts _ T_496) (hts _ T_106) hK hP hD hS hA rfl dvX6 (Nat.le_of_ble_eq_true rfl) (Nat.le_of_ble_eq_true rfl) dL_law_0 (fun q1 H hP hD hS => ?_)
  have hP : va_P (dC, dI) vwCl [(q1, .inr (6, [.null, .int 0, .null, .null, .null, .int 0, .null, .null, .int 0, .int 0, .null, .null, .null, .long 0]))] H := hP
  have hD : va_D (fun q : Nat => s.heap.size ≤ q) [(q1, .inr (6, [.null, .int 0, .null, .null, .null, .int 0, .null, .null, .int 0, .int 0, .null, .null, .null, .long 0]))] := hD
  refine W.widen (k := 1) (n := 14) (Nat.le_of_ble_eq_true rfl) (Nat.le_of_ble_eq_true rfl) ?_
  refine lv_dup hx hb dL_law_3 rfl ?_
  have hPc := hP.sub (ws' := [(q1, .inr (6, [.null, .int 0, .null, .null, .null, .int 0, .null, .null, .int 0, .int 0, .null, .null, .null, .long 0]))]) [0] rfl
  have hDc := hD.sub (ws' := [(q1, .inr (6, [.null, .int 0, .null, .null, .null, .int 0, .null, .null, .int 0, .int 0, .null, .null, .null, .long 0]))]) [0] (by decide) rfl
  have hKc := hK.sub (tys' := []) [] rfl
  have hFc := va_free (wc := [(q1, .inr (6, [.null, .int 0, .null, .null, .null, .int 0, .null, .null, .int 0, .int 0, .null, .null, .null, .long 0]))]) hD hS hA [0] rfl
  refine va_callv (va_runI (As := []) (rest := [.ref q1]) ⟨hx, hb, hml, hown, hts⟩ (c_X6_init l dC dI H.size q1) (cwI 0 hts (ax_gT T_499) rfl rfl rfl (hts _ T_106) (hts _ T_500) (hts _ T_501) rfl (by decide +kernel) ⟨Nat.le_of_ble_eq_true rfl, Nat.le_of_ble_eq_true rfl⟩) ⟨fun a U g mk q => ⟨q.1, ax_pc rfl rfl q.2⟩, fun U hU hW => ⟨rfl, ax_pw hU hW hPc hKc hDc hN⟩⟩ rfl rfl hl.1 rfl (lv_room (Nat.le_of_ble_eq_true rfl)) dL_law_4 ⟨Nat.le_of_ble_eq_true rfl, Nat.le_of_ble_eq_true rfl⟩) hS (fun q _ h => hFc q h) hFc (fun _ t H1 locs ht hvm hw hB hz1 hk1 hS => ?_)
  obtain ⟨q2, q3, q4, q5, q6, q7, q8, q9, q10, r11, r12, r13, r14, s15, s16, s17, n18, n19, n20, n21, n22, n23, n24, k25, k26, k27, hP1, hK1, hD1⟩ := hB
  rw [ht] at hP1
  have hK1 := va_K.moved hvm.symm hK1
  obtain ⟨hP, hD⟩ := va_join (wr := []) (w1 := [(q1, .inr (6, [.ref q2, .int 0, .ref q3, .ref q4, .ref q5, .int 0, .ref q6, .ref q7, .int 0, .int 0, .ref q8, .ref q9, .ref q10, .long 1])), (q2, .inl (k25, 1600, .inl (fun _ => 0))), (q3, .inr (3, [.ref r11, .ref r12, .ref r13, .ref r14, .null, .int 0, .null, .int 0, .int 0, .int 0, .int 0, .int 0, .int 0, .int 0, .int (-1)])), (q5, .inr (2, [.ref s15, .ref s16, .ref s17, .int 0, .int 0, .int 0, .int 0])), (s16, .inl (k26, 64, .inl (fun _ => 0))), (q6, .inr (4, [.ref n18, .ref n19, .ref n20, .ref n21, .ref n22, .ref n23, .ref n24, .int 0, .int 0, .int 0, .int 0, .int 0, .int 0, .int 0, .int (-1)])), (q10, .inl (k27, 6, .inl (fun _ => 0)))]) hP hD [0] [] rfl rfl (by decide) (by decide) hk1 hFc hP1 hD1
  have hK := hK.app hK1
  generalize H1 = H at hP hS ⊢
  have hP : va_P (dC, dI) vwCl [(q1, .inr (6, [.ref q2, .int 0, .ref q3, .ref q4, .ref q5, .int 0, .ref q6, .ref q7, .int 0, .int 0, .ref q8, .ref q9, .ref q10, .long 1])), (q2, .inl (k25, 1600, .inl (fun _ => 0))), (q3, .inr (3, [.ref r11, .ref r12, .ref r13, .ref r14, .null, .int 0, .null, .int 0, .int 0, .int 0, .int 0, .int 0, .int 0, .int 0, .int (-1)])), (q5, .inr (2, [.ref s15, .ref s16, .ref s17, .int 0, .int 0, .int 0, .int 0])), (s16, .inl (k26, 64, .inl (fun _ => 0))), (q6, .inr (4, [.ref n18, .ref n19, .ref n20, .ref n21, .ref n22, .ref n23, .ref n24, .int 0, .int 0, .int 0, .int 0, .int 0, .int 0, .int 0, .int (-1)])), (q10, .inl (k27, 6, .inl (fun _ => 0)))] H := hP
  have hD : va_D (fun q : Nat => s.heap.size ≤ q) [(q1, .inr (6, [.ref q2, .int 0, .ref q3, .ref q4, .ref q5, .int 0, .ref q6, .ref q7, .int 0, .int 0, .ref q8, .ref q9, .ref q10, .long 1])), (q2, .inl (k25, 1600, .inl (fun _ => 0))), (q3, .inr (3, [.ref r11, .ref r12, .ref r13, .ref r14, .null, .int 0, .null, .int 0, .int 0, .int 0, .int 0, .int 0, .int 0, .int 0, .int (-1)])), (q5, .inr (2, [.ref s15, .ref s16, .ref s17, .int 0, .int 0, .int 0, .int 0])), (s16, .inl (k26, 64, .inl (fun _ => 0))), (q6, .inr (4, [.ref n18, .ref n19, .ref n20, .ref n21, .ref n22, .ref n23, .ref n24, .int 0, .int 0, .int 0, .int 0, .int 0, .int 0, .int 0, .int (-1)])), (q10, .inl (k27, 6, .inl (fun _ => 0)))] := hD
  have hK : va_K (dC, dI) vwCl [(k25, .byte), (k26, .int), (k27, .int)] s := hK
  refine W.widen (k := 875) (n := 26752) (Nat.le_of_ble_eq_true rfl) (Nat.le_of_ble_eq_true rfl) ?_
  refine lv_astore_n (lv' := [(1, .ref q1), (0, .ref b)]) hx hb dL_law_7 rfl hl (by decide) rfl (fun ls hl => ?_)
  refine va_new (ci := 7) (fs := [.null, .int 0, .int 0, .int 0, .int 0, .int 0, .int 0, .int 0, .int 0, .null, .null, .int 0, .null, .null, .null, .int 0, .int 0, .null, .null, .int 0, .null, .null, .null, .null, .null, .int 0, .int 0, .int 0, .null, .null, .null, .int 0, .int 0, .long 0]) (C := RX7) (T := TX7) (N := 34) hx hb hts inX7 tyX7 tyX7_ok hown (hts _ T_502) (hts _ T_497) (hts _ T_189) hK hP hD hS hA rfl dvX7 (Nat.le_of_ble_eq_true rfl) (Nat.le_of_ble_eq_true rfl) dL_law_8 (fun q28 H hP hD hS => ?_)
  have hP : va_P (dC, dI) vwCl [(q1, .inr (6, [.ref q2, .int 0, .ref q3, .ref q4, .ref q5, .int 0, .ref q6, .ref q7, .int 0, .int 0, .ref q8, .ref q9, .ref q10, .long 1])), (q2, .inl (k25, 1600, .inl (fun _ => 0))), (q3, .inr (3, [.ref r11, .ref r12, .ref r13, .ref r14, .null, .int 0, .null, .int 0, .int 0, .int 0, .int 0, .int 0, .int 0, .int 0, .int (-1)])), (q5, .inr (2, [.ref s15, .ref s16, .ref s17, .int 0, .int 0, .int 0, .int 0])), (s16, .inl (k26, 64, .inl (fun _ => 0))), (q6, .inr (4, [.ref n18, .ref n19, .ref n20, .ref n21, .ref n22, .ref n23, .ref n24, .int 0, .int 0, .int 0, .int 0, .int 0, .int 0, .int 0, .int (-1)])), (q10, .inl (k27, 6, .inl (fun _ => 0))), (q28, .inr (7, [.null, .int 0, .int 0, .int 0, .int 0, .int 0, .int 0, .int 0, .int 0, .null, .null, .int 0, .null, .null, .null, .int 0, .int 0, .null, .null, .int 0, .null, .null, .null, .null, .null, .int 0, .int 0, .int 0, .null, .null, .null, .int 0, .int 0, .long 0]))] H := hP
  have hD : va_D (fun q : Nat => s.heap.size ≤ q) [(q1, .inr (6, [.ref q2, .int 0, .ref q3, .ref q4, .ref q5, .int 0, .ref q6, .ref q7, .int 0, .int 0, .ref q8, .ref q9, .ref q10, .long 1])), (q2, .inl (k25, 1600, .inl (fun _ => 0))), (q3, .inr (3, [.ref r11, .ref r12, .ref r13, .ref r14, .null, .int 0, .null, .int 0, .int 0, .int 0, .int 0, .int 0, .int 0, .int 0, .int (-1)])), (q5, .inr (2, [.ref s15, .ref s16, .ref s17, .int 0, .int 0, .int 0, .int 0])), (s16, .inl (k26, 64, .inl (fun _ => 0))), (q6, .inr (4, [.ref n18, .ref n19, .ref n20, .ref n21, .ref n22, .ref n23, .ref n24, .int 0, .int 0, .int 0, .int 0, .int 0, .int 0, .int 0, .int (-1)])), (q10, .inl (k27, 6, .inl (fun _ => 0))), (q28, .inr (7, [.null, .int 0, .int 0, .int 0, .int 0, .int 0, .int 0, .int 0, .int 0, .null, .null, .int 0, .null, .null, .null, .int 0, .int 0, .null, .null, .int 0, .null, .null, .null, .null, .null, .int 0, .int 0, .int 0, .null, .null, .null, .int 0, .int 0, .long 0]))] := hD
  refine W.widen (k := 876) (n := 26786) (Nat.le_of_ble_eq_true rfl) (Nat.le_of_ble_eq_true rfl) ?_
  refine lv_dup hx hb dL_law_11 rfl ?_
  have hPc := hP.sub (ws' := [(q28, .inr (7, [.null, .int 0, .int 0, .int 0, .int 0, .int 0, .int 0, .int 0, .int 0, .null, .null, .int 0, .null, .null, .null, .int 0, .int 0, .null, .null, .int 0, .null, .null, .null, .null, .null, .int 0, .int 0, .int 0, .null, .null, .null, .int 0, .int 0, .long 0]))]) [7] rfl
  have hDc := hD.sub (ws' := [(q28, .inr (7, [.null, .int 0, .int 0, .int 0, .int 0, .int 0, .int 0, .int 0, .int 0, .null, .null, .int 0, .null, .null, .null, .int 0, .int 0, .null, .null, .int 0, .null, .null, .null, .null, .null, .int 0, .int 0, .int 0, .null, .null, .null, .int 0, .int 0, .long 0]))]) [7] (by decide) rfl
  have hKc := hK.sub (tys' := []) [] rfl
  have hFc := va_free (wc := [(q28, .inr (7, [.null, .int 0, .int 0, .int 0, .int 0, .int 0, .int 0, .int 0, .int 0, .null, .null, .int 0, .null, .null, .null, .int 0, .int 0, .null, .null, .int 0, .null, .null, .null, .null, .null, .int 0, .int 0, .int 0, .null, .null, .null, .int 0, .int 0, .long 0]))]) hD hS hA [7] rfl
  refine va_callv (va_runI (As := []) (rest := [.ref q28]) ⟨hx, hb, hml, hown, hts⟩ (c_X7_init l dC dI H.size q28) (cwI 0 hts (ax_gT T_503) rfl rfl rfl (hts _ T_189) (hts _ T_504) (hts _ T_505) rfl (by decide +kernel) ⟨Nat.le_of_ble_eq_true rfl, Nat.le_of_ble_eq_true rfl⟩) ⟨fun a U g mk q => ⟨q.1, ax_pc rfl rfl q.2⟩, fun U hU hW => ⟨rfl, ax_pw hU hW hPc hKc hDc hN⟩⟩ rfl rfl hl.1 rfl (lv_room (Nat.le_of_ble_eq_true rfl)) dL_law_12 ⟨Nat.le_of_ble_eq_true rfl, Nat.le_of_ble_eq_true rfl⟩) hS (fun q _ h => hFc q h) hFc (fun _ t H1 locs ht hvm hw hB hz1 hk1 hS => ?_)
  obtain ⟨m29, m30, m31, m32, m33, m34, m35, m36, m37, m38, m39, m40, m41, m42, m43, m44, k45, k46, k47, k48, hP1, hK1, hD1⟩ := hB
  rw [ht] at hP1
  have hK1 := va_K.moved hvm.symm hK1
  obtain ⟨hP, hD⟩ := va_join (wr := [(q1, .inr (6, [.ref q2, .int 0, .ref q3, .ref q4, .ref q5, .int 0, .ref q6, .ref q7, .int 0, .int 0, .ref q8, .ref q9, .ref q10, .long 1])), (q2, .inl (k25, 1600, .inl (fun _ => 0))), (q3, .inr (3, [.ref r11, .ref r12, .ref r13, .ref r14, .null, .int 0, .null, .int 0, .int 0, .int 0, .int 0, .int 0, .int 0, .int 0, .int (-1)])), (q5, .inr (2, [.ref s15, .ref s16, .ref s17, .int 0, .int 0, .int 0, .int 0])), (s16, .inl (k26, 64, .inl (fun _ => 0))), (q6, .inr (4, [.ref n18, .ref n19, .ref n20, .ref n21, .ref n22, .ref n23, .ref n24, .int 0, .int 0, .int 0, .int 0, .int 0, .int 0, .int 0, .int (-1)])), (q10, .inl (k27, 6, .inl (fun _ => 0)))]) (w1 := [(q28, .inr (7, [.ref m29, .int 0, .int 0, .int 0, .int 0, .int 0, .int 0, .int 0, .int (-1), .ref m30, .ref m31, .int 0, .ref m32, .ref m33, .ref m34, .int 0, .int 0, .ref m35, .ref m36, .int 0, .ref m37, .ref m38, .ref m39, .ref m40, .ref m41, .int 0, .int 0, .int 0, .ref m42, .ref m43, .ref m44, .int 0, .int 0, .long 1])), (m29, .inl (k45, 1600, .inl (fun _ => 0))), (m30, .inl (k46, 6, .inl (fun _ => 0))), (m32, .inl (k47, 400, .inl (fun _ => 0))), (m37, .inl (k48, 918, .inl (fun _ => 0)))]) hP hD [7] [0, 1, 2, 3, 4, 5, 6] rfl rfl (by decide) (by decide) hk1 hFc hP1 hD1
  have hK := hK.app hK1
  generalize H1 = H at hP hS ⊢
  have hP : va_P (dC, dI) vwCl [(q1, .inr (6, [.ref q2, .int 0, .ref q3, .ref q4, .ref q5, .int 0, .ref q6, .ref q7, .int 0, .int 0, .ref q8, .ref q9, .ref q10, .long 1])), (q2, .inl (k25, 1600, .inl (fun _ => 0))), (q3, .inr (3, [.ref r11, .ref r12, .ref r13, .ref r14, .null, .int 0, .null, .int 0, .int 0, .int 0, .int 0, .int 0, .int 0, .int 0, .int (-1)])), (q5, .inr (2, [.ref s15, .ref s16, .ref s17, .int 0, .int 0, .int 0, .int 0])), (s16, .inl (k26, 64, .inl (fun _ => 0))), (q6, .inr (4, [.ref n18, .ref n19, .ref n20, .ref n21, .ref n22, .ref n23, .ref n24, .int 0, .int 0, .int 0, .int 0, .int 0, .int 0, .int 0, .int (-1)])), (q10, .inl (k27, 6, .inl (fun _ => 0))), (q28, .inr (7, [.ref m29, .int 0, .int 0, .int 0, .int 0, .int 0, .int 0, .int 0, .int (-1), .ref m30, .ref m31, .int 0, .ref m32, .ref m33, .ref m34, .int 0, .int 0, .ref m35, .ref m36, .int 0, .ref m37, .ref m38, .ref m39, .ref m40, .ref m41, .int 0, .int 0, .int 0, .ref m42, .ref m43, .ref m44, .int 0, .int 0, .long 1])), (m29, .inl (k45, 1600, .inl (fun _ => 0))), (m30, .inl (k46, 6, .inl (fun _ => 0))), (m32, .inl (k47, 400, .inl (fun _ => 0))), (m37, .inl (k48, 918, .inl (fun _ => 0)))] H := hP
  have hD : va_D (fun q : Nat => s.heap.size ≤ q) [(q1, .inr (6, [.ref q2, .int 0, .ref q3, .ref q4, .ref q5, .int 0, .ref q6, .ref q7, .int 0, .int 0, .ref q8, .ref q9, .ref q10, .long 1])), (q2, .inl (k25, 1600, .inl (fun _ => 0))), (q3, .inr (3, [.ref r11, .ref r12, .ref r13, .ref r14, .null, .int 0, .null, .int 0, .int 0, .int 0, .int 0, .int 0, .int 0, .int 0, .int (-1)])), (q5, .inr (2, [.ref s15, .ref s16, .ref s17, .int 0, .int 0, .int 0, .int 0])), (s16, .inl (k26, 64, .inl (fun _ => 0))), (q6, .inr (4, [.ref n18, .ref n19, .ref n20, .ref n21, .ref n22, .ref n23, .ref n24, .int 0, .int 0, .int 0, .int 0, .int 0, .int 0, .int 0, .int (-1)])), (q10, .inl (k27, 6, .inl (fun _ => 0))), (q28, .inr (7, [.ref m29, .int 0, .int 0, .int 0, .int 0, .int 0, .int 0, .int 0, .int (-1), .ref m30, .ref m31, .int 0, .ref m32, .ref m33, .ref m34, .int 0, .int 0, .ref m35, .ref m36, .int 0, .ref m37, .ref m38, .ref m39, .ref m40, .ref m41, .int 0, .int 0, .int 0, .ref m42, .ref m43, .ref m44, .int 0, .int 0, .long 1])), (m29, .inl (k45, 1600, .inl (fun _ => 0))), (m30, .inl (k46, 6, .inl (fun _ => 0))), (m32, .inl (k47, 400, .inl (fun _ => 0))), (m37, .inl (k48, 918, .inl (fun _ => 0)))] := hD
  have hK : va_K (dC, dI) vwCl [(k25, .byte), (k26, .int), (k27, .int), (k45, .int), (k46, .int), (k47, .int), (k48, .int)] s := hK
  refine W.widen (k := 892) (n := 240949) (Nat.le_of_ble_eq_true rfl) (Nat.le_of_ble_eq_true rfl) ?_
  refine lv_astore_n (lv' := [(2, .ref q28), (1, .ref q1), (0, .ref b)]) hx hb dL_law_15 rfl hl (by decide) rfl (fun ls hl => ?_)
  refine lv_iconst (v := 0) hx hb dL_law_16 (by decide) ?_
  refine lv_istore_n (lv' := [(3, .int 0), (2, .ref q28), (1, .ref q1), (0, .ref b)]) hx hb dL_law_17 rfl hl (by decide) rfl (fun ls hl => ?_)
  refine lv_iload_n hx hb dL_law_18 rfl (lv_at hl 0 rfl) ?_
  refine lv_aload_n hx hb dL_law_19 rfl (lv_at hl 3 rfl) ?_
  refine va_slen hx hb hX hbl hbA hS dL_law_20 ?_
  refine lv_bipush (v := 6) hx hb dL_law_21 (by decide) ?_
  refine lv_isub hx hb dL_law_23 ?_
  rcases Nat.lt_or_ge L 6 with hL6 | hL6
  · refine lv_icmp_gt (tgt := 1105) hx hb dL_law_24 (by decide) (fun _ => ?_) (fun c => absurd (ax_short hL6) c)
    refine lv_iconst (v := 1) hx hb dL_law_1105 (by decide) ?_
    refine va_forget (fun q hq => hS.2.2 q hq) ?_
    refine W.widen (k := 600000) (n := 7302250) (Nat.le_of_ble_eq_true rfl) (Nat.le_of_ble_eq_true rfl) ?_
    exact lw_ret hx hb hr hlocks dL_law_1106
  · obtain rfl : L = 6 := by omega
    refine lv_icmp_gt (tgt := 1105) hx hb dL_law_24 (by decide) (fun c => absurd c (by decide)) (fun _ => ?_)
    refine lv_aload_n hx hb dL_law_27 rfl (lv_at hl 3 rfl) ?_
    refine lv_iload_n hx hb dL_law_28 rfl (lv_at hl 0 rfl) ?_
    refine va_sld hx hb hX hbl hbA hS (ax_in (by decide)) dL_law_29 ?_
    refine ax_eqi (y := xs 0) rfl ?_
    refine lv_bipush (v := 31) hx hb dL_law_30 (by decide) ?_
    refine lv_iand hx hb dL_law_32 ?_
    obtain ⟨j, hj, ej⟩ := pk_andE (xs 0) (m := 31) 5 (by decide)
    refine ax_eqi ej ?_
    have hP := hP.sub (ws' := [(q1, .inr (6, [.ref q2, .int 0, .ref q3, .ref q4, .ref q5, .int 0, .ref q6, .ref q7, .int 0, .int 0, .ref q8, .ref q9, .ref q10, .long 1])), (q2, .inl (k25, 1600, .inl (fun _ => 0))), (q3, .inr (3, [.ref r11, .ref r12, .ref r13, .ref r14, .null, .int 0, .null, .int 0, .int 0, .int 0, .int 0, .int 0, .int 0, .int 0, .int (-1)])), (q5, .inr (2, [.ref s15, .ref s16, .ref s17, .int 0, .int 0, .int 0, .int 0])), (s16, .inl (k26, 64, .inl (fun _ => 0))), (q6, .inr (4, [.ref n18, .ref n19, .ref n20, .ref n21, .ref n22, .ref n23, .ref n24, .int 0, .int 0, .int 0, .int 0, .int 0, .int 0, .int 0, .int (-1)])), (q10, .inl (k27, 6, .inl (fun _ => 0))), (q28, .inr (7, [.ref m29, .int 0, .int 0, .int 0, .int 0, .int 0, .int 0, .int 0, .int (-1), .ref m30, .ref m31, .int 0, .ref m32, .ref m33, .ref m34, .int 0, .int 0, .ref m35, .ref m36, .int 0, .ref m37, .ref m38, .ref m39, .ref m40, .ref m41, .int 0, .int 0, .int 0, .ref m42, .ref m43, .ref m44, .int 0, .int 0, .long 1])), (m29, .inl (k45, 1600, .inl (fun _ => 0))), (m30, .inl (k46, 6, .inl (fun _ => 0))), (m32, .inl (k47, 400, .inl (fun _ => 0))), (m37, .inl (k48, 918, .inl (fun _ => 0)))]) [0, 1, 2, 3, 4, 5, 6, 7, 8, 9, 10, 11] rfl
    have hD := hD.sub (ws' := [(q1, .inr (6, [.ref q2, .int 0, .ref q3, .ref q4, .ref q5, .int 0, .ref q6, .ref q7, .int 0, .int 0, .ref q8, .ref q9, .ref q10, .long 1])), (q2, .inl (k25, 1600, .inl (fun _ => 0))), (q3, .inr (3, [.ref r11, .ref r12, .ref r13, .ref r14, .null, .int 0, .null, .int 0, .int 0, .int 0, .int 0, .int 0, .int 0, .int 0, .int (-1)])), (q5, .inr (2, [.ref s15, .ref s16, .ref s17, .int 0, .int 0, .int 0, .int 0])), (s16, .inl (k26, 64, .inl (fun _ => 0))), (q6, .inr (4, [.ref n18, .ref n19, .ref n20, .ref n21, .ref n22, .ref n23, .ref n24, .int 0, .int 0, .int 0, .int 0, .int 0, .int 0, .int 0, .int (-1)])), (q10, .inl (k27, 6, .inl (fun _ => 0))), (q28, .inr (7, [.ref m29, .int 0, .int 0, .int 0, .int 0, .int 0, .int 0, .int 0, .int (-1), .ref m30, .ref m31, .int 0, .ref m32, .ref m33, .ref m34, .int 0, .int 0, .ref m35, .ref m36, .int 0, .ref m37, .ref m38, .ref m39, .ref m40, .ref m41, .int 0, .int 0, .int 0, .ref m42, .ref m43, .ref m44, .int 0, .int 0, .long 1])), (m29, .inl (k45, 1600, .inl (fun _ => 0))), (m30, .inl (k46, 6, .inl (fun _ => 0))), (m32, .inl (k47, 400, .inl (fun _ => 0))), (m37, .inl (k48, 918, .inl (fun _ => 0)))]) [0, 1, 2, 3, 4, 5, 6, 7, 8, 9, 10, 11] (by decide) rfl
    have hK := hK.sub (tys' := [(k25, .byte), (k26, .int), (k27, .int), (k45, .int), (k46, .int), (k47, .int), (k48, .int)]) [0, 1, 2, 3, 4, 5, 6] rfl
    have hj32 : j = 0 ∨ j = 1 ∨ j = 2 ∨ j = 3 ∨ j = 4 ∨ j = 5 ∨ j = 6 ∨ j = 7 ∨ j = 8 ∨ j = 9 ∨ j = 10 ∨ j = 11 ∨ j = 12 ∨ j = 13 ∨ j = 14 ∨ j = 15 ∨ j = 16 ∨ j = 17 ∨ j = 18 ∨ j = 19 ∨ j = 20 ∨ j = 21 ∨ j = 22 ∨ j = 23 ∨ j = 24 ∨ j = 25 ∨ j = 26 ∨ j = 27 ∨ j = 28 ∨ j = 29 ∨ j = 30 ∨ j = 31 := by omega
    rcases hj32 with rfl | rfl | rfl | rfl | rfl | rfl | rfl | rfl | rfl | rfl | rfl | rfl | rfl | rfl | rfl | rfl | rfl | rfl | rfl | rfl | rfl | rfl | rfl | rfl | rfl | rfl | rfl | rfl | rfl | rfl | rfl | rfl
    · refine lv_tableIn (off := 131) (tgt := 164) hx hb dL_law_33 (by decide) (by decide) (by decide) (by decide) ?_
      exact law_c0 l C0 hK hP hD hS hl
    · refine lv_tableIn (off := 194) (tgt := 227) hx hb dL_law_33 (by decide) (by decide) (by decide) (by decide) ?_
      exact law_c1 l C0 hK hP hD hS hl
    · refine lv_tableIn (off := 217) (tgt := 250) hx hb dL_law_33 (by decide) (by decide) (by decide) (by decide) ?_
      exact law_c2 l C0 hK hP hD hS hl
    · refine lv_tableIn (off := 230) (tgt := 263) hx hb dL_law_33 (by decide) (by decide) (by decide) (by decide) ?_
      exact law_c3 l C0 hK hP hD hS hl
    · refine lv_tableIn (off := 253) (tgt := 286) hx hb dL_law_33 (by decide) (by decide) (by decide) (by decide) ?_
      exact law_c4 l C0 hK hP hD hS hl
    · refine lv_tableIn (off := 276) (tgt := 309) hx hb dL_law_33 (by decide) (by decide) (by decide) (by decide) ?_
      exact law_c5 l C0 hK hP hD hS hl
    · refine lv_tableIn (off := 309) (tgt := 342) hx hb dL_law_33 (by decide) (by decide) (by decide) (by decide) ?_
      exact law_c6 l C0 hK hP hD hS hl
    · refine lv_tableIn (off := 352) (tgt := 385) hx hb dL_law_33 (by decide) (by decide) (by decide) (by decide) ?_
      exact law_c7 l C0 hK hP hD hS hl
    · refine lv_tableIn (off := 385) (tgt := 418) hx hb dL_law_33 (by decide) (by decide) (by decide) (by decide) ?_
      exact law_c8 l C0 hK hP hD hS hl
    · refine lv_tableIn (off := 428) (tgt := 461) hx hb dL_law_33 (by decide) (by decide) (by decide) (by decide) ?_
      exact law_c9 l C0 hK hP hD hS hl
    · refine lv_tableIn (off := 477) (tgt := 510) hx hb dL_law_33 (by decide) (by decide) (by decide) (by decide) ?_
      exact law_c10 l C0 hK hP hD hS hl
    · refine lv_tableIn (off := 526) (tgt := 559) hx hb dL_law_33 (by decide) (by decide) (by decide) (by decide) ?_
      exact law_c11 l C0 hK hP hD hS hl
    · refine lv_tableIn (off := 559) (tgt := 592) hx hb dL_law_33 (by decide) (by decide) (by decide) (by decide) ?_
      exact law_c12 l C0 hK hP hD hS hl
    · refine lv_tableIn (off := 582) (tgt := 615) hx hb dL_law_33 (by decide) (by decide) (by decide) (by decide) ?_
      exact law_c13 l C0 hK hP hD hS hl
    · refine lv_tableIn (off := 605) (tgt := 638) hx hb dL_law_33 (by decide) (by decide) (by decide) (by decide) ?_
      exact law_c14 l C0 hK hP hD hS hl
    · refine lv_tableIn (off := 658) (tgt := 691) hx hb dL_law_33 (by decide) (by decide) (by decide) (by decide) ?_
      exact law_c15 l C0 hK hP hD hS hl
    · refine lv_tableIn (off := 701) (tgt := 734) hx hb dL_law_33 (by decide) (by decide) (by decide) (by decide) ?_
      exact law_c16 l C0 hK hP hD hS hl
    · refine lv_tableIn (off := 724) (tgt := 757) hx hb dL_law_33 (by decide) (by decide) (by decide) (by decide) ?_
      exact law_c17 l C0 hK hP hD hS hl
    · refine lv_tableIn (off := 767) (tgt := 800) hx hb dL_law_33 (by decide) (by decide) (by decide) (by decide) ?_
      exact law_c18 l C0 hK hP hD hS hl
    · refine lv_tableIn (off := 780) (tgt := 813) hx hb dL_law_33 (by decide) (by decide) (by decide) (by decide) ?_
      exact law_c19 l C0 hK hP hD hS hl
    · refine lv_tableIn (off := 823) (tgt := 856) hx hb dL_law_33 (by decide) (by decide) (by decide) (by decide) ?_
      exact law_c20 l C0 hK hP hD hS hl
    · refine lv_tableIn (off := 846) (tgt := 879) hx hb dL_law_33 (by decide) (by decide) (by decide) (by decide) ?_
      exact law_c21 l C0 hK hP hD hS hl
    · refine lv_tableIn (off := 869) (tgt := 902) hx hb dL_law_33 (by decide) (by decide) (by decide) (by decide) ?_
      exact law_c22 l C0 hK hP hD hS hl
    · refine lv_tableIn (off := 928) (tgt := 961) hx hb dL_law_33 (by decide) (by decide) (by decide) (by decide) ?_
      exact law_c23 l C0 hK hP hD hS hl
    · refine lv_tableIn (off := 971) (tgt := 1004) hx hb dL_law_33 (by decide) (by decide) (by decide) (by decide) ?_
      exact law_c24 l C0 hK hP hD hS hl
    · refine lv_tableIn (off := 984) (tgt := 1017) hx hb dL_law_33 (by decide) (by decide) (by decide) (by decide) ?_
      exact law_c25 l C0 hK hP hD hS hl
    · refine lv_tableIn (off := 1007) (tgt := 1040) hx hb dL_law_33 (by decide) (by decide) (by decide) (by decide) ?_
      exact law_c26 l C0 hK hP hD hS hl
    · refine lv_tableIn (off := 1020) (tgt := 1053) hx hb dL_law_33 (by decide) (by decide) (by decide) (by decide) ?_
      exact law_c27 l C0 hK hP hD hS hl
    · refine lv_tableIn (off := 1043) (tgt := 1076) hx hb dL_law_33 (by decide) (by decide) (by decide) (by decide) ?_
      exact law_c28 l C0 hK hP hD hS hl
    · refine lv_tableOut (tgt := 1099) hx hb dL_law_33 (by decide) (by decide) ?_
      exact law_end l C0 hS hl
    · refine lv_tableOut (tgt := 1099) hx hb dL_law_33 (by decide) (by decide) ?_
      exact law_end l C0 hS hl
    · refine lv_tableOut (tgt := 1099) hx hb dL_law_33 (by decide) (by decide) ?_
      exact law_end l C0 hS hl

