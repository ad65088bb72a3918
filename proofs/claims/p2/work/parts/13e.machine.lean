set_option maxHeartbeats 4000000 in
set_option maxRecDepth 100000 in
theorem s_X1_work (l : Launch) (dC : Nat → ClassId) (dI : Nat → Nat → Nat) (sz : Nat) {L : List Nat} {K : Nat → Nat} {cs : Nat → ClassId} (hLK : ∀ a {k : Nat}, K a = k → k ≠ 0 → a ∈ L) (D : Nat) (F : Nat → va_E) (a0 : Nat) (ha0 : K a0 = 2) (hI : s_I K cs D F) (hR : s_rd3 K F a0) (hMR : ∀ z0 z1 z2 z3 z4 z5 z6 z7 z8 z9 z10 z11 f g, F a0 = .inr (1, [.ref z0, .ref z1, .ref z2, .ref z3, .ref z4, .ref z5, .int z6, .int z7, .int z8, .int z9, .int z10, .long z11]) → F z0 = .inl (cs 0, 8, .inl f) → F z5 = .inl (cs 0, 7, .inl g) → ∀ i : Int32, 0 ≤ i.toInt → i.toInt < 8 → ¬ (z8 >>> (i &&& 31) &&& 1) = 0 → 9 ≤ (g 0).toInt → (g 0).toInt ≤ 11 → (f i.toNatClampNeg).toInt ≤ 31) (hGR : ∀ z0 z1 z2 z3 z4 z5 z6 z7 z8 z9 z10 z11 g, F a0 = .inr (1, [.ref z0, .ref z1, .ref z2, .ref z3, .ref z4, .ref z5, .int z6, .int z7, .int z8, .int z9, .int z10, .long z11]) → F z5 = .inl (cs 0, 7, .inl g) → (g 0).toInt < 7 → 0 ≤ (g 1).toInt) : Met l yX1_work (Cond.code yX1_work cX1_work 3 none :: T0) ({ frames := 3, cells := 0, slots := 0, locals := 70 }) (va_Pc [.ref a0] (s_W dC dI sz L F [(cs 0, .int), (cs 1, .byte), (cs 2, .long), (cs 3, .object RX5), (cs 4, .object RX4), (cs 5, .array .int), (cs 6, .char), (cs 7, .boolean)])) (va_Qv (fun (G : Nat → va_E) => True ∧ (True ∧ (∀ vs, F a0 = .inr (1, vs) → ∃ w, G a0 = .inr (1, vs.set 11 (.long w)))) ∧ s_I K cs D G ∧ ∀ b, K b ∉ [2, 24, 27, 28, 30] → G b = F b) (fun (G : Nat → va_E) (t : State) => va_P (dC, dI) vwCl (va_pl L G) t.heap ∧ va_K (dC, dI) vwCl [(cs 0, .int), (cs 1, .byte), (cs 2, .long), (cs 3, .object RX5), (cs 4, .object RX4), (cs 5, .array .int), (cs 6, .char), (cs 7, .boolean)] t) (fun q => q ∈ L)) 0 0 (fun q => q ∈ L) := by
  refine Met.ofW (cc := cX1_work) (maxL := 3) (ret := none) (by decide) rfl ?_
  intro p e s m args below meth c s₁ B hml hv
  obtain ⟨rfl, hsz, hP, hK, hD, hN⟩ := hv
  have hx := B.exec
  have hb := B.bytes
  have hr := B.returns
  have hts : ∀ w ∈ T0, w.before _ s = true := fun w h => atoms_spec (ws := Cond.code yX1_work cX1_work 3 none :: T0) B.pre w (List.mem_cons_of_mem _ h)
  have hown : s.vm.findClass RX1 = some m.cls := findClass_of_methodNamed B.named
  have hlocks := B.notSynchronized
  have hS : va_S (fun q => q ∈ L) s.heap s.heap [] := va_S.rf
  have hfr : ∀ b, K b ∉ [2, 24, 27, 28, 30] → F b = F b := fun _ _ => rfl
  have hl := lv_entry ([.ref a0]) (n := 3) (Nat.le_of_ble_eq_true rfl)
  rw [lg_entry_eq]
  generalize (lg_sl ([.ref a0]) ++ List.replicate (3 - (lg_sl ([.ref a0])).length) Slot.unset).toArray = ls at hl ⊢
  have hl : lv_has ls 3 [(0, .ref a0)] := hl
  refine s_gen hP hS (fun H locs hP hS => ?_)
  obtain ⟨z1, z3, z5, z7, z9, z11, z13, z15, z16, z17, z19, z20, o21, h2, h4, h6, h8, h10, h12, h14, h18, -⟩ := hR
  obtain ⟨f22, o23, h24⟩ := s_op34 hI h2
  obtain ⟨f25, o26, h27⟩ := s_op23 hI h12
  have hadr := hMR _ _ _ _ _ _ _ _ _ _ _ _ f22 f25 o21 o23 o26
  have hrow := hGR _ _ _ _ _ _ _ _ _ _ _ _ f25 o21 o26
  refine lv_aload_n hx hb dX1_work_0 rfl (lv_at hl 0 rfl) ?_
  refine th_get (D := (dC, dI)) (ci := 1) (v := .ref z11) (C := RX1) (T := TX1) (N := 12) hx hb hts inX1 hown hK hP (hLK _ ha0 (by decide)) o21 rfl 5 (by decide) (hts _ T_607) (fun _ h9 => h9) rfl dX1_work_1 ?_
  refine lv_iconst (v := 0) hx hb dX1_work_4 (by decide) ?_
  refine th_iald hx hb hK hP (hLK _ h12 (by decide)) 0 o26 rfl (ax_in (by decide)) dX1_work_5 ?_
  refine lv_topi (fun v28 ev28 => ?_)
  have tv28 : v28.toInt = (f25 0).toInt := congrArg Int32.toInt ev28
  refine lv_istore_n (lv' := [(1, .int v28), (0, .ref a0)]) hx hb dX1_work_6 rfl hl (by decide) rfl (fun ls hl => ?_)
  refine lv_iload_n hx hb dX1_work_7 rfl (lv_at hl 0 rfl) ?_
  refine lv_bipush (v := 11) hx hb dX1_work_8 (by decide) ?_
  refine lv_icmp_le (tgt := 14) hx hb dX1_work_10 (by decide) (fun c29 => ?_) (fun c29 => ?_)
  · have c29 := (ax_le (n := 11) (by decide)).mp c29
    refine lv_iconst (v := 0) hx hb dX1_work_14 (by decide) ?_
    refine lv_istore_n (lv' := [(2, .int 0), (1, .int v28), (0, .ref a0)]) hx hb dX1_work_15 rfl hl (by decide) rfl (fun ls hl => ?_)
    refine th_loop (fun n g H locs => ∃ (G : Nat → va_E) (ls : Array Slot) (w30 : Int32), g = F0 m 16 ls [] ∧ lv_has ls 3 [(0, .ref a0), (1, .int v28), (2, .int w30)] ∧ s_I K cs D G ∧ va_P (dC, dI) vwCl (va_pl L G) H ∧ va_S (fun q => q ∈ L) s.heap H locs ∧ (∀ b, K b ∉ [2, 24, 27, 28, 30] → G b = F b) ∧ (0 ≤ w30.toInt ∧ w30.toInt ≤ 8) ∧ (-2147483648 ≤ v28.toInt ∧ v28.toInt ≤ 11) ∧ (∃ w, G a0 = .inr (1, [.ref z1, .ref z3, .ref z5, .ref z7, .ref z9, .ref z11, .int z13, .int z15, .int z16, .int z17, .int z19, .long w])) ∧ n = (9 - w30.toInt).toNat) _ ⟨F, _, 0, rfl, lv_sub hl [2, 1, 0] rfl, hI, hP, hS, hfr, (by decide), ⟨th_lo v28, by omega⟩, ⟨_, o21⟩, rfl⟩ (fun n ih16 g H locs hq => ?_)
    obtain ⟨F9, ls, w30, rfl, hl, hI, hP, hS, hfr, h31, h32, h33, hn⟩ := hq
    have o34 : F9 z1 = .inl (cs 0, 8, .inl f22) := (hfr _ (by rw [h2]; decide)).trans o23
    have o35 : F9 z11 = .inl (cs 0, 7, .inl f25) := (hfr _ (by rw [h12]; decide)).trans o26
    obtain ⟨z36, o37⟩ := h33
    have hn_16 := hn
    obtain ⟨n_16, hn9_16⟩ : ∃ q, q = n := ⟨_, rfl⟩
    refine th_join (fun g H locs => ∃ (G : Nat → va_E) (ls : Array Slot), g = F0 m 72 ls [] ∧ lv_has ls 3 [(0, .ref a0), (1, .int v28), (2, .int w30)] ∧ s_I K cs D G ∧ va_P (dC, dI) vwCl (va_pl L G) H ∧ va_S (fun q => q ∈ L) s.heap H locs ∧ (∀ b, K b ∉ [2, 24, 27, 28, 30] → G b = F b) ∧ (-2147483648 ≤ v28.toInt ∧ v28.toInt ≤ 11) ∧ (0 ≤ w30.toInt ∧ w30.toInt ≤ 7) ∧ (∃ w, G a0 = .inr (1, [.ref z1, .ref z3, .ref z5, .ref z7, .ref z9, .ref z11, .int z13, .int z15, .int z16, .int z17, .int z19, .long w]))) (fun K72 => ?_) ?_
    · refine lv_iload_n hx hb dX1_work_16 rfl (lv_at hl 2 rfl) ?_
      refine lv_bipush (v := 8) hx hb dX1_work_17 (by decide) ?_
      refine lv_icmp_ge (tgt := 78) hx hb dX1_work_19 (by decide) (fun c38 => ?_) (fun c38 => ?_)
      · have c38 := (ax_ge (n := 8) (by decide)).mp c38
        exact W.vret hx hb hr (fun t ht hW => ⟨⟨F9, rfl, ⟨trivial, ⟨trivial, (fun vs q => by rw [o21] at q; cases q; exact ⟨_, o37⟩)⟩, hI, hfr⟩, by rw [ht]; exact hP, va_K.moved hW.alike hK⟩, hS.F ht⟩) hS.2.2 dX1_work_78
      · have c38 := mt (ax_ge (n := 8) (by decide)).mpr c38
        refine lv_aload_n hx hb dX1_work_22 rfl (lv_at hl 0 rfl) ?_
        refine lv_iload_n hx hb dX1_work_23 rfl (lv_at hl 2 rfl) ?_
        refine va_calli (va_runV (As := [.int w30]) (rest := []) ⟨hx, hb, hml, hown, hts⟩ (s_X1_goesNow l dC dI H.size hLK D F9 a0 w30 ha0 hI) (cwV 1 hts (ax_gV T_637 T_639 T_640 T_137 T_638) rfl rfl rfl (by decide +kernel) ⟨Nat.le_of_ble_eq_true rfl, Nat.le_of_ble_eq_true rfl⟩) ⟨fun a U g mk q => ⟨q.1, s_pc (U := U) rfl rfl q.2⟩, s_recv hK hP (hLK _ ha0 (by decide)) (ci := 1) rfl o37, fun U hU hW => ⟨rfl, s_pw hU hW hP hK hD hN⟩⟩ rfl rfl hl.1 rfl (lv_room (Nat.le_of_ble_eq_true rfl)) dX1_work_24 ⟨Nat.zero_le _, Nat.zero_le _⟩) hS (fun q _ h => h) (fun q h => h) (fun r39 F40 t H1 locs ht hvm hw hB hz1 hk1 hS => ?_)
        obtain ⟨hP, hK1⟩ := hB
        rw [ht] at hP
        generalize H1 = H at hP hS ⊢
        clear hz1 hk1
        obtain ⟨h41, h42, hI, hfr1⟩ := hw
        have o43 : F40 a0 = .inr (1, [.ref z1, .ref z3, .ref z5, .ref z7, .ref z9, .ref z11, .int z13, .int z15, .int z16, .int z17, .int z19, .long z36]) := (hfr1 _ (by rw [ha0]; decide)).trans o37
        have o44 : F40 z1 = .inl (cs 0, 8, .inl f22) := (hfr1 _ (by rw [h2]; decide)).trans o34
        have o45 : F40 z11 = .inl (cs 0, 7, .inl f25) := (hfr1 _ (by rw [h12]; decide)).trans o35
        have hfr : ∀ b, K b ∉ [2, 24, 27, 28, 30] → F40 b = F b := fun b hb9 => (hfr1 b (fun q => hb9 (s_sub (by decide) q))).trans (hfr b hb9)
        obtain ⟨h42, h46⟩ := h42
        have h46 : (∀ vs z, F9 a0 = .inr (1, vs) → vs[8]? = some (.int z) → (r39 = 0 ↔ (z >>> (w30 &&& 31) &&& 1) = 0)) := h46
        refine lv_if_eq (tgt := 72) hx hb dX1_work_27 (by decide) (fun c47 => ?_) (fun c47 => ?_)
        · have c47 := (ax_eq (n := 0) (by decide)).mp c47
          exact K72 _ _ _ ⟨F40, _, rfl, lv_sub hl [0, 1, 2] rfl, hI, hP, hS, hfr, ⟨th_lo v28, by omega⟩, ⟨by omega, by omega⟩, ⟨_, o43⟩⟩
        · have c47 := mt (ax_eq (n := 0) (by decide)).mpr c47
          have h48 := mt (h46 _ _ o37 rfl).mpr (fun q9 => c47 (by rw [q9]; decide))
          refine lv_iload_n hx hb dX1_work_30 rfl (lv_at hl 1 rfl) ?_
          refine lv_bipush (v := 7) hx hb dX1_work_31 (by decide) ?_
          refine lv_icmp_ge (tgt := 66) hx hb dX1_work_33 (by decide) (fun c49 => ?_) (fun c49 => ?_)
          · have c49 := (ax_ge (n := 7) (by decide)).mp c49
            refine lv_aload_n hx hb dX1_work_66 rfl (lv_at hl 0 rfl) ?_
            refine lv_iload_n hx hb dX1_work_67 rfl (lv_at hl 1 rfl) ?_
            refine lv_iload_n hx hb dX1_work_68 rfl (lv_at hl 2 rfl) ?_
            refine va_callv (va_runV (As := [.int v28, .int w30]) (rest := []) ⟨hx, hb, hml, hown, hts⟩ (s_X1_ask l dC dI H.size hLK D F40 a0 v28 w30 ha0 (⟨by omega, by omega⟩) hI ⟨z1, z3, z5, z7, z9, z11, z13, z15, z16, z17, z19, z36, o43, h2, h4, h6, h8, h10, h12, ⟨by omega, by omega⟩, ⟨by omega, by omega⟩, trivial⟩ (fun z vs f q1 q2 q3 => by rw [o43] at q1; cases q1; rw [o44] at q2; cases q2; exact hadr _ (by omega) (by omega) h48 (by omega) (by omega))) (cwV 2 hts (ax_gV T_732 T_734 T_735 T_137 T_733) rfl rfl rfl (by decide +kernel) ⟨Nat.le_of_ble_eq_true rfl, Nat.le_of_ble_eq_true rfl⟩) ⟨fun a U g mk q => ⟨q.1, s_pc (U := U) rfl rfl q.2⟩, s_recv hK hP (hLK _ ha0 (by decide)) (ci := 1) rfl o43, fun U hU hW => ⟨rfl, s_pw hU hW hP hK hD hN⟩⟩ rfl rfl hl.1 rfl (lv_room (Nat.le_of_ble_eq_true rfl)) dX1_work_69 ⟨Nat.zero_le _, Nat.zero_le _⟩) hS (fun q _ h => h) (fun q h => h) (fun F50 t H1 locs ht hvm hw hB hz1 hk1 hS => ?_)
            obtain ⟨hP, hK1⟩ := hB
            rw [ht] at hP
            generalize H1 = H at hP hS ⊢
            clear hz1 hk1
            obtain ⟨h51, h52, hI, hfr1⟩ := hw
            have o53 : F50 z1 = .inl (cs 0, 8, .inl f22) := (hfr1 _ (by rw [h2]; decide)).trans o44
            have o54 : F50 z11 = .inl (cs 0, 7, .inl f25) := (hfr1 _ (by rw [h12]; decide)).trans o45
            have hfr : ∀ b, K b ∉ [2, 24, 27, 28, 30] → F50 b = F b := fun b hb9 => (hfr1 b (fun q => hb9 (s_sub (by decide) q))).trans (hfr b hb9)
            obtain ⟨h52, h55⟩ := h52
            have h55 : (∀ vs, F40 a0 = .inr (1, vs) → ∃ w, F50 a0 = .inr (1, vs.set 11 (.long w))) := h55
            obtain ⟨z56, o57⟩ := h55 _ o43
            have o57 : F50 a0 = .inr (1, [.ref z1, .ref z3, .ref z5, .ref z7, .ref z9, .ref z11, .int z13, .int z15, .int z16, .int z17, .int z19, .long z56]) := o57
            exact K72 _ _ _ ⟨F50, _, rfl, lv_sub hl [0, 1, 2] rfl, hI, hP, hS, hfr, ⟨th_lo v28, by omega⟩, ⟨by omega, by omega⟩, ⟨_, o57⟩⟩
          · have c49 := mt (ax_ge (n := 7) (by decide)).mpr c49
            refine lv_aload_n hx hb dX1_work_36 rfl (lv_at hl 0 rfl) ?_
            refine th_get (D := (dC, dI)) (ci := 1) (v := .ref z9) (C := RX1) (T := TX1) (N := 12) hx hb hts inX1 hown hK hP (hLK _ ha0 (by decide)) o43 rfl 4 (by decide) (hts _ T_612) (fun _ h9 => h9) rfl dX1_work_37 ?_
            obtain ⟨z58, z60, z62, z64, z66, z68, z70, z71, z72, z73, z74, o76, h59, h61, h63, h65, h67, h69, h75, -⟩ := s_op6 hI h10
            refine th_getN (D := (dC, dI)) (ci := 5) (v := .ref z58) (C := RX5) (T := TX5) (N := 11) hx hb hts inX5 hown hK hP (hLK _ h10 (by decide)) o76 rfl 0 (by decide) (va_Nw.use rfl (ax_n20 hN)) (fun _ h9 => h9) rfl dX1_work_40 ?_
            refine lv_iload_n hx hb dX1_work_43 rfl (lv_at hl 2 rfl) ?_
            refine lv_iconst (v := 4) hx hb dX1_work_44 (by decide) ?_
            refine lv_imul hx hb dX1_work_45 ?_
            refine lv_topi (fun v77 ev77 => ?_)
            have qv77 : v77.toInt = w30.toInt * 4 := by rw [ev77]; exact th_mul rfl (by decide) ⟨by omega, by omega⟩
            refine lv_aload_n hx hb dX1_work_46 rfl (lv_at hl 0 rfl) ?_
            refine th_get (D := (dC, dI)) (ci := 1) (v := .ref z11) (C := RX1) (T := TX1) (N := 12) hx hb hts inX1 hown hK hP (hLK _ ha0 (by decide)) o43 rfl 5 (by decide) (hts _ T_607) (fun _ h9 => h9) rfl dX1_work_47 ?_
            refine lv_iconst (v := 1) hx hb dX1_work_50 (by decide) ?_
            refine th_iald hx hb hK hP (hLK _ h12 (by decide)) 0 o45 rfl (ax_in (by decide)) dX1_work_51 ?_
            refine lv_topi (fun v78 ev78 => ?_)
            have qv78 : v78.toInt ≤ 3 := by rw [ev78]; exact h27
            have tv78 : v78.toInt = (f25 1).toInt := congrArg Int32.toInt ev78
            refine lv_iadd hx hb dX1_work_52 ?_
            refine lv_topi (fun v79 ev79 => ?_)
            have qv79 : v79.toInt = v77.toInt + v78.toInt := by rw [ev79]; exact th_add rfl rfl (by have q8 := th_lo v78; have q9 := th_hi v78; exact ⟨by omega, by omega⟩)
            refine lv_aload_n hx hb dX1_work_53 rfl (lv_at hl 0 rfl) ?_
            refine lv_iload_n hx hb dX1_work_54 rfl (lv_at hl 1 rfl) ?_
            refine lv_iload_n hx hb dX1_work_55 rfl (lv_at hl 2 rfl) ?_
            refine va_calli (va_runV (As := [.int v28, .int w30]) (rest := [.int v79, .ref z58]) ⟨hx, hb, hml, hown, hts⟩ (s_X1_result l dC dI H.size hLK D F40 a0 v28 w30 ha0 (⟨by omega, by omega⟩) hI ⟨z1, z3, z5, z7, z9, z11, z13, z15, z16, z17, z19, z36, o43, h2, h4, h6, h8, h10, h12, ⟨by omega, by omega⟩, ⟨by omega, by omega⟩, trivial⟩) (cwV 2 hts (ax_gV T_725 T_727 T_728 T_137 T_726) rfl rfl rfl (by decide +kernel) ⟨Nat.le_of_ble_eq_true rfl, Nat.le_of_ble_eq_true rfl⟩) ⟨fun a U g mk q => ⟨q.1, s_pc (U := U) rfl rfl q.2⟩, s_recv hK hP (hLK _ ha0 (by decide)) (ci := 1) rfl o43, fun U hU hW => ⟨rfl, s_pw hU hW hP hK hD hN⟩⟩ rfl rfl hl.1 rfl (lv_room (Nat.le_of_ble_eq_true rfl)) dX1_work_56 ⟨Nat.zero_le _, Nat.zero_le _⟩) hS (fun q _ h => h) (fun q h => h) (fun r80 F81 t H1 locs ht hvm hw hB hz1 hk1 hS => ?_)
            obtain ⟨hP, hK1⟩ := hB
            rw [ht] at hP
            generalize H1 = H at hP hS ⊢
            clear hz1 hk1
            obtain ⟨h82, h83, hI, hfr1⟩ := hw
            have o84 : F81 a0 = .inr (1, [.ref z1, .ref z3, .ref z5, .ref z7, .ref z9, .ref z11, .int z13, .int z15, .int z16, .int z17, .int z19, .long z36]) := (hfr1 _ (by rw [ha0]; decide)).trans o43
            have o85 : F81 z9 = .inr (5, [.ref z58, .ref z60, .ref z62, .ref z64, .ref z66, .int z68, .int z70, .int z71, .int z72, .int z73, .int z74]) := (hfr1 _ (by rw [h10]; decide)).trans o76
            have o86 : F81 z1 = .inl (cs 0, 8, .inl f22) := (hfr1 _ (by rw [h2]; decide)).trans o44
            have o87 : F81 z11 = .inl (cs 0, 7, .inl f25) := (hfr1 _ (by rw [h12]; decide)).trans o45
            have hfr : ∀ b, K b ∉ [2, 24, 27, 28, 30] → F81 b = F b := fun b hb9 => (hfr1 b (fun q => hb9 (s_sub (by decide) q))).trans (hfr b hb9)
            refine va_calli (va_runS (As := [.int r80]) (rest := [.int v79, .ref z58]) ⟨hx, hb, hml, hown, hts⟩ (s_X1_bounded l dC dI H.size hLK D F81 r80 hI) (cwS 1 hts (ax_gS T_729 T_731 T_137 T_730) rfl rfl rfl (by decide +kernel) ⟨Nat.le_of_ble_eq_true rfl, Nat.le_of_ble_eq_true rfl⟩) ⟨fun a U g mk q => ⟨q.1, s_pc (U := U) rfl rfl q.2⟩, fun U hU hW => ⟨rfl, s_pw hU hW hP hK hD hN⟩⟩ rfl rfl hl.1 rfl (lv_room (Nat.le_of_ble_eq_true rfl)) dX1_work_59 ⟨Nat.zero_le _, Nat.zero_le _⟩) hS (fun q _ h => h) (fun q h => h) (fun r88 F89 t H1 locs ht hvm hw hB hz1 hk1 hS => ?_)
            obtain ⟨hP, hK1⟩ := hB
            rw [ht] at hP
            generalize H1 = H at hP hS ⊢
            clear hz1 hk1
            obtain ⟨h90, h91, hI, hfr1⟩ := hw
            have o92 : F89 a0 = .inr (1, [.ref z1, .ref z3, .ref z5, .ref z7, .ref z9, .ref z11, .int z13, .int z15, .int z16, .int z17, .int z19, .long z36]) := (hfr1 _ (by rw [ha0]; decide)).trans o84
            have o93 : F89 z9 = .inr (5, [.ref z58, .ref z60, .ref z62, .ref z64, .ref z66, .int z68, .int z70, .int z71, .int z72, .int z73, .int z74]) := (hfr1 _ (by rw [h10]; decide)).trans o85
            have o94 : F89 z1 = .inl (cs 0, 8, .inl f22) := (hfr1 _ (by rw [h2]; decide)).trans o86
            have o95 : F89 z11 = .inl (cs 0, 7, .inl f25) := (hfr1 _ (by rw [h12]; decide)).trans o87
            have hfr : ∀ b, K b ∉ [2, 24, 27, 28, 30] → F89 b = F b := fun b hb9 => (hfr1 b (fun q => hb9 (s_sub (by decide) q))).trans (hfr b hb9)
            obtain ⟨f96, o97, h98⟩ := s_op30 hI h59
            refine th_iast hx hb hK hP hD hS (hLK _ h59 (by decide)) 0 o97 rfl (th_in ⟨by omega, by omega⟩) dX1_work_62 (fun H locs hP hS => ?_)
            have hP : va_P (dC, dI) vwCl (va_pl L (va_up F89 z58 (.inl (cs 0, 32, .inl (upd f96 (v79 : Int32).toNatClampNeg r88))))) H := hP
            obtain ⟨F99, hF100⟩ : ∃ G : Nat → va_E, G = va_up F89 z58 (.inl (cs 0, 32, .inl (upd f96 (v79 : Int32).toNatClampNeg r88))) := ⟨_, rfl⟩
            rw [← hF100] at hP
            have hI : s_I K cs D F99 := by rw [hF100]; exact s_cl30 hI h59 ⟨_, rfl, trivial⟩
            have hfr : ∀ b, K b ∉ [2, 24, 27, 28, 30] → F99 b = F b := by rw [hF100]; exact s_fr hfr h59 (by decide)
            have o101 : F99 a0 = .inr (1, [.ref z1, .ref z3, .ref z5, .ref z7, .ref z9, .ref z11, .int z13, .int z15, .int z16, .int z17, .int z19, .long z36]) := by rw [hF100]; exact th_ne (th_kd ha0 h59 (by decide)) o92
            have o102 : F99 z9 = .inr (5, [.ref z58, .ref z60, .ref z62, .ref z64, .ref z66, .int z68, .int z70, .int z71, .int z72, .int z73, .int z74]) := by rw [hF100]; exact th_ne (th_kd h10 h59 (by decide)) o93
            have o103 : F99 z1 = .inl (cs 0, 8, .inl f22) := by rw [hF100]; exact th_ne (th_kd h2 h59 (by decide)) o94
            have o104 : F99 z11 = .inl (cs 0, 7, .inl f25) := by rw [hF100]; exact th_ne (th_kd h12 h59 (by decide)) o95
            refine lv_goto (tgt := 72) hx hb dX1_work_63 (by decide) ?_
            exact K72 _ _ _ ⟨F99, _, rfl, lv_sub hl [0, 1, 2] rfl, hI, hP, hS, hfr, ⟨th_lo v28, by omega⟩, ⟨by omega, by omega⟩, ⟨_, o101⟩⟩
    · intro g H locs hq
      obtain ⟨F9, ls, rfl, hl, hI, hP, hS, hfr, h105, h106, h107⟩ := hq
      have o108 : F9 z1 = .inl (cs 0, 8, .inl f22) := (hfr _ (by rw [h2]; decide)).trans o23
      have o109 : F9 z11 = .inl (cs 0, 7, .inl f25) := (hfr _ (by rw [h12]; decide)).trans o26
      obtain ⟨z110, o111⟩ := h107
      obtain ⟨v112, ev112⟩ : ∃ y : Int32, w30 + 1 = y := ⟨_, rfl⟩
      have qv112 : v112.toInt = w30.toInt + 1 := by rw [← ev112]; exact th_add rfl (by decide) ⟨by omega, by omega⟩
      refine lv_iinc (v := v112) (lv' := [(2, .int v112), (0, .ref a0), (1, .int v28)]) hx hb dX1_work_72 hl (k := 2) rfl ev112 (by decide) rfl (fun ls hl => ?_)
      refine lv_goto (tgt := 16) hx hb dX1_work_75 (by decide) ?_
      exact ih16 _ _ _ _ (by omega) ⟨F9, _, v112, rfl, lv_sub hl [1, 2, 0] rfl, hI, hP, hS, hfr, ⟨by omega, by omega⟩, ⟨th_lo v28, by omega⟩, ⟨_, o111⟩, rfl⟩
  · have c29 := mt (ax_le (n := 11) (by decide)).mpr c29
    exact W.vret hx hb hr (fun t ht hW => ⟨⟨F, rfl, ⟨trivial, ⟨trivial, (fun vs q => by rw [o21] at q; cases q; exact ⟨_, o21⟩)⟩, hI, hfr⟩, by rw [ht]; exact hP, va_K.moved hW.alike hK⟩, hS.F ht⟩) hS.2.2 dX1_work_13

