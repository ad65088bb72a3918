set_option maxHeartbeats 4000000 in
set_option maxRecDepth 100000 in
theorem s_X1_mostInOneBank (l : Launch) (dC : Nat → ClassId) (dI : Nat → Nat → Nat) (sz : Nat) {L : List Nat} {K : Nat → Nat} {cs : Nat → ClassId} (hLK : ∀ a {k : Nat}, K a = k → k ≠ 0 → a ∈ L) (D : Nat) (F : Nat → va_E) (a0 : Nat) (ha0 : K a0 = 2) (hI : s_I K cs D F) (hR : s_rd3 K F a0) : Met l yX1_mostInOneBank (Cond.code yX1_mostInOneBank cX1_mostInOneBank 6 (some .int) :: T0) ({ frames := 1, cells := 0, slots := 0, locals := 23 }) (va_Pc [.ref a0] (s_W dC dI sz L F [(cs 0, .int), (cs 1, .byte), (cs 2, .long), (cs 3, .object RX5), (cs 4, .object RX4), (cs 5, .array .int), (cs 6, .char), (cs 7, .boolean)])) (va_Qi (fun (r : Int32) (G : Nat → va_E) => (0 ≤ r.toInt ∧ r.toInt ≤ 2147483647) ∧ True ∧ s_I K cs D G ∧ ∀ b, K b ∉ [35] → G b = F b) (fun (G : Nat → va_E) (t : State) => va_P (dC, dI) vwCl (va_pl L G) t.heap ∧ va_K (dC, dI) vwCl [(cs 0, .int), (cs 1, .byte), (cs 2, .long), (cs 3, .object RX5), (cs 4, .object RX4), (cs 5, .array .int), (cs 6, .char), (cs 7, .boolean)] t) (fun q => q ∈ L)) 0 0 (fun q => q ∈ L) := by
  refine Met.ofW (cc := cX1_mostInOneBank) (maxL := 6) (ret := (some .int)) (by decide) rfl ?_
  intro p e s m args below meth c s₁ B hml hv
  obtain ⟨rfl, hsz, hP, hK, hD, hN⟩ := hv
  have hx := B.exec
  have hb := B.bytes
  have hr := B.returns
  have hts : ∀ w ∈ T0, w.before _ s = true := fun w h => atoms_spec (ws := Cond.code yX1_mostInOneBank cX1_mostInOneBank 6 (some .int) :: T0) B.pre w (List.mem_cons_of_mem _ h)
  have hown : s.vm.findClass RX1 = some m.cls := findClass_of_methodNamed B.named
  have hlocks := B.notSynchronized
  have hS : va_S (fun q => q ∈ L) s.heap s.heap [] := va_S.rf
  have hfr : ∀ b, K b ∉ [35] → F b = F b := fun _ _ => rfl
  have hl := lv_entry ([.ref a0]) (n := 6) (Nat.le_of_ble_eq_true rfl)
  rw [lg_entry_eq]
  generalize (lg_sl ([.ref a0]) ++ List.replicate (6 - (lg_sl ([.ref a0])).length) Slot.unset).toArray = ls at hl ⊢
  have hl : lv_has ls 6 [(0, .ref a0)] := hl
  refine s_gen hP hS (fun H locs hP hS => ?_)
  obtain ⟨z1, z3, z5, z7, z9, z11, z13, z15, z16, z17, z19, z20, o21, h2, h4, h6, h8, h10, h12, h14, h18, -⟩ := hR
  refine lv_aload_n hx hb dX1_mostInOneBank_0 rfl (lv_at hl 0 rfl) ?_
  refine th_get (D := (dC, dI)) (ci := 1) (v := .ref z3) (C := RX1) (T := TX1) (N := 12) hx hb hts inX1 hown hK hP (hLK _ ha0 (by decide)) o21 rfl 1 (by decide) (hts _ T_120) (fun _ h9 => h9) rfl dX1_mostInOneBank_1 ?_
  refine lv_iconst (v := 0) hx hb dX1_mostInOneBank_4 (by decide) ?_
  refine va_callv (va_runS (As := [.ref z3, .int 0]) (rest := []) ⟨hx, hb, hml, hown, hts⟩ (s_J7_fill_53178_bank l dC dI H.size hLK D F z3 0 h4 hI) ⟨callB_of 2 hts (ax_gT T_11) rfl rfl rfl (hts _ T_197) (hts _ T_663) (by decide +kernel) ⟨Nat.le_of_ble_eq_true rfl, Nat.le_of_ble_eq_true rfl⟩, hts _ T_199⟩ ⟨fun a U g mk q => ⟨q.1, s_pc (U := U) rfl rfl q.2⟩, fun U hU hW => ⟨rfl, s_pw hU hW hP hK hD hN⟩⟩ rfl rfl hl.1 rfl (lv_room (Nat.le_of_ble_eq_true rfl)) dX1_mostInOneBank_5 ⟨Nat.zero_le _, Nat.zero_le _⟩) hS (fun q _ h => h) (fun q h => h) (fun F22 t H1 locs ht hvm hw hB hz1 hk1 hS => ?_)
  obtain ⟨hP, hK1⟩ := hB
  rw [ht] at hP
  generalize H1 = H at hP hS ⊢
  clear hz1 hk1
  obtain ⟨h23, h24, hI, hfr1⟩ := hw
  have o25 : F22 a0 = .inr (1, [.ref z1, .ref z3, .ref z5, .ref z7, .ref z9, .ref z11, .int z13, .int z15, .int z16, .int z17, .int z19, .long z20]) := (hfr1 _ (by rw [ha0]; decide)).trans o21
  have hfr : ∀ b, K b ∉ [35] → F22 b = F b := fun b hb9 => (hfr1 b (fun q => hb9 (s_sub (by decide) q))).trans (hfr b hb9)
  refine lv_iconst (v := 0) hx hb dX1_mostInOneBank_8 (by decide) ?_
  refine lv_istore_n (lv' := [(1, .int 0), (0, .ref a0)]) hx hb dX1_mostInOneBank_9 rfl hl (by decide) rfl (fun ls hl => ?_)
  refine lv_iconst (v := 0) hx hb dX1_mostInOneBank_10 (by decide) ?_
  refine lv_istore_n (lv' := [(2, .int 0), (1, .int 0), (0, .ref a0)]) hx hb dX1_mostInOneBank_11 rfl hl (by decide) rfl (fun ls hl => ?_)
  refine lv_iconst (v := 0) hx hb dX1_mostInOneBank_12 (by decide) ?_
  refine lv_istore_n (lv' := [(3, .int 0), (2, .int 0), (1, .int 0), (0, .ref a0)]) hx hb dX1_mostInOneBank_13 rfl hl (by decide) rfl (fun ls hl => ?_)
  refine th_loop (fun n g H locs => ∃ (G : Nat → va_E) (ls : Array Slot) (w26 : Int32) (w27 : Int32) (w28 : Int32), g = F0 m 14 ls [] ∧ lv_has ls 6 [(0, .ref a0), (1, .int w26), (2, .int w27), (3, .int w28)] ∧ s_I K cs D G ∧ va_P (dC, dI) vwCl (va_pl L G) H ∧ va_S (fun q => q ∈ L) s.heap H locs ∧ (∀ b, K b ∉ [35] → G b = F b) ∧ True ∧ (0 ≤ w27.toInt ∧ w27.toInt ≤ 2147483647) ∧ (0 ≤ w28.toInt ∧ w28.toInt ≤ 8) ∧ s_rd3 K G a0 ∧ n = (9 - w28.toInt).toNat) _ ⟨F22, _, 0, 0, 0, rfl, lv_sub hl [3, 2, 1, 0] rfl, hI, hP, hS, hfr, trivial, (by decide), (by decide), ⟨z1, z3, z5, z7, z9, z11, z13, z15, z16, z17, z19, z20, o25, h2, h4, h6, h8, h10, h12, ⟨by omega, by omega⟩, ⟨by omega, by omega⟩, trivial⟩, rfl⟩ (fun n ih14 g H locs hq => ?_)
  obtain ⟨F9, ls, w26, w27, w28, rfl, hl, hI, hP, hS, hfr, h29, h30, h31, h32, hn⟩ := hq
  obtain ⟨z33, z35, z37, z39, z41, z43, z45, z47, z48, z49, z51, z52, o53, h34, h36, h38, h40, h42, h44, h46, h50, -⟩ := h32
  have hn_14 := hn
  obtain ⟨n_14, hn9_14⟩ : ∃ q, q = n := ⟨_, rfl⟩
  refine th_join (fun g H locs => ∃ (G : Nat → va_E) (ls : Array Slot) (w54 : Int32) (w55 : Int32), g = F0 m 94 ls [] ∧ lv_has ls 6 [(0, .ref a0), (1, .int w54), (2, .int w55), (3, .int w28)] ∧ s_I K cs D G ∧ va_P (dC, dI) vwCl (va_pl L G) H ∧ va_S (fun q => q ∈ L) s.heap H locs ∧ (∀ b, K b ∉ [35] → G b = F b) ∧ True ∧ (0 ≤ w55.toInt ∧ w55.toInt ≤ 2147483647) ∧ (0 ≤ w28.toInt ∧ w28.toInt ≤ 7) ∧ s_rd3 K G a0) (fun K94 => ?_) ?_
  · refine lv_iload_n hx hb dX1_mostInOneBank_14 rfl (lv_at hl 3 rfl) ?_
    refine lv_bipush (v := 8) hx hb dX1_mostInOneBank_15 (by decide) ?_
    refine lv_icmp_ge (tgt := 100) hx hb dX1_mostInOneBank_17 (by decide) (fun c56 => ?_) (fun c56 => ?_)
    · have c56 := (ax_ge (n := 8) (by decide)).mp c56
      refine lv_iload_n hx hb dX1_mostInOneBank_100 rfl (lv_at hl 2 rfl) ?_
      exact W.iret (v := w27) hx hb hr (fun t ht hW => ⟨⟨w27, F9, rfl, ⟨⟨by omega, by have q9 := th_hi w27; omega⟩, trivial, hI, hfr⟩, by rw [ht]; exact hP, va_K.moved hW.alike hK⟩, hS.F ht⟩) hS.2.2 dX1_mostInOneBank_101
    · have c56 := mt (ax_ge (n := 8) (by decide)).mpr c56
      refine lv_aload_n hx hb dX1_mostInOneBank_20 rfl (lv_at hl 0 rfl) ?_
      refine th_get (D := (dC, dI)) (ci := 1) (v := .ref z33) (C := RX1) (T := TX1) (N := 12) hx hb hts inX1 hown hK hP (hLK _ ha0 (by decide)) o53 rfl 0 (by decide) (hts _ T_119) (fun _ h9 => h9) rfl dX1_mostInOneBank_21 ?_
      refine lv_iload_n hx hb dX1_mostInOneBank_24 rfl (lv_at hl 3 rfl) ?_
      obtain ⟨f57, o58, h59⟩ := s_op34 hI h34
      refine th_iald hx hb hK hP (hLK _ h34 (by decide)) 0 o58 rfl (th_in ⟨by omega, by omega⟩) dX1_mostInOneBank_25 ?_
      refine lv_topi (fun v60 ev60 => ?_)
      have qv60 : 0 ≤ v60.toInt ∧ v60.toInt ≤ 63 := by rw [ev60]; exact h59 _ (th_cl ⟨by omega, by omega⟩)
      refine lv_istore (lv' := [(4, .int v60), (0, .ref a0), (1, .int w26), (2, .int w27), (3, .int w28)]) hx hb dX1_mostInOneBank_26 hl (by decide) rfl (fun ls hl => ?_)
      refine lv_aload_n hx hb dX1_mostInOneBank_28 rfl (lv_at hl 1 rfl) ?_
      refine lv_iload_n hx hb dX1_mostInOneBank_29 rfl (lv_at hl 4 rfl) ?_
      refine va_calli (va_runV (As := [.int w28]) (rest := []) ⟨hx, hb, hml, hown, hts⟩ (s_X1_goesNow l dC dI H.size hLK D F9 a0 w28 ha0 hI) (cwV 1 hts (ax_gV T_637 T_639 T_640 T_137 T_638) rfl rfl rfl (by decide +kernel) ⟨Nat.le_of_ble_eq_true rfl, Nat.le_of_ble_eq_true rfl⟩) ⟨fun a U g mk q => ⟨q.1, s_pc (U := U) rfl rfl q.2⟩, s_recv hK hP (hLK _ ha0 (by decide)) (ci := 1) rfl o53, fun U hU hW => ⟨rfl, s_pw hU hW hP hK hD hN⟩⟩ rfl rfl hl.1 rfl (lv_room (Nat.le_of_ble_eq_true rfl)) dX1_mostInOneBank_30 ⟨Nat.zero_le _, Nat.zero_le _⟩) hS (fun q _ h => h) (fun q h => h) (fun r61 F62 t H1 locs ht hvm hw hB hz1 hk1 hS => ?_)
      obtain ⟨hP, hK1⟩ := hB
      rw [ht] at hP
      generalize H1 = H at hP hS ⊢
      clear hz1 hk1
      obtain ⟨h63, h64, hI, hfr1⟩ := hw
      have o65 : F62 a0 = .inr (1, [.ref z33, .ref z35, .ref z37, .ref z39, .ref z41, .ref z43, .int z45, .int z47, .int z48, .int z49, .int z51, .long z52]) := (hfr1 _ (by rw [ha0]; decide)).trans o53
      have hfr : ∀ b, K b ∉ [35] → F62 b = F b := fun b hb9 => (hfr1 b (fun q => hb9 (s_sub (by decide) q))).trans (hfr b hb9)
      obtain ⟨h64, h66⟩ := h64
      have h66 : (∀ vs z, F9 a0 = .inr (1, vs) → vs[8]? = some (.int z) → (r61 = 0 ↔ (z >>> (w28 &&& 31) &&& 1) = 0)) := h66
      refine lv_if_eq (tgt := 94) hx hb dX1_mostInOneBank_33 (by decide) (fun c67 => ?_) (fun c67 => ?_)
      · have c67 := (ax_eq (n := 0) (by decide)).mp c67
        exact K94 _ _ _ ⟨F62, _, w26, w27, rfl, lv_sub hl [1, 2, 3, 4] rfl, hI, hP, hS, hfr, trivial, ⟨by omega, by have q9 := th_hi w27; omega⟩, ⟨by omega, by omega⟩, ⟨z33, z35, z37, z39, z41, z43, z45, z47, z48, z49, z51, z52, o65, h34, h36, h38, h40, h42, h44, ⟨by omega, by omega⟩, ⟨by omega, by omega⟩, trivial⟩⟩
      · have c67 := mt (ax_eq (n := 0) (by decide)).mpr c67
        refine lv_iload_n hx hb dX1_mostInOneBank_36 rfl (lv_at hl 2 rfl) ?_
        refine lv_iload hx hb dX1_mostInOneBank_37 (lv_at hl 0 rfl) ?_
        refine lv_ishr hx hb dX1_mostInOneBank_39 ?_
        refine lv_topi (fun v68 ev68 => ?_)
        refine lv_iconst (v := 1) hx hb dX1_mostInOneBank_40 (by decide) ?_
        refine lv_iand hx hb dX1_mostInOneBank_41 ?_
        refine lv_topi (fun v69 ev69 => ?_)
        have qv69 : 0 ≤ v69.toInt ∧ v69.toInt ≤ 1 := by rw [ev69]; exact th_and 1 (by decide) (by decide)
        refine lv_if_ne (tgt := 94) hx hb dX1_mostInOneBank_42 (by decide) (fun c70 => ?_) (fun c70 => ?_)
        · have c70 := mt (ax_eq (n := 0) (by decide)).mpr c70
          exact K94 _ _ _ ⟨F62, _, w26, w27, rfl, lv_sub hl [1, 2, 3, 4] rfl, hI, hP, hS, hfr, trivial, ⟨by omega, by have q9 := th_hi w27; omega⟩, ⟨by omega, by omega⟩, ⟨z33, z35, z37, z39, z41, z43, z45, z47, z48, z49, z51, z52, o65, h34, h36, h38, h40, h42, h44, ⟨by omega, by omega⟩, ⟨by omega, by omega⟩, trivial⟩⟩
        · have c70 := (ax_eq (n := 0) (by decide)).mp c70
          refine lv_iload_n hx hb dX1_mostInOneBank_45 rfl (lv_at hl 2 rfl) ?_
          refine lv_iconst (v := 1) hx hb dX1_mostInOneBank_46 (by decide) ?_
          refine lv_iload hx hb dX1_mostInOneBank_47 (lv_at hl 0 rfl) ?_
          refine lv_ishl hx hb dX1_mostInOneBank_49 ?_
          refine lv_topi (fun v71 ev71 => ?_)
          refine lv_ior hx hb dX1_mostInOneBank_50 ?_
          refine lv_topi (fun v72 ev72 => ?_)
          refine lv_istore_n (lv' := [(1, .int v72), (4, .int v60), (0, .ref a0), (2, .int w27), (3, .int w28)]) hx hb dX1_mostInOneBank_51 rfl hl (by decide) rfl (fun ls hl => ?_)
          refine lv_iload hx hb dX1_mostInOneBank_52 (lv_at hl 1 rfl) ?_
          refine lv_aload_n hx hb dX1_mostInOneBank_54 rfl (lv_at hl 2 rfl) ?_
          refine th_get (D := (dC, dI)) (ci := 1) (v := .ref z39) (C := RX1) (T := TX1) (N := 12) hx hb hts inX1 hown hK hP (hLK _ ha0 (by decide)) o65 rfl 3 (by decide) (hts _ T_611) (fun _ h9 => h9) rfl dX1_mostInOneBank_55 ?_
          obtain ⟨z73, z75, z77, z79, z81, z83, z85, z87, z89, z91, z93, z95, z96, z98, z99, o101, h74, h76, h78, h80, h82, h84, h86, h88, h90, h92, h94, h97, h100, -⟩ := s_op5 hI h40
          refine th_getN (D := (dC, dI)) (ci := 4) (v := .int z93) (C := RX4) (T := TX4) (N := 15) hx hb hts inX4 hown hK hP (hLK _ h40 (by decide)) o101 rfl 10 (by decide) (va_Nw.use rfl (ax_n28 hN)) (fun _ h9 => h9) rfl dX1_mostInOneBank_58 ?_
          refine lv_iload hx hb dX1_mostInOneBank_61 (lv_at hl 1 rfl) ?_
          refine lv_iconst (v := 4) hx hb dX1_mostInOneBank_63 (by decide) ?_
          refine lv_idiv hx hb dX1_mostInOneBank_64 (by decide) ?_
          refine lv_topi (fun v102 ev102 => ?_)
          have qv102 : v102.toInt = v60.toInt / 4 := by rw [ev102]; exact th_div rfl (by decide) (by omega) (by decide)
          refine lv_imul hx hb dX1_mostInOneBank_65 ?_
          refine lv_topi (fun v103 ev103 => ?_)
          have qv103 : 0 ≤ v103.toInt ∧ v103.toInt ≤ 45 := by rw [ev103]; exact th_mulB (a := 3) (b := 15) ⟨by omega, by omega⟩ ⟨by omega, by omega⟩ (by decide)
          refine lv_iadd hx hb dX1_mostInOneBank_66 ?_
          refine lv_topi (fun v104 ev104 => ?_)
          have qv104 : v104.toInt = v60.toInt + v103.toInt := by rw [ev104]; exact th_add rfl rfl ⟨by omega, by omega⟩
          refine lv_iconst (v := 4) hx hb dX1_mostInOneBank_67 (by decide) ?_
          refine lv_irem hx hb dX1_mostInOneBank_68 (by decide) ?_
          refine lv_topi (fun v105 ev105 => ?_)
          have qv105 : v105.toInt = v104.toInt % 4 := by rw [ev105]; exact th_rem rfl (by decide) (by omega) (by decide)
          refine lv_istore (lv' := [(5, .int v105), (1, .int v72), (4, .int v60), (0, .ref a0), (2, .int w27), (3, .int w28)]) hx hb dX1_mostInOneBank_69 hl (by decide) rfl (fun ls hl => ?_)
          refine lv_aload_n hx hb dX1_mostInOneBank_71 rfl (lv_at hl 3 rfl) ?_
          refine th_get (D := (dC, dI)) (ci := 1) (v := .ref z35) (C := RX1) (T := TX1) (N := 12) hx hb hts inX1 hown hK hP (hLK _ ha0 (by decide)) o65 rfl 1 (by decide) (hts _ T_120) (fun _ h9 => h9) rfl dX1_mostInOneBank_72 ?_
          refine lv_iload hx hb dX1_mostInOneBank_75 (lv_at hl 0 rfl) ?_
          refine lv_dup2_11 hx hb dX1_mostInOneBank_77 rfl rfl ?_
          obtain ⟨f106, o107, h108⟩ := s_op35 hI h36
          refine th_iald hx hb hK hP (hLK _ h36 (by decide)) 0 o107 rfl (th_in ⟨by omega, by omega⟩) dX1_mostInOneBank_78 ?_
          refine lv_topi (fun v109 ev109 => ?_)
          refine lv_iconst (v := 1) hx hb dX1_mostInOneBank_79 (by decide) ?_
          refine lv_iadd hx hb dX1_mostInOneBank_80 ?_
          refine lv_topi (fun v110 ev110 => ?_)
          obtain ⟨f111, o112, h113⟩ := s_op35 hI h36
          refine th_iast hx hb hK hP hD hS (hLK _ h36 (by decide)) 0 o112 rfl (th_in ⟨by omega, by omega⟩) dX1_mostInOneBank_81 (fun H locs hP hS => ?_)
          have hP : va_P (dC, dI) vwCl (va_pl L (va_up F62 z35 (.inl (cs 0, 4, .inl (upd f111 (v105 : Int32).toNatClampNeg v110))))) H := hP
          obtain ⟨F114, hF115⟩ : ∃ G : Nat → va_E, G = va_up F62 z35 (.inl (cs 0, 4, .inl (upd f111 (v105 : Int32).toNatClampNeg v110))) := ⟨_, rfl⟩
          rw [← hF115] at hP
          have hI : s_I K cs D F114 := by rw [hF115]; exact s_cl35 hI h36 ⟨_, rfl, trivial⟩
          have hfr : ∀ b, K b ∉ [35] → F114 b = F b := by rw [hF115]; exact s_fr hfr h36 (by decide)
          have o116 : F114 a0 = .inr (1, [.ref z33, .ref z35, .ref z37, .ref z39, .ref z41, .ref z43, .int z45, .int z47, .int z48, .int z49, .int z51, .long z52]) := by rw [hF115]; exact th_ne (th_kd ha0 h36 (by decide)) o65
          have o117 : F114 z39 = .inr (4, [.ref z73, .ref z75, .ref z77, .ref z79, .ref z81, .ref z83, .ref z85, .int z87, .int z89, .int z91, .int z93, .int z95, .int z96, .int z98, .int z99]) := by rw [hF115]; exact th_ne (th_kd h40 h36 (by decide)) o101
          refine lv_iload_n hx hb dX1_mostInOneBank_82 rfl (lv_at hl 4 rfl) ?_
          refine lv_aload_n hx hb dX1_mostInOneBank_83 rfl (lv_at hl 3 rfl) ?_
          refine th_get (D := (dC, dI)) (ci := 1) (v := .ref z35) (C := RX1) (T := TX1) (N := 12) hx hb hts inX1 hown hK hP (hLK _ ha0 (by decide)) o116 rfl 1 (by decide) (hts _ T_120) (fun _ h9 => h9) rfl dX1_mostInOneBank_84 ?_
          refine lv_iload hx hb dX1_mostInOneBank_87 (lv_at hl 0 rfl) ?_
          obtain ⟨f118, o119, h120⟩ := s_op35 hI h36
          refine th_iald hx hb hK hP (hLK _ h36 (by decide)) 0 o119 rfl (th_in ⟨by omega, by omega⟩) dX1_mostInOneBank_89 ?_
          refine lv_topi (fun v121 ev121 => ?_)
          refine va_mmax hx hb (by rw [hml]; exact hl.1.symm) hown (hts _ T_608) (hts _ T_609) (hts _ T_237) (hts _ T_610) (Nat.le_of_ble_eq_true rfl) (Nat.le_of_ble_eq_true rfl) (Nat.zero_le _) (Nat.zero_le _) dX1_mostInOneBank_90 ?_
          refine lv_topi (fun v122 ev122 => ?_)
          have qv122 := th_mmax (a := w27.toInt) (b := v121.toInt) ev122 rfl rfl
          refine lv_istore_n (lv' := [(2, .int v122), (5, .int v105), (1, .int v72), (4, .int v60), (0, .ref a0), (3, .int w28)]) hx hb dX1_mostInOneBank_93 rfl hl (by decide) rfl (fun ls hl => ?_)
          exact K94 _ _ _ ⟨F114, _, v72, v122, rfl, lv_sub hl [4, 2, 0, 5] rfl, hI, hP, hS, hfr, trivial, ⟨by omega, by have q9 := th_hi v122; omega⟩, ⟨by omega, by omega⟩, ⟨z33, z35, z37, z39, z41, z43, z45, z47, z48, z49, z51, z52, o116, h34, h36, h38, h40, h42, h44, ⟨by omega, by omega⟩, ⟨by omega, by omega⟩, trivial⟩⟩
  · intro g H locs hq
    obtain ⟨F9, ls, w54, w55, rfl, hl, hI, hP, hS, hfr, h123, h124, h125, h126⟩ := hq
    obtain ⟨z127, z129, z131, z133, z135, z137, z139, z141, z142, z143, z145, z146, o147, h128, h130, h132, h134, h136, h138, h140, h144, -⟩ := h126
    obtain ⟨v148, ev148⟩ : ∃ y : Int32, w28 + 1 = y := ⟨_, rfl⟩
    have qv148 : v148.toInt = w28.toInt + 1 := by rw [← ev148]; exact th_add rfl (by decide) ⟨by omega, by omega⟩
    refine lv_iinc (v := v148) (lv' := [(3, .int v148), (0, .ref a0), (1, .int w54), (2, .int w55)]) hx hb dX1_mostInOneBank_94 hl (k := 3) rfl ev148 (by decide) rfl (fun ls hl => ?_)
    refine lv_goto (tgt := 14) hx hb dX1_mostInOneBank_97 (by decide) ?_
    exact ih14 _ _ _ _ (by omega) ⟨F9, _, w54, w55, v148, rfl, lv_sub hl [1, 2, 3, 0] rfl, hI, hP, hS, hfr, trivial, ⟨by omega, by have q9 := th_hi w55; omega⟩, ⟨by omega, by omega⟩, ⟨z127, z129, z131, z133, z135, z137, z139, z141, z142, z143, z145, z146, o147, h128, h130, h132, h134, h136, h138, ⟨by omega, by omega⟩, ⟨by omega, by omega⟩, trivial⟩, rfl⟩

set_option maxHeartbeats 4000000 in
set_option maxRecDepth 100000 in
theorem s_X1_measure (l : Launch) (dC : Nat → ClassId) (dI : Nat → Nat → Nat) (sz : Nat) {L : List Nat} {K : Nat → Nat} {cs : Nat → ClassId} (hLK : ∀ a {k : Nat}, K a = k → k ≠ 0 → a ∈ L) (D : Nat) (F : Nat → va_E) (a0 : Nat) (ha0 : K a0 = 2) (hI : s_I K cs D F) (hR : s_rd3 K F a0) : Met l yX1_measure (Cond.code yX1_measure cX1_measure 4 none :: T0) ({ frames := 2, cells := 0, slots := 0, locals := 48 }) (va_Pc [.ref a0] (s_W dC dI sz L F [(cs 0, .int), (cs 1, .byte), (cs 2, .long), (cs 3, .object RX5), (cs 4, .object RX4), (cs 5, .array .int), (cs 6, .char), (cs 7, .boolean)])) (va_Qv (fun (G : Nat → va_E) => True ∧ (True ∧ ((∀ vs, F a0 = .inr (1, vs) → ∃ w, G a0 = .inr (1, vs.set 10 (.int w))) ∧ ∀ z0 z1 z2 z3 z4 z5 z6 z7 z8 z9 z10 z11 f g, G a0 = .inr (1, [.ref z0, .ref z1, .ref z2, .ref z3, .ref z4, .ref z5, .int z6, .int z7, .int z8, .int z9, .int z10, .long z11]) → G z0 = .inl (cs 0, 8, .inl f) → G z5 = .inl (cs 0, 7, .inl g) → ∀ i : Int32, 0 ≤ i.toInt → i.toInt < 8 → ¬ (z8 >>> (i &&& 31) &&& 1) = 0 → 9 ≤ (g 0).toInt → (g 0).toInt ≤ 11 → (f i.toNatClampNeg).toInt ≤ 31)) ∧ s_I K cs D G ∧ ∀ b, K b ∉ [2, 34, 35] → G b = F b) (fun (G : Nat → va_E) (t : State) => va_P (dC, dI) vwCl (va_pl L G) t.heap ∧ va_K (dC, dI) vwCl [(cs 0, .int), (cs 1, .byte), (cs 2, .long), (cs 3, .object RX5), (cs 4, .object RX4), (cs 5, .array .int), (cs 6, .char), (cs 7, .boolean)] t) (fun q => q ∈ L)) 0 0 (fun q => q ∈ L) := by
  refine Met.ofW (cc := cX1_measure) (maxL := 4) (ret := none) (by decide) rfl ?_
  intro p e s m args below meth c s₁ B hml hv
  obtain ⟨rfl, hsz, hP, hK, hD, hN⟩ := hv
  have hx := B.exec
  have hb := B.bytes
  have hr := B.returns
  have hts : ∀ w ∈ T0, w.before _ s = true := fun w h => atoms_spec (ws := Cond.code yX1_measure cX1_measure 4 none :: T0) B.pre w (List.mem_cons_of_mem _ h)
  have hown : s.vm.findClass RX1 = some m.cls := findClass_of_methodNamed B.named
  have hlocks := B.notSynchronized
  have hS : va_S (fun q => q ∈ L) s.heap s.heap [] := va_S.rf
  have hfr : ∀ b, K b ∉ [2, 34, 35] → F b = F b := fun _ _ => rfl
  have hl := lv_entry ([.ref a0]) (n := 4) (Nat.le_of_ble_eq_true rfl)
  rw [lg_entry_eq]
  generalize (lg_sl ([.ref a0]) ++ List.replicate (4 - (lg_sl ([.ref a0])).length) Slot.unset).toArray = ls at hl ⊢
  have hl : lv_has ls 4 [(0, .ref a0)] := hl
  refine s_gen hP hS (fun H locs hP hS => ?_)
  obtain ⟨z1, z3, z5, z7, z9, z11, z13, z15, z16, z17, z19, z20, o21, h2, h4, h6, h8, h10, h12, h14, h18, -⟩ := hR
  obtain ⟨f22, o23, h24⟩ := s_op23 hI h12
  refine th_join (fun g H locs => ∃ (G : Nat → va_E) (ls : Array Slot) (w25 : Int32) (w26 : Int32), g = F0 m 36 ls [.int w26] ∧ lv_has ls 4 [(0, .ref a0), (1, .int w25)] ∧ s_I K cs D G ∧ va_P (dC, dI) vwCl (va_pl L G) H ∧ va_S (fun q => q ∈ L) s.heap H locs ∧ (∀ b, K b ∉ [2, 34, 35] → G b = F b) ∧ (7 ≤ w25.toInt ∧ w25.toInt ≤ 11) ∧ (0 ≤ w26.toInt ∧ w26.toInt ≤ 1) ∧ w25 = f22 0 ∧ (9 ≤ w25.toInt → w26.toInt = 1) ∧ (∃ w, G a0 = .inr (1, [.ref z1, .ref z3, .ref z5, .ref z7, .ref z9, .ref z11, .int z13, .int z15, .int z16, .int z17, .int w, .long z20]))) (fun K36 => ?_) ?_
  · refine lv_aload_n hx hb dX1_measure_0 rfl (lv_at hl 0 rfl) ?_
    refine th_get (D := (dC, dI)) (ci := 1) (v := .ref z11) (C := RX1) (T := TX1) (N := 12) hx hb hts inX1 hown hK hP (hLK _ ha0 (by decide)) o21 rfl 5 (by decide) (hts _ T_607) (fun _ h9 => h9) rfl dX1_measure_1 ?_
    refine lv_iconst (v := 0) hx hb dX1_measure_4 (by decide) ?_
    refine th_iald hx hb hK hP (hLK _ h12 (by decide)) 0 o23 rfl (ax_in (by decide)) dX1_measure_5 ?_
    refine lv_topi (fun v27 ev27 => ?_)
    have eOP : v27 = f22 0 := ev27
    refine lv_istore_n (lv' := [(1, .int v27), (0, .ref a0)]) hx hb dX1_measure_6 rfl hl (by decide) rfl (fun ls hl => ?_)
    refine lv_aload_n hx hb dX1_measure_7 rfl (lv_at hl 1 rfl) ?_
    refine lv_iconst (v := 1) hx hb dX1_measure_8 (by decide) ?_
    refine th_put (D := (dC, dI)) (ci := 1) (v := .int 1) (ty := .int) (C := RX1) (T := TX1) (N := 12) hx hb hts inX1 tyX1 tyX1_ok nmX1 hown hK hP hD hS (hLK _ ha0 (by decide)) o21 rfl 10 (by decide) (hts _ T_646) (fun _ h9 => h9) rfl (by decide +kernel) rfl rfl (Nat.le_of_ble_eq_true rfl) dX1_measure_9 (fun H locs hP hS => ?_)
    have hP : va_P (dC, dI) vwCl (va_pl L (va_up F a0 (.inr (1, [.ref z1, .ref z3, .ref z5, .ref z7, .ref z9, .ref z11, .int z13, .int z15, .int z16, .int z17, .int 1, .long z20])))) H := hP
    obtain ⟨F28, hF29⟩ : ∃ G : Nat → va_E, G = va_up F a0 (.inr (1, [.ref z1, .ref z3, .ref z5, .ref z7, .ref z9, .ref z11, .int z13, .int z15, .int z16, .int z17, .int 1, .long z20])) := ⟨_, rfl⟩
    rw [← hF29] at hP
    have hI : s_I K cs D F28 := by rw [hF29]; exact s_cl2 hI ha0 ⟨z1, z3, z5, some z7, some z9, some z11, z13, z15, z16, z17, 1, z20, rfl, h2, h4, h6, (fun q e => by cases e; exact h8), (fun q e => by cases e; exact h10), ⟨by omega, by omega⟩, ⟨by omega, by omega⟩, trivial⟩
    have hfr : ∀ b, K b ∉ [2, 34, 35] → F28 b = F b := by rw [hF29]; exact s_fr hfr ha0 (by decide)
    have o30 : F28 z11 = .inl (cs 0, 7, .inl f22) := by rw [hF29]; exact th_ne (th_kd h12 ha0 (by decide)) o23
    have o31 : F28 a0 = .inr (1, [.ref z1, .ref z3, .ref z5, .ref z7, .ref z9, .ref z11, .int z13, .int z15, .int z16, .int z17, .int 1, .long z20]) := by rw [hF29]; exact th_up
    refine lv_iload_n hx hb dX1_measure_12 rfl (lv_at hl 0 rfl) ?_
    refine lv_bipush (v := 7) hx hb dX1_measure_13 (by decide) ?_
    refine lv_icmp_lt (tgt := 24) hx hb dX1_measure_15 (by decide) (fun c32 => ?_) (fun c32 => ?_)
    · have c32 := (ax_lt (n := 7) (by decide)).mp c32
      exact W.vret hx hb hr (fun t ht hW => ⟨⟨F28, rfl, ⟨trivial, ⟨trivial, ⟨(fun vs q => by rw [o21] at q; cases q; exact ⟨_, o31⟩), fun z0 z1 z2 z3 z4 z5 z6 z7 z8 z9 z10 z11 f g q1 q2 q3 => by rw [o31] at q1; cases q1; rw [o30] at q3; cases q3; intro i h0 h1 h2 h3 h4; have q9 := congrArg Int32.toInt eOP; omega⟩⟩, hI, hfr⟩, by rw [ht]; exact hP, va_K.moved hW.alike hK⟩, hS.F ht⟩) hS.2.2 dX1_measure_24
    · have c32 := mt (ax_lt (n := 7) (by decide)).mpr c32
      refine lv_iload_n hx hb dX1_measure_18 rfl (lv_at hl 0 rfl) ?_
      refine lv_bipush (v := 11) hx hb dX1_measure_19 (by decide) ?_
      refine lv_icmp_le (tgt := 25) hx hb dX1_measure_21 (by decide) (fun c33 => ?_) (fun c33 => ?_)
      · have c33 := (ax_le (n := 11) (by decide)).mp c33
        refine lv_iload_n hx hb dX1_measure_25 rfl (lv_at hl 0 rfl) ?_
        refine lv_bipush (v := 9) hx hb dX1_measure_26 (by decide) ?_
        refine lv_icmp_lt (tgt := 35) hx hb dX1_measure_28 (by decide) (fun c34 => ?_) (fun c34 => ?_)
        · have c34 := (ax_lt (n := 9) (by decide)).mp c34
          refine lv_iconst (v := 0) hx hb dX1_measure_35 (by decide) ?_
          exact K36 _ _ _ ⟨F28, _, v27, 0, rfl, lv_sub hl [1, 0] rfl, hI, hP, hS, hfr, ⟨by omega, by omega⟩, (by decide), eOP, (by first | omega | exact fun _ => by decide), ⟨_, o31⟩⟩
        · have c34 := mt (ax_lt (n := 9) (by decide)).mpr c34
          refine lv_iconst (v := 1) hx hb dX1_measure_31 (by decide) ?_
          refine lv_goto (tgt := 36) hx hb dX1_measure_32 (by decide) ?_
          exact K36 _ _ _ ⟨F28, _, v27, 1, rfl, lv_sub hl [1, 0] rfl, hI, hP, hS, hfr, ⟨by omega, by omega⟩, (by decide), eOP, (by first | omega | exact fun _ => by decide), ⟨_, o31⟩⟩
      · have c33 := mt (ax_le (n := 11) (by decide)).mpr c33
        exact W.vret hx hb hr (fun t ht hW => ⟨⟨F28, rfl, ⟨trivial, ⟨trivial, ⟨(fun vs q => by rw [o21] at q; cases q; exact ⟨_, o31⟩), fun z0 z1 z2 z3 z4 z5 z6 z7 z8 z9 z10 z11 f g q1 q2 q3 => by rw [o31] at q1; cases q1; rw [o30] at q3; cases q3; intro i h0 h1 h2 h3 h4; have q9 := congrArg Int32.toInt eOP; omega⟩⟩, hI, hfr⟩, by rw [ht]; exact hP, va_K.moved hW.alike hK⟩, hS.F ht⟩) hS.2.2 dX1_measure_24
  · intro g H locs hq
    obtain ⟨F9, ls, w25, w26, rfl, hl, hI, hP, hS, hfr, h35, h36, h37, h38, h39⟩ := hq
    have o40 : F9 z11 = .inl (cs 0, 7, .inl f22) := (hfr _ (by rw [h12]; decide)).trans o23
    obtain ⟨z41, o42⟩ := h39
    have eOP := h37
    refine lv_istore_n (lv' := [(2, .int w26), (0, .ref a0), (1, .int w25)]) hx hb dX1_measure_36 rfl hl (by decide) rfl (fun ls hl => ?_)
    refine lv_iconst (v := 0) hx hb dX1_measure_37 (by decide) ?_
    refine lv_istore_n (lv' := [(3, .int 0), (2, .int w26), (0, .ref a0), (1, .int w25)]) hx hb dX1_measure_38 rfl hl (by decide) rfl (fun ls hl => ?_)
    refine th_loop (fun n g H locs => ∃ (G : Nat → va_E) (ls : Array Slot) (w43 : Int32), g = F0 m 39 ls [] ∧ lv_has ls 4 [(0, .ref a0), (1, .int w25), (2, .int w26), (3, .int w43)] ∧ s_I K cs D G ∧ va_P (dC, dI) vwCl (va_pl L G) H ∧ va_S (fun q => q ∈ L) s.heap H locs ∧ (∀ b, K b ∉ [2, 34, 35] → G b = F b) ∧ (0 ≤ w43.toInt ∧ w43.toInt ≤ 8) ∧ (7 ≤ w25.toInt ∧ w25.toInt ≤ 11) ∧ (0 ≤ w26.toInt ∧ w26.toInt ≤ 1) ∧ (∀ f, G z1 = .inl (cs 0, 8, .inl f) → ∀ i : Int32, 0 ≤ i.toInt → i.toInt < w43.toInt → ¬ (z16 >>> (i &&& 31) &&& 1) = 0 → 9 ≤ w25.toInt → (f i.toNatClampNeg).toInt ≤ 31) ∧ (∃ w, G a0 = .inr (1, [.ref z1, .ref z3, .ref z5, .ref z7, .ref z9, .ref z11, .int z13, .int z15, .int z16, .int z17, .int w, .long z20])) ∧ n = (9 - w43.toInt).toNat) _ ⟨F9, _, 0, rfl, lv_sub hl [2, 3, 1, 0] rfl, hI, hP, hS, hfr, (by decide), ⟨by omega, by omega⟩, ⟨by omega, by omega⟩, (fun f q i h0 h1 => absurd h1 (by have q9 : (0 : Int32).toInt = 0 := (by decide); omega)), ⟨_, o42⟩, rfl⟩ (fun n ih39 g H locs hq => ?_)
    obtain ⟨F9, ls, w43, rfl, hl, hI, hP, hS, hfr, h44, h45, h46, h47, h48, hn⟩ := hq
    have o49 : F9 z11 = .inl (cs 0, 7, .inl f22) := (hfr _ (by rw [h12]; decide)).trans o23
    obtain ⟨z50, o51⟩ := h48
    obtain ⟨f52, o53, h54⟩ := s_op34 hI h2
    have h55 := h47 _ o53
    have hn_39 := hn
    obtain ⟨n_39, hn9_39⟩ : ∃ q, q = n := ⟨_, rfl⟩
    refine th_join (fun g H locs => ∃ (G : Nat → va_E) (ls : Array Slot), g = F0 m 84 ls [] ∧ lv_has ls 4 [(0, .ref a0), (1, .int w25), (2, .int w26), (3, .int w43)] ∧ s_I K cs D G ∧ va_P (dC, dI) vwCl (va_pl L G) H ∧ va_S (fun q => q ∈ L) s.heap H locs ∧ (∀ b, K b ∉ [2, 34, 35] → G b = F b) ∧ (7 ≤ w25.toInt ∧ w25.toInt ≤ 11) ∧ (0 ≤ w26.toInt ∧ w26.toInt ≤ 1) ∧ (0 ≤ w43.toInt ∧ w43.toInt ≤ 7) ∧ (∀ f, G z1 = .inl (cs 0, 8, .inl f) → ∀ i : Int32, 0 ≤ i.toInt → i.toInt < w43.toInt + 1 → ¬ (z16 >>> (i &&& 31) &&& 1) = 0 → 9 ≤ w25.toInt → (f i.toNatClampNeg).toInt ≤ 31) ∧ (∃ w, G a0 = .inr (1, [.ref z1, .ref z3, .ref z5, .ref z7, .ref z9, .ref z11, .int z13, .int z15, .int z16, .int z17, .int w, .long z20]))) (fun K84 => ?_) ?_
    · refine lv_iload_n hx hb dX1_measure_39 rfl (lv_at hl 3 rfl) ?_
      refine lv_bipush (v := 8) hx hb dX1_measure_40 (by decide) ?_
      refine lv_icmp_ge (tgt := 90) hx hb dX1_measure_42 (by decide) (fun c56 => ?_) (fun c56 => ?_)
      · have c56 := (ax_ge (n := 8) (by decide)).mp c56
        refine lv_iload_n hx hb dX1_measure_90 rfl (lv_at hl 1 rfl) ?_
        refine lv_bipush (v := 11) hx hb dX1_measure_91 (by decide) ?_
        refine lv_icmp_ne (tgt := 110) hx hb dX1_measure_93 (by decide) (fun c57 => ?_) (fun c57 => ?_)
        · have c57 := mt (ax_eq (n := 11) (by decide)).mpr c57
          refine lv_aload_n hx hb dX1_measure_110 rfl (lv_at hl 0 rfl) ?_
          refine lv_iload_n hx hb dX1_measure_111 rfl (lv_at hl 2 rfl) ?_
          refine lv_if_eq (tgt := 122) hx hb dX1_measure_112 (by decide) (fun c58 => ?_) (fun c58 => ?_)
          · have c58 := (ax_eq (n := 0) (by decide)).mp c58
            refine lv_iconst (v := 2) hx hb dX1_measure_122 (by decide) ?_
            refine lv_aload_n hx hb dX1_measure_123 rfl (lv_at hl 0 rfl) ?_
            refine va_calli (va_runV (As := []) (rest := [.int 2, .ref a0]) ⟨hx, hb, hml, hown, hts⟩ (s_X1_segments l dC dI H.size hLK D F9 a0 ha0 hI) (cwV 0 hts (ax_gV T_659 T_661 T_662 T_137 T_660) rfl rfl rfl (by decide +kernel) ⟨Nat.le_of_ble_eq_true rfl, Nat.le_of_ble_eq_true rfl⟩) ⟨fun a U g mk q => ⟨q.1, s_pc (U := U) rfl rfl q.2⟩, s_recv hK hP (hLK _ ha0 (by decide)) (ci := 1) rfl o51, fun U hU hW => ⟨rfl, s_pw hU hW hP hK hD hN⟩⟩ rfl rfl hl.1 rfl (lv_room (Nat.le_of_ble_eq_true rfl)) dX1_measure_124 ⟨Nat.zero_le _, Nat.zero_le _⟩) hS (fun q _ h => h) (fun q h => h) (fun r59 F60 t H1 locs ht hvm hw hB hz1 hk1 hS => ?_)
            obtain ⟨hP, hK1⟩ := hB
            rw [ht] at hP
            generalize H1 = H at hP hS ⊢
            clear hz1 hk1
            obtain ⟨h61, h62, hI, hfr1⟩ := hw
            have o63 : F60 a0 = .inr (1, [.ref z1, .ref z3, .ref z5, .ref z7, .ref z9, .ref z11, .int z13, .int z15, .int z16, .int z17, .int z50, .long z20]) := (hfr1 _ (by rw [ha0]; decide)).trans o51
            have o64 : F60 z11 = .inl (cs 0, 7, .inl f22) := (hfr1 _ (by rw [h12]; decide)).trans o49
            have o65 : F60 z1 = .inl (cs 0, 8, .inl f52) := (hfr1 _ (by rw [h2]; decide)).trans o53
            have hfr : ∀ b, K b ∉ [2, 34, 35] → F60 b = F b := fun b hb9 => (hfr1 b (fun q => hb9 (s_sub (by decide) q))).trans (hfr b hb9)
            refine lv_iadd hx hb dX1_measure_127 ?_
            refine lv_topi (fun v66 ev66 => ?_)
            have qv66 : v66.toInt = 2 + r59.toInt := by rw [ev66]; exact th_add (by decide) rfl ⟨by omega, by omega⟩
            refine th_put (D := (dC, dI)) (ci := 1) (v := .int v66) (ty := .int) (C := RX1) (T := TX1) (N := 12) hx hb hts inX1 tyX1 tyX1_ok nmX1 hown hK hP hD hS (hLK _ ha0 (by decide)) o63 rfl 10 (by decide) (hts _ T_646) (fun _ h9 => h9) rfl (by decide +kernel) rfl rfl (Nat.le_of_ble_eq_true rfl) dX1_measure_128 (fun H locs hP hS => ?_)
            have hP : va_P (dC, dI) vwCl (va_pl L (va_up F60 a0 (.inr (1, [.ref z1, .ref z3, .ref z5, .ref z7, .ref z9, .ref z11, .int z13, .int z15, .int z16, .int z17, .int v66, .long z20])))) H := hP
            obtain ⟨F67, hF68⟩ : ∃ G : Nat → va_E, G = va_up F60 a0 (.inr (1, [.ref z1, .ref z3, .ref z5, .ref z7, .ref z9, .ref z11, .int z13, .int z15, .int z16, .int z17, .int v66, .long z20])) := ⟨_, rfl⟩
            rw [← hF68] at hP
            have hI : s_I K cs D F67 := by rw [hF68]; exact s_cl2 hI ha0 ⟨z1, z3, z5, some z7, some z9, some z11, z13, z15, z16, z17, v66, z20, rfl, h2, h4, h6, (fun q e => by cases e; exact h8), (fun q e => by cases e; exact h10), ⟨by omega, by omega⟩, ⟨by omega, by omega⟩, trivial⟩
            have hfr : ∀ b, K b ∉ [2, 34, 35] → F67 b = F b := by rw [hF68]; exact s_fr hfr ha0 (by decide)
            have o69 : F67 z11 = .inl (cs 0, 7, .inl f22) := by rw [hF68]; exact th_ne (th_kd h12 ha0 (by decide)) o64
            have o70 : F67 z1 = .inl (cs 0, 8, .inl f52) := by rw [hF68]; exact th_ne (th_kd h2 ha0 (by decide)) o65
            have o71 : F67 a0 = .inr (1, [.ref z1, .ref z3, .ref z5, .ref z7, .ref z9, .ref z11, .int z13, .int z15, .int z16, .int z17, .int v66, .long z20]) := by rw [hF68]; exact th_up
            exact W.vret hx hb hr (fun t ht hW => ⟨⟨F67, rfl, ⟨trivial, ⟨trivial, ⟨(fun vs q => by rw [o21] at q; cases q; exact ⟨_, o71⟩), fun z0 z1 z2 z3 z4 z5 z6 z7 z8 z9 z10 z11 f g q1 q2 q3 => by rw [o71] at q1; cases q1; rw [o69] at q3; cases q3; intro i h0 h1 h2 h3 h4; have q9 := congrArg Int32.toInt eOP; rw [o70] at q2; cases q2; exact h55 i h0 (by omega) h2 (by omega)⟩⟩, hI, hfr⟩, by rw [ht]; exact hP, va_K.moved hW.alike hK⟩, hS.F ht⟩) hS.2.2 dX1_measure_131
          · have c58 := mt (ax_eq (n := 0) (by decide)).mpr c58
            refine lv_aload_n hx hb dX1_measure_115 rfl (lv_at hl 0 rfl) ?_
            refine va_calli (va_runV (As := []) (rest := [.ref a0]) ⟨hx, hb, hml, hown, hts⟩ (s_X1_mostInOneBank l dC dI H.size hLK D F9 a0 ha0 hI ⟨z1, z3, z5, z7, z9, z11, z13, z15, z16, z17, z50, z20, o51, h2, h4, h6, h8, h10, h12, ⟨by omega, by omega⟩, ⟨by omega, by omega⟩, trivial⟩) (cwV 0 hts (ax_gV T_655 T_657 T_658 T_137 T_656) rfl rfl rfl (by decide +kernel) ⟨Nat.le_of_ble_eq_true rfl, Nat.le_of_ble_eq_true rfl⟩) ⟨fun a U g mk q => ⟨q.1, s_pc (U := U) rfl rfl q.2⟩, s_recv hK hP (hLK _ ha0 (by decide)) (ci := 1) rfl o51, fun U hU hW => ⟨rfl, s_pw hU hW hP hK hD hN⟩⟩ rfl rfl hl.1 rfl (lv_room (Nat.le_of_ble_eq_true rfl)) dX1_measure_116 ⟨Nat.zero_le _, Nat.zero_le _⟩) hS (fun q _ h => h) (fun q h => h) (fun r72 F73 t H1 locs ht hvm hw hB hz1 hk1 hS => ?_)
            obtain ⟨hP, hK1⟩ := hB
            rw [ht] at hP
            generalize H1 = H at hP hS ⊢
            clear hz1 hk1
            obtain ⟨h74, h75, hI, hfr1⟩ := hw
            have o76 : F73 a0 = .inr (1, [.ref z1, .ref z3, .ref z5, .ref z7, .ref z9, .ref z11, .int z13, .int z15, .int z16, .int z17, .int z50, .long z20]) := (hfr1 _ (by rw [ha0]; decide)).trans o51
            have o77 : F73 z11 = .inl (cs 0, 7, .inl f22) := (hfr1 _ (by rw [h12]; decide)).trans o49
            have o78 : F73 z1 = .inl (cs 0, 8, .inl f52) := (hfr1 _ (by rw [h2]; decide)).trans o53
            have hfr : ∀ b, K b ∉ [2, 34, 35] → F73 b = F b := fun b hb9 => (hfr1 b (fun q => hb9 (s_sub (by decide) q))).trans (hfr b hb9)
            refine lv_goto (tgt := 128) hx hb dX1_measure_119 (by decide) ?_
            refine th_put (D := (dC, dI)) (ci := 1) (v := .int r72) (ty := .int) (C := RX1) (T := TX1) (N := 12) hx hb hts inX1 tyX1 tyX1_ok nmX1 hown hK hP hD hS (hLK _ ha0 (by decide)) o76 rfl 10 (by decide) (hts _ T_646) (fun _ h9 => h9) rfl (by decide +kernel) rfl rfl (Nat.le_of_ble_eq_true rfl) dX1_measure_128 (fun H locs hP hS => ?_)
            have hP : va_P (dC, dI) vwCl (va_pl L (va_up F73 a0 (.inr (1, [.ref z1, .ref z3, .ref z5, .ref z7, .ref z9, .ref z11, .int z13, .int z15, .int z16, .int z17, .int r72, .long z20])))) H := hP
            obtain ⟨F79, hF80⟩ : ∃ G : Nat → va_E, G = va_up F73 a0 (.inr (1, [.ref z1, .ref z3, .ref z5, .ref z7, .ref z9, .ref z11, .int z13, .int z15, .int z16, .int z17, .int r72, .long z20])) := ⟨_, rfl⟩
            rw [← hF80] at hP
            have hI : s_I K cs D F79 := by rw [hF80]; exact s_cl2 hI ha0 ⟨z1, z3, z5, some z7, some z9, some z11, z13, z15, z16, z17, r72, z20, rfl, h2, h4, h6, (fun q e => by cases e; exact h8), (fun q e => by cases e; exact h10), ⟨by omega, by omega⟩, ⟨by omega, by omega⟩, trivial⟩
            have hfr : ∀ b, K b ∉ [2, 34, 35] → F79 b = F b := by rw [hF80]; exact s_fr hfr ha0 (by decide)
            have o81 : F79 z11 = .inl (cs 0, 7, .inl f22) := by rw [hF80]; exact th_ne (th_kd h12 ha0 (by decide)) o77
            have o82 : F79 z1 = .inl (cs 0, 8, .inl f52) := by rw [hF80]; exact th_ne (th_kd h2 ha0 (by decide)) o78
            have o83 : F79 a0 = .inr (1, [.ref z1, .ref z3, .ref z5, .ref z7, .ref z9, .ref z11, .int z13, .int z15, .int z16, .int z17, .int r72, .long z20]) := by rw [hF80]; exact th_up
            exact W.vret hx hb hr (fun t ht hW => ⟨⟨F79, rfl, ⟨trivial, ⟨trivial, ⟨(fun vs q => by rw [o21] at q; cases q; exact ⟨_, o83⟩), fun z0 z1 z2 z3 z4 z5 z6 z7 z8 z9 z10 z11 f g q1 q2 q3 => by rw [o83] at q1; cases q1; rw [o81] at q3; cases q3; intro i h0 h1 h2 h3 h4; have q9 := congrArg Int32.toInt eOP; rw [o82] at q2; cases q2; exact h55 i h0 (by omega) h2 (by omega)⟩⟩, hI, hfr⟩, by rw [ht]; exact hP, va_K.moved hW.alike hK⟩, hS.F ht⟩) hS.2.2 dX1_measure_131
        · have c57 := (ax_eq (n := 11) (by decide)).mp c57
          refine lv_aload_n hx hb dX1_measure_96 rfl (lv_at hl 0 rfl) ?_
          refine lv_aload_n hx hb dX1_measure_97 rfl (lv_at hl 0 rfl) ?_
          refine th_get (D := (dC, dI)) (ci := 1) (v := .int z16) (C := RX1) (T := TX1) (N := 12) hx hb hts inX1 hown hK hP (hLK _ ha0 (by decide)) o51 rfl 8 (by decide) (hts _ T_645) (fun _ h9 => h9) rfl dX1_measure_98 ?_
          refine va_calli (va_runS (As := [.int z16]) (rest := [.ref a0]) ⟨hx, hb, hml, hown, hts⟩ (s_J6_bitCount_0f7a4 l dC dI H.size hLK D F9 z16 hI) ⟨callB_of 1 hts (ax_gT T_653) rfl rfl rfl (hts _ T_652) (hts _ T_651) (by decide +kernel) ⟨Nat.le_of_ble_eq_true rfl, Nat.le_of_ble_eq_true rfl⟩, hts _ T_654⟩ ⟨fun a U g mk q => ⟨q.1, s_pc (U := U) rfl rfl q.2⟩, fun U hU hW => ⟨rfl, s_pw hU hW hP hK hD hN⟩⟩ rfl rfl hl.1 rfl (lv_room (Nat.le_of_ble_eq_true rfl)) dX1_measure_101 ⟨Nat.zero_le _, Nat.zero_le _⟩) hS (fun q _ h => h) (fun q h => h) (fun r84 F85 t H1 locs ht hvm hw hB hz1 hk1 hS => ?_)
          obtain ⟨hP, hK1⟩ := hB
          rw [ht] at hP
          generalize H1 = H at hP hS ⊢
          clear hz1 hk1
          obtain ⟨h86, h87, hI, hfr1⟩ := hw
          have o88 : F85 a0 = .inr (1, [.ref z1, .ref z3, .ref z5, .ref z7, .ref z9, .ref z11, .int z13, .int z15, .int z16, .int z17, .int z50, .long z20]) := (hfr1 _ (by rw [ha0]; decide)).trans o51
          have o89 : F85 z11 = .inl (cs 0, 7, .inl f22) := (hfr1 _ (by rw [h12]; decide)).trans o49
          have o90 : F85 z1 = .inl (cs 0, 8, .inl f52) := (hfr1 _ (by rw [h2]; decide)).trans o53
          have hfr : ∀ b, K b ∉ [2, 34, 35] → F85 b = F b := fun b hb9 => (hfr1 b (fun q => hb9 (s_sub (by decide) q))).trans (hfr b hb9)
          refine th_put (D := (dC, dI)) (ci := 1) (v := .int r84) (ty := .int) (C := RX1) (T := TX1) (N := 12) hx hb hts inX1 tyX1 tyX1_ok nmX1 hown hK hP hD hS (hLK _ ha0 (by decide)) o88 rfl 10 (by decide) (hts _ T_646) (fun _ h9 => h9) rfl (by decide +kernel) rfl rfl (Nat.le_of_ble_eq_true rfl) dX1_measure_104 (fun H locs hP hS => ?_)
          have hP : va_P (dC, dI) vwCl (va_pl L (va_up F85 a0 (.inr (1, [.ref z1, .ref z3, .ref z5, .ref z7, .ref z9, .ref z11, .int z13, .int z15, .int z16, .int z17, .int r84, .long z20])))) H := hP
          obtain ⟨F91, hF92⟩ : ∃ G : Nat → va_E, G = va_up F85 a0 (.inr (1, [.ref z1, .ref z3, .ref z5, .ref z7, .ref z9, .ref z11, .int z13, .int z15, .int z16, .int z17, .int r84, .long z20])) := ⟨_, rfl⟩
          rw [← hF92] at hP
          have hI : s_I K cs D F91 := by rw [hF92]; exact s_cl2 hI ha0 ⟨z1, z3, z5, some z7, some z9, some z11, z13, z15, z16, z17, r84, z20, rfl, h2, h4, h6, (fun q e => by cases e; exact h8), (fun q e => by cases e; exact h10), ⟨by omega, by omega⟩, ⟨by omega, by omega⟩, trivial⟩
          have hfr : ∀ b, K b ∉ [2, 34, 35] → F91 b = F b := by rw [hF92]; exact s_fr hfr ha0 (by decide)
          have o93 : F91 z11 = .inl (cs 0, 7, .inl f22) := by rw [hF92]; exact th_ne (th_kd h12 ha0 (by decide)) o89
          have o94 : F91 z1 = .inl (cs 0, 8, .inl f52) := by rw [hF92]; exact th_ne (th_kd h2 ha0 (by decide)) o90
          have o95 : F91 a0 = .inr (1, [.ref z1, .ref z3, .ref z5, .ref z7, .ref z9, .ref z11, .int z13, .int z15, .int z16, .int z17, .int r84, .long z20]) := by rw [hF92]; exact th_up
          refine lv_goto (tgt := 131) hx hb dX1_measure_107 (by decide) ?_
          exact W.vret hx hb hr (fun t ht hW => ⟨⟨F91, rfl, ⟨trivial, ⟨trivial, ⟨(fun vs q => by rw [o21] at q; cases q; exact ⟨_, o95⟩), fun z0 z1 z2 z3 z4 z5 z6 z7 z8 z9 z10 z11 f g q1 q2 q3 => by rw [o95] at q1; cases q1; rw [o93] at q3; cases q3; intro i h0 h1 h2 h3 h4; have q9 := congrArg Int32.toInt eOP; rw [o94] at q2; cases q2; exact h55 i h0 (by omega) h2 (by omega)⟩⟩, hI, hfr⟩, by rw [ht]; exact hP, va_K.moved hW.alike hK⟩, hS.F ht⟩) hS.2.2 dX1_measure_131
      · have c56 := mt (ax_ge (n := 8) (by decide)).mpr c56
        refine lv_aload_n hx hb dX1_measure_45 rfl (lv_at hl 0 rfl) ?_
        refine lv_iload_n hx hb dX1_measure_46 rfl (lv_at hl 3 rfl) ?_
        refine va_calli (va_runV (As := [.int w43]) (rest := []) ⟨hx, hb, hml, hown, hts⟩ (s_X1_goesNow l dC dI H.size hLK D F9 a0 w43 ha0 hI) (cwV 1 hts (ax_gV T_637 T_639 T_640 T_137 T_638) rfl rfl rfl (by decide +kernel) ⟨Nat.le_of_ble_eq_true rfl, Nat.le_of_ble_eq_true rfl⟩) ⟨fun a U g mk q => ⟨q.1, s_pc (U := U) rfl rfl q.2⟩, s_recv hK hP (hLK _ ha0 (by decide)) (ci := 1) rfl o51, fun U hU hW => ⟨rfl, s_pw hU hW hP hK hD hN⟩⟩ rfl rfl hl.1 rfl (lv_room (Nat.le_of_ble_eq_true rfl)) dX1_measure_47 ⟨Nat.zero_le _, Nat.zero_le _⟩) hS (fun q _ h => h) (fun q h => h) (fun r96 F97 t H1 locs ht hvm hw hB hz1 hk1 hS => ?_)
        obtain ⟨hP, hK1⟩ := hB
        rw [ht] at hP
        generalize H1 = H at hP hS ⊢
        clear hz1 hk1
        obtain ⟨h98, h99, hI, hfr1⟩ := hw
        have o100 : F97 a0 = .inr (1, [.ref z1, .ref z3, .ref z5, .ref z7, .ref z9, .ref z11, .int z13, .int z15, .int z16, .int z17, .int z50, .long z20]) := (hfr1 _ (by rw [ha0]; decide)).trans o51
        have o101 : F97 z11 = .inl (cs 0, 7, .inl f22) := (hfr1 _ (by rw [h12]; decide)).trans o49
        have o102 : F97 z1 = .inl (cs 0, 8, .inl f52) := (hfr1 _ (by rw [h2]; decide)).trans o53
        have hfr : ∀ b, K b ∉ [2, 34, 35] → F97 b = F b := fun b hb9 => (hfr1 b (fun q => hb9 (s_sub (by decide) q))).trans (hfr b hb9)
        obtain ⟨h99, h103⟩ := h99
        have h103 : (∀ vs z, F9 a0 = .inr (1, vs) → vs[8]? = some (.int z) → (r96 = 0 ↔ (z >>> (w43 &&& 31) &&& 1) = 0)) := h103
        refine lv_if_eq (tgt := 84) hx hb dX1_measure_50 (by decide) (fun c104 => ?_) (fun c104 => ?_)
        · have c104 := (ax_eq (n := 0) (by decide)).mp c104
          have gb := h103 _ _ o51 rfl
          exact K84 _ _ _ ⟨F97, _, rfl, lv_sub hl [0, 1, 2, 3] rfl, hI, hP, hS, hfr, ⟨by omega, by omega⟩, ⟨by omega, by omega⟩, ⟨by omega, by omega⟩, (fun f q i h0 h1 h2 h3 => by rw [o102] at q; cases q; exact (show i.toInt < w43.toInt ∨ i.toInt = w43.toInt by omega).elim (fun p9 => h55 i h0 p9 h2 h3) (fun p9 => absurd (gb.mp (Int32.toInt_inj.mp (by rw [c104]; decide))) (by rw [← Int32.toInt_inj.mp p9]; exact h2))), ⟨_, o100⟩⟩
        · have c104 := mt (ax_eq (n := 0) (by decide)).mpr c104
          have gb := h103 _ _ o51 rfl
          refine lv_aload_n hx hb dX1_measure_53 rfl (lv_at hl 0 rfl) ?_
          refine th_get (D := (dC, dI)) (ci := 1) (v := .ref z1) (C := RX1) (T := TX1) (N := 12) hx hb hts inX1 hown hK hP (hLK _ ha0 (by decide)) o100 rfl 0 (by decide) (hts _ T_119) (fun _ h9 => h9) rfl dX1_measure_54 ?_
          refine lv_iload_n hx hb dX1_measure_57 rfl (lv_at hl 3 rfl) ?_
          refine lv_aload_n hx hb dX1_measure_58 rfl (lv_at hl 0 rfl) ?_
          refine lv_aload_n hx hb dX1_measure_59 rfl (lv_at hl 0 rfl) ?_
          refine th_get (D := (dC, dI)) (ci := 1) (v := .ref z11) (C := RX1) (T := TX1) (N := 12) hx hb hts inX1 hown hK hP (hLK _ ha0 (by decide)) o100 rfl 5 (by decide) (hts _ T_607) (fun _ h9 => h9) rfl dX1_measure_60 ?_
          refine lv_iconst (v := 2) hx hb dX1_measure_63 (by decide) ?_
          refine th_iald hx hb hK hP (hLK _ h12 (by decide)) 0 o101 rfl (ax_in (by decide)) dX1_measure_64 ?_
          refine lv_topi (fun v105 ev105 => ?_)
          refine lv_iload_n hx hb dX1_measure_65 rfl (lv_at hl 3 rfl) ?_
          refine va_calli (va_runV (As := [.int v105, .int w43]) (rest := [.int w43, .ref z1]) ⟨hx, hb, hml, hown, hts⟩ (s_X1_valueOf l dC dI H.size hLK D F97 a0 v105 w43 ha0 (⟨by omega, by omega⟩) hI ⟨z1, z3, z5, z7, z9, z11, z13, z15, z16, z17, z50, z20, o100, h2, h4, h6, h8, h10, h12, ⟨by omega, by omega⟩, ⟨by omega, by omega⟩, trivial⟩) (cwV 2 hts (ax_gV T_613 T_615 T_616 T_137 T_614) rfl rfl rfl (by decide +kernel) ⟨Nat.le_of_ble_eq_true rfl, Nat.le_of_ble_eq_true rfl⟩) ⟨fun a U g mk q => ⟨q.1, s_pc (U := U) rfl rfl q.2⟩, s_recv hK hP (hLK _ ha0 (by decide)) (ci := 1) rfl o100, fun U hU hW => ⟨rfl, s_pw hU hW hP hK hD hN⟩⟩ rfl rfl hl.1 rfl (lv_room (Nat.le_of_ble_eq_true rfl)) dX1_measure_66 ⟨Nat.zero_le _, Nat.zero_le _⟩) hS (fun q _ h => h) (fun q h => h) (fun r106 F107 t H1 locs ht hvm hw hB hz1 hk1 hS => ?_)
          obtain ⟨hP, hK1⟩ := hB
          rw [ht] at hP
          generalize H1 = H at hP hS ⊢
          clear hz1 hk1
          obtain ⟨h108, h109, hI, hfr1⟩ := hw
          have o110 : F107 a0 = .inr (1, [.ref z1, .ref z3, .ref z5, .ref z7, .ref z9, .ref z11, .int z13, .int z15, .int z16, .int z17, .int z50, .long z20]) := (hfr1 _ (by rw [ha0]; decide)).trans o100
          have o111 : F107 z11 = .inl (cs 0, 7, .inl f22) := (hfr1 _ (by rw [h12]; decide)).trans o101
          have o112 : F107 z1 = .inl (cs 0, 8, .inl f52) := (hfr1 _ (by rw [h2]; decide)).trans o102
          have hfr : ∀ b, K b ∉ [2, 34, 35] → F107 b = F b := fun b hb9 => (hfr1 b (fun q => hb9 (s_sub (by decide) q))).trans (hfr b hb9)
          refine lv_iload_n hx hb dX1_measure_69 rfl (lv_at hl 2 rfl) ?_
          refine lv_if_eq (tgt := 78) hx hb dX1_measure_70 (by decide) (fun c113 => ?_) (fun c113 => ?_)
          · have c113 := (ax_eq (n := 0) (by decide)).mp c113
            refine lv_bipush (v := 64) hx hb dX1_measure_78 (by decide) ?_
            refine va_calli (va_runS (As := [.int r106, .int 64]) (rest := [.int w43, .ref z1]) ⟨hx, hb, hml, hown, hts⟩ (s_J9_floorMod_7cf53 l dC dI H.size hLK D F107 r106 64 (by decide) hI) ⟨callB_of 2 hts (ax_gT T_649) rfl rfl rfl (hts _ T_648) (hts _ T_647) (by decide +kernel) ⟨Nat.le_of_ble_eq_true rfl, Nat.le_of_ble_eq_true rfl⟩, hts _ T_650⟩ ⟨fun a U g mk q => ⟨q.1, s_pc (U := U) rfl rfl q.2⟩, fun U hU hW => ⟨rfl, s_pw hU hW hP hK hD hN⟩⟩ rfl rfl hl.1 rfl (lv_room (Nat.le_of_ble_eq_true rfl)) dX1_measure_80 ⟨Nat.zero_le _, Nat.zero_le _⟩) hS (fun q _ h => h) (fun q h => h) (fun r114 F115 t H1 locs ht hvm hw hB hz1 hk1 hS => ?_)
            obtain ⟨hP, hK1⟩ := hB
            rw [ht] at hP
            generalize H1 = H at hP hS ⊢
            clear hz1 hk1
            obtain ⟨h116, h117, hI, hfr1⟩ := hw
            have o118 : F115 a0 = .inr (1, [.ref z1, .ref z3, .ref z5, .ref z7, .ref z9, .ref z11, .int z13, .int z15, .int z16, .int z17, .int z50, .long z20]) := (hfr1 _ (by rw [ha0]; decide)).trans o110
            have o119 : F115 z11 = .inl (cs 0, 7, .inl f22) := (hfr1 _ (by rw [h12]; decide)).trans o111
            have o120 : F115 z1 = .inl (cs 0, 8, .inl f52) := (hfr1 _ (by rw [h2]; decide)).trans o112
            have hfr : ∀ b, K b ∉ [2, 34, 35] → F115 b = F b := fun b hb9 => (hfr1 b (fun q => hb9 (s_sub (by decide) q))).trans (hfr b hb9)
            obtain ⟨h117, h121⟩ := h117
            have h121 : (0 ≤ r114.toInt ∧ r114.toInt < 64) := h121
            refine th_iast hx hb hK hP hD hS (hLK _ h2 (by decide)) 0 o120 rfl (th_in ⟨by omega, by omega⟩) dX1_measure_83 (fun H locs hP hS => ?_)
            have hP : va_P (dC, dI) vwCl (va_pl L (va_up F115 z1 (.inl (cs 0, 8, .inl (upd f52 (w43 : Int32).toNatClampNeg r114))))) H := hP
            obtain ⟨F122, hF123⟩ : ∃ G : Nat → va_E, G = va_up F115 z1 (.inl (cs 0, 8, .inl (upd f52 (w43 : Int32).toNatClampNeg r114))) := ⟨_, rfl⟩
            rw [← hF123] at hP
            have hI : s_I K cs D F122 := by rw [hF123]; exact s_cl34 hI h2 ⟨_, rfl, (th_updB h54 ⟨by omega, by omega⟩)⟩
            have hfr : ∀ b, K b ∉ [2, 34, 35] → F122 b = F b := by rw [hF123]; exact s_fr hfr h2 (by decide)
            have o124 : F122 a0 = .inr (1, [.ref z1, .ref z3, .ref z5, .ref z7, .ref z9, .ref z11, .int z13, .int z15, .int z16, .int z17, .int z50, .long z20]) := by rw [hF123]; exact th_ne (th_kd ha0 h2 (by decide)) o118
            have o125 : F122 z11 = .inl (cs 0, 7, .inl f22) := by rw [hF123]; exact th_ne (th_kd h12 h2 (by decide)) o119
            have oA : F122 z1 = (.inl (cs 0, 8, .inl (upd f52 (w43 : Int32).toNatClampNeg r114))) := by rw [hF123]; exact th_up
            exact K84 _ _ _ ⟨F122, _, rfl, lv_sub hl [0, 1, 2, 3] rfl, hI, hP, hS, hfr, ⟨by omega, by omega⟩, ⟨by omega, by omega⟩, ⟨by omega, by omega⟩, (fun f q i h0 h1 h2 h3 => by rw [oA] at q; cases q; exact (show i.toInt < w43.toInt ∨ i.toInt = w43.toInt by omega).elim (fun p9 => Int.le_trans (Int.le_of_eq (congrArg Int32.toInt (th_updN (by omega) (by omega) (by omega)))) (h55 i h0 p9 h2 h3)) (fun p9 => by rw [Int32.toInt_inj.mp p9, th_updE]; omega)), ⟨_, o124⟩⟩
          · have c113 := mt (ax_eq (n := 0) (by decide)).mpr c113
            refine lv_bipush (v := 32) hx hb dX1_measure_73 (by decide) ?_
            refine lv_goto (tgt := 80) hx hb dX1_measure_75 (by decide) ?_
            refine va_calli (va_runS (As := [.int r106, .int 32]) (rest := [.int w43, .ref z1]) ⟨hx, hb, hml, hown, hts⟩ (s_J9_floorMod_7cf53 l dC dI H.size hLK D F107 r106 32 (by decide) hI) ⟨callB_of 2 hts (ax_gT T_649) rfl rfl rfl (hts _ T_648) (hts _ T_647) (by decide +kernel) ⟨Nat.le_of_ble_eq_true rfl, Nat.le_of_ble_eq_true rfl⟩, hts _ T_650⟩ ⟨fun a U g mk q => ⟨q.1, s_pc (U := U) rfl rfl q.2⟩, fun U hU hW => ⟨rfl, s_pw hU hW hP hK hD hN⟩⟩ rfl rfl hl.1 rfl (lv_room (Nat.le_of_ble_eq_true rfl)) dX1_measure_80 ⟨Nat.zero_le _, Nat.zero_le _⟩) hS (fun q _ h => h) (fun q h => h) (fun r126 F127 t H1 locs ht hvm hw hB hz1 hk1 hS => ?_)
            obtain ⟨hP, hK1⟩ := hB
            rw [ht] at hP
            generalize H1 = H at hP hS ⊢
            clear hz1 hk1
            obtain ⟨h128, h129, hI, hfr1⟩ := hw
            have o130 : F127 a0 = .inr (1, [.ref z1, .ref z3, .ref z5, .ref z7, .ref z9, .ref z11, .int z13, .int z15, .int z16, .int z17, .int z50, .long z20]) := (hfr1 _ (by rw [ha0]; decide)).trans o110
            have o131 : F127 z11 = .inl (cs 0, 7, .inl f22) := (hfr1 _ (by rw [h12]; decide)).trans o111
            have o132 : F127 z1 = .inl (cs 0, 8, .inl f52) := (hfr1 _ (by rw [h2]; decide)).trans o112
            have hfr : ∀ b, K b ∉ [2, 34, 35] → F127 b = F b := fun b hb9 => (hfr1 b (fun q => hb9 (s_sub (by decide) q))).trans (hfr b hb9)
            obtain ⟨h129, h133⟩ := h129
            have h133 : (0 ≤ r126.toInt ∧ r126.toInt < 32) := h133
            refine th_iast hx hb hK hP hD hS (hLK _ h2 (by decide)) 0 o132 rfl (th_in ⟨by omega, by omega⟩) dX1_measure_83 (fun H locs hP hS => ?_)
            have hP : va_P (dC, dI) vwCl (va_pl L (va_up F127 z1 (.inl (cs 0, 8, .inl (upd f52 (w43 : Int32).toNatClampNeg r126))))) H := hP
            obtain ⟨F134, hF135⟩ : ∃ G : Nat → va_E, G = va_up F127 z1 (.inl (cs 0, 8, .inl (upd f52 (w43 : Int32).toNatClampNeg r126))) := ⟨_, rfl⟩
            rw [← hF135] at hP
            have hI : s_I K cs D F134 := by rw [hF135]; exact s_cl34 hI h2 ⟨_, rfl, (th_updB h54 ⟨by omega, by omega⟩)⟩
            have hfr : ∀ b, K b ∉ [2, 34, 35] → F134 b = F b := by rw [hF135]; exact s_fr hfr h2 (by decide)
            have o136 : F134 a0 = .inr (1, [.ref z1, .ref z3, .ref z5, .ref z7, .ref z9, .ref z11, .int z13, .int z15, .int z16, .int z17, .int z50, .long z20]) := by rw [hF135]; exact th_ne (th_kd ha0 h2 (by decide)) o130
            have o137 : F134 z11 = .inl (cs 0, 7, .inl f22) := by rw [hF135]; exact th_ne (th_kd h12 h2 (by decide)) o131
            have oA : F134 z1 = (.inl (cs 0, 8, .inl (upd f52 (w43 : Int32).toNatClampNeg r126))) := by rw [hF135]; exact th_up
            exact K84 _ _ _ ⟨F134, _, rfl, lv_sub hl [0, 1, 2, 3] rfl, hI, hP, hS, hfr, ⟨by omega, by omega⟩, ⟨by omega, by omega⟩, ⟨by omega, by omega⟩, (fun f q i h0 h1 h2 h3 => by rw [oA] at q; cases q; exact (show i.toInt < w43.toInt ∨ i.toInt = w43.toInt by omega).elim (fun p9 => Int.le_trans (Int.le_of_eq (congrArg Int32.toInt (th_updN (by omega) (by omega) (by omega)))) (h55 i h0 p9 h2 h3)) (fun p9 => by rw [Int32.toInt_inj.mp p9, th_updE]; omega)), ⟨_, o136⟩⟩
    · intro g H locs hq
      obtain ⟨F9, ls, rfl, hl, hI, hP, hS, hfr, h138, h139, h140, h141, h142⟩ := hq
      have o143 : F9 z11 = .inl (cs 0, 7, .inl f22) := (hfr _ (by rw [h12]; decide)).trans o23
      obtain ⟨z144, o145⟩ := h142
      obtain ⟨f146, o147, h148⟩ := s_op34 hI h2
      have h149 := h141 _ o147
      obtain ⟨v150, ev150⟩ : ∃ y : Int32, w43 + 1 = y := ⟨_, rfl⟩
      have qv150 : v150.toInt = w43.toInt + 1 := by rw [← ev150]; exact th_add rfl (by decide) ⟨by omega, by omega⟩
      refine lv_iinc (v := v150) (lv' := [(3, .int v150), (0, .ref a0), (1, .int w25), (2, .int w26)]) hx hb dX1_measure_84 hl (k := 3) rfl ev150 (by decide) rfl (fun ls hl => ?_)
      refine lv_goto (tgt := 39) hx hb dX1_measure_87 (by decide) ?_
      exact ih39 _ _ _ _ (by omega) ⟨F9, _, v150, rfl, lv_sub hl [1, 2, 3, 0] rfl, hI, hP, hS, hfr, ⟨by omega, by omega⟩, ⟨by omega, by omega⟩, ⟨by omega, by omega⟩, (fun f q i h0 h1 h2 h3 => by rw [o147] at q; cases q; exact h149 i h0 (by omega) h2 h3), ⟨_, o145⟩, rfl⟩

set_option maxHeartbeats 4000000 in
set_option maxRecDepth 100000 in
theorem s_X1_keepLine (l : Launch) (dC : Nat → ClassId) (dI : Nat → Nat → Nat) (sz : Nat) {L : List Nat} {K : Nat → Nat} {cs : Nat → ClassId} (hLK : ∀ a {k : Nat}, K a = k → k ≠ 0 → a ∈ L) (D : Nat) (Dm : Nat) (hDm : D + 1 ≤ Dm) (hDM : Dm < 2147483647) (F : Nat → va_E) (a0 : Nat) (ha0 : K a0 = 2) (hI : s_I K cs D F) (hR : s_rd3 K F a0) : Met l yX1_keepLine (Cond.code yX1_keepLine cX1_keepLine 2 none :: T0) ({ frames := 0, cells := 0, slots := 0, locals := 0 }) (va_Pc [.ref a0] (s_W dC dI sz L F [(cs 0, .int), (cs 1, .byte), (cs 2, .long), (cs 3, .object RX5), (cs 4, .object RX4), (cs 5, .array .int), (cs 6, .char), (cs 7, .boolean)])) (va_Qv (fun (G : Nat → va_E) => True ∧ True ∧ s_I K cs Dm G ∧ ∀ b, K b ∉ [5, 6, 29] → G b = F b) (fun (G : Nat → va_E) (t : State) => va_P (dC, dI) vwCl (va_pl L G) t.heap ∧ va_K (dC, dI) vwCl [(cs 0, .int), (cs 1, .byte), (cs 2, .long), (cs 3, .object RX5), (cs 4, .object RX4), (cs 5, .array .int), (cs 6, .char), (cs 7, .boolean)] t) (fun q => q ∈ L)) 0 0 (fun q => q ∈ L) := by
  refine Met.ofW (cc := cX1_keepLine) (maxL := 2) (ret := none) (by decide) rfl ?_
  intro p e s m args below meth c s₁ B hml hv
  obtain ⟨rfl, hsz, hP, hK, hD, hN⟩ := hv
  have hx := B.exec
  have hb := B.bytes
  have hr := B.returns
  have hts : ∀ w ∈ T0, w.before _ s = true := fun w h => atoms_spec (ws := Cond.code yX1_keepLine cX1_keepLine 2 none :: T0) B.pre w (List.mem_cons_of_mem _ h)
  have hown : s.vm.findClass RX1 = some m.cls := findClass_of_methodNamed B.named
  have hlocks := B.notSynchronized
  have hS : va_S (fun q => q ∈ L) s.heap s.heap [] := va_S.rf
  have hfr : ∀ b, K b ∉ [5, 6, 29] → F b = F b := fun _ _ => rfl
  have hl := lv_entry ([.ref a0]) (n := 2) (Nat.le_of_ble_eq_true rfl)
  rw [lg_entry_eq]
  generalize (lg_sl ([.ref a0]) ++ List.replicate (2 - (lg_sl ([.ref a0])).length) Slot.unset).toArray = ls at hl ⊢
  have hl : lv_has ls 2 [(0, .ref a0)] := hl
  refine s_gen hP hS (fun H locs hP hS => ?_)
  obtain ⟨z1, z3, z5, z7, z9, z11, z13, z15, z16, z17, z19, z20, o21, h2, h4, h6, h8, h10, h12, h14, h18, -⟩ := hR
  refine lv_aload_n hx hb dX1_keepLine_0 rfl (lv_at hl 0 rfl) ?_
  refine th_get (D := (dC, dI)) (ci := 1) (v := .ref z7) (C := RX1) (T := TX1) (N := 12) hx hb hts inX1 hown hK hP (hLK _ ha0 (by decide)) o21 rfl 3 (by decide) (hts _ T_611) (fun _ h9 => h9) rfl dX1_keepLine_1 ?_
  obtain ⟨z22, z24, z26, z28, z30, z32, z34, z36, z38, z40, z42, z44, z45, z47, z48, o50, h23, h25, h27, h29, h31, h33, h35, h37, h39, h41, h43, h46, h49, -⟩ := s_op5 hI h8
  refine th_getN (D := (dC, dI)) (ci := 4) (v := .int z45) (C := RX4) (T := TX4) (N := 15) hx hb hts inX4 hown hK hP (hLK _ h8 (by decide)) o50 rfl 12 (by decide) (va_Nw.use rfl (ax_n23 hN)) (fun _ h9 => h9) rfl dX1_keepLine_4 ?_
  refine lv_bipush (v := 30) hx hb dX1_keepLine_7 (by decide) ?_
  refine lv_irem hx hb dX1_keepLine_9 (by decide) ?_
  refine lv_topi (fun v51 ev51 => ?_)
  have qv51 : v51.toInt = z45.toInt % 30 := by rw [ev51]; exact th_rem rfl (by decide) (by omega) (by decide)
  refine lv_iconst (v := 5) hx hb dX1_keepLine_10 (by decide) ?_
  refine lv_imul hx hb dX1_keepLine_11 ?_
  refine lv_topi (fun v52 ev52 => ?_)
  have qv52 : v52.toInt = v51.toInt * 5 := by rw [ev52]; exact th_mul rfl (by decide) ⟨by omega, by omega⟩
  refine lv_istore_n (lv' := [(1, .int v52), (0, .ref a0)]) hx hb dX1_keepLine_12 rfl hl (by decide) rfl (fun ls hl => ?_)
  refine lv_aload_n hx hb dX1_keepLine_13 rfl (lv_at hl 1 rfl) ?_
  refine th_get (D := (dC, dI)) (ci := 1) (v := .ref z7) (C := RX1) (T := TX1) (N := 12) hx hb hts inX1 hown hK hP (hLK _ ha0 (by decide)) o21 rfl 3 (by decide) (hts _ T_611) (fun _ h9 => h9) rfl dX1_keepLine_14 ?_
  refine th_getN (D := (dC, dI)) (ci := 4) (v := .ref z34) (C := RX4) (T := TX4) (N := 15) hx hb hts inX4 hown hK hP (hLK _ h8 (by decide)) o50 rfl 6 (by decide) (va_Nw.use rfl (ax_n24 hN)) (fun _ h9 => h9) rfl dX1_keepLine_17 ?_
  refine lv_iload_n hx hb dX1_keepLine_20 rfl (lv_at hl 0 rfl) ?_
  refine lv_aload_n hx hb dX1_keepLine_21 rfl (lv_at hl 1 rfl) ?_
  refine th_get (D := (dC, dI)) (ci := 1) (v := .ref z7) (C := RX1) (T := TX1) (N := 12) hx hb hts inX1 hown hK hP (hLK _ ha0 (by decide)) o21 rfl 3 (by decide) (hts _ T_611) (fun _ h9 => h9) rfl dX1_keepLine_22 ?_
  refine th_getN (D := (dC, dI)) (ci := 4) (v := .int z44) (C := RX4) (T := TX4) (N := 15) hx hb hts inX4 hown hK hP (hLK _ h8 (by decide)) o50 rfl 11 (by decide) (va_Nw.use rfl (ax_n25 hN)) (fun _ h9 => h9) rfl dX1_keepLine_25 ?_
  obtain ⟨f53, o54, h55⟩ := s_op29 hI h35
  refine th_iast hx hb hK hP hD hS (hLK _ h35 (by decide)) 0 o54 rfl (th_in ⟨by omega, by omega⟩) dX1_keepLine_28 (fun H locs hP hS => ?_)
  have hP : va_P (dC, dI) vwCl (va_pl L (va_up F z34 (.inl (cs 0, 150, .inl (upd f53 (v52 : Int32).toNatClampNeg z44))))) H := hP
  obtain ⟨F56, hF57⟩ : ∃ G : Nat → va_E, G = va_up F z34 (.inl (cs 0, 150, .inl (upd f53 (v52 : Int32).toNatClampNeg z44))) := ⟨_, rfl⟩
  rw [← hF57] at hP
  have hI : s_I K cs D F56 := by rw [hF57]; exact s_cl29 hI h35 ⟨_, rfl, trivial⟩
  have hfr : ∀ b, K b ∉ [5, 6, 29] → F56 b = F b := by rw [hF57]; exact s_fr hfr h35 (by decide)
  have o58 : F56 a0 = .inr (1, [.ref z1, .ref z3, .ref z5, .ref z7, .ref z9, .ref z11, .int z13, .int z15, .int z16, .int z17, .int z19, .long z20]) := by rw [hF57]; exact th_ne (th_kd ha0 h35 (by decide)) o21
  have o59 : F56 z7 = .inr (4, [.ref z22, .ref z24, .ref z26, .ref z28, .ref z30, .ref z32, .ref z34, .int z36, .int z38, .int z40, .int z42, .int z44, .int z45, .int z47, .int z48]) := by rw [hF57]; exact th_ne (th_kd h8 h35 (by decide)) o50
  refine lv_aload_n hx hb dX1_keepLine_29 rfl (lv_at hl 1 rfl) ?_
  refine th_get (D := (dC, dI)) (ci := 1) (v := .ref z7) (C := RX1) (T := TX1) (N := 12) hx hb hts inX1 hown hK hP (hLK _ ha0 (by decide)) o58 rfl 3 (by decide) (hts _ T_611) (fun _ h9 => h9) rfl dX1_keepLine_30 ?_
  refine th_getN (D := (dC, dI)) (ci := 4) (v := .ref z34) (C := RX4) (T := TX4) (N := 15) hx hb hts inX4 hown hK hP (hLK _ h8 (by decide)) o59 rfl 6 (by decide) (va_Nw.use rfl (ax_n24 hN)) (fun _ h9 => h9) rfl dX1_keepLine_33 ?_
  refine lv_iload_n hx hb dX1_keepLine_36 rfl (lv_at hl 0 rfl) ?_
  refine lv_iconst (v := 1) hx hb dX1_keepLine_37 (by decide) ?_
  refine lv_iadd hx hb dX1_keepLine_38 ?_
  refine lv_topi (fun v60 ev60 => ?_)
  have qv60 : v60.toInt = v52.toInt + 1 := by rw [ev60]; exact th_add rfl (by decide) ⟨by omega, by omega⟩
  refine lv_aload_n hx hb dX1_keepLine_39 rfl (lv_at hl 1 rfl) ?_
  refine th_get (D := (dC, dI)) (ci := 1) (v := .int z13) (C := RX1) (T := TX1) (N := 12) hx hb hts inX1 hown hK hP (hLK _ ha0 (by decide)) o58 rfl 6 (by decide) (hts _ T_618) (fun _ h9 => h9) rfl dX1_keepLine_40 ?_
  obtain ⟨f61, o62, h63⟩ := s_op29 hI h35
  refine th_iast hx hb hK hP hD hS (hLK _ h35 (by decide)) 0 o62 rfl (th_in ⟨by omega, by omega⟩) dX1_keepLine_43 (fun H locs hP hS => ?_)
  have hP : va_P (dC, dI) vwCl (va_pl L (va_up F56 z34 (.inl (cs 0, 150, .inl (upd f61 (v60 : Int32).toNatClampNeg z13))))) H := hP
  obtain ⟨F64, hF65⟩ : ∃ G : Nat → va_E, G = va_up F56 z34 (.inl (cs 0, 150, .inl (upd f61 (v60 : Int32).toNatClampNeg z13))) := ⟨_, rfl⟩
  rw [← hF65] at hP
  have hI : s_I K cs D F64 := by rw [hF65]; exact s_cl29 hI h35 ⟨_, rfl, trivial⟩
  have hfr : ∀ b, K b ∉ [5, 6, 29] → F64 b = F b := by rw [hF65]; exact s_fr hfr h35 (by decide)
  have o66 : F64 a0 = .inr (1, [.ref z1, .ref z3, .ref z5, .ref z7, .ref z9, .ref z11, .int z13, .int z15, .int z16, .int z17, .int z19, .long z20]) := by rw [hF65]; exact th_ne (th_kd ha0 h35 (by decide)) o58
  have o67 : F64 z7 = .inr (4, [.ref z22, .ref z24, .ref z26, .ref z28, .ref z30, .ref z32, .ref z34, .int z36, .int z38, .int z40, .int z42, .int z44, .int z45, .int z47, .int z48]) := by rw [hF65]; exact th_ne (th_kd h8 h35 (by decide)) o59
  refine lv_aload_n hx hb dX1_keepLine_44 rfl (lv_at hl 1 rfl) ?_
  refine th_get (D := (dC, dI)) (ci := 1) (v := .ref z7) (C := RX1) (T := TX1) (N := 12) hx hb hts inX1 hown hK hP (hLK _ ha0 (by decide)) o66 rfl 3 (by decide) (hts _ T_611) (fun _ h9 => h9) rfl dX1_keepLine_45 ?_
  refine th_getN (D := (dC, dI)) (ci := 4) (v := .ref z34) (C := RX4) (T := TX4) (N := 15) hx hb hts inX4 hown hK hP (hLK _ h8 (by decide)) o67 rfl 6 (by decide) (va_Nw.use rfl (ax_n24 hN)) (fun _ h9 => h9) rfl dX1_keepLine_48 ?_
  refine lv_iload_n hx hb dX1_keepLine_51 rfl (lv_at hl 0 rfl) ?_
  refine lv_iconst (v := 2) hx hb dX1_keepLine_52 (by decide) ?_
  refine lv_iadd hx hb dX1_keepLine_53 ?_
  refine lv_topi (fun v68 ev68 => ?_)
  have qv68 : v68.toInt = v52.toInt + 2 := by rw [ev68]; exact th_add rfl (by decide) ⟨by omega, by omega⟩
  refine lv_aload_n hx hb dX1_keepLine_54 rfl (lv_at hl 1 rfl) ?_
  refine th_get (D := (dC, dI)) (ci := 1) (v := .int z15) (C := RX1) (T := TX1) (N := 12) hx hb hts inX1 hown hK hP (hLK _ ha0 (by decide)) o66 rfl 7 (by decide) (hts _ T_632) (fun _ h9 => h9) rfl dX1_keepLine_55 ?_
  obtain ⟨f69, o70, h71⟩ := s_op29 hI h35
  refine th_iast hx hb hK hP hD hS (hLK _ h35 (by decide)) 0 o70 rfl (th_in ⟨by omega, by omega⟩) dX1_keepLine_58 (fun H locs hP hS => ?_)
  have hP : va_P (dC, dI) vwCl (va_pl L (va_up F64 z34 (.inl (cs 0, 150, .inl (upd f69 (v68 : Int32).toNatClampNeg z15))))) H := hP
  obtain ⟨F72, hF73⟩ : ∃ G : Nat → va_E, G = va_up F64 z34 (.inl (cs 0, 150, .inl (upd f69 (v68 : Int32).toNatClampNeg z15))) := ⟨_, rfl⟩
  rw [← hF73] at hP
  have hI : s_I K cs D F72 := by rw [hF73]; exact s_cl29 hI h35 ⟨_, rfl, trivial⟩
  have hfr : ∀ b, K b ∉ [5, 6, 29] → F72 b = F b := by rw [hF73]; exact s_fr hfr h35 (by decide)
  have o74 : F72 a0 = .inr (1, [.ref z1, .ref z3, .ref z5, .ref z7, .ref z9, .ref z11, .int z13, .int z15, .int z16, .int z17, .int z19, .long z20]) := by rw [hF73]; exact th_ne (th_kd ha0 h35 (by decide)) o66
  have o75 : F72 z7 = .inr (4, [.ref z22, .ref z24, .ref z26, .ref z28, .ref z30, .ref z32, .ref z34, .int z36, .int z38, .int z40, .int z42, .int z44, .int z45, .int z47, .int z48]) := by rw [hF73]; exact th_ne (th_kd h8 h35 (by decide)) o67
  refine lv_aload_n hx hb dX1_keepLine_59 rfl (lv_at hl 1 rfl) ?_
  refine th_get (D := (dC, dI)) (ci := 1) (v := .ref z7) (C := RX1) (T := TX1) (N := 12) hx hb hts inX1 hown hK hP (hLK _ ha0 (by decide)) o74 rfl 3 (by decide) (hts _ T_611) (fun _ h9 => h9) rfl dX1_keepLine_60 ?_
  refine th_getN (D := (dC, dI)) (ci := 4) (v := .ref z34) (C := RX4) (T := TX4) (N := 15) hx hb hts inX4 hown hK hP (hLK _ h8 (by decide)) o75 rfl 6 (by decide) (va_Nw.use rfl (ax_n24 hN)) (fun _ h9 => h9) rfl dX1_keepLine_63 ?_
  refine lv_iload_n hx hb dX1_keepLine_66 rfl (lv_at hl 0 rfl) ?_
  refine lv_iconst (v := 3) hx hb dX1_keepLine_67 (by decide) ?_
  refine lv_iadd hx hb dX1_keepLine_68 ?_
  refine lv_topi (fun v76 ev76 => ?_)
  have qv76 : v76.toInt = v52.toInt + 3 := by rw [ev76]; exact th_add rfl (by decide) ⟨by omega, by omega⟩
  refine lv_aload_n hx hb dX1_keepLine_69 rfl (lv_at hl 1 rfl) ?_
  refine th_get (D := (dC, dI)) (ci := 1) (v := .int z16) (C := RX1) (T := TX1) (N := 12) hx hb hts inX1 hown hK hP (hLK _ ha0 (by decide)) o74 rfl 8 (by decide) (hts _ T_645) (fun _ h9 => h9) rfl dX1_keepLine_70 ?_
  obtain ⟨f77, o78, h79⟩ := s_op29 hI h35
  refine th_iast hx hb hK hP hD hS (hLK _ h35 (by decide)) 0 o78 rfl (th_in ⟨by omega, by omega⟩) dX1_keepLine_73 (fun H locs hP hS => ?_)
  have hP : va_P (dC, dI) vwCl (va_pl L (va_up F72 z34 (.inl (cs 0, 150, .inl (upd f77 (v76 : Int32).toNatClampNeg z16))))) H := hP
  obtain ⟨F80, hF81⟩ : ∃ G : Nat → va_E, G = va_up F72 z34 (.inl (cs 0, 150, .inl (upd f77 (v76 : Int32).toNatClampNeg z16))) := ⟨_, rfl⟩
  rw [← hF81] at hP
  have hI : s_I K cs D F80 := by rw [hF81]; exact s_cl29 hI h35 ⟨_, rfl, trivial⟩
  have hfr : ∀ b, K b ∉ [5, 6, 29] → F80 b = F b := by rw [hF81]; exact s_fr hfr h35 (by decide)
  have o82 : F80 a0 = .inr (1, [.ref z1, .ref z3, .ref z5, .ref z7, .ref z9, .ref z11, .int z13, .int z15, .int z16, .int z17, .int z19, .long z20]) := by rw [hF81]; exact th_ne (th_kd ha0 h35 (by decide)) o74
  have o83 : F80 z7 = .inr (4, [.ref z22, .ref z24, .ref z26, .ref z28, .ref z30, .ref z32, .ref z34, .int z36, .int z38, .int z40, .int z42, .int z44, .int z45, .int z47, .int z48]) := by rw [hF81]; exact th_ne (th_kd h8 h35 (by decide)) o75
  refine lv_aload_n hx hb dX1_keepLine_74 rfl (lv_at hl 1 rfl) ?_
  refine th_get (D := (dC, dI)) (ci := 1) (v := .ref z7) (C := RX1) (T := TX1) (N := 12) hx hb hts inX1 hown hK hP (hLK _ ha0 (by decide)) o82 rfl 3 (by decide) (hts _ T_611) (fun _ h9 => h9) rfl dX1_keepLine_75 ?_
  refine th_getN (D := (dC, dI)) (ci := 4) (v := .ref z34) (C := RX4) (T := TX4) (N := 15) hx hb hts inX4 hown hK hP (hLK _ h8 (by decide)) o83 rfl 6 (by decide) (va_Nw.use rfl (ax_n24 hN)) (fun _ h9 => h9) rfl dX1_keepLine_78 ?_
  refine lv_iload_n hx hb dX1_keepLine_81 rfl (lv_at hl 0 rfl) ?_
  refine lv_iconst (v := 4) hx hb dX1_keepLine_82 (by decide) ?_
  refine lv_iadd hx hb dX1_keepLine_83 ?_
  refine lv_topi (fun v84 ev84 => ?_)
  have qv84 : v84.toInt = v52.toInt + 4 := by rw [ev84]; exact th_add rfl (by decide) ⟨by omega, by omega⟩
  refine lv_aload_n hx hb dX1_keepLine_84 rfl (lv_at hl 1 rfl) ?_
  refine th_get (D := (dC, dI)) (ci := 1) (v := .int z19) (C := RX1) (T := TX1) (N := 12) hx hb hts inX1 hown hK hP (hLK _ ha0 (by decide)) o82 rfl 10 (by decide) (hts _ T_646) (fun _ h9 => h9) rfl dX1_keepLine_85 ?_
  obtain ⟨f85, o86, h87⟩ := s_op29 hI h35
  refine th_iast hx hb hK hP hD hS (hLK _ h35 (by decide)) 0 o86 rfl (th_in ⟨by omega, by omega⟩) dX1_keepLine_88 (fun H locs hP hS => ?_)
  have hP : va_P (dC, dI) vwCl (va_pl L (va_up F80 z34 (.inl (cs 0, 150, .inl (upd f85 (v84 : Int32).toNatClampNeg z19))))) H := hP
  obtain ⟨F88, hF89⟩ : ∃ G : Nat → va_E, G = va_up F80 z34 (.inl (cs 0, 150, .inl (upd f85 (v84 : Int32).toNatClampNeg z19))) := ⟨_, rfl⟩
  rw [← hF89] at hP
  have hI : s_I K cs D F88 := by rw [hF89]; exact s_cl29 hI h35 ⟨_, rfl, trivial⟩
  have hfr : ∀ b, K b ∉ [5, 6, 29] → F88 b = F b := by rw [hF89]; exact s_fr hfr h35 (by decide)
  have o90 : F88 a0 = .inr (1, [.ref z1, .ref z3, .ref z5, .ref z7, .ref z9, .ref z11, .int z13, .int z15, .int z16, .int z17, .int z19, .long z20]) := by rw [hF89]; exact th_ne (th_kd ha0 h35 (by decide)) o82
  have o91 : F88 z7 = .inr (4, [.ref z22, .ref z24, .ref z26, .ref z28, .ref z30, .ref z32, .ref z34, .int z36, .int z38, .int z40, .int z42, .int z44, .int z45, .int z47, .int z48]) := by rw [hF89]; exact th_ne (th_kd h8 h35 (by decide)) o83
  refine lv_aload_n hx hb dX1_keepLine_89 rfl (lv_at hl 1 rfl) ?_
  refine th_get (D := (dC, dI)) (ci := 1) (v := .ref z7) (C := RX1) (T := TX1) (N := 12) hx hb hts inX1 hown hK hP (hLK _ ha0 (by decide)) o90 rfl 3 (by decide) (hts _ T_611) (fun _ h9 => h9) rfl dX1_keepLine_90 ?_
  refine lv_dup hx hb dX1_keepLine_93 rfl ?_
  refine th_getN (D := (dC, dI)) (ci := 4) (v := .int z45) (C := RX4) (T := TX4) (N := 15) hx hb hts inX4 hown hK hP (hLK _ h8 (by decide)) o91 rfl 12 (by decide) (va_Nw.use rfl (ax_n23 hN)) (fun _ h9 => h9) rfl dX1_keepLine_94 ?_
  refine lv_iconst (v := 1) hx hb dX1_keepLine_97 (by decide) ?_
  refine lv_iadd hx hb dX1_keepLine_98 ?_
  refine lv_topi (fun v92 ev92 => ?_)
  have qv92 : v92.toInt = z45.toInt + 1 := by rw [ev92]; exact th_add rfl (by decide) ⟨by omega, by omega⟩
  refine th_putN (D := (dC, dI)) (ci := 4) (v := .int v92) (ty := .int) (C := RX4) (T := TX4) (N := 15) hx hb hts inX4 tyX4 tyX4_ok nmX4 hown hK hP hD hS (hLK _ h8 (by decide)) o91 rfl 12 (by decide) (va_Nw.use rfl (ax_n23 hN)) (fun _ h9 => h9) rfl (by decide +kernel) rfl rfl (Nat.le_of_ble_eq_true rfl) dX1_keepLine_99 (fun H locs hP hS => ?_)
  have hI := s_mono (Nat.le_succ D) hI
  have hP : va_P (dC, dI) vwCl (va_pl L (va_up F88 z7 (.inr (4, [.ref z22, .ref z24, .ref z26, .ref z28, .ref z30, .ref z32, .ref z34, .int z36, .int z38, .int z40, .int z42, .int z44, .int v92, .int z47, .int z48])))) H := hP
  obtain ⟨F93, hF94⟩ : ∃ G : Nat → va_E, G = va_up F88 z7 (.inr (4, [.ref z22, .ref z24, .ref z26, .ref z28, .ref z30, .ref z32, .ref z34, .int z36, .int z38, .int z40, .int z42, .int z44, .int v92, .int z47, .int z48])) := ⟨_, rfl⟩
  rw [← hF94] at hP
  have hI : s_I K cs (D + 1) F93 := by rw [hF94]; exact s_cl5 hI h8 ⟨z22, z24, z26, z28, z30, z32, z34, z36, z38, z40, z42, z44, v92, z47, z48, rfl, h23, h25, h27, h29, h31, h33, h35, ⟨by omega, by omega⟩, ⟨by omega, by omega⟩, ⟨by omega, by omega⟩, ⟨by omega, by omega⟩, ⟨by omega, by omega⟩, ⟨by omega, by omega⟩, trivial⟩
  have hfr : ∀ b, K b ∉ [5, 6, 29] → F93 b = F b := by rw [hF94]; exact s_fr hfr h8 (by decide)
  have o95 : F93 a0 = .inr (1, [.ref z1, .ref z3, .ref z5, .ref z7, .ref z9, .ref z11, .int z13, .int z15, .int z16, .int z17, .int z19, .long z20]) := by rw [hF94]; exact th_ne (th_kd ha0 h8 (by decide)) o90
  have o96 : F93 z7 = .inr (4, [.ref z22, .ref z24, .ref z26, .ref z28, .ref z30, .ref z32, .ref z34, .int z36, .int z38, .int z40, .int z42, .int z44, .int v92, .int z47, .int z48]) := by rw [hF94]; exact th_up
  refine lv_aload_n hx hb dX1_keepLine_102 rfl (lv_at hl 1 rfl) ?_
  refine th_get (D := (dC, dI)) (ci := 1) (v := .ref z9) (C := RX1) (T := TX1) (N := 12) hx hb hts inX1 hown hK hP (hLK _ ha0 (by decide)) o95 rfl 4 (by decide) (hts _ T_612) (fun _ h9 => h9) rfl dX1_keepLine_103 ?_
  refine lv_dup hx hb dX1_keepLine_106 rfl ?_
  obtain ⟨z97, z99, z101, z103, z105, z107, z109, z110, z111, z112, z113, o115, h98, h100, h102, h104, h106, h108, h114, -⟩ := s_op6 hI h10
  refine th_getN (D := (dC, dI)) (ci := 5) (v := .int z112) (C := RX5) (T := TX5) (N := 11) hx hb hts inX5 hown hK hP (hLK _ h10 (by decide)) o115 rfl 9 (by decide) (va_Nw.use rfl (ax_n26 hN)) (fun _ h9 => h9) rfl dX1_keepLine_107 ?_
  refine lv_iconst (v := 1) hx hb dX1_keepLine_110 (by decide) ?_
  refine lv_iadd hx hb dX1_keepLine_111 ?_
  refine lv_topi (fun v116 ev116 => ?_)
  refine th_putN (D := (dC, dI)) (ci := 5) (v := .int v116) (ty := .int) (C := RX5) (T := TX5) (N := 11) hx hb hts inX5 tyX5 tyX5_ok nmX5 hown hK hP hD hS (hLK _ h10 (by decide)) o115 rfl 9 (by decide) (va_Nw.use rfl (ax_n26 hN)) (fun _ h9 => h9) rfl (by decide +kernel) rfl rfl (Nat.le_of_ble_eq_true rfl) dX1_keepLine_112 (fun H locs hP hS => ?_)
  have hP : va_P (dC, dI) vwCl (va_pl L (va_up F93 z9 (.inr (5, [.ref z97, .ref z99, .ref z101, .ref z103, .ref z105, .int z107, .int z109, .int z110, .int z111, .int v116, .int z113])))) H := hP
  obtain ⟨F117, hF118⟩ : ∃ G : Nat → va_E, G = va_up F93 z9 (.inr (5, [.ref z97, .ref z99, .ref z101, .ref z103, .ref z105, .int z107, .int z109, .int z110, .int z111, .int v116, .int z113])) := ⟨_, rfl⟩
  rw [← hF118] at hP
  have hI : s_I K cs (D + 1) F117 := by rw [hF118]; exact s_cl6 hI h10 ⟨z97, z99, z101, z103, z105, z107, z109, z110, z111, v116, z113, rfl, h98, h100, h102, h104, h106, ⟨by omega, by omega⟩, ⟨by omega, by omega⟩, trivial⟩
  have hfr : ∀ b, K b ∉ [5, 6, 29] → F117 b = F b := by rw [hF118]; exact s_fr hfr h10 (by decide)
  have o119 : F117 a0 = .inr (1, [.ref z1, .ref z3, .ref z5, .ref z7, .ref z9, .ref z11, .int z13, .int z15, .int z16, .int z17, .int z19, .long z20]) := by rw [hF118]; exact th_ne (th_kd ha0 h10 (by decide)) o95
  have o120 : F117 z7 = .inr (4, [.ref z22, .ref z24, .ref z26, .ref z28, .ref z30, .ref z32, .ref z34, .int z36, .int z38, .int z40, .int z42, .int z44, .int v92, .int z47, .int z48]) := by rw [hF118]; exact th_ne (th_kd h8 h10 (by decide)) o96
  have o121 : F117 z9 = .inr (5, [.ref z97, .ref z99, .ref z101, .ref z103, .ref z105, .int z107, .int z109, .int z110, .int z111, .int v116, .int z113]) := by rw [hF118]; exact th_up
  refine lv_aload_n hx hb dX1_keepLine_115 rfl (lv_at hl 1 rfl) ?_
  refine th_get (D := (dC, dI)) (ci := 1) (v := .ref z7) (C := RX1) (T := TX1) (N := 12) hx hb hts inX1 hown hK hP (hLK _ ha0 (by decide)) o119 rfl 3 (by decide) (hts _ T_611) (fun _ h9 => h9) rfl dX1_keepLine_116 ?_
  refine lv_aload_n hx hb dX1_keepLine_119 rfl (lv_at hl 1 rfl) ?_
  refine th_get (D := (dC, dI)) (ci := 1) (v := .int z13) (C := RX1) (T := TX1) (N := 12) hx hb hts inX1 hown hK hP (hLK _ ha0 (by decide)) o119 rfl 6 (by decide) (hts _ T_618) (fun _ h9 => h9) rfl dX1_keepLine_120 ?_
  refine th_putN (D := (dC, dI)) (ci := 4) (v := .int z13) (ty := .int) (C := RX4) (T := TX4) (N := 15) hx hb hts inX4 tyX4 tyX4_ok nmX4 hown hK hP hD hS (hLK _ h8 (by decide)) o120 rfl 14 (by decide) (va_Nw.use rfl (ax_n27 hN)) (fun _ h9 => h9) rfl (by decide +kernel) rfl rfl (Nat.le_of_ble_eq_true rfl) dX1_keepLine_123 (fun H locs hP hS => ?_)
  have hP : va_P (dC, dI) vwCl (va_pl L (va_up F117 z7 (.inr (4, [.ref z22, .ref z24, .ref z26, .ref z28, .ref z30, .ref z32, .ref z34, .int z36, .int z38, .int z40, .int z42, .int z44, .int v92, .int z47, .int z13])))) H := hP
  obtain ⟨F122, hF123⟩ : ∃ G : Nat → va_E, G = va_up F117 z7 (.inr (4, [.ref z22, .ref z24, .ref z26, .ref z28, .ref z30, .ref z32, .ref z34, .int z36, .int z38, .int z40, .int z42, .int z44, .int v92, .int z47, .int z13])) := ⟨_, rfl⟩
  rw [← hF123] at hP
  have hI : s_I K cs (D + 1) F122 := by rw [hF123]; exact s_cl5 hI h8 ⟨z22, z24, z26, z28, z30, z32, z34, z36, z38, z40, z42, z44, v92, z47, z13, rfl, h23, h25, h27, h29, h31, h33, h35, ⟨by omega, by omega⟩, ⟨by omega, by omega⟩, ⟨by omega, by omega⟩, ⟨by omega, by omega⟩, ⟨by omega, by omega⟩, ⟨by omega, by omega⟩, trivial⟩
  have hfr : ∀ b, K b ∉ [5, 6, 29] → F122 b = F b := by rw [hF123]; exact s_fr hfr h8 (by decide)
  have o124 : F122 a0 = .inr (1, [.ref z1, .ref z3, .ref z5, .ref z7, .ref z9, .ref z11, .int z13, .int z15, .int z16, .int z17, .int z19, .long z20]) := by rw [hF123]; exact th_ne (th_kd ha0 h8 (by decide)) o119
  have o125 : F122 z9 = .inr (5, [.ref z97, .ref z99, .ref z101, .ref z103, .ref z105, .int z107, .int z109, .int z110, .int z111, .int v116, .int z113]) := by rw [hF123]; exact th_ne (th_kd h10 h8 (by decide)) o121
  have o126 : F122 z7 = .inr (4, [.ref z22, .ref z24, .ref z26, .ref z28, .ref z30, .ref z32, .ref z34, .int z36, .int z38, .int z40, .int z42, .int z44, .int v92, .int z47, .int z13]) := by rw [hF123]; exact th_up
  exact W.vret hx hb hr (fun t ht hW => ⟨⟨F122, rfl, ⟨trivial, trivial, (s_mono (by omega) hI), hfr⟩, by rw [ht]; exact hP, va_K.moved hW.alike hK⟩, hS.F ht⟩) hS.2.2 dX1_keepLine_126

