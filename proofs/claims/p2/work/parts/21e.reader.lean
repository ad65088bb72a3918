set_option maxHeartbeats 4000000 in
set_option maxRecDepth 100000 in
theorem s_X3_readStatement (l : Launch) (dC : Nat → ClassId) (dI : Nat → Nat → Nat) (sz : Nat) {L : List Nat} {K : Nat → Nat} {cs : Nat → ClassId} (hLK : ∀ a {k : Nat}, K a = k → k ≠ 0 → a ∈ L) (D : Nat) (adK adV : Nat → Nat) (tf : Option Nat) (F : Nat → va_E) (a0 : Nat) (x1 : Int32) (ha0 : K a0 = 4) (hx1 : 0 ≤ x1.toInt ∧ x1.toInt ≤ 80) (hI : s_I K cs D F) (tt qq : Nat) (hR : s_rd4 K F a0 tt qq) (hRI : s_RI K cs F) (hq : s_QG cs F qq 0) : Met l yX3_readStatement (Cond.code yX3_readStatement cX3_readStatement 5 (some .boolean) :: T0) ({ frames := 8, cells := 0, slots := 0, locals := 176 }) (va_Pc [.ref a0, .int x1] (s_WZ dC dI sz L F [(cs 0, .int), (cs 1, .byte), (cs 2, .long), (cs 3, .object RX5), (cs 4, .object RX4), (cs 5, .array .int), (cs 6, .char), (cs 7, .boolean)] adK adV tf)) (va_Qi (fun (r : Int32) (G : Nat → va_E) => (0 ≤ r.toInt ∧ r.toInt ≤ 1) ∧ (True ∧ (¬ r = 0 → s_QG cs G qq 0)) ∧ s_I K cs D G ∧ (∀ b, K b ∉ [4, 8, 21, 24, 43] → G b = F b) ∧ s_rd4 K G a0 tt qq) (fun (G : Nat → va_E) (t : State) => va_P (dC, dI) vwCl (va_pl L G) t.heap ∧ va_K (dC, dI) vwCl [(cs 0, .int), (cs 1, .byte), (cs 2, .long), (cs 3, .object RX5), (cs 4, .object RX4), (cs 5, .array .int), (cs 6, .char), (cs 7, .boolean)] t) (fun q => q ∈ L)) 0 0 (fun q => q ∈ L) := by
  refine Met.ofW (cc := cX3_readStatement) (maxL := 5) (ret := (some .boolean)) (by decide) rfl ?_
  intro p e s m args below meth c s₁ B hml hv
  obtain ⟨rfl, ⟨hsz, hP, hK, hD, hN⟩, hZ⟩ := hv
  have hx := B.exec
  have hb := B.bytes
  have hr := B.returns
  have hts : ∀ w ∈ T0, w.before _ s = true := fun w h => atoms_spec (ws := Cond.code yX3_readStatement cX3_readStatement 5 (some .boolean) :: T0) B.pre w (List.mem_cons_of_mem _ h)
  have hown : s.vm.findClass RX3 = some m.cls := findClass_of_methodNamed B.named
  have hlocks := B.notSynchronized
  have hS : va_S (fun q => q ∈ L) s.heap s.heap [] := va_S.rf
  have hfr : ∀ b, K b ∉ [4, 8, 21, 24, 43] → F b = F b := fun _ _ => rfl
  have hl := lv_entry ([.ref a0, .int x1]) (n := 5) (Nat.le_of_ble_eq_true rfl)
  rw [lg_entry_eq]
  generalize (lg_sl ([.ref a0, .int x1]) ++ List.replicate (5 - (lg_sl ([.ref a0, .int x1])).length) Slot.unset).toArray = ls at hl ⊢
  have hl : lv_has ls 5 [(0, .ref a0), (1, .int x1)] := hl
  refine s_gen hP hS (fun H locs hP hS => ?_)
  obtain ⟨z1, z3, z5, z7, z10, z13, z14, z16, z18, z19, z20, z22, z23, o25, h2, h4, h6, h8, h9, h11, h12, h15, h17, h21, h24, -⟩ := hR
  refine th_join (fun g H locs => ∃ (G : Nat → va_E) (ls : Array Slot) (w26 : Int32) (w27 : Int32), g = F0 m 39 ls [.int w26, .int w27] ∧ lv_has ls 5 [(0, .ref a0)] ∧ s_I K cs D G ∧ va_P (dC, dI) vwCl (va_pl L G) H ∧ va_S (fun q => q ∈ L) s.heap H locs ∧ (∀ b, K b ∉ [4, 8, 21, 24, 43] → G b = F b) ∧ (0 ≤ w26.toInt ∧ w26.toInt ≤ 1) ∧ (0 ≤ w27.toInt ∧ w27.toInt ≤ 1) ∧ s_QG cs G qq 0 ∧ s_rd4 K G a0 tt qq) (fun K39 => ?_) ?_
  refine th_join (fun g H locs => ∃ (G : Nat → va_E) (ls : Array Slot) (w28 : Int32), g = F0 m 25 ls [.int w28] ∧ lv_has ls 5 [(0, .ref a0)] ∧ s_I K cs D G ∧ va_P (dC, dI) vwCl (va_pl L G) H ∧ va_S (fun q => q ∈ L) s.heap H locs ∧ (∀ b, K b ∉ [4, 8, 21, 24, 43] → G b = F b) ∧ (0 ≤ w28.toInt ∧ w28.toInt ≤ 1) ∧ s_QG cs G qq 0 ∧ s_rd4 K G a0 tt qq) (fun K25 => ?_) ?_
  · refine lv_iload_n hx hb dX3_readStatement_0 rfl (lv_at hl 1 rfl) ?_
    refine lv_bipush (v := 80) hx hb dX3_readStatement_1 (by decide) ?_
    refine lv_icmp_ne (tgt := 16) hx hb dX3_readStatement_3 (by decide) (fun c29 => ?_) (fun c29 => ?_)
    · have c29 := mt (ax_eq (n := 80) (by decide)).mpr c29
      refine lv_iload_n hx hb dX3_readStatement_16 rfl (lv_at hl 1 rfl) ?_
      refine lv_if_ne (tgt := 24) hx hb dX3_readStatement_17 (by decide) (fun c30 => ?_) (fun c30 => ?_)
      · have c30 := mt (ax_eq (n := 0) (by decide)).mpr c30
        refine lv_iconst (v := 0) hx hb dX3_readStatement_24 (by decide) ?_
        exact K25 _ _ _ ⟨F, _, 0, rfl, lv_sub hl [0] rfl, hI, hP, hS, hfr, (by decide), hq, ⟨z1, z3, z5, z7, z10, z13, z14, z16, z18, z19, z20, z22, z23, o25, h2, h4, h6, h8, h9, ⟨by omega, by omega⟩, h12, ⟨by omega, by omega⟩, ⟨by omega, by omega⟩, ⟨by omega, by omega⟩, (fun q => by first | omega | exact absurd q (by decide)), trivial⟩⟩
      · have c30 := (ax_eq (n := 0) (by decide)).mp c30
        refine lv_iconst (v := 1) hx hb dX3_readStatement_20 (by decide) ?_
        refine lv_goto (tgt := 25) hx hb dX3_readStatement_21 (by decide) ?_
        exact K25 _ _ _ ⟨F, _, 1, rfl, lv_sub hl [0] rfl, hI, hP, hS, hfr, (by decide), hq, ⟨z1, z3, z5, z7, z10, z13, z14, z16, z18, z19, z20, z22, z23, o25, h2, h4, h6, h8, h9, ⟨by omega, by omega⟩, h12, ⟨by omega, by omega⟩, ⟨by omega, by omega⟩, ⟨by omega, by omega⟩, (fun q => by first | omega | exact absurd q (by decide)), trivial⟩⟩
    · have c29 := (ax_eq (n := 80) (by decide)).mp c29
      refine lv_aload_n hx hb dX3_readStatement_6 rfl (lv_at hl 0 rfl) ?_
      refine lv_iconst (v := 5) hx hb dX3_readStatement_7 (by decide) ?_
      refine lv_aload_n hx hb dX3_readStatement_8 rfl (lv_at hl 0 rfl) ?_
      refine th_get (D := (dC, dI)) (ci := 3) (v := .int z14) (C := RX3) (T := TX3) (N := 15) hx hb hts inX3 hown hK hP (hLK _ ha0 (by decide)) o25 rfl 8 (by decide) (hts _ T_206) (fun _ h9 => h9) rfl dX3_readStatement_9 ?_
      have hIq := hI
      refine va_calli (va_runV (As := [.int 5, .int z14]) (rest := []) ⟨hx, hb, hml, hown, hts⟩ (s_X3_fail l dC dI H.size hLK D F a0 5 z14 ha0 hI tt qq ⟨z1, z3, z5, z7, z10, z13, z14, z16, z18, z19, z20, z22, z23, o25, h2, h4, h6, h8, h9, ⟨by omega, by omega⟩, h12, ⟨by omega, by omega⟩, ⟨by omega, by omega⟩, ⟨by omega, by omega⟩, (fun q => by first | omega | exact absurd q (by decide)), trivial⟩) (cwV 2 hts (ax_gV T_218 T_219 T_220 T_163 T_14) rfl rfl rfl (by decide +kernel) ⟨Nat.le_of_ble_eq_true rfl, Nat.le_of_ble_eq_true rfl⟩) ⟨fun a U g mk q => ⟨q.1, s_pc (U := U) rfl rfl q.2⟩, s_recv hK hP (hLK _ ha0 (by decide)) (ci := 3) rfl o25, fun U hU hW => ⟨rfl, s_pw hU hW hP hK hD hN⟩⟩ rfl rfl hl.1 rfl (lv_room (Nat.le_of_ble_eq_true rfl)) dX3_readStatement_12 ⟨Nat.zero_le _, Nat.zero_le _⟩) hS (fun q _ h => h) (fun q h => h) (fun r31 F32 t H1 locs ht hvm hw hB hz1 hk1 hS => ?_)
      obtain ⟨hP, hK1⟩ := hB
      rw [ht] at hP
      generalize H1 = H at hP hS ⊢
      clear hz1 hk1
      obtain ⟨h33, h34, hI, hfr1, h35⟩ := hw
      have hq := s_QGt hIq h12 (fun b hb9 => hfr1 b (by rcases hb9 with q | q | q <;> (rw [q]; decide))) hq
      have hfr : ∀ b, K b ∉ [4, 8, 21, 24, 43] → F32 b = F b := fun b hb9 => (hfr1 b (fun q => hb9 (s_sub (by decide) q))).trans (hfr b hb9)
      obtain ⟨h34, h36⟩ := h34
      have h36 : (∀ vs z, F32 a0 = .inr (3, vs) → vs[13]? = some (.int z) → z = 5) := h36
      obtain ⟨z37, z39, z41, z43, z46, z49, z50, z52, z54, z55, z56, z58, z59, o61, h38, h40, h42, h44, h45, h47, h48, h51, h53, h57, h60, -⟩ := h35
      exact W.zret (v := r31) (ty := .boolean) hx hb hr (th_nz ⟨by omega, by omega⟩) (fun t ht hW => ⟨⟨r31, F32, rfl, ⟨⟨by omega, by omega⟩, ⟨trivial, (fun q => absurd (th_z0 ⟨by omega, by omega⟩) q)⟩, hI, hfr, ⟨z37, z39, z41, z43, z46, z49, z50, z52, z54, z55, z56, z58, z59, o61, h38, h40, h42, h44, h45, ⟨by omega, by omega⟩, h48, ⟨by omega, by omega⟩, ⟨by omega, by omega⟩, ⟨by omega, by omega⟩, (fun q => by first | omega | exact absurd q (by decide)), trivial⟩⟩, by rw [ht]; exact hP, va_K.moved hW.alike hK⟩, hS.F ht⟩) hS.2.2 dX3_readStatement_15
  · intro g H locs hq
    obtain ⟨F9, ls, w28, rfl, hl, hI, hP, hS, hfr, h62, h63, h64⟩ := hq
    obtain ⟨z65, z67, z69, z71, z74, z77, z78, z80, z82, z83, z84, z86, z87, o89, h66, h68, h70, h72, h73, h75, h76, h79, h81, h85, h88, -⟩ := h64
    have hq := h63
    refine lv_aload_n hx hb dX3_readStatement_25 rfl (lv_at hl 0 rfl) ?_
    refine th_get (D := (dC, dI)) (ci := 3) (v := .int z82) (C := RX3) (T := TX3) (N := 15) hx hb hts inX3 hown hK hP (hLK _ ha0 (by decide)) o89 rfl 10 (by decide) (hts _ T_208) (fun _ h9 => h9) rfl dX3_readStatement_26 ?_
    refine lv_bipush (v := 16) hx hb dX3_readStatement_29 (by decide) ?_
    refine lv_icmp_ne (tgt := 38) hx hb dX3_readStatement_31 (by decide) (fun c90 => ?_) (fun c90 => ?_)
    · have c90 := mt (ax_eq (n := 16) (by decide)).mpr c90
      refine lv_iconst (v := 0) hx hb dX3_readStatement_38 (by decide) ?_
      exact K39 _ _ _ ⟨F9, _, 0, w28, rfl, lv_sub hl [0] rfl, hI, hP, hS, hfr, (by decide), ⟨by omega, by omega⟩, hq, ⟨z65, z67, z69, z71, z74, z77, z78, z80, z82, z83, z84, z86, z87, o89, h66, h68, h70, h72, h73, ⟨by omega, by omega⟩, h76, ⟨by omega, by omega⟩, ⟨by omega, by omega⟩, ⟨by omega, by omega⟩, (fun q => by first | omega | exact absurd q (by decide)), trivial⟩⟩
    · have c90 := (ax_eq (n := 16) (by decide)).mp c90
      refine lv_iconst (v := 1) hx hb dX3_readStatement_34 (by decide) ?_
      refine lv_goto (tgt := 39) hx hb dX3_readStatement_35 (by decide) ?_
      exact K39 _ _ _ ⟨F9, _, 1, w28, rfl, lv_sub hl [0] rfl, hI, hP, hS, hfr, (by decide), ⟨by omega, by omega⟩, hq, ⟨z65, z67, z69, z71, z74, z77, z78, z80, z82, z83, z84, z86, z87, o89, h66, h68, h70, h72, h73, ⟨by omega, by omega⟩, h76, ⟨by omega, by omega⟩, ⟨by omega, by omega⟩, ⟨by omega, by omega⟩, (fun q => by first | omega | exact absurd q (by decide)), trivial⟩⟩
  · intro g H locs hq
    obtain ⟨F9, ls, w26, w27, rfl, hl, hI, hP, hS, hfr, h91, h92, h93, h94⟩ := hq
    obtain ⟨z95, z97, z99, z101, z104, z107, z108, z110, z112, z113, z114, z116, z117, o119, h96, h98, h100, h102, h103, h105, h106, h109, h111, h115, h118, -⟩ := h94
    have hq := h93
    refine lv_icmp_eq (tgt := 52) hx hb dX3_readStatement_39 (by decide) (fun c120 => ?_) (fun c120 => ?_)
    · have c120 := Int32.toInt_inj.symm.mp c120
      refine lv_aload_n hx hb dX3_readStatement_52 rfl (lv_at hl 0 rfl) ?_
      refine th_get (D := (dC, dI)) (ci := 3) (v := .int z112) (C := RX3) (T := TX3) (N := 15) hx hb hts inX3 hown hK hP (hLK _ ha0 (by decide)) o119 rfl 10 (by decide) (hts _ T_208) (fun _ h9 => h9) rfl dX3_readStatement_53 ?_
      refine lv_bipush (v := 15) hx hb dX3_readStatement_56 (by decide) ?_
      refine lv_icmp_gt (tgt := 70) hx hb dX3_readStatement_58 (by decide) (fun c121 => ?_) (fun c121 => ?_)
      · have c121 := (ax_gt (n := 15) (by decide)).mp c121
        refine lv_aload_n hx hb dX3_readStatement_70 rfl (lv_at hl 0 rfl) ?_
        refine th_get (D := (dC, dI)) (ci := 3) (v := .int z112) (C := RX3) (T := TX3) (N := 15) hx hb hts inX3 hown hK hP (hLK _ ha0 (by decide)) o119 rfl 10 (by decide) (hts _ T_208) (fun _ h9 => h9) rfl dX3_readStatement_71 ?_
        have hIq := hI
        refine va_callr (va_runS (As := [.int z112]) (rest := []) ⟨hx, hb, hml, hown, hts⟩ (s_X3_piecesOf l dC dI H.size hLK D adK adV tf F9 z112 hI) (cwS 1 hts (ax_gS T_808 T_810 T_163 T_809) rfl rfl rfl (by decide +kernel) ⟨Nat.le_of_ble_eq_true rfl, Nat.le_of_ble_eq_true rfl⟩) ⟨fun a U g mk q => ⟨q.1, s_pc (U := U) rfl rfl q.2.1, s_pcZ (U := U) rfl rfl q.2.2⟩, fun U hU hW => ⟨rfl, s_pw hU hW hP hK hD hN, s_pwZ hU hW hS hZ⟩⟩ rfl rfl hl.1 rfl (lv_room (Nat.le_of_ble_eq_true rfl)) dX3_readStatement_74 ⟨Nat.zero_le _, Nat.zero_le _⟩) hS (fun q _ h => h) (fun q h => h) (fun F123 r122 t H1 locs ht hvm hw hB hz1 hk1 hS => ?_)
        obtain ⟨⟨k124, hk_k124, e_k124, hr_k124⟩, hP, hK1⟩ := hB
        subst e_k124
        rw [ht] at hP
        generalize H1 = H at hP hS ⊢
        clear hz1 hk1
        obtain ⟨h125, h126, hI, hfr1⟩ := hw
        have o127 : F123 a0 = .inr (3, [.ref z95, .ref z97, .ref z99, .ref z101, .ref tt, .int z104, .ref qq, .int z107, .int z108, .int z110, .int z112, .int z113, .int z114, .int z116, .int z117]) := (hfr1 _ (by rw [ha0]; decide)).trans o119
        have hq := s_QGt hIq h106 (fun b hb9 => hfr1 b (by rcases hb9 with q | q | q <;> (rw [q]; decide))) hq
        have hfr : ∀ b, K b ∉ [4, 8, 21, 24, 43] → F123 b = F b := fun b hb9 => (hfr1 b (fun q => hb9 (s_sub (by decide) q))).trans (hfr b hb9)
        refine lv_astore_n (lv' := [(2, .ref (adK k124)), (0, .ref a0)]) hx hb dX3_readStatement_77 rfl hl (by decide) rfl (fun ls hl => ?_)
        refine lv_aload_n hx hb dX3_readStatement_78 rfl (lv_at hl 0 rfl) ?_
        have hIq := hI
        refine va_calli (va_runV (As := []) (rest := []) ⟨hx, hb, hml, hown, hts⟩ (s_J0_isEmpty_aae02 l dC dI H.size hLK D adK adV tf F123 k124 hk_k124 hI) (cwV 0 hts (ax_gV T_811 T_813 T_814 T_445 T_812) rfl rfl rfl (by decide +kernel) ⟨Nat.le_of_ble_eq_true rfl, Nat.le_of_ble_eq_true rfl⟩) ⟨fun a U g mk q => ⟨q.1, s_pc (U := U) rfl rfl q.2.1, s_pcZ (U := U) rfl rfl q.2.2⟩, vk_recv hZ.2.2.1 hk_k124 hS, fun U hU hW => ⟨rfl, s_pw hU hW hP hK hD hN, s_pwZ hU hW hS hZ⟩⟩ rfl rfl hl.1 rfl (lv_room (Nat.le_of_ble_eq_true rfl)) dX3_readStatement_79 ⟨Nat.zero_le _, Nat.zero_le _⟩) hS (fun q _ h => h) (fun q h => h) (fun r128 F129 t H1 locs ht hvm hw hB hz1 hk1 hS => ?_)
        obtain ⟨hP, hK1⟩ := hB
        rw [ht] at hP
        generalize H1 = H at hP hS ⊢
        clear hz1 hk1
        obtain ⟨h130, h131, hI, hfr1⟩ := hw
        have o132 : F129 a0 = .inr (3, [.ref z95, .ref z97, .ref z99, .ref z101, .ref tt, .int z104, .ref qq, .int z107, .int z108, .int z110, .int z112, .int z113, .int z114, .int z116, .int z117]) := (hfr1 _ (by rw [ha0]; decide)).trans o127
        have hq := s_QGt hIq h106 (fun b hb9 => hfr1 b (by rcases hb9 with q | q | q <;> (rw [q]; decide))) hq
        have hfr : ∀ b, K b ∉ [4, 8, 21, 24, 43] → F129 b = F b := fun b hb9 => (hfr1 b (fun q => hb9 (s_sub (by decide) q))).trans (hfr b hb9)
        obtain ⟨h131, h133⟩ := h131
        have h133 : (r128 = 0 ∨ s_len.getD k124 0 = 0) := h133
        refine lv_if_eq (tgt := 95) hx hb dX3_readStatement_82 (by decide) (fun c134 => ?_) (fun c134 => ?_)
        · have c134 := (ax_eq (n := 0) (by decide)).mp c134
          refine lv_aload_n hx hb dX3_readStatement_95 rfl (lv_at hl 1 rfl) ?_
          have hIq := hI
          refine va_callv (va_runV (As := []) (rest := []) ⟨hx, hb, hml, hown, hts⟩ (s_X3_scan l dC dI H.size hLK D adK adV tf F129 a0 ha0 hI tt qq ⟨z95, z97, z99, z101, z104, z107, z108, z110, z112, z113, z114, z116, z117, o132, h96, h98, h100, h102, h103, ⟨by omega, by omega⟩, h106, ⟨by omega, by omega⟩, ⟨by omega, by omega⟩, ⟨by omega, by omega⟩, trivial⟩) (cwV 0 hts (ax_gV T_215 T_216 T_217 T_163 T_13) rfl rfl rfl (by decide +kernel) ⟨Nat.le_of_ble_eq_true rfl, Nat.le_of_ble_eq_true rfl⟩) ⟨fun a U g mk q => ⟨q.1, s_pc (U := U) rfl rfl q.2.1, s_pcZ (U := U) rfl rfl q.2.2⟩, s_recv hK hP (hLK _ ha0 (by decide)) (ci := 3) rfl o132, fun U hU hW => ⟨rfl, s_pw hU hW hP hK hD hN, s_pwZ hU hW hS hZ⟩⟩ rfl rfl hl.1 rfl (lv_room (Nat.le_of_ble_eq_true rfl)) dX3_readStatement_96 ⟨Nat.zero_le _, Nat.zero_le _⟩) hS (fun q _ h => h) (fun q h => h) (fun F135 t H1 locs ht hvm hw hB hz1 hk1 hS => ?_)
          obtain ⟨hP, hK1⟩ := hB
          rw [ht] at hP
          generalize H1 = H at hP hS ⊢
          clear hz1 hk1
          obtain ⟨h136, h137, hI, hfr1, h138⟩ := hw
          have hq := s_QGt hIq h106 (fun b hb9 => hfr1 b (by rcases hb9 with q | q | q <;> (rw [q]; decide))) hq
          have hfr : ∀ b, K b ∉ [4, 8, 21, 24, 43] → F135 b = F b := fun b hb9 => (hfr1 b (fun q => hb9 (s_sub (by decide) q))).trans (hfr b hb9)
          obtain ⟨z139, z141, z143, z145, z148, z151, z152, z154, z156, z157, z158, z160, z161, o163, h140, h142, h144, h146, h147, h149, h150, h153, h155, h159, h162, -⟩ := h138
          refine lv_iconst (v := 1) hx hb dX3_readStatement_99 (by decide) ?_
          refine lv_istore_n (lv' := [(3, .int 1), (2, .ref (adK k124)), (0, .ref a0)]) hx hb dX3_readStatement_100 rfl hl (by decide) rfl (fun ls hl => ?_)
          refine lv_iconst (v := 0) hx hb dX3_readStatement_101 (by decide) ?_
          refine lv_istore (lv' := [(4, .int 0), (3, .int 1), (2, .ref (adK k124)), (0, .ref a0)]) hx hb dX3_readStatement_102 hl (by decide) rfl (fun ls hl => ?_)
          refine th_loop (fun n g H locs => ∃ (G : Nat → va_E) (ls : Array Slot) (w164 : Int32) (w165 : Int32), g = F0 m 104 ls [] ∧ lv_has ls 5 [(0, .ref a0), (2, .ref (adK k124)), (3, .int w164), (4, .int w165)] ∧ s_I K cs D G ∧ va_P (dC, dI) vwCl (va_pl L G) H ∧ va_S (fun q => q ∈ L) s.heap H locs ∧ (∀ b, K b ∉ [4, 8, 21, 24, 43] → G b = F b) ∧ (0 ≤ w164.toInt ∧ w164.toInt ≤ 1) ∧ (0 ≤ w165.toInt ∧ w165.toInt ≤ 149) ∧ (w164.toInt = 0 ∨ s_QG cs G qq 0) ∧ s_rd4 K G a0 tt qq ∧ n = (150 - w165.toInt).toNat) _ ⟨F135, _, 1, 0, rfl, lv_sub hl [3, 2, 1, 0] rfl, hI, hP, hS, hfr, (by decide), (by decide), (Or.inr hq), ⟨z139, z141, z143, z145, z148, z151, z152, z154, z156, z157, z158, z160, z161, o163, h140, h142, h144, h146, h147, ⟨by omega, by omega⟩, h150, ⟨by omega, by omega⟩, ⟨by omega, by omega⟩, ⟨by omega, by omega⟩, (fun q => by first | omega | exact absurd q (by decide)), trivial⟩, rfl⟩ (fun n ih104 g H locs hq => ?_)
          obtain ⟨F9, ls, w164, w165, rfl, hl, hI, hP, hS, hfr, h166, h167, h168, h169, hn⟩ := hq
          obtain ⟨z170, z172, z174, z176, z179, z182, z183, z185, z187, z188, z189, z191, z192, o194, h171, h173, h175, h177, h178, h180, h181, h184, h186, h190, h193, -⟩ := h169
          have hn_104 := hn
          obtain ⟨n_104, hn9_104⟩ : ∃ q, q = n := ⟨_, rfl⟩
          refine th_join (fun g H locs => ∃ (G : Nat → va_E) (ls : Array Slot) (w195 : Int32), g = F0 m 144 ls [] ∧ lv_has ls 5 [(0, .ref a0), (2, .ref (adK k124)), (4, .int w195)] ∧ s_I K cs D G ∧ va_P (dC, dI) vwCl (va_pl L G) H ∧ va_S (fun q => q ∈ L) s.heap H locs ∧ (∀ b, K b ∉ [4, 8, 21, 24, 43] → G b = F b) ∧ (-1 ≤ w195.toInt ∧ w195.toInt ≤ 126) ∧ (w165.toInt ≤ w195.toInt ∧ w195.toInt < (s_len.getD k124 0 : Int)) ∧ s_QG cs G qq 0 ∧ s_rd4 K G a0 tt qq) (fun K144 => ?_) ?_
          · refine lv_iload_n hx hb dX3_readStatement_104 rfl (lv_at hl 2 rfl) ?_
            refine lv_if_eq (tgt := 161) hx hb dX3_readStatement_105 (by decide) (fun c196 => ?_) (fun c196 => ?_)
            · have c196 := (ax_eq (n := 0) (by decide)).mp c196
              refine lv_iload_n hx hb dX3_readStatement_161 rfl (lv_at hl 2 rfl) ?_
              exact W.zret (v := w164) (ty := .boolean) hx hb hr (th_nz ⟨by omega, by omega⟩) (fun t ht hW => ⟨⟨w164, F9, rfl, ⟨⟨by omega, by omega⟩, ⟨trivial, (fun q => absurd (Int32.toInt_inj.mp (c196.trans (by decide))) q)⟩, hI, hfr, ⟨z170, z172, z174, z176, z179, z182, z183, z185, z187, z188, z189, z191, z192, o194, h171, h173, h175, h177, h178, ⟨by omega, by omega⟩, h181, ⟨by omega, by omega⟩, ⟨by omega, by omega⟩, ⟨by omega, by omega⟩, (fun q => by first | omega | exact absurd q (by decide)), trivial⟩⟩, by rw [ht]; exact hP, va_K.moved hW.alike hK⟩, hS.F ht⟩) hS.2.2 dX3_readStatement_162
            · have c196 := mt (ax_eq (n := 0) (by decide)).mpr c196
              have hq := h168.resolve_left c196
              refine lv_iload hx hb dX3_readStatement_108 (lv_at hl 3 rfl) ?_
              refine lv_aload_n hx hb dX3_readStatement_110 rfl (lv_at hl 1 rfl) ?_
              have hIq := hI
              refine va_calli (va_runV (As := []) (rest := [.int w165]) ⟨hx, hb, hml, hown, hts⟩ (s_J0_length_8abf5 l dC dI H.size hLK D adK adV tf F9 k124 hk_k124 hI) (cwV 0 hts (ax_gV T_769 T_771 T_772 T_445 T_770) rfl rfl rfl (by decide +kernel) ⟨Nat.le_of_ble_eq_true rfl, Nat.le_of_ble_eq_true rfl⟩) ⟨fun a U g mk q => ⟨q.1, s_pc (U := U) rfl rfl q.2.1, s_pcZ (U := U) rfl rfl q.2.2⟩, vk_recv hZ.2.2.1 hk_k124 hS, fun U hU hW => ⟨rfl, s_pw hU hW hP hK hD hN, s_pwZ hU hW hS hZ⟩⟩ rfl rfl hl.1 rfl (lv_room (Nat.le_of_ble_eq_true rfl)) dX3_readStatement_111 ⟨Nat.zero_le _, Nat.zero_le _⟩) hS (fun q _ h => h) (fun q h => h) (fun r197 F198 t H1 locs ht hvm hw hB hz1 hk1 hS => ?_)
              obtain ⟨hP, hK1⟩ := hB
              rw [ht] at hP
              generalize H1 = H at hP hS ⊢
              clear hz1 hk1
              obtain ⟨h199, h200, hI, hfr1⟩ := hw
              have o201 : F198 a0 = .inr (3, [.ref z170, .ref z172, .ref z174, .ref z176, .ref tt, .int z179, .ref qq, .int z182, .int z183, .int z185, .int z187, .int z188, .int z189, .int z191, .int z192]) := (hfr1 _ (by rw [ha0]; decide)).trans o194
              have hq := s_QGt hIq h181 (fun b hb9 => hfr1 b (by rcases hb9 with q | q | q <;> (rw [q]; decide))) hq
              have hfr : ∀ b, K b ∉ [4, 8, 21, 24, 43] → F198 b = F b := fun b hb9 => (hfr1 b (fun q => hb9 (s_sub (by decide) q))).trans (hfr b hb9)
              obtain ⟨h200, h202⟩ := h200
              have h202 : (r197.toInt = (s_len.getD k124 0 : Int)) := h202
              refine lv_icmp_ge (tgt := 161) hx hb dX3_readStatement_114 (by decide) (fun c203 => ?_) (fun c203 => ?_)
              · have c203 := Int32.le_iff_toInt_le.mp c203
                refine lv_iload_n hx hb dX3_readStatement_161 rfl (lv_at hl 2 rfl) ?_
                exact W.zret (v := w164) (ty := .boolean) hx hb hr (th_nz ⟨by omega, by omega⟩) (fun t ht hW => ⟨⟨w164, F198, rfl, ⟨⟨by omega, by omega⟩, ⟨trivial, (fun _ => hq)⟩, hI, hfr, ⟨z170, z172, z174, z176, z179, z182, z183, z185, z187, z188, z189, z191, z192, o201, h171, h173, h175, h177, h178, ⟨by omega, by omega⟩, h181, ⟨by omega, by omega⟩, ⟨by omega, by omega⟩, ⟨by omega, by omega⟩, (fun q => by first | omega | exact absurd q (by decide)), trivial⟩⟩, by rw [ht]; exact hP, va_K.moved hW.alike hK⟩, hS.F ht⟩) hS.2.2 dX3_readStatement_162
              · have c203 := mt Int32.le_iff_toInt_le.mpr c203
                refine lv_aload_n hx hb dX3_readStatement_117 rfl (lv_at hl 1 rfl) ?_
                refine lv_iload hx hb dX3_readStatement_118 (lv_at hl 3 rfl) ?_
                have hIq := hI
                refine va_calli (va_runV (As := [.int w165]) (rest := []) ⟨hx, hb, hml, hown, hts⟩ (s_J0_charAt_5068e l dC dI H.size hLK D adK adV tf F198 k124 w165 hk_k124 hI ⟨by omega, by omega⟩) (cwV 1 hts (ax_gV T_773 T_775 T_776 T_445 T_774) rfl rfl rfl (by decide +kernel) ⟨Nat.le_of_ble_eq_true rfl, Nat.le_of_ble_eq_true rfl⟩) ⟨fun a U g mk q => ⟨q.1, s_pc (U := U) rfl rfl q.2.1, s_pcZ (U := U) rfl rfl q.2.2⟩, vk_recv hZ.2.2.1 hk_k124 hS, fun U hU hW => ⟨rfl, s_pw hU hW hP hK hD hN, s_pwZ hU hW hS hZ⟩⟩ rfl rfl hl.1 rfl (lv_room (Nat.le_of_ble_eq_true rfl)) dX3_readStatement_120 ⟨Nat.zero_le _, Nat.zero_le _⟩) hS (fun q _ h => h) (fun q h => h) (fun r204 F205 t H1 locs ht hvm hw hB hz1 hk1 hS => ?_)
                obtain ⟨hP, hK1⟩ := hB
                rw [ht] at hP
                generalize H1 = H at hP hS ⊢
                clear hz1 hk1
                obtain ⟨h206, h207, hI, hfr1⟩ := hw
                have o208 : F205 a0 = .inr (3, [.ref z170, .ref z172, .ref z174, .ref z176, .ref tt, .int z179, .ref qq, .int z182, .int z183, .int z185, .int z187, .int z188, .int z189, .int z191, .int z192]) := (hfr1 _ (by rw [ha0]; decide)).trans o201
                have hq := s_QGt hIq h181 (fun b hb9 => hfr1 b (by rcases hb9 with q | q | q <;> (rw [q]; decide))) hq
                have hfr : ∀ b, K b ∉ [4, 8, 21, 24, 43] → F205 b = F b := fun b hb9 => (hfr1 b (fun q => hb9 (s_sub (by decide) q))).trans (hfr b hb9)
                obtain ⟨h207, h209⟩ := h207
                have h209 : (r204 = (s_byt.getD k124 []).getD w165.toNatClampNeg 0) := h209
                refine lv_bipush (v := 73) hx hb dX3_readStatement_123 (by decide) ?_
                refine lv_icmp_ne (tgt := 144) hx hb dX3_readStatement_125 (by decide) (fun c210 => ?_) (fun c210 => ?_)
                · have c210 := mt (ax_eq (n := 73) (by decide)).mpr c210
                  exact K144 _ _ _ ⟨F205, _, w165, rfl, lv_sub hl [0, 1, 3] rfl, hI, hP, hS, hfr, ⟨by omega, by omega⟩, ⟨by omega, by omega⟩, hq, ⟨z170, z172, z174, z176, z179, z182, z183, z185, z187, z188, z189, z191, z192, o208, h171, h173, h175, h177, h178, ⟨by omega, by omega⟩, h181, ⟨by omega, by omega⟩, ⟨by omega, by omega⟩, ⟨by omega, by omega⟩, (fun q => by first | omega | exact absurd q (by decide)), trivial⟩⟩
                · have c210 := (ax_eq (n := 73) (by decide)).mp c210
                  refine lv_aload_n hx hb dX3_readStatement_128 rfl (lv_at hl 0 rfl) ?_
                  refine th_get (D := (dC, dI)) (ci := 3) (v := .int z182) (C := RX3) (T := TX3) (N := 15) hx hb hts inX3 hown hK hP (hLK _ ha0 (by decide)) o208 rfl 7 (by decide) (hts _ T_204) (fun _ h9 => h9) rfl dX3_readStatement_129 ?_
                  refine lv_iconst (v := 1) hx hb dX3_readStatement_132 (by decide) ?_
                  refine lv_icmp_eq (tgt := 144) hx hb dX3_readStatement_133 (by decide) (fun c211 => ?_) (fun c211 => ?_)
                  · have c211 := (ax_eq (n := 1) (by decide)).mp c211
                    exact K144 _ _ _ ⟨F205, _, w165, rfl, lv_sub hl [0, 1, 3] rfl, hI, hP, hS, hfr, ⟨by omega, by omega⟩, ⟨by omega, by omega⟩, hq, ⟨z170, z172, z174, z176, z179, z182, z183, z185, z187, z188, z189, z191, z192, o208, h171, h173, h175, h177, h178, ⟨by omega, by omega⟩, h181, ⟨by omega, by omega⟩, ⟨by omega, by omega⟩, ⟨by omega, by omega⟩, (fun q => by first | omega | exact absurd q (by decide)), trivial⟩⟩
                  · have c211 := mt (ax_eq (n := 1) (by decide)).mpr c211
                    refine lv_aload_n hx hb dX3_readStatement_136 rfl (lv_at hl 1 rfl) ?_
                    have hIq := hI
                    refine va_calli (va_runV (As := []) (rest := []) ⟨hx, hb, hml, hown, hts⟩ (s_J0_length_8abf5 l dC dI H.size hLK D adK adV tf F205 k124 hk_k124 hI) (cwV 0 hts (ax_gV T_769 T_771 T_772 T_445 T_770) rfl rfl rfl (by decide +kernel) ⟨Nat.le_of_ble_eq_true rfl, Nat.le_of_ble_eq_true rfl⟩) ⟨fun a U g mk q => ⟨q.1, s_pc (U := U) rfl rfl q.2.1, s_pcZ (U := U) rfl rfl q.2.2⟩, vk_recv hZ.2.2.1 hk_k124 hS, fun U hU hW => ⟨rfl, s_pw hU hW hP hK hD hN, s_pwZ hU hW hS hZ⟩⟩ rfl rfl hl.1 rfl (lv_room (Nat.le_of_ble_eq_true rfl)) dX3_readStatement_137 ⟨Nat.zero_le _, Nat.zero_le _⟩) hS (fun q _ h => h) (fun q h => h) (fun r212 F213 t H1 locs ht hvm hw hB hz1 hk1 hS => ?_)
                    obtain ⟨hP, hK1⟩ := hB
                    rw [ht] at hP
                    generalize H1 = H at hP hS ⊢
                    clear hz1 hk1
                    obtain ⟨h214, h215, hI, hfr1⟩ := hw
                    have o216 : F213 a0 = .inr (3, [.ref z170, .ref z172, .ref z174, .ref z176, .ref tt, .int z179, .ref qq, .int z182, .int z183, .int z185, .int z187, .int z188, .int z189, .int z191, .int z192]) := (hfr1 _ (by rw [ha0]; decide)).trans o208
                    have hq := s_QGt hIq h181 (fun b hb9 => hfr1 b (by rcases hb9 with q | q | q <;> (rw [q]; decide))) hq
                    have hfr : ∀ b, K b ∉ [4, 8, 21, 24, 43] → F213 b = F b := fun b hb9 => (hfr1 b (fun q => hb9 (s_sub (by decide) q))).trans (hfr b hb9)
                    obtain ⟨h215, h217⟩ := h215
                    have h217 : (r212.toInt = (s_len.getD k124 0 : Int)) := h217
                    refine lv_iconst (v := 1) hx hb dX3_readStatement_140 (by decide) ?_
                    refine lv_isub hx hb dX3_readStatement_141 ?_
                    refine lv_topi (fun v218 ev218 => ?_)
                    have qv218 : v218.toInt = r212.toInt - 1 := by rw [ev218]; exact th_sub rfl (by decide) ⟨by omega, by omega⟩
                    refine lv_istore (lv' := [(4, .int v218), (0, .ref a0), (2, .ref (adK k124)), (3, .int w164)]) hx hb dX3_readStatement_142 hl (by decide) rfl (fun ls hl => ?_)
                    exact K144 _ _ _ ⟨F213, _, v218, rfl, lv_sub hl [1, 2, 0] rfl, hI, hP, hS, hfr, ⟨by omega, by omega⟩, ⟨by omega, by omega⟩, hq, ⟨z170, z172, z174, z176, z179, z182, z183, z185, z187, z188, z189, z191, z192, o216, h171, h173, h175, h177, h178, ⟨by omega, by omega⟩, h181, ⟨by omega, by omega⟩, ⟨by omega, by omega⟩, ⟨by omega, by omega⟩, (fun q => by first | omega | exact absurd q (by decide)), trivial⟩⟩
          · intro g H locs hq
            obtain ⟨F9, ls, w195, rfl, hl, hI, hP, hS, hfr, h219, h220, h221, h222⟩ := hq
            obtain ⟨z223, z225, z227, z229, z232, z235, z236, z238, z240, z241, z242, z244, z245, o247, h224, h226, h228, h230, h231, h233, h234, h237, h239, h243, h246, -⟩ := h222
            have hq := h221
            refine lv_aload_n hx hb dX3_readStatement_144 rfl (lv_at hl 0 rfl) ?_
            refine lv_aload_n hx hb dX3_readStatement_145 rfl (lv_at hl 1 rfl) ?_
            refine lv_iload hx hb dX3_readStatement_146 (lv_at hl 2 rfl) ?_
            have hIq := hI
            refine va_calli (va_runV (As := [.int w195]) (rest := [.ref a0]) ⟨hx, hb, hml, hown, hts⟩ (s_J0_charAt_5068e l dC dI H.size hLK D adK adV tf F9 k124 w195 hk_k124 hI ⟨by omega, by omega⟩) (cwV 1 hts (ax_gV T_773 T_775 T_776 T_445 T_774) rfl rfl rfl (by decide +kernel) ⟨Nat.le_of_ble_eq_true rfl, Nat.le_of_ble_eq_true rfl⟩) ⟨fun a U g mk q => ⟨q.1, s_pc (U := U) rfl rfl q.2.1, s_pcZ (U := U) rfl rfl q.2.2⟩, vk_recv hZ.2.2.1 hk_k124 hS, fun U hU hW => ⟨rfl, s_pw hU hW hP hK hD hN, s_pwZ hU hW hS hZ⟩⟩ rfl rfl hl.1 rfl (lv_room (Nat.le_of_ble_eq_true rfl)) dX3_readStatement_148 ⟨Nat.zero_le _, Nat.zero_le _⟩) hS (fun q _ h => h) (fun q h => h) (fun r248 F249 t H1 locs ht hvm hw hB hz1 hk1 hS => ?_)
            obtain ⟨hP, hK1⟩ := hB
            rw [ht] at hP
            generalize H1 = H at hP hS ⊢
            clear hz1 hk1
            obtain ⟨h250, h251, hI, hfr1⟩ := hw
            have o252 : F249 a0 = .inr (3, [.ref z223, .ref z225, .ref z227, .ref z229, .ref tt, .int z232, .ref qq, .int z235, .int z236, .int z238, .int z240, .int z241, .int z242, .int z244, .int z245]) := (hfr1 _ (by rw [ha0]; decide)).trans o247
            have hq := s_QGt hIq h234 (fun b hb9 => hfr1 b (by rcases hb9 with q | q | q <;> (rw [q]; decide))) hq
            have hfr : ∀ b, K b ∉ [4, 8, 21, 24, 43] → F249 b = F b := fun b hb9 => (hfr1 b (fun q => hb9 (s_sub (by decide) q))).trans (hfr b hb9)
            obtain ⟨h251, h253⟩ := h251
            have h253 : (r248 = (s_byt.getD k124 []).getD w195.toNatClampNeg 0) := h253
            have hIq := hI
            refine va_calli (va_runV (As := [.int r248]) (rest := []) ⟨hx, hb, hml, hown, hts⟩ (s_X3_readPiece l dC dI H.size hLK D adK adV tf F249 a0 r248 ha0 hI tt qq ⟨z223, z225, z227, z229, z232, z235, z236, z238, z240, z241, z242, z244, z245, o252, h224, h226, h228, h230, h231, ⟨by omega, by omega⟩, h234, ⟨by omega, by omega⟩, ⟨by omega, by omega⟩, ⟨by omega, by omega⟩, (fun q => by first | omega | exact absurd q (by decide)), trivial⟩ (Or.inl hq) (fun q => absurd q (by rw [h253]; exact s_noG _ hk_k124 (fun h8 => by have q9 := hr_k124.2.1 h8; omega) _))) (cwV 1 hts (ax_gV T_815 T_817 T_818 T_163 T_816) rfl rfl rfl (by decide +kernel) ⟨Nat.le_of_ble_eq_true rfl, Nat.le_of_ble_eq_true rfl⟩) ⟨fun a U g mk q => ⟨q.1, s_pc (U := U) rfl rfl q.2.1, s_pcZ (U := U) rfl rfl q.2.2⟩, s_recv hK hP (hLK _ ha0 (by decide)) (ci := 3) rfl o252, fun U hU hW => ⟨rfl, s_pw hU hW hP hK hD hN, s_pwZ hU hW hS hZ⟩⟩ rfl rfl hl.1 rfl (lv_room (Nat.le_of_ble_eq_true rfl)) dX3_readStatement_151 ⟨Nat.zero_le _, Nat.zero_le _⟩) hS (fun q _ h => h) (fun q h => h) (fun r254 F255 t H1 locs ht hvm hw hB hz1 hk1 hS => ?_)
            obtain ⟨hP, hK1⟩ := hB
            rw [ht] at hP
            generalize H1 = H at hP hS ⊢
            clear hz1 hk1
            obtain ⟨h256, h257, hI, hfr1, h258⟩ := hw
            have hfr : ∀ b, K b ∉ [4, 8, 21, 24, 43] → F255 b = F b := fun b hb9 => (hfr1 b (fun q => hb9 (s_sub (by decide) q))).trans (hfr b hb9)
            obtain ⟨h257, h259⟩ := h257
            have h259 : ((¬ r254 = 0 → s_QG cs F255 qq 0) ∧ (∀ vs, F249 qq = .inr (2, vs) → ∃ vs2, F255 qq = .inr (2, vs2) ∧ vs2[3]? = vs[3]?)) := h259
            obtain ⟨z260, z262, z264, z266, z269, z272, z273, z275, z277, z278, z279, z281, z282, o284, h261, h263, h265, h267, h268, h270, h271, h274, h276, h280, h283, -⟩ := h258
            refine lv_istore_n (lv' := [(3, .int r254), (0, .ref a0), (2, .ref (adK k124)), (4, .int w195)]) hx hb dX3_readStatement_154 rfl hl (by decide) rfl (fun ls hl => ?_)
            obtain ⟨v285, ev285⟩ : ∃ y : Int32, w195 + 1 = y := ⟨_, rfl⟩
            have qv285 : v285.toInt = w195.toInt + 1 := by rw [← ev285]; exact th_add rfl (by decide) ⟨by omega, by omega⟩
            refine lv_iinc (v := v285) (lv' := [(4, .int v285), (3, .int r254), (0, .ref a0), (2, .ref (adK k124))]) hx hb dX3_readStatement_155 hl (k := 3) rfl ev285 (by decide) rfl (fun ls hl => ?_)
            refine lv_goto (tgt := 104) hx hb dX3_readStatement_158 (by decide) ?_
            exact ih104 _ _ _ _ (by omega) ⟨F255, _, r254, v285, rfl, lv_sub hl [2, 3, 1, 0] rfl, hI, hP, hS, hfr, ⟨by omega, by omega⟩, ⟨by omega, by omega⟩, ((Classical.em (r254 = 0)).elim (fun q => Or.inl (by rw [q]; decide)) (fun q => Or.inr (h259.1 q))), ⟨z260, z262, z264, z266, z269, z272, z273, z275, z277, z278, z279, z281, z282, o284, h261, h263, h265, h267, h268, ⟨by omega, by omega⟩, h271, ⟨by omega, by omega⟩, ⟨by omega, by omega⟩, ⟨by omega, by omega⟩, (fun q => by first | omega | exact absurd q (by decide)), trivial⟩, rfl⟩
        · have c134 := mt (ax_eq (n := 0) (by decide)).mpr c134
          refine lv_aload_n hx hb dX3_readStatement_85 rfl (lv_at hl 1 rfl) ?_
          refine lv_iconst (v := 1) hx hb dX3_readStatement_86 (by decide) ?_
          refine lv_aload_n hx hb dX3_readStatement_87 rfl (lv_at hl 1 rfl) ?_
          refine th_get (D := (dC, dI)) (ci := 3) (v := .int z108) (C := RX3) (T := TX3) (N := 15) hx hb hts inX3 hown hK hP (hLK _ ha0 (by decide)) o132 rfl 8 (by decide) (hts _ T_206) (fun _ h9 => h9) rfl dX3_readStatement_88 ?_
          have hIq := hI
          refine va_calli (va_runV (As := [.int 1, .int z108]) (rest := []) ⟨hx, hb, hml, hown, hts⟩ (s_X3_fail l dC dI H.size hLK D F129 a0 1 z108 ha0 hI tt qq ⟨z95, z97, z99, z101, z104, z107, z108, z110, z112, z113, z114, z116, z117, o132, h96, h98, h100, h102, h103, ⟨by omega, by omega⟩, h106, ⟨by omega, by omega⟩, ⟨by omega, by omega⟩, ⟨by omega, by omega⟩, (fun q => by first | omega | exact absurd q (by decide)), trivial⟩) (cwV 2 hts (ax_gV T_218 T_219 T_220 T_163 T_14) rfl rfl rfl (by decide +kernel) ⟨Nat.le_of_ble_eq_true rfl, Nat.le_of_ble_eq_true rfl⟩) ⟨fun a U g mk q => ⟨q.1, s_pc (U := U) rfl rfl q.2⟩, s_recv hK hP (hLK _ ha0 (by decide)) (ci := 3) rfl o132, fun U hU hW => ⟨rfl, s_pw hU hW hP hK hD hN⟩⟩ rfl rfl hl.1 rfl (lv_room (Nat.le_of_ble_eq_true rfl)) dX3_readStatement_91 ⟨Nat.zero_le _, Nat.zero_le _⟩) hS (fun q _ h => h) (fun q h => h) (fun r286 F287 t H1 locs ht hvm hw hB hz1 hk1 hS => ?_)
          obtain ⟨hP, hK1⟩ := hB
          rw [ht] at hP
          generalize H1 = H at hP hS ⊢
          clear hz1 hk1
          obtain ⟨h288, h289, hI, hfr1, h290⟩ := hw
          have hq := s_QGt hIq h106 (fun b hb9 => hfr1 b (by rcases hb9 with q | q | q <;> (rw [q]; decide))) hq
          have hfr : ∀ b, K b ∉ [4, 8, 21, 24, 43] → F287 b = F b := fun b hb9 => (hfr1 b (fun q => hb9 (s_sub (by decide) q))).trans (hfr b hb9)
          obtain ⟨h289, h291⟩ := h289
          have h291 : (∀ vs z, F287 a0 = .inr (3, vs) → vs[13]? = some (.int z) → z = 1) := h291
          obtain ⟨z292, z294, z296, z298, z301, z304, z305, z307, z309, z310, z311, z313, z314, o316, h293, h295, h297, h299, h300, h302, h303, h306, h308, h312, h315, -⟩ := h290
          exact W.zret (v := r286) (ty := .boolean) hx hb hr (th_nz ⟨by omega, by omega⟩) (fun t ht hW => ⟨⟨r286, F287, rfl, ⟨⟨by omega, by omega⟩, ⟨trivial, (fun q => absurd (th_z0 ⟨by omega, by omega⟩) q)⟩, hI, hfr, ⟨z292, z294, z296, z298, z301, z304, z305, z307, z309, z310, z311, z313, z314, o316, h293, h295, h297, h299, h300, ⟨by omega, by omega⟩, h303, ⟨by omega, by omega⟩, ⟨by omega, by omega⟩, ⟨by omega, by omega⟩, (fun q => by first | omega | exact absurd q (by decide)), trivial⟩⟩, by rw [ht]; exact hP, va_K.moved hW.alike hK⟩, hS.F ht⟩) hS.2.2 dX3_readStatement_94
      · have c121 := mt (ax_gt (n := 15) (by decide)).mpr c121
        refine lv_aload_n hx hb dX3_readStatement_61 rfl (lv_at hl 0 rfl) ?_
        have hIq := hI
        refine va_calli (va_runV (As := []) (rest := []) ⟨hx, hb, hml, hown, hts⟩ (s_X3_openLine l dC dI H.size hLK D adK adV tf F9 a0 ha0 hI tt qq ⟨z95, z97, z99, z101, z104, z107, z108, z110, z112, z113, z114, z116, z117, o119, h96, h98, h100, h102, h103, ⟨by omega, by omega⟩, h106, ⟨by omega, by omega⟩, ⟨by omega, by omega⟩, ⟨by omega, by omega⟩, (fun q => by first | omega | exact absurd q (by decide)), trivial⟩ (s_RIt hfr (by decide) hRI) hq) (cwV 0 hts (ax_gV T_804 T_806 T_807 T_163 T_805) rfl rfl rfl (by decide +kernel) ⟨Nat.le_of_ble_eq_true rfl, Nat.le_of_ble_eq_true rfl⟩) ⟨fun a U g mk q => ⟨q.1, s_pc (U := U) rfl rfl q.2.1, s_pcZ (U := U) rfl rfl q.2.2⟩, s_recv hK hP (hLK _ ha0 (by decide)) (ci := 3) rfl o119, fun U hU hW => ⟨rfl, s_pw hU hW hP hK hD hN, s_pwZ hU hW hS hZ⟩⟩ rfl rfl hl.1 rfl (lv_room (Nat.le_of_ble_eq_true rfl)) dX3_readStatement_62 ⟨Nat.zero_le _, Nat.zero_le _⟩) hS (fun q _ h => h) (fun q h => h) (fun r317 F318 t H1 locs ht hvm hw hB hz1 hk1 hS => ?_)
        obtain ⟨hP, hK1⟩ := hB
        rw [ht] at hP
        generalize H1 = H at hP hS ⊢
        clear hz1 hk1
        obtain ⟨h319, h320, hI, hfr1, h321⟩ := hw
        have hfr : ∀ b, K b ∉ [4, 8, 21, 24, 43] → F318 b = F b := fun b hb9 => (hfr1 b (fun q => hb9 (s_sub (by decide) q))).trans (hfr b hb9)
        obtain ⟨h320, h322⟩ := h320
        have h322 : (¬ r317 = 0 → s_QG cs F318 qq 1 ∧ (∀ vs z, F318 a0 = .inr (3, vs) → vs[10]? = some (.int z) → (0 ≤ z.toInt ∧ z.toInt ≤ 15 ∧ (7 ≤ z.toInt → s_QG cs F318 qq 0))) ∧ s_L1 F318 qq) := h322
        obtain ⟨z323, z325, z327, z329, z332, z335, z336, z338, z340, z341, z342, z344, z345, o347, h324, h326, h328, h330, h331, h333, h334, h337, h339, h343, h346, -⟩ := h321
        refine lv_if_ne (tgt := 70) hx hb dX3_readStatement_65 (by decide) (fun c348 => ?_) (fun c348 => ?_)
        · have c348 := mt (ax_eq (n := 0) (by decide)).mpr c348
          obtain ⟨hq, hwn9, hl1⟩ := h322 (fun q => c348 (by rw [q]; decide))
          have hwn9 := hwn9 _ _ o347 rfl
          by_cases c77 : z340.toInt < 7
          · have hq9 := hq
            refine lv_aload_n hx hb dX3_readStatement_70 rfl (lv_at hl 0 rfl) ?_
            refine th_get (D := (dC, dI)) (ci := 3) (v := .int z340) (C := RX3) (T := TX3) (N := 15) hx hb hts inX3 hown hK hP (hLK _ ha0 (by decide)) o347 rfl 10 (by decide) (hts _ T_208) (fun _ h9 => h9) rfl dX3_readStatement_71 ?_
            have hIq := hI
            refine va_callr (va_runS (As := [.int z340]) (rest := []) ⟨hx, hb, hml, hown, hts⟩ (s_X3_piecesOf l dC dI H.size hLK D adK adV tf F318 z340 hI) (cwS 1 hts (ax_gS T_808 T_810 T_163 T_809) rfl rfl rfl (by decide +kernel) ⟨Nat.le_of_ble_eq_true rfl, Nat.le_of_ble_eq_true rfl⟩) ⟨fun a U g mk q => ⟨q.1, s_pc (U := U) rfl rfl q.2.1, s_pcZ (U := U) rfl rfl q.2.2⟩, fun U hU hW => ⟨rfl, s_pw hU hW hP hK hD hN, s_pwZ hU hW hS hZ⟩⟩ rfl rfl hl.1 rfl (lv_room (Nat.le_of_ble_eq_true rfl)) dX3_readStatement_74 ⟨Nat.zero_le _, Nat.zero_le _⟩) hS (fun q _ h => h) (fun q h => h) (fun F351 r350 t H1 locs ht hvm hw hB hz1 hk1 hS => ?_)
            obtain ⟨⟨k352, hk_k352, e_k352, hr_k352⟩, hP, hK1⟩ := hB
            subst e_k352
            rw [ht] at hP
            generalize H1 = H at hP hS ⊢
            clear hz1 hk1
            obtain ⟨h353, h354, hI, hfr1⟩ := hw
            have o355 : F351 a0 = .inr (3, [.ref z323, .ref z325, .ref z327, .ref z329, .ref tt, .int z332, .ref qq, .int z335, .int z336, .int z338, .int z340, .int z341, .int z342, .int z344, .int z345]) := (hfr1 _ (by rw [ha0]; decide)).trans o347
            have hq := s_QGt hIq h334 (fun b hb9 => hfr1 b (by rcases hb9 with q | q | q <;> (rw [q]; decide))) hq
            have hl1 : s_L1 F351 qq := s_L1t hIq h334 (fun vs q => ⟨vs, (hfr1 _ (by rw [h334]; decide)).trans q, rfl⟩) hl1
            have hfr : ∀ b, K b ∉ [4, 8, 21, 24, 43] → F351 b = F b := fun b hb9 => (hfr1 b (fun q => hb9 (s_sub (by decide) q))).trans (hfr b hb9)
            refine lv_astore_n (lv' := [(2, .ref (adK k352)), (0, .ref a0)]) hx hb dX3_readStatement_77 rfl hl (by decide) rfl (fun ls hl => ?_)
            refine lv_aload_n hx hb dX3_readStatement_78 rfl (lv_at hl 0 rfl) ?_
            have hIq := hI
            refine va_calli (va_runV (As := []) (rest := []) ⟨hx, hb, hml, hown, hts⟩ (s_J0_isEmpty_aae02 l dC dI H.size hLK D adK adV tf F351 k352 hk_k352 hI) (cwV 0 hts (ax_gV T_811 T_813 T_814 T_445 T_812) rfl rfl rfl (by decide +kernel) ⟨Nat.le_of_ble_eq_true rfl, Nat.le_of_ble_eq_true rfl⟩) ⟨fun a U g mk q => ⟨q.1, s_pc (U := U) rfl rfl q.2.1, s_pcZ (U := U) rfl rfl q.2.2⟩, vk_recv hZ.2.2.1 hk_k352 hS, fun U hU hW => ⟨rfl, s_pw hU hW hP hK hD hN, s_pwZ hU hW hS hZ⟩⟩ rfl rfl hl.1 rfl (lv_room (Nat.le_of_ble_eq_true rfl)) dX3_readStatement_79 ⟨Nat.zero_le _, Nat.zero_le _⟩) hS (fun q _ h => h) (fun q h => h) (fun r356 F357 t H1 locs ht hvm hw hB hz1 hk1 hS => ?_)
            obtain ⟨hP, hK1⟩ := hB
            rw [ht] at hP
            generalize H1 = H at hP hS ⊢
            clear hz1 hk1
            obtain ⟨h358, h359, hI, hfr1⟩ := hw
            have o360 : F357 a0 = .inr (3, [.ref z323, .ref z325, .ref z327, .ref z329, .ref tt, .int z332, .ref qq, .int z335, .int z336, .int z338, .int z340, .int z341, .int z342, .int z344, .int z345]) := (hfr1 _ (by rw [ha0]; decide)).trans o355
            have hq := s_QGt hIq h334 (fun b hb9 => hfr1 b (by rcases hb9 with q | q | q <;> (rw [q]; decide))) hq
            have hl1 : s_L1 F357 qq := s_L1t hIq h334 (fun vs q => ⟨vs, (hfr1 _ (by rw [h334]; decide)).trans q, rfl⟩) hl1
            have hfr : ∀ b, K b ∉ [4, 8, 21, 24, 43] → F357 b = F b := fun b hb9 => (hfr1 b (fun q => hb9 (s_sub (by decide) q))).trans (hfr b hb9)
            obtain ⟨h359, h361⟩ := h359
            have h361 : (r356 = 0 ∨ s_len.getD k352 0 = 0) := h361
            refine lv_if_eq (tgt := 95) hx hb dX3_readStatement_82 (by decide) (fun c362 => ?_) (fun c362 => ?_)
            · have c362 := (ax_eq (n := 0) (by decide)).mp c362
              refine lv_aload_n hx hb dX3_readStatement_95 rfl (lv_at hl 1 rfl) ?_
              have hIq := hI
              refine va_callv (va_runV (As := []) (rest := []) ⟨hx, hb, hml, hown, hts⟩ (s_X3_scan l dC dI H.size hLK D adK adV tf F357 a0 ha0 hI tt qq ⟨z323, z325, z327, z329, z332, z335, z336, z338, z340, z341, z342, z344, z345, o360, h324, h326, h328, h330, h331, ⟨by omega, by omega⟩, h334, ⟨by omega, by omega⟩, ⟨by omega, by omega⟩, ⟨by omega, by omega⟩, trivial⟩) (cwV 0 hts (ax_gV T_215 T_216 T_217 T_163 T_13) rfl rfl rfl (by decide +kernel) ⟨Nat.le_of_ble_eq_true rfl, Nat.le_of_ble_eq_true rfl⟩) ⟨fun a U g mk q => ⟨q.1, s_pc (U := U) rfl rfl q.2.1, s_pcZ (U := U) rfl rfl q.2.2⟩, s_recv hK hP (hLK _ ha0 (by decide)) (ci := 3) rfl o360, fun U hU hW => ⟨rfl, s_pw hU hW hP hK hD hN, s_pwZ hU hW hS hZ⟩⟩ rfl rfl hl.1 rfl (lv_room (Nat.le_of_ble_eq_true rfl)) dX3_readStatement_96 ⟨Nat.zero_le _, Nat.zero_le _⟩) hS (fun q _ h => h) (fun q h => h) (fun F363 t H1 locs ht hvm hw hB hz1 hk1 hS => ?_)
              obtain ⟨hP, hK1⟩ := hB
              rw [ht] at hP
              generalize H1 = H at hP hS ⊢
              clear hz1 hk1
              obtain ⟨h364, h365, hI, hfr1, h366⟩ := hw
              have hq := s_QGt hIq h334 (fun b hb9 => hfr1 b (by rcases hb9 with q | q | q <;> (rw [q]; decide))) hq
              have hl1 : s_L1 F363 qq := s_L1t hIq h334 (fun vs q => ⟨vs, (hfr1 _ (by rw [h334]; decide)).trans q, rfl⟩) hl1
              have hfr : ∀ b, K b ∉ [4, 8, 21, 24, 43] → F363 b = F b := fun b hb9 => (hfr1 b (fun q => hb9 (s_sub (by decide) q))).trans (hfr b hb9)
              obtain ⟨z367, z369, z371, z373, z376, z379, z380, z382, z384, z385, z386, z388, z389, o391, h368, h370, h372, h374, h375, h377, h378, h381, h383, h387, h390, -⟩ := h366
              refine lv_iconst (v := 1) hx hb dX3_readStatement_99 (by decide) ?_
              refine lv_istore_n (lv' := [(3, .int 1), (2, .ref (adK k352)), (0, .ref a0)]) hx hb dX3_readStatement_100 rfl hl (by decide) rfl (fun ls hl => ?_)
              refine lv_iconst (v := 0) hx hb dX3_readStatement_101 (by decide) ?_
              refine lv_istore (lv' := [(4, .int 0), (3, .int 1), (2, .ref (adK k352)), (0, .ref a0)]) hx hb dX3_readStatement_102 hl (by decide) rfl (fun ls hl => ?_)
              refine th_loop (fun n g H locs => ∃ (G : Nat → va_E) (ls : Array Slot) (w392 : Int32) (w393 : Int32), g = F0 m 104 ls [] ∧ lv_has ls 5 [(0, .ref a0), (2, .ref (adK k352)), (3, .int w392), (4, .int w393)] ∧ s_I K cs D G ∧ va_P (dC, dI) vwCl (va_pl L G) H ∧ va_S (fun q => q ∈ L) s.heap H locs ∧ (∀ b, K b ∉ [4, 8, 21, 24, 43] → G b = F b) ∧ (0 ≤ w392.toInt ∧ w392.toInt ≤ 1) ∧ (0 ≤ w393.toInt ∧ w393.toInt ≤ 149) ∧ (w392.toInt = 0 ∨ (s_QG cs G qq 0 ∨ (w393.toInt = 0 ∧ s_QG cs G qq 1))) ∧ s_L1 G qq ∧ s_rd4 K G a0 tt qq ∧ n = (150 - w393.toInt).toNat) _ ⟨F363, _, 1, 0, rfl, lv_sub hl [3, 2, 1, 0] rfl, hI, hP, hS, hfr, (by decide), (by decide), (Or.inr (Or.inr ⟨by decide, hq⟩)), hl1, ⟨z367, z369, z371, z373, z376, z379, z380, z382, z384, z385, z386, z388, z389, o391, h368, h370, h372, h374, h375, ⟨by omega, by omega⟩, h378, ⟨by omega, by omega⟩, ⟨by omega, by omega⟩, ⟨by omega, by omega⟩, (fun q => by first | omega | exact absurd q (by decide)), trivial⟩, rfl⟩ (fun n ih104 g H locs hq => ?_)
              obtain ⟨F9, ls, w392, w393, rfl, hl, hI, hP, hS, hfr, h394, h395, h396, h397, h398, hn⟩ := hq
              obtain ⟨z399, z401, z403, z405, z408, z411, z412, z414, z416, z417, z418, z420, z421, o423, h400, h402, h404, h406, h407, h409, h410, h413, h415, h419, h422, -⟩ := h398
              have hl1 := h397
              have hn_104 := hn
              obtain ⟨n_104, hn9_104⟩ : ∃ q, q = n := ⟨_, rfl⟩
              refine th_join (fun g H locs => ∃ (G : Nat → va_E) (ls : Array Slot) (w424 : Int32), g = F0 m 144 ls [] ∧ lv_has ls 5 [(0, .ref a0), (2, .ref (adK k352)), (4, .int w424)] ∧ s_I K cs D G ∧ va_P (dC, dI) vwCl (va_pl L G) H ∧ va_S (fun q => q ∈ L) s.heap H locs ∧ (∀ b, K b ∉ [4, 8, 21, 24, 43] → G b = F b) ∧ (-1 ≤ w424.toInt ∧ w424.toInt ≤ 126) ∧ (w393.toInt ≤ w424.toInt ∧ w424.toInt < (s_len.getD k352 0 : Int)) ∧ (s_QG cs G qq 0 ∨ (w424.toInt = 0 ∧ s_QG cs G qq 1)) ∧ s_L1 G qq ∧ s_rd4 K G a0 tt qq) (fun K144 => ?_) ?_
              · refine lv_iload_n hx hb dX3_readStatement_104 rfl (lv_at hl 2 rfl) ?_
                refine lv_if_eq (tgt := 161) hx hb dX3_readStatement_105 (by decide) (fun c425 => ?_) (fun c425 => ?_)
                · have c425 := (ax_eq (n := 0) (by decide)).mp c425
                  refine lv_iload_n hx hb dX3_readStatement_161 rfl (lv_at hl 2 rfl) ?_
                  exact W.zret (v := w392) (ty := .boolean) hx hb hr (th_nz ⟨by omega, by omega⟩) (fun t ht hW => ⟨⟨w392, F9, rfl, ⟨⟨by omega, by omega⟩, ⟨trivial, (fun q => absurd (Int32.toInt_inj.mp (c425.trans (by decide))) q)⟩, hI, hfr, ⟨z399, z401, z403, z405, z408, z411, z412, z414, z416, z417, z418, z420, z421, o423, h400, h402, h404, h406, h407, ⟨by omega, by omega⟩, h410, ⟨by omega, by omega⟩, ⟨by omega, by omega⟩, ⟨by omega, by omega⟩, (fun q => by first | omega | exact absurd q (by decide)), trivial⟩⟩, by rw [ht]; exact hP, va_K.moved hW.alike hK⟩, hS.F ht⟩) hS.2.2 dX3_readStatement_162
                · have c425 := mt (ax_eq (n := 0) (by decide)).mpr c425
                  have hqd := h396.resolve_left c425
                  refine lv_iload hx hb dX3_readStatement_108 (lv_at hl 3 rfl) ?_
                  refine lv_aload_n hx hb dX3_readStatement_110 rfl (lv_at hl 1 rfl) ?_
                  have hIq := hI
                  refine va_calli (va_runV (As := []) (rest := [.int w393]) ⟨hx, hb, hml, hown, hts⟩ (s_J0_length_8abf5 l dC dI H.size hLK D adK adV tf F9 k352 hk_k352 hI) (cwV 0 hts (ax_gV T_769 T_771 T_772 T_445 T_770) rfl rfl rfl (by decide +kernel) ⟨Nat.le_of_ble_eq_true rfl, Nat.le_of_ble_eq_true rfl⟩) ⟨fun a U g mk q => ⟨q.1, s_pc (U := U) rfl rfl q.2.1, s_pcZ (U := U) rfl rfl q.2.2⟩, vk_recv hZ.2.2.1 hk_k352 hS, fun U hU hW => ⟨rfl, s_pw hU hW hP hK hD hN, s_pwZ hU hW hS hZ⟩⟩ rfl rfl hl.1 rfl (lv_room (Nat.le_of_ble_eq_true rfl)) dX3_readStatement_111 ⟨Nat.zero_le _, Nat.zero_le _⟩) hS (fun q _ h => h) (fun q h => h) (fun r426 F427 t H1 locs ht hvm hw hB hz1 hk1 hS => ?_)
                  obtain ⟨hP, hK1⟩ := hB
                  rw [ht] at hP
                  generalize H1 = H at hP hS ⊢
                  clear hz1 hk1
                  obtain ⟨h428, h429, hI, hfr1⟩ := hw
                  have o430 : F427 a0 = .inr (3, [.ref z399, .ref z401, .ref z403, .ref z405, .ref tt, .int z408, .ref qq, .int z411, .int z412, .int z414, .int z416, .int z417, .int z418, .int z420, .int z421]) := (hfr1 _ (by rw [ha0]; decide)).trans o423
                  have hqd := hqd.imp (s_QGt hIq h410 (fun b hb9 => hfr1 b (by rcases hb9 with q | q | q <;> (rw [q]; decide)))) (fun w => And.intro w.1 (s_QGt hIq h410 (fun b hb9 => hfr1 b (by rcases hb9 with q | q | q <;> (rw [q]; decide))) w.2))
                  have hl1 : s_L1 F427 qq := s_L1t hIq h410 (fun vs q => ⟨vs, (hfr1 _ (by rw [h410]; decide)).trans q, rfl⟩) hl1
                  have hfr : ∀ b, K b ∉ [4, 8, 21, 24, 43] → F427 b = F b := fun b hb9 => (hfr1 b (fun q => hb9 (s_sub (by decide) q))).trans (hfr b hb9)
                  obtain ⟨h429, h431⟩ := h429
                  have h431 : (r426.toInt = (s_len.getD k352 0 : Int)) := h431
                  refine lv_icmp_ge (tgt := 161) hx hb dX3_readStatement_114 (by decide) (fun c432 => ?_) (fun c432 => ?_)
                  · have c432 := Int32.le_iff_toInt_le.mp c432
                    refine lv_iload_n hx hb dX3_readStatement_161 rfl (lv_at hl 2 rfl) ?_
                    exact W.zret (v := w392) (ty := .boolean) hx hb hr (th_nz ⟨by omega, by omega⟩) (fun t ht hW => ⟨⟨w392, F427, rfl, ⟨⟨by omega, by omega⟩, ⟨trivial, (fun _ => hqd.elim id (fun w => absurd w.1 (by have q9 := s_len46 (k := k352) (by omega) (by omega); omega)))⟩, hI, hfr, ⟨z399, z401, z403, z405, z408, z411, z412, z414, z416, z417, z418, z420, z421, o430, h400, h402, h404, h406, h407, ⟨by omega, by omega⟩, h410, ⟨by omega, by omega⟩, ⟨by omega, by omega⟩, ⟨by omega, by omega⟩, (fun q => by first | omega | exact absurd q (by decide)), trivial⟩⟩, by rw [ht]; exact hP, va_K.moved hW.alike hK⟩, hS.F ht⟩) hS.2.2 dX3_readStatement_162
                  · have c432 := mt Int32.le_iff_toInt_le.mpr c432
                    refine lv_aload_n hx hb dX3_readStatement_117 rfl (lv_at hl 1 rfl) ?_
                    refine lv_iload hx hb dX3_readStatement_118 (lv_at hl 3 rfl) ?_
                    have hIq := hI
                    refine va_calli (va_runV (As := [.int w393]) (rest := []) ⟨hx, hb, hml, hown, hts⟩ (s_J0_charAt_5068e l dC dI H.size hLK D adK adV tf F427 k352 w393 hk_k352 hI ⟨by omega, by omega⟩) (cwV 1 hts (ax_gV T_773 T_775 T_776 T_445 T_774) rfl rfl rfl (by decide +kernel) ⟨Nat.le_of_ble_eq_true rfl, Nat.le_of_ble_eq_true rfl⟩) ⟨fun a U g mk q => ⟨q.1, s_pc (U := U) rfl rfl q.2.1, s_pcZ (U := U) rfl rfl q.2.2⟩, vk_recv hZ.2.2.1 hk_k352 hS, fun U hU hW => ⟨rfl, s_pw hU hW hP hK hD hN, s_pwZ hU hW hS hZ⟩⟩ rfl rfl hl.1 rfl (lv_room (Nat.le_of_ble_eq_true rfl)) dX3_readStatement_120 ⟨Nat.zero_le _, Nat.zero_le _⟩) hS (fun q _ h => h) (fun q h => h) (fun r433 F434 t H1 locs ht hvm hw hB hz1 hk1 hS => ?_)
                    obtain ⟨hP, hK1⟩ := hB
                    rw [ht] at hP
                    generalize H1 = H at hP hS ⊢
                    clear hz1 hk1
                    obtain ⟨h435, h436, hI, hfr1⟩ := hw
                    have o437 : F434 a0 = .inr (3, [.ref z399, .ref z401, .ref z403, .ref z405, .ref tt, .int z408, .ref qq, .int z411, .int z412, .int z414, .int z416, .int z417, .int z418, .int z420, .int z421]) := (hfr1 _ (by rw [ha0]; decide)).trans o430
                    have hqd := hqd.imp (s_QGt hIq h410 (fun b hb9 => hfr1 b (by rcases hb9 with q | q | q <;> (rw [q]; decide)))) (fun w => And.intro w.1 (s_QGt hIq h410 (fun b hb9 => hfr1 b (by rcases hb9 with q | q | q <;> (rw [q]; decide))) w.2))
                    have hl1 : s_L1 F434 qq := s_L1t hIq h410 (fun vs q => ⟨vs, (hfr1 _ (by rw [h410]; decide)).trans q, rfl⟩) hl1
                    have hfr : ∀ b, K b ∉ [4, 8, 21, 24, 43] → F434 b = F b := fun b hb9 => (hfr1 b (fun q => hb9 (s_sub (by decide) q))).trans (hfr b hb9)
                    obtain ⟨h436, h438⟩ := h436
                    have h438 : (r433 = (s_byt.getD k352 []).getD w393.toNatClampNeg 0) := h438
                    refine lv_bipush (v := 73) hx hb dX3_readStatement_123 (by decide) ?_
                    refine lv_icmp_ne (tgt := 144) hx hb dX3_readStatement_125 (by decide) (fun c439 => ?_) (fun c439 => ?_)
                    · have c439 := mt (ax_eq (n := 73) (by decide)).mpr c439
                      exact K144 _ _ _ ⟨F434, _, w393, rfl, lv_sub hl [0, 1, 3] rfl, hI, hP, hS, hfr, ⟨by omega, by omega⟩, ⟨by omega, by omega⟩, hqd, hl1, ⟨z399, z401, z403, z405, z408, z411, z412, z414, z416, z417, z418, z420, z421, o437, h400, h402, h404, h406, h407, ⟨by omega, by omega⟩, h410, ⟨by omega, by omega⟩, ⟨by omega, by omega⟩, ⟨by omega, by omega⟩, (fun q => by first | omega | exact absurd q (by decide)), trivial⟩⟩
                    · have c439 := (ax_eq (n := 73) (by decide)).mp c439
                      have hq6 := hqd.elim id (fun w => absurd (s_R0c (k := k352) ⟨by omega, by omega⟩ w.1 h438) (by omega))
                      have hqd : ∀ z : Int32, (s_QG cs F434 qq 0 ∨ (z.toInt = 0 ∧ s_QG cs F434 qq 1)) := fun z => Or.inl hq6
                      refine lv_aload_n hx hb dX3_readStatement_128 rfl (lv_at hl 0 rfl) ?_
                      refine th_get (D := (dC, dI)) (ci := 3) (v := .int z411) (C := RX3) (T := TX3) (N := 15) hx hb hts inX3 hown hK hP (hLK _ ha0 (by decide)) o437 rfl 7 (by decide) (hts _ T_204) (fun _ h9 => h9) rfl dX3_readStatement_129 ?_
                      refine lv_iconst (v := 1) hx hb dX3_readStatement_132 (by decide) ?_
                      refine lv_icmp_eq (tgt := 144) hx hb dX3_readStatement_133 (by decide) (fun c440 => ?_) (fun c440 => ?_)
                      · have c440 := (ax_eq (n := 1) (by decide)).mp c440
                        exact K144 _ _ _ ⟨F434, _, w393, rfl, lv_sub hl [0, 1, 3] rfl, hI, hP, hS, hfr, ⟨by omega, by omega⟩, ⟨by omega, by omega⟩, (hqd _), hl1, ⟨z399, z401, z403, z405, z408, z411, z412, z414, z416, z417, z418, z420, z421, o437, h400, h402, h404, h406, h407, ⟨by omega, by omega⟩, h410, ⟨by omega, by omega⟩, ⟨by omega, by omega⟩, ⟨by omega, by omega⟩, (fun q => by first | omega | exact absurd q (by decide)), trivial⟩⟩
                      · have c440 := mt (ax_eq (n := 1) (by decide)).mpr c440
                        refine lv_aload_n hx hb dX3_readStatement_136 rfl (lv_at hl 1 rfl) ?_
                        have hIq := hI
                        refine va_calli (va_runV (As := []) (rest := []) ⟨hx, hb, hml, hown, hts⟩ (s_J0_length_8abf5 l dC dI H.size hLK D adK adV tf F434 k352 hk_k352 hI) (cwV 0 hts (ax_gV T_769 T_771 T_772 T_445 T_770) rfl rfl rfl (by decide +kernel) ⟨Nat.le_of_ble_eq_true rfl, Nat.le_of_ble_eq_true rfl⟩) ⟨fun a U g mk q => ⟨q.1, s_pc (U := U) rfl rfl q.2.1, s_pcZ (U := U) rfl rfl q.2.2⟩, vk_recv hZ.2.2.1 hk_k352 hS, fun U hU hW => ⟨rfl, s_pw hU hW hP hK hD hN, s_pwZ hU hW hS hZ⟩⟩ rfl rfl hl.1 rfl (lv_room (Nat.le_of_ble_eq_true rfl)) dX3_readStatement_137 ⟨Nat.zero_le _, Nat.zero_le _⟩) hS (fun q _ h => h) (fun q h => h) (fun r441 F442 t H1 locs ht hvm hw hB hz1 hk1 hS => ?_)
                        obtain ⟨hP, hK1⟩ := hB
                        rw [ht] at hP
                        generalize H1 = H at hP hS ⊢
                        clear hz1 hk1
                        obtain ⟨h443, h444, hI, hfr1⟩ := hw
                        have o445 : F442 a0 = .inr (3, [.ref z399, .ref z401, .ref z403, .ref z405, .ref tt, .int z408, .ref qq, .int z411, .int z412, .int z414, .int z416, .int z417, .int z418, .int z420, .int z421]) := (hfr1 _ (by rw [ha0]; decide)).trans o437
                        have hqd := fun z => (hqd z).imp (s_QGt hIq h410 (fun b hb9 => hfr1 b (by rcases hb9 with q | q | q <;> (rw [q]; decide)))) (fun w => And.intro w.1 (s_QGt hIq h410 (fun b hb9 => hfr1 b (by rcases hb9 with q | q | q <;> (rw [q]; decide))) w.2))
                        have hl1 : s_L1 F442 qq := s_L1t hIq h410 (fun vs q => ⟨vs, (hfr1 _ (by rw [h410]; decide)).trans q, rfl⟩) hl1
                        have hfr : ∀ b, K b ∉ [4, 8, 21, 24, 43] → F442 b = F b := fun b hb9 => (hfr1 b (fun q => hb9 (s_sub (by decide) q))).trans (hfr b hb9)
                        obtain ⟨h444, h446⟩ := h444
                        have h446 : (r441.toInt = (s_len.getD k352 0 : Int)) := h446
                        refine lv_iconst (v := 1) hx hb dX3_readStatement_140 (by decide) ?_
                        refine lv_isub hx hb dX3_readStatement_141 ?_
                        refine lv_topi (fun v447 ev447 => ?_)
                        have qv447 : v447.toInt = r441.toInt - 1 := by rw [ev447]; exact th_sub rfl (by decide) ⟨by omega, by omega⟩
                        refine lv_istore (lv' := [(4, .int v447), (0, .ref a0), (2, .ref (adK k352)), (3, .int w392)]) hx hb dX3_readStatement_142 hl (by decide) rfl (fun ls hl => ?_)
                        exact K144 _ _ _ ⟨F442, _, v447, rfl, lv_sub hl [1, 2, 0] rfl, hI, hP, hS, hfr, ⟨by omega, by omega⟩, ⟨by omega, by omega⟩, (hqd _), hl1, ⟨z399, z401, z403, z405, z408, z411, z412, z414, z416, z417, z418, z420, z421, o445, h400, h402, h404, h406, h407, ⟨by omega, by omega⟩, h410, ⟨by omega, by omega⟩, ⟨by omega, by omega⟩, ⟨by omega, by omega⟩, (fun q => by first | omega | exact absurd q (by decide)), trivial⟩⟩
              · intro g H locs hq
                obtain ⟨F9, ls, w424, rfl, hl, hI, hP, hS, hfr, h448, h449, h450, h451, h452⟩ := hq
                obtain ⟨z453, z455, z457, z459, z462, z465, z466, z468, z470, z471, z472, z474, z475, o477, h454, h456, h458, h460, h461, h463, h464, h467, h469, h473, h476, -⟩ := h452
                have hqd := h450
                have hl1 := h451
                refine lv_aload_n hx hb dX3_readStatement_144 rfl (lv_at hl 0 rfl) ?_
                refine lv_aload_n hx hb dX3_readStatement_145 rfl (lv_at hl 1 rfl) ?_
                refine lv_iload hx hb dX3_readStatement_146 (lv_at hl 2 rfl) ?_
                have hIq := hI
                refine va_calli (va_runV (As := [.int w424]) (rest := [.ref a0]) ⟨hx, hb, hml, hown, hts⟩ (s_J0_charAt_5068e l dC dI H.size hLK D adK adV tf F9 k352 w424 hk_k352 hI ⟨by omega, by omega⟩) (cwV 1 hts (ax_gV T_773 T_775 T_776 T_445 T_774) rfl rfl rfl (by decide +kernel) ⟨Nat.le_of_ble_eq_true rfl, Nat.le_of_ble_eq_true rfl⟩) ⟨fun a U g mk q => ⟨q.1, s_pc (U := U) rfl rfl q.2.1, s_pcZ (U := U) rfl rfl q.2.2⟩, vk_recv hZ.2.2.1 hk_k352 hS, fun U hU hW => ⟨rfl, s_pw hU hW hP hK hD hN, s_pwZ hU hW hS hZ⟩⟩ rfl rfl hl.1 rfl (lv_room (Nat.le_of_ble_eq_true rfl)) dX3_readStatement_148 ⟨Nat.zero_le _, Nat.zero_le _⟩) hS (fun q _ h => h) (fun q h => h) (fun r478 F479 t H1 locs ht hvm hw hB hz1 hk1 hS => ?_)
                obtain ⟨hP, hK1⟩ := hB
                rw [ht] at hP
                generalize H1 = H at hP hS ⊢
                clear hz1 hk1
                obtain ⟨h480, h481, hI, hfr1⟩ := hw
                have o482 : F479 a0 = .inr (3, [.ref z453, .ref z455, .ref z457, .ref z459, .ref tt, .int z462, .ref qq, .int z465, .int z466, .int z468, .int z470, .int z471, .int z472, .int z474, .int z475]) := (hfr1 _ (by rw [ha0]; decide)).trans o477
                have hqd := hqd.imp (s_QGt hIq h464 (fun b hb9 => hfr1 b (by rcases hb9 with q | q | q <;> (rw [q]; decide)))) (fun w => And.intro w.1 (s_QGt hIq h464 (fun b hb9 => hfr1 b (by rcases hb9 with q | q | q <;> (rw [q]; decide))) w.2))
                have hl1 : s_L1 F479 qq := s_L1t hIq h464 (fun vs q => ⟨vs, (hfr1 _ (by rw [h464]; decide)).trans q, rfl⟩) hl1
                have hfr : ∀ b, K b ∉ [4, 8, 21, 24, 43] → F479 b = F b := fun b hb9 => (hfr1 b (fun q => hb9 (s_sub (by decide) q))).trans (hfr b hb9)
                obtain ⟨h481, h483⟩ := h481
                have h483 : (r478 = (s_byt.getD k352 []).getD w424.toNatClampNeg 0) := h483
                have hIq := hI
                refine va_calli (va_runV (As := [.int r478]) (rest := []) ⟨hx, hb, hml, hown, hts⟩ (s_X3_readPiece l dC dI H.size hLK D adK adV tf F479 a0 r478 ha0 hI tt qq ⟨z453, z455, z457, z459, z462, z465, z466, z468, z470, z471, z472, z474, z475, o482, h454, h456, h458, h460, h461, ⟨by omega, by omega⟩, h464, ⟨by omega, by omega⟩, ⟨by omega, by omega⟩, ⟨by omega, by omega⟩, (fun q => by first | omega | exact absurd q (by decide)), trivial⟩ (hqd.imp id (fun w => ⟨s_R0c ⟨by omega, by omega⟩ w.1 h483, w.2⟩)) (fun _ => hl1)) (cwV 1 hts (ax_gV T_815 T_817 T_818 T_163 T_816) rfl rfl rfl (by decide +kernel) ⟨Nat.le_of_ble_eq_true rfl, Nat.le_of_ble_eq_true rfl⟩) ⟨fun a U g mk q => ⟨q.1, s_pc (U := U) rfl rfl q.2.1, s_pcZ (U := U) rfl rfl q.2.2⟩, s_recv hK hP (hLK _ ha0 (by decide)) (ci := 3) rfl o482, fun U hU hW => ⟨rfl, s_pw hU hW hP hK hD hN, s_pwZ hU hW hS hZ⟩⟩ rfl rfl hl.1 rfl (lv_room (Nat.le_of_ble_eq_true rfl)) dX3_readStatement_151 ⟨Nat.zero_le _, Nat.zero_le _⟩) hS (fun q _ h => h) (fun q h => h) (fun r484 F485 t H1 locs ht hvm hw hB hz1 hk1 hS => ?_)
                obtain ⟨hP, hK1⟩ := hB
                rw [ht] at hP
                generalize H1 = H at hP hS ⊢
                clear hz1 hk1
                obtain ⟨h486, h487, hI, hfr1, h488⟩ := hw
                have hfr : ∀ b, K b ∉ [4, 8, 21, 24, 43] → F485 b = F b := fun b hb9 => (hfr1 b (fun q => hb9 (s_sub (by decide) q))).trans (hfr b hb9)
                obtain ⟨h487, h489⟩ := h487
                have h489 : ((¬ r484 = 0 → s_QG cs F485 qq 0) ∧ (∀ vs, F479 qq = .inr (2, vs) → ∃ vs2, F485 qq = .inr (2, vs2) ∧ vs2[3]? = vs[3]?)) := h489
                obtain ⟨z490, z492, z494, z496, z499, z502, z503, z505, z507, z508, z509, z511, z512, o514, h491, h493, h495, h497, h498, h500, h501, h504, h506, h510, h513, -⟩ := h488
                refine lv_istore_n (lv' := [(3, .int r484), (0, .ref a0), (2, .ref (adK k352)), (4, .int w424)]) hx hb dX3_readStatement_154 rfl hl (by decide) rfl (fun ls hl => ?_)
                obtain ⟨v515, ev515⟩ : ∃ y : Int32, w424 + 1 = y := ⟨_, rfl⟩
                have qv515 : v515.toInt = w424.toInt + 1 := by rw [← ev515]; exact th_add rfl (by decide) ⟨by omega, by omega⟩
                refine lv_iinc (v := v515) (lv' := [(4, .int v515), (3, .int r484), (0, .ref a0), (2, .ref (adK k352))]) hx hb dX3_readStatement_155 hl (k := 3) rfl ev515 (by decide) rfl (fun ls hl => ?_)
                refine lv_goto (tgt := 104) hx hb dX3_readStatement_158 (by decide) ?_
                exact ih104 _ _ _ _ (by omega) ⟨F485, _, r484, v515, rfl, lv_sub hl [2, 3, 1, 0] rfl, hI, hP, hS, hfr, ⟨by omega, by omega⟩, ⟨by omega, by omega⟩, ((Classical.em (r484 = 0)).elim (fun q => Or.inl (by rw [q]; decide)) (fun q => Or.inr (Or.inl (h489.1 q)))), (s_L1t hIq h501 h489.2 hl1), ⟨z490, z492, z494, z496, z499, z502, z503, z505, z507, z508, z509, z511, z512, o514, h491, h493, h495, h497, h498, ⟨by omega, by omega⟩, h501, ⟨by omega, by omega⟩, ⟨by omega, by omega⟩, ⟨by omega, by omega⟩, (fun q => by first | omega | exact absurd q (by decide)), trivial⟩, rfl⟩
            · have c362 := mt (ax_eq (n := 0) (by decide)).mpr c362
              refine lv_aload_n hx hb dX3_readStatement_85 rfl (lv_at hl 1 rfl) ?_
              refine lv_iconst (v := 1) hx hb dX3_readStatement_86 (by decide) ?_
              refine lv_aload_n hx hb dX3_readStatement_87 rfl (lv_at hl 1 rfl) ?_
              refine th_get (D := (dC, dI)) (ci := 3) (v := .int z336) (C := RX3) (T := TX3) (N := 15) hx hb hts inX3 hown hK hP (hLK _ ha0 (by decide)) o360 rfl 8 (by decide) (hts _ T_206) (fun _ h9 => h9) rfl dX3_readStatement_88 ?_
              have hIq := hI
              refine va_calli (va_runV (As := [.int 1, .int z336]) (rest := []) ⟨hx, hb, hml, hown, hts⟩ (s_X3_fail l dC dI H.size hLK D F357 a0 1 z336 ha0 hI tt qq ⟨z323, z325, z327, z329, z332, z335, z336, z338, z340, z341, z342, z344, z345, o360, h324, h326, h328, h330, h331, ⟨by omega, by omega⟩, h334, ⟨by omega, by omega⟩, ⟨by omega, by omega⟩, ⟨by omega, by omega⟩, (fun q => by first | omega | exact absurd q (by decide)), trivial⟩) (cwV 2 hts (ax_gV T_218 T_219 T_220 T_163 T_14) rfl rfl rfl (by decide +kernel) ⟨Nat.le_of_ble_eq_true rfl, Nat.le_of_ble_eq_true rfl⟩) ⟨fun a U g mk q => ⟨q.1, s_pc (U := U) rfl rfl q.2⟩, s_recv hK hP (hLK _ ha0 (by decide)) (ci := 3) rfl o360, fun U hU hW => ⟨rfl, s_pw hU hW hP hK hD hN⟩⟩ rfl rfl hl.1 rfl (lv_room (Nat.le_of_ble_eq_true rfl)) dX3_readStatement_91 ⟨Nat.zero_le _, Nat.zero_le _⟩) hS (fun q _ h => h) (fun q h => h) (fun r516 F517 t H1 locs ht hvm hw hB hz1 hk1 hS => ?_)
              obtain ⟨hP, hK1⟩ := hB
              rw [ht] at hP
              generalize H1 = H at hP hS ⊢
              clear hz1 hk1
              obtain ⟨h518, h519, hI, hfr1, h520⟩ := hw
              have hq := s_QGt hIq h334 (fun b hb9 => hfr1 b (by rcases hb9 with q | q | q <;> (rw [q]; decide))) hq
              have hl1 : s_L1 F517 qq := s_L1t hIq h334 (fun vs q => ⟨vs, (hfr1 _ (by rw [h334]; decide)).trans q, rfl⟩) hl1
              have hfr : ∀ b, K b ∉ [4, 8, 21, 24, 43] → F517 b = F b := fun b hb9 => (hfr1 b (fun q => hb9 (s_sub (by decide) q))).trans (hfr b hb9)
              obtain ⟨h519, h521⟩ := h519
              have h521 : (∀ vs z, F517 a0 = .inr (3, vs) → vs[13]? = some (.int z) → z = 1) := h521
              obtain ⟨z522, z524, z526, z528, z531, z534, z535, z537, z539, z540, z541, z543, z544, o546, h523, h525, h527, h529, h530, h532, h533, h536, h538, h542, h545, -⟩ := h520
              exact W.zret (v := r516) (ty := .boolean) hx hb hr (th_nz ⟨by omega, by omega⟩) (fun t ht hW => ⟨⟨r516, F517, rfl, ⟨⟨by omega, by omega⟩, ⟨trivial, (fun q => absurd (th_z0 ⟨by omega, by omega⟩) q)⟩, hI, hfr, ⟨z522, z524, z526, z528, z531, z534, z535, z537, z539, z540, z541, z543, z544, o546, h523, h525, h527, h529, h530, ⟨by omega, by omega⟩, h533, ⟨by omega, by omega⟩, ⟨by omega, by omega⟩, ⟨by omega, by omega⟩, (fun q => by first | omega | exact absurd q (by decide)), trivial⟩⟩, by rw [ht]; exact hP, va_K.moved hW.alike hK⟩, hS.F ht⟩) hS.2.2 dX3_readStatement_94
          · have hq := hwn9.2.2 (by omega)
            refine lv_aload_n hx hb dX3_readStatement_70 rfl (lv_at hl 0 rfl) ?_
            refine th_get (D := (dC, dI)) (ci := 3) (v := .int z340) (C := RX3) (T := TX3) (N := 15) hx hb hts inX3 hown hK hP (hLK _ ha0 (by decide)) o347 rfl 10 (by decide) (hts _ T_208) (fun _ h9 => h9) rfl dX3_readStatement_71 ?_
            have hIq := hI
            refine va_callr (va_runS (As := [.int z340]) (rest := []) ⟨hx, hb, hml, hown, hts⟩ (s_X3_piecesOf l dC dI H.size hLK D adK adV tf F318 z340 hI) (cwS 1 hts (ax_gS T_808 T_810 T_163 T_809) rfl rfl rfl (by decide +kernel) ⟨Nat.le_of_ble_eq_true rfl, Nat.le_of_ble_eq_true rfl⟩) ⟨fun a U g mk q => ⟨q.1, s_pc (U := U) rfl rfl q.2.1, s_pcZ (U := U) rfl rfl q.2.2⟩, fun U hU hW => ⟨rfl, s_pw hU hW hP hK hD hN, s_pwZ hU hW hS hZ⟩⟩ rfl rfl hl.1 rfl (lv_room (Nat.le_of_ble_eq_true rfl)) dX3_readStatement_74 ⟨Nat.zero_le _, Nat.zero_le _⟩) hS (fun q _ h => h) (fun q h => h) (fun F548 r547 t H1 locs ht hvm hw hB hz1 hk1 hS => ?_)
            obtain ⟨⟨k549, hk_k549, e_k549, hr_k549⟩, hP, hK1⟩ := hB
            subst e_k549
            rw [ht] at hP
            generalize H1 = H at hP hS ⊢
            clear hz1 hk1
            obtain ⟨h550, h551, hI, hfr1⟩ := hw
            have o552 : F548 a0 = .inr (3, [.ref z323, .ref z325, .ref z327, .ref z329, .ref tt, .int z332, .ref qq, .int z335, .int z336, .int z338, .int z340, .int z341, .int z342, .int z344, .int z345]) := (hfr1 _ (by rw [ha0]; decide)).trans o347
            have hq := s_QGt hIq h334 (fun b hb9 => hfr1 b (by rcases hb9 with q | q | q <;> (rw [q]; decide))) hq
            have hl1 : s_L1 F548 qq := s_L1t hIq h334 (fun vs q => ⟨vs, (hfr1 _ (by rw [h334]; decide)).trans q, rfl⟩) hl1
            have hfr : ∀ b, K b ∉ [4, 8, 21, 24, 43] → F548 b = F b := fun b hb9 => (hfr1 b (fun q => hb9 (s_sub (by decide) q))).trans (hfr b hb9)
            refine lv_astore_n (lv' := [(2, .ref (adK k549)), (0, .ref a0)]) hx hb dX3_readStatement_77 rfl hl (by decide) rfl (fun ls hl => ?_)
            refine lv_aload_n hx hb dX3_readStatement_78 rfl (lv_at hl 0 rfl) ?_
            have hIq := hI
            refine va_calli (va_runV (As := []) (rest := []) ⟨hx, hb, hml, hown, hts⟩ (s_J0_isEmpty_aae02 l dC dI H.size hLK D adK adV tf F548 k549 hk_k549 hI) (cwV 0 hts (ax_gV T_811 T_813 T_814 T_445 T_812) rfl rfl rfl (by decide +kernel) ⟨Nat.le_of_ble_eq_true rfl, Nat.le_of_ble_eq_true rfl⟩) ⟨fun a U g mk q => ⟨q.1, s_pc (U := U) rfl rfl q.2.1, s_pcZ (U := U) rfl rfl q.2.2⟩, vk_recv hZ.2.2.1 hk_k549 hS, fun U hU hW => ⟨rfl, s_pw hU hW hP hK hD hN, s_pwZ hU hW hS hZ⟩⟩ rfl rfl hl.1 rfl (lv_room (Nat.le_of_ble_eq_true rfl)) dX3_readStatement_79 ⟨Nat.zero_le _, Nat.zero_le _⟩) hS (fun q _ h => h) (fun q h => h) (fun r553 F554 t H1 locs ht hvm hw hB hz1 hk1 hS => ?_)
            obtain ⟨hP, hK1⟩ := hB
            rw [ht] at hP
            generalize H1 = H at hP hS ⊢
            clear hz1 hk1
            obtain ⟨h555, h556, hI, hfr1⟩ := hw
            have o557 : F554 a0 = .inr (3, [.ref z323, .ref z325, .ref z327, .ref z329, .ref tt, .int z332, .ref qq, .int z335, .int z336, .int z338, .int z340, .int z341, .int z342, .int z344, .int z345]) := (hfr1 _ (by rw [ha0]; decide)).trans o552
            have hq := s_QGt hIq h334 (fun b hb9 => hfr1 b (by rcases hb9 with q | q | q <;> (rw [q]; decide))) hq
            have hl1 : s_L1 F554 qq := s_L1t hIq h334 (fun vs q => ⟨vs, (hfr1 _ (by rw [h334]; decide)).trans q, rfl⟩) hl1
            have hfr : ∀ b, K b ∉ [4, 8, 21, 24, 43] → F554 b = F b := fun b hb9 => (hfr1 b (fun q => hb9 (s_sub (by decide) q))).trans (hfr b hb9)
            obtain ⟨h556, h558⟩ := h556
            have h558 : (r553 = 0 ∨ s_len.getD k549 0 = 0) := h558
            refine lv_if_eq (tgt := 95) hx hb dX3_readStatement_82 (by decide) (fun c559 => ?_) (fun c559 => ?_)
            · have c559 := (ax_eq (n := 0) (by decide)).mp c559
              refine lv_aload_n hx hb dX3_readStatement_95 rfl (lv_at hl 1 rfl) ?_
              have hIq := hI
              refine va_callv (va_runV (As := []) (rest := []) ⟨hx, hb, hml, hown, hts⟩ (s_X3_scan l dC dI H.size hLK D adK adV tf F554 a0 ha0 hI tt qq ⟨z323, z325, z327, z329, z332, z335, z336, z338, z340, z341, z342, z344, z345, o557, h324, h326, h328, h330, h331, ⟨by omega, by omega⟩, h334, ⟨by omega, by omega⟩, ⟨by omega, by omega⟩, ⟨by omega, by omega⟩, trivial⟩) (cwV 0 hts (ax_gV T_215 T_216 T_217 T_163 T_13) rfl rfl rfl (by decide +kernel) ⟨Nat.le_of_ble_eq_true rfl, Nat.le_of_ble_eq_true rfl⟩) ⟨fun a U g mk q => ⟨q.1, s_pc (U := U) rfl rfl q.2.1, s_pcZ (U := U) rfl rfl q.2.2⟩, s_recv hK hP (hLK _ ha0 (by decide)) (ci := 3) rfl o557, fun U hU hW => ⟨rfl, s_pw hU hW hP hK hD hN, s_pwZ hU hW hS hZ⟩⟩ rfl rfl hl.1 rfl (lv_room (Nat.le_of_ble_eq_true rfl)) dX3_readStatement_96 ⟨Nat.zero_le _, Nat.zero_le _⟩) hS (fun q _ h => h) (fun q h => h) (fun F560 t H1 locs ht hvm hw hB hz1 hk1 hS => ?_)
              obtain ⟨hP, hK1⟩ := hB
              rw [ht] at hP
              generalize H1 = H at hP hS ⊢
              clear hz1 hk1
              obtain ⟨h561, h562, hI, hfr1, h563⟩ := hw
              have hq := s_QGt hIq h334 (fun b hb9 => hfr1 b (by rcases hb9 with q | q | q <;> (rw [q]; decide))) hq
              have hl1 : s_L1 F560 qq := s_L1t hIq h334 (fun vs q => ⟨vs, (hfr1 _ (by rw [h334]; decide)).trans q, rfl⟩) hl1
              have hfr : ∀ b, K b ∉ [4, 8, 21, 24, 43] → F560 b = F b := fun b hb9 => (hfr1 b (fun q => hb9 (s_sub (by decide) q))).trans (hfr b hb9)
              obtain ⟨z564, z566, z568, z570, z573, z576, z577, z579, z581, z582, z583, z585, z586, o588, h565, h567, h569, h571, h572, h574, h575, h578, h580, h584, h587, -⟩ := h563
              refine lv_iconst (v := 1) hx hb dX3_readStatement_99 (by decide) ?_
              refine lv_istore_n (lv' := [(3, .int 1), (2, .ref (adK k549)), (0, .ref a0)]) hx hb dX3_readStatement_100 rfl hl (by decide) rfl (fun ls hl => ?_)
              refine lv_iconst (v := 0) hx hb dX3_readStatement_101 (by decide) ?_
              refine lv_istore (lv' := [(4, .int 0), (3, .int 1), (2, .ref (adK k549)), (0, .ref a0)]) hx hb dX3_readStatement_102 hl (by decide) rfl (fun ls hl => ?_)
              refine th_loop (fun n g H locs => ∃ (G : Nat → va_E) (ls : Array Slot) (w589 : Int32) (w590 : Int32), g = F0 m 104 ls [] ∧ lv_has ls 5 [(0, .ref a0), (2, .ref (adK k549)), (3, .int w589), (4, .int w590)] ∧ s_I K cs D G ∧ va_P (dC, dI) vwCl (va_pl L G) H ∧ va_S (fun q => q ∈ L) s.heap H locs ∧ (∀ b, K b ∉ [4, 8, 21, 24, 43] → G b = F b) ∧ (0 ≤ w589.toInt ∧ w589.toInt ≤ 1) ∧ (0 ≤ w590.toInt ∧ w590.toInt ≤ 149) ∧ (w589.toInt = 0 ∨ s_QG cs G qq 0) ∧ s_L1 G qq ∧ s_rd4 K G a0 tt qq ∧ n = (150 - w590.toInt).toNat) _ ⟨F560, _, 1, 0, rfl, lv_sub hl [3, 2, 1, 0] rfl, hI, hP, hS, hfr, (by decide), (by decide), (Or.inr hq), hl1, ⟨z564, z566, z568, z570, z573, z576, z577, z579, z581, z582, z583, z585, z586, o588, h565, h567, h569, h571, h572, ⟨by omega, by omega⟩, h575, ⟨by omega, by omega⟩, ⟨by omega, by omega⟩, ⟨by omega, by omega⟩, (fun q => by first | omega | exact absurd q (by decide)), trivial⟩, rfl⟩ (fun n ih104 g H locs hq => ?_)
              obtain ⟨F9, ls, w589, w590, rfl, hl, hI, hP, hS, hfr, h591, h592, h593, h594, h595, hn⟩ := hq
              obtain ⟨z596, z598, z600, z602, z605, z608, z609, z611, z613, z614, z615, z617, z618, o620, h597, h599, h601, h603, h604, h606, h607, h610, h612, h616, h619, -⟩ := h595
              have hl1 := h594
              have hn_104 := hn
              obtain ⟨n_104, hn9_104⟩ : ∃ q, q = n := ⟨_, rfl⟩
              refine th_join (fun g H locs => ∃ (G : Nat → va_E) (ls : Array Slot) (w621 : Int32), g = F0 m 144 ls [] ∧ lv_has ls 5 [(0, .ref a0), (2, .ref (adK k549)), (4, .int w621)] ∧ s_I K cs D G ∧ va_P (dC, dI) vwCl (va_pl L G) H ∧ va_S (fun q => q ∈ L) s.heap H locs ∧ (∀ b, K b ∉ [4, 8, 21, 24, 43] → G b = F b) ∧ (-1 ≤ w621.toInt ∧ w621.toInt ≤ 126) ∧ (w590.toInt ≤ w621.toInt ∧ w621.toInt < (s_len.getD k549 0 : Int)) ∧ s_QG cs G qq 0 ∧ s_L1 G qq ∧ s_rd4 K G a0 tt qq) (fun K144 => ?_) ?_
              · refine lv_iload_n hx hb dX3_readStatement_104 rfl (lv_at hl 2 rfl) ?_
                refine lv_if_eq (tgt := 161) hx hb dX3_readStatement_105 (by decide) (fun c622 => ?_) (fun c622 => ?_)
                · have c622 := (ax_eq (n := 0) (by decide)).mp c622
                  refine lv_iload_n hx hb dX3_readStatement_161 rfl (lv_at hl 2 rfl) ?_
                  exact W.zret (v := w589) (ty := .boolean) hx hb hr (th_nz ⟨by omega, by omega⟩) (fun t ht hW => ⟨⟨w589, F9, rfl, ⟨⟨by omega, by omega⟩, ⟨trivial, (fun q => absurd (Int32.toInt_inj.mp (c622.trans (by decide))) q)⟩, hI, hfr, ⟨z596, z598, z600, z602, z605, z608, z609, z611, z613, z614, z615, z617, z618, o620, h597, h599, h601, h603, h604, ⟨by omega, by omega⟩, h607, ⟨by omega, by omega⟩, ⟨by omega, by omega⟩, ⟨by omega, by omega⟩, (fun q => by first | omega | exact absurd q (by decide)), trivial⟩⟩, by rw [ht]; exact hP, va_K.moved hW.alike hK⟩, hS.F ht⟩) hS.2.2 dX3_readStatement_162
                · have c622 := mt (ax_eq (n := 0) (by decide)).mpr c622
                  have hq := h593.resolve_left c622
                  refine lv_iload hx hb dX3_readStatement_108 (lv_at hl 3 rfl) ?_
                  refine lv_aload_n hx hb dX3_readStatement_110 rfl (lv_at hl 1 rfl) ?_
                  have hIq := hI
                  refine va_calli (va_runV (As := []) (rest := [.int w590]) ⟨hx, hb, hml, hown, hts⟩ (s_J0_length_8abf5 l dC dI H.size hLK D adK adV tf F9 k549 hk_k549 hI) (cwV 0 hts (ax_gV T_769 T_771 T_772 T_445 T_770) rfl rfl rfl (by decide +kernel) ⟨Nat.le_of_ble_eq_true rfl, Nat.le_of_ble_eq_true rfl⟩) ⟨fun a U g mk q => ⟨q.1, s_pc (U := U) rfl rfl q.2.1, s_pcZ (U := U) rfl rfl q.2.2⟩, vk_recv hZ.2.2.1 hk_k549 hS, fun U hU hW => ⟨rfl, s_pw hU hW hP hK hD hN, s_pwZ hU hW hS hZ⟩⟩ rfl rfl hl.1 rfl (lv_room (Nat.le_of_ble_eq_true rfl)) dX3_readStatement_111 ⟨Nat.zero_le _, Nat.zero_le _⟩) hS (fun q _ h => h) (fun q h => h) (fun r623 F624 t H1 locs ht hvm hw hB hz1 hk1 hS => ?_)
                  obtain ⟨hP, hK1⟩ := hB
                  rw [ht] at hP
                  generalize H1 = H at hP hS ⊢
                  clear hz1 hk1
                  obtain ⟨h625, h626, hI, hfr1⟩ := hw
                  have o627 : F624 a0 = .inr (3, [.ref z596, .ref z598, .ref z600, .ref z602, .ref tt, .int z605, .ref qq, .int z608, .int z609, .int z611, .int z613, .int z614, .int z615, .int z617, .int z618]) := (hfr1 _ (by rw [ha0]; decide)).trans o620
                  have hq := s_QGt hIq h607 (fun b hb9 => hfr1 b (by rcases hb9 with q | q | q <;> (rw [q]; decide))) hq
                  have hl1 : s_L1 F624 qq := s_L1t hIq h607 (fun vs q => ⟨vs, (hfr1 _ (by rw [h607]; decide)).trans q, rfl⟩) hl1
                  have hfr : ∀ b, K b ∉ [4, 8, 21, 24, 43] → F624 b = F b := fun b hb9 => (hfr1 b (fun q => hb9 (s_sub (by decide) q))).trans (hfr b hb9)
                  obtain ⟨h626, h628⟩ := h626
                  have h628 : (r623.toInt = (s_len.getD k549 0 : Int)) := h628
                  refine lv_icmp_ge (tgt := 161) hx hb dX3_readStatement_114 (by decide) (fun c629 => ?_) (fun c629 => ?_)
                  · have c629 := Int32.le_iff_toInt_le.mp c629
                    refine lv_iload_n hx hb dX3_readStatement_161 rfl (lv_at hl 2 rfl) ?_
                    exact W.zret (v := w589) (ty := .boolean) hx hb hr (th_nz ⟨by omega, by omega⟩) (fun t ht hW => ⟨⟨w589, F624, rfl, ⟨⟨by omega, by omega⟩, ⟨trivial, (fun _ => hq)⟩, hI, hfr, ⟨z596, z598, z600, z602, z605, z608, z609, z611, z613, z614, z615, z617, z618, o627, h597, h599, h601, h603, h604, ⟨by omega, by omega⟩, h607, ⟨by omega, by omega⟩, ⟨by omega, by omega⟩, ⟨by omega, by omega⟩, (fun q => by first | omega | exact absurd q (by decide)), trivial⟩⟩, by rw [ht]; exact hP, va_K.moved hW.alike hK⟩, hS.F ht⟩) hS.2.2 dX3_readStatement_162
                  · have c629 := mt Int32.le_iff_toInt_le.mpr c629
                    refine lv_aload_n hx hb dX3_readStatement_117 rfl (lv_at hl 1 rfl) ?_
                    refine lv_iload hx hb dX3_readStatement_118 (lv_at hl 3 rfl) ?_
                    have hIq := hI
                    refine va_calli (va_runV (As := [.int w590]) (rest := []) ⟨hx, hb, hml, hown, hts⟩ (s_J0_charAt_5068e l dC dI H.size hLK D adK adV tf F624 k549 w590 hk_k549 hI ⟨by omega, by omega⟩) (cwV 1 hts (ax_gV T_773 T_775 T_776 T_445 T_774) rfl rfl rfl (by decide +kernel) ⟨Nat.le_of_ble_eq_true rfl, Nat.le_of_ble_eq_true rfl⟩) ⟨fun a U g mk q => ⟨q.1, s_pc (U := U) rfl rfl q.2.1, s_pcZ (U := U) rfl rfl q.2.2⟩, vk_recv hZ.2.2.1 hk_k549 hS, fun U hU hW => ⟨rfl, s_pw hU hW hP hK hD hN, s_pwZ hU hW hS hZ⟩⟩ rfl rfl hl.1 rfl (lv_room (Nat.le_of_ble_eq_true rfl)) dX3_readStatement_120 ⟨Nat.zero_le _, Nat.zero_le _⟩) hS (fun q _ h => h) (fun q h => h) (fun r630 F631 t H1 locs ht hvm hw hB hz1 hk1 hS => ?_)
                    obtain ⟨hP, hK1⟩ := hB
                    rw [ht] at hP
                    generalize H1 = H at hP hS ⊢
                    clear hz1 hk1
                    obtain ⟨h632, h633, hI, hfr1⟩ := hw
                    have o634 : F631 a0 = .inr (3, [.ref z596, .ref z598, .ref z600, .ref z602, .ref tt, .int z605, .ref qq, .int z608, .int z609, .int z611, .int z613, .int z614, .int z615, .int z617, .int z618]) := (hfr1 _ (by rw [ha0]; decide)).trans o627
                    have hq := s_QGt hIq h607 (fun b hb9 => hfr1 b (by rcases hb9 with q | q | q <;> (rw [q]; decide))) hq
                    have hl1 : s_L1 F631 qq := s_L1t hIq h607 (fun vs q => ⟨vs, (hfr1 _ (by rw [h607]; decide)).trans q, rfl⟩) hl1
                    have hfr : ∀ b, K b ∉ [4, 8, 21, 24, 43] → F631 b = F b := fun b hb9 => (hfr1 b (fun q => hb9 (s_sub (by decide) q))).trans (hfr b hb9)
                    obtain ⟨h633, h635⟩ := h633
                    have h635 : (r630 = (s_byt.getD k549 []).getD w590.toNatClampNeg 0) := h635
                    refine lv_bipush (v := 73) hx hb dX3_readStatement_123 (by decide) ?_
                    refine lv_icmp_ne (tgt := 144) hx hb dX3_readStatement_125 (by decide) (fun c636 => ?_) (fun c636 => ?_)
                    · have c636 := mt (ax_eq (n := 73) (by decide)).mpr c636
                      exact K144 _ _ _ ⟨F631, _, w590, rfl, lv_sub hl [0, 1, 3] rfl, hI, hP, hS, hfr, ⟨by omega, by omega⟩, ⟨by omega, by omega⟩, hq, hl1, ⟨z596, z598, z600, z602, z605, z608, z609, z611, z613, z614, z615, z617, z618, o634, h597, h599, h601, h603, h604, ⟨by omega, by omega⟩, h607, ⟨by omega, by omega⟩, ⟨by omega, by omega⟩, ⟨by omega, by omega⟩, (fun q => by first | omega | exact absurd q (by decide)), trivial⟩⟩
                    · have c636 := (ax_eq (n := 73) (by decide)).mp c636
                      refine lv_aload_n hx hb dX3_readStatement_128 rfl (lv_at hl 0 rfl) ?_
                      refine th_get (D := (dC, dI)) (ci := 3) (v := .int z608) (C := RX3) (T := TX3) (N := 15) hx hb hts inX3 hown hK hP (hLK _ ha0 (by decide)) o634 rfl 7 (by decide) (hts _ T_204) (fun _ h9 => h9) rfl dX3_readStatement_129 ?_
                      refine lv_iconst (v := 1) hx hb dX3_readStatement_132 (by decide) ?_
                      refine lv_icmp_eq (tgt := 144) hx hb dX3_readStatement_133 (by decide) (fun c637 => ?_) (fun c637 => ?_)
                      · have c637 := (ax_eq (n := 1) (by decide)).mp c637
                        exact K144 _ _ _ ⟨F631, _, w590, rfl, lv_sub hl [0, 1, 3] rfl, hI, hP, hS, hfr, ⟨by omega, by omega⟩, ⟨by omega, by omega⟩, hq, hl1, ⟨z596, z598, z600, z602, z605, z608, z609, z611, z613, z614, z615, z617, z618, o634, h597, h599, h601, h603, h604, ⟨by omega, by omega⟩, h607, ⟨by omega, by omega⟩, ⟨by omega, by omega⟩, ⟨by omega, by omega⟩, (fun q => by first | omega | exact absurd q (by decide)), trivial⟩⟩
                      · have c637 := mt (ax_eq (n := 1) (by decide)).mpr c637
                        refine lv_aload_n hx hb dX3_readStatement_136 rfl (lv_at hl 1 rfl) ?_
                        have hIq := hI
                        refine va_calli (va_runV (As := []) (rest := []) ⟨hx, hb, hml, hown, hts⟩ (s_J0_length_8abf5 l dC dI H.size hLK D adK adV tf F631 k549 hk_k549 hI) (cwV 0 hts (ax_gV T_769 T_771 T_772 T_445 T_770) rfl rfl rfl (by decide +kernel) ⟨Nat.le_of_ble_eq_true rfl, Nat.le_of_ble_eq_true rfl⟩) ⟨fun a U g mk q => ⟨q.1, s_pc (U := U) rfl rfl q.2.1, s_pcZ (U := U) rfl rfl q.2.2⟩, vk_recv hZ.2.2.1 hk_k549 hS, fun U hU hW => ⟨rfl, s_pw hU hW hP hK hD hN, s_pwZ hU hW hS hZ⟩⟩ rfl rfl hl.1 rfl (lv_room (Nat.le_of_ble_eq_true rfl)) dX3_readStatement_137 ⟨Nat.zero_le _, Nat.zero_le _⟩) hS (fun q _ h => h) (fun q h => h) (fun r638 F639 t H1 locs ht hvm hw hB hz1 hk1 hS => ?_)
                        obtain ⟨hP, hK1⟩ := hB
                        rw [ht] at hP
                        generalize H1 = H at hP hS ⊢
                        clear hz1 hk1
                        obtain ⟨h640, h641, hI, hfr1⟩ := hw
                        have o642 : F639 a0 = .inr (3, [.ref z596, .ref z598, .ref z600, .ref z602, .ref tt, .int z605, .ref qq, .int z608, .int z609, .int z611, .int z613, .int z614, .int z615, .int z617, .int z618]) := (hfr1 _ (by rw [ha0]; decide)).trans o634
                        have hq := s_QGt hIq h607 (fun b hb9 => hfr1 b (by rcases hb9 with q | q | q <;> (rw [q]; decide))) hq
                        have hl1 : s_L1 F639 qq := s_L1t hIq h607 (fun vs q => ⟨vs, (hfr1 _ (by rw [h607]; decide)).trans q, rfl⟩) hl1
                        have hfr : ∀ b, K b ∉ [4, 8, 21, 24, 43] → F639 b = F b := fun b hb9 => (hfr1 b (fun q => hb9 (s_sub (by decide) q))).trans (hfr b hb9)
                        obtain ⟨h641, h643⟩ := h641
                        have h643 : (r638.toInt = (s_len.getD k549 0 : Int)) := h643
                        refine lv_iconst (v := 1) hx hb dX3_readStatement_140 (by decide) ?_
                        refine lv_isub hx hb dX3_readStatement_141 ?_
                        refine lv_topi (fun v644 ev644 => ?_)
                        have qv644 : v644.toInt = r638.toInt - 1 := by rw [ev644]; exact th_sub rfl (by decide) ⟨by omega, by omega⟩
                        refine lv_istore (lv' := [(4, .int v644), (0, .ref a0), (2, .ref (adK k549)), (3, .int w589)]) hx hb dX3_readStatement_142 hl (by decide) rfl (fun ls hl => ?_)
                        exact K144 _ _ _ ⟨F639, _, v644, rfl, lv_sub hl [1, 2, 0] rfl, hI, hP, hS, hfr, ⟨by omega, by omega⟩, ⟨by omega, by omega⟩, hq, hl1, ⟨z596, z598, z600, z602, z605, z608, z609, z611, z613, z614, z615, z617, z618, o642, h597, h599, h601, h603, h604, ⟨by omega, by omega⟩, h607, ⟨by omega, by omega⟩, ⟨by omega, by omega⟩, ⟨by omega, by omega⟩, (fun q => by first | omega | exact absurd q (by decide)), trivial⟩⟩
              · intro g H locs hq
                obtain ⟨F9, ls, w621, rfl, hl, hI, hP, hS, hfr, h645, h646, h647, h648, h649⟩ := hq
                obtain ⟨z650, z652, z654, z656, z659, z662, z663, z665, z667, z668, z669, z671, z672, o674, h651, h653, h655, h657, h658, h660, h661, h664, h666, h670, h673, -⟩ := h649
                have hq := h647
                have hl1 := h648
                refine lv_aload_n hx hb dX3_readStatement_144 rfl (lv_at hl 0 rfl) ?_
                refine lv_aload_n hx hb dX3_readStatement_145 rfl (lv_at hl 1 rfl) ?_
                refine lv_iload hx hb dX3_readStatement_146 (lv_at hl 2 rfl) ?_
                have hIq := hI
                refine va_calli (va_runV (As := [.int w621]) (rest := [.ref a0]) ⟨hx, hb, hml, hown, hts⟩ (s_J0_charAt_5068e l dC dI H.size hLK D adK adV tf F9 k549 w621 hk_k549 hI ⟨by omega, by omega⟩) (cwV 1 hts (ax_gV T_773 T_775 T_776 T_445 T_774) rfl rfl rfl (by decide +kernel) ⟨Nat.le_of_ble_eq_true rfl, Nat.le_of_ble_eq_true rfl⟩) ⟨fun a U g mk q => ⟨q.1, s_pc (U := U) rfl rfl q.2.1, s_pcZ (U := U) rfl rfl q.2.2⟩, vk_recv hZ.2.2.1 hk_k549 hS, fun U hU hW => ⟨rfl, s_pw hU hW hP hK hD hN, s_pwZ hU hW hS hZ⟩⟩ rfl rfl hl.1 rfl (lv_room (Nat.le_of_ble_eq_true rfl)) dX3_readStatement_148 ⟨Nat.zero_le _, Nat.zero_le _⟩) hS (fun q _ h => h) (fun q h => h) (fun r675 F676 t H1 locs ht hvm hw hB hz1 hk1 hS => ?_)
                obtain ⟨hP, hK1⟩ := hB
                rw [ht] at hP
                generalize H1 = H at hP hS ⊢
                clear hz1 hk1
                obtain ⟨h677, h678, hI, hfr1⟩ := hw
                have o679 : F676 a0 = .inr (3, [.ref z650, .ref z652, .ref z654, .ref z656, .ref tt, .int z659, .ref qq, .int z662, .int z663, .int z665, .int z667, .int z668, .int z669, .int z671, .int z672]) := (hfr1 _ (by rw [ha0]; decide)).trans o674
                have hq := s_QGt hIq h661 (fun b hb9 => hfr1 b (by rcases hb9 with q | q | q <;> (rw [q]; decide))) hq
                have hl1 : s_L1 F676 qq := s_L1t hIq h661 (fun vs q => ⟨vs, (hfr1 _ (by rw [h661]; decide)).trans q, rfl⟩) hl1
                have hfr : ∀ b, K b ∉ [4, 8, 21, 24, 43] → F676 b = F b := fun b hb9 => (hfr1 b (fun q => hb9 (s_sub (by decide) q))).trans (hfr b hb9)
                obtain ⟨h678, h680⟩ := h678
                have h680 : (r675 = (s_byt.getD k549 []).getD w621.toNatClampNeg 0) := h680
                have hIq := hI
                refine va_calli (va_runV (As := [.int r675]) (rest := []) ⟨hx, hb, hml, hown, hts⟩ (s_X3_readPiece l dC dI H.size hLK D adK adV tf F676 a0 r675 ha0 hI tt qq ⟨z650, z652, z654, z656, z659, z662, z663, z665, z667, z668, z669, z671, z672, o679, h651, h653, h655, h657, h658, ⟨by omega, by omega⟩, h661, ⟨by omega, by omega⟩, ⟨by omega, by omega⟩, ⟨by omega, by omega⟩, (fun q => by first | omega | exact absurd q (by decide)), trivial⟩ (Or.inl hq) (fun _ => hl1)) (cwV 1 hts (ax_gV T_815 T_817 T_818 T_163 T_816) rfl rfl rfl (by decide +kernel) ⟨Nat.le_of_ble_eq_true rfl, Nat.le_of_ble_eq_true rfl⟩) ⟨fun a U g mk q => ⟨q.1, s_pc (U := U) rfl rfl q.2.1, s_pcZ (U := U) rfl rfl q.2.2⟩, s_recv hK hP (hLK _ ha0 (by decide)) (ci := 3) rfl o679, fun U hU hW => ⟨rfl, s_pw hU hW hP hK hD hN, s_pwZ hU hW hS hZ⟩⟩ rfl rfl hl.1 rfl (lv_room (Nat.le_of_ble_eq_true rfl)) dX3_readStatement_151 ⟨Nat.zero_le _, Nat.zero_le _⟩) hS (fun q _ h => h) (fun q h => h) (fun r681 F682 t H1 locs ht hvm hw hB hz1 hk1 hS => ?_)
                obtain ⟨hP, hK1⟩ := hB
                rw [ht] at hP
                generalize H1 = H at hP hS ⊢
                clear hz1 hk1
                obtain ⟨h683, h684, hI, hfr1, h685⟩ := hw
                have hfr : ∀ b, K b ∉ [4, 8, 21, 24, 43] → F682 b = F b := fun b hb9 => (hfr1 b (fun q => hb9 (s_sub (by decide) q))).trans (hfr b hb9)
                obtain ⟨h684, h686⟩ := h684
                have h686 : ((¬ r681 = 0 → s_QG cs F682 qq 0) ∧ (∀ vs, F676 qq = .inr (2, vs) → ∃ vs2, F682 qq = .inr (2, vs2) ∧ vs2[3]? = vs[3]?)) := h686
                obtain ⟨z687, z689, z691, z693, z696, z699, z700, z702, z704, z705, z706, z708, z709, o711, h688, h690, h692, h694, h695, h697, h698, h701, h703, h707, h710, -⟩ := h685
                refine lv_istore_n (lv' := [(3, .int r681), (0, .ref a0), (2, .ref (adK k549)), (4, .int w621)]) hx hb dX3_readStatement_154 rfl hl (by decide) rfl (fun ls hl => ?_)
                obtain ⟨v712, ev712⟩ : ∃ y : Int32, w621 + 1 = y := ⟨_, rfl⟩
                have qv712 : v712.toInt = w621.toInt + 1 := by rw [← ev712]; exact th_add rfl (by decide) ⟨by omega, by omega⟩
                refine lv_iinc (v := v712) (lv' := [(4, .int v712), (3, .int r681), (0, .ref a0), (2, .ref (adK k549))]) hx hb dX3_readStatement_155 hl (k := 3) rfl ev712 (by decide) rfl (fun ls hl => ?_)
                refine lv_goto (tgt := 104) hx hb dX3_readStatement_158 (by decide) ?_
                exact ih104 _ _ _ _ (by omega) ⟨F682, _, r681, v712, rfl, lv_sub hl [2, 3, 1, 0] rfl, hI, hP, hS, hfr, ⟨by omega, by omega⟩, ⟨by omega, by omega⟩, ((Classical.em (r681 = 0)).elim (fun q => Or.inl (by rw [q]; decide)) (fun q => Or.inr (h686.1 q))), (s_L1t hIq h698 h686.2 hl1), ⟨z687, z689, z691, z693, z696, z699, z700, z702, z704, z705, z706, z708, z709, o711, h688, h690, h692, h694, h695, ⟨by omega, by omega⟩, h698, ⟨by omega, by omega⟩, ⟨by omega, by omega⟩, ⟨by omega, by omega⟩, (fun q => by first | omega | exact absurd q (by decide)), trivial⟩, rfl⟩
            · have c559 := mt (ax_eq (n := 0) (by decide)).mpr c559
              refine lv_aload_n hx hb dX3_readStatement_85 rfl (lv_at hl 1 rfl) ?_
              refine lv_iconst (v := 1) hx hb dX3_readStatement_86 (by decide) ?_
              refine lv_aload_n hx hb dX3_readStatement_87 rfl (lv_at hl 1 rfl) ?_
              refine th_get (D := (dC, dI)) (ci := 3) (v := .int z336) (C := RX3) (T := TX3) (N := 15) hx hb hts inX3 hown hK hP (hLK _ ha0 (by decide)) o557 rfl 8 (by decide) (hts _ T_206) (fun _ h9 => h9) rfl dX3_readStatement_88 ?_
              have hIq := hI
              refine va_calli (va_runV (As := [.int 1, .int z336]) (rest := []) ⟨hx, hb, hml, hown, hts⟩ (s_X3_fail l dC dI H.size hLK D F554 a0 1 z336 ha0 hI tt qq ⟨z323, z325, z327, z329, z332, z335, z336, z338, z340, z341, z342, z344, z345, o557, h324, h326, h328, h330, h331, ⟨by omega, by omega⟩, h334, ⟨by omega, by omega⟩, ⟨by omega, by omega⟩, ⟨by omega, by omega⟩, (fun q => by first | omega | exact absurd q (by decide)), trivial⟩) (cwV 2 hts (ax_gV T_218 T_219 T_220 T_163 T_14) rfl rfl rfl (by decide +kernel) ⟨Nat.le_of_ble_eq_true rfl, Nat.le_of_ble_eq_true rfl⟩) ⟨fun a U g mk q => ⟨q.1, s_pc (U := U) rfl rfl q.2⟩, s_recv hK hP (hLK _ ha0 (by decide)) (ci := 3) rfl o557, fun U hU hW => ⟨rfl, s_pw hU hW hP hK hD hN⟩⟩ rfl rfl hl.1 rfl (lv_room (Nat.le_of_ble_eq_true rfl)) dX3_readStatement_91 ⟨Nat.zero_le _, Nat.zero_le _⟩) hS (fun q _ h => h) (fun q h => h) (fun r713 F714 t H1 locs ht hvm hw hB hz1 hk1 hS => ?_)
              obtain ⟨hP, hK1⟩ := hB
              rw [ht] at hP
              generalize H1 = H at hP hS ⊢
              clear hz1 hk1
              obtain ⟨h715, h716, hI, hfr1, h717⟩ := hw
              have hq := s_QGt hIq h334 (fun b hb9 => hfr1 b (by rcases hb9 with q | q | q <;> (rw [q]; decide))) hq
              have hl1 : s_L1 F714 qq := s_L1t hIq h334 (fun vs q => ⟨vs, (hfr1 _ (by rw [h334]; decide)).trans q, rfl⟩) hl1
              have hfr : ∀ b, K b ∉ [4, 8, 21, 24, 43] → F714 b = F b := fun b hb9 => (hfr1 b (fun q => hb9 (s_sub (by decide) q))).trans (hfr b hb9)
              obtain ⟨h716, h718⟩ := h716
              have h718 : (∀ vs z, F714 a0 = .inr (3, vs) → vs[13]? = some (.int z) → z = 1) := h718
              obtain ⟨z719, z721, z723, z725, z728, z731, z732, z734, z736, z737, z738, z740, z741, o743, h720, h722, h724, h726, h727, h729, h730, h733, h735, h739, h742, -⟩ := h717
              exact W.zret (v := r713) (ty := .boolean) hx hb hr (th_nz ⟨by omega, by omega⟩) (fun t ht hW => ⟨⟨r713, F714, rfl, ⟨⟨by omega, by omega⟩, ⟨trivial, (fun q => absurd (th_z0 ⟨by omega, by omega⟩) q)⟩, hI, hfr, ⟨z719, z721, z723, z725, z728, z731, z732, z734, z736, z737, z738, z740, z741, o743, h720, h722, h724, h726, h727, ⟨by omega, by omega⟩, h730, ⟨by omega, by omega⟩, ⟨by omega, by omega⟩, ⟨by omega, by omega⟩, (fun q => by first | omega | exact absurd q (by decide)), trivial⟩⟩, by rw [ht]; exact hP, va_K.moved hW.alike hK⟩, hS.F ht⟩) hS.2.2 dX3_readStatement_94
        · have c348 := (ax_eq (n := 0) (by decide)).mp c348
          refine lv_iconst (v := 0) hx hb dX3_readStatement_68 (by decide) ?_
          exact W.zret (v := 0) (ty := .boolean) hx hb hr (by decide) (fun t ht hW => ⟨⟨0, F318, rfl, ⟨(by decide), ⟨trivial, (fun q => absurd rfl q)⟩, hI, hfr, ⟨z323, z325, z327, z329, z332, z335, z336, z338, z340, z341, z342, z344, z345, o347, h324, h326, h328, h330, h331, ⟨by omega, by omega⟩, h334, ⟨by omega, by omega⟩, ⟨by omega, by omega⟩, ⟨by omega, by omega⟩, (fun q => by first | omega | exact absurd q (by decide)), trivial⟩⟩, by rw [ht]; exact hP, va_K.moved hW.alike hK⟩, hS.F ht⟩) hS.2.2 dX3_readStatement_69
    · have c120 := mt Int32.toInt_inj.symm.mpr c120
      refine lv_aload_n hx hb dX3_readStatement_42 rfl (lv_at hl 0 rfl) ?_
      refine lv_iconst (v := 1) hx hb dX3_readStatement_43 (by decide) ?_
      refine lv_aload_n hx hb dX3_readStatement_44 rfl (lv_at hl 0 rfl) ?_
      refine th_get (D := (dC, dI)) (ci := 3) (v := .int z108) (C := RX3) (T := TX3) (N := 15) hx hb hts inX3 hown hK hP (hLK _ ha0 (by decide)) o119 rfl 8 (by decide) (hts _ T_206) (fun _ h9 => h9) rfl dX3_readStatement_45 ?_
      have hIq := hI
      refine va_calli (va_runV (As := [.int 1, .int z108]) (rest := []) ⟨hx, hb, hml, hown, hts⟩ (s_X3_fail l dC dI H.size hLK D F9 a0 1 z108 ha0 hI tt qq ⟨z95, z97, z99, z101, z104, z107, z108, z110, z112, z113, z114, z116, z117, o119, h96, h98, h100, h102, h103, ⟨by omega, by omega⟩, h106, ⟨by omega, by omega⟩, ⟨by omega, by omega⟩, ⟨by omega, by omega⟩, (fun q => by first | omega | exact absurd q (by decide)), trivial⟩) (cwV 2 hts (ax_gV T_218 T_219 T_220 T_163 T_14) rfl rfl rfl (by decide +kernel) ⟨Nat.le_of_ble_eq_true rfl, Nat.le_of_ble_eq_true rfl⟩) ⟨fun a U g mk q => ⟨q.1, s_pc (U := U) rfl rfl q.2⟩, s_recv hK hP (hLK _ ha0 (by decide)) (ci := 3) rfl o119, fun U hU hW => ⟨rfl, s_pw hU hW hP hK hD hN⟩⟩ rfl rfl hl.1 rfl (lv_room (Nat.le_of_ble_eq_true rfl)) dX3_readStatement_48 ⟨Nat.zero_le _, Nat.zero_le _⟩) hS (fun q _ h => h) (fun q h => h) (fun r744 F745 t H1 locs ht hvm hw hB hz1 hk1 hS => ?_)
      obtain ⟨hP, hK1⟩ := hB
      rw [ht] at hP
      generalize H1 = H at hP hS ⊢
      clear hz1 hk1
      obtain ⟨h746, h747, hI, hfr1, h748⟩ := hw
      have hq := s_QGt hIq h106 (fun b hb9 => hfr1 b (by rcases hb9 with q | q | q <;> (rw [q]; decide))) hq
      have hfr : ∀ b, K b ∉ [4, 8, 21, 24, 43] → F745 b = F b := fun b hb9 => (hfr1 b (fun q => hb9 (s_sub (by decide) q))).trans (hfr b hb9)
      obtain ⟨h747, h749⟩ := h747
      have h749 : (∀ vs z, F745 a0 = .inr (3, vs) → vs[13]? = some (.int z) → z = 1) := h749
      obtain ⟨z750, z752, z754, z756, z759, z762, z763, z765, z767, z768, z769, z771, z772, o774, h751, h753, h755, h757, h758, h760, h761, h764, h766, h770, h773, -⟩ := h748
      exact W.zret (v := r744) (ty := .boolean) hx hb hr (th_nz ⟨by omega, by omega⟩) (fun t ht hW => ⟨⟨r744, F745, rfl, ⟨⟨by omega, by omega⟩, ⟨trivial, (fun q => absurd (th_z0 ⟨by omega, by omega⟩) q)⟩, hI, hfr, ⟨z750, z752, z754, z756, z759, z762, z763, z765, z767, z768, z769, z771, z772, o774, h751, h753, h755, h757, h758, ⟨by omega, by omega⟩, h761, ⟨by omega, by omega⟩, ⟨by omega, by omega⟩, ⟨by omega, by omega⟩, (fun q => by first | omega | exact absurd q (by decide)), trivial⟩⟩, by rw [ht]; exact hP, va_K.moved hW.alike hK⟩, hS.F ht⟩) hS.2.2 dX3_readStatement_51

set_option maxHeartbeats 4000000 in
set_option maxRecDepth 100000 in
theorem s_X3_aimAll (l : Launch) (dC : Nat → ClassId) (dI : Nat → Nat → Nat) (sz : Nat) {L : List Nat} {K : Nat → Nat} {cs : Nat → ClassId} (hLK : ∀ a {k : Nat}, K a = k → k ≠ 0 → a ∈ L) (D : Nat) (F : Nat → va_E) (a0 : Nat) (ha0 : K a0 = 4) (hI : s_I K cs D F) (tt qq : Nat) (hR : s_rd4 K F a0 tt qq) (hq : s_QG cs F qq 0) : Met l yX3_aimAll (Cond.code yX3_aimAll cX3_aimAll 3 (some .boolean) :: T0) ({ frames := 1, cells := 0, slots := 0, locals := 26 }) (va_Pc [.ref a0] (s_W dC dI sz L F [(cs 0, .int), (cs 1, .byte), (cs 2, .long), (cs 3, .object RX5), (cs 4, .object RX4), (cs 5, .array .int), (cs 6, .char), (cs 7, .boolean)])) (va_Qi (fun (r : Int32) (G : Nat → va_E) => (0 ≤ r.toInt ∧ r.toInt ≤ 1) ∧ (True ∧ (s_QG cs G qq 0 ∧ (¬ r = 0 → ∀ vs z, G qq = .inr (2, vs) → vs[3]? = some (.int z) → s_AQ cs G qq z.toInt))) ∧ s_I K cs D G ∧ (∀ b, K b ∉ [4, 43] → G b = F b) ∧ s_rd4 K G a0 tt qq) (fun (G : Nat → va_E) (t : State) => va_P (dC, dI) vwCl (va_pl L G) t.heap ∧ va_K (dC, dI) vwCl [(cs 0, .int), (cs 1, .byte), (cs 2, .long), (cs 3, .object RX5), (cs 4, .object RX4), (cs 5, .array .int), (cs 6, .char), (cs 7, .boolean)] t) (fun q => q ∈ L)) 0 0 (fun q => q ∈ L) := by
  refine Met.ofW (cc := cX3_aimAll) (maxL := 3) (ret := (some .boolean)) (by decide) rfl ?_
  intro p e s m args below meth c s₁ B hml hv
  obtain ⟨rfl, hsz, hP, hK, hD, hN⟩ := hv
  have hx := B.exec
  have hb := B.bytes
  have hr := B.returns
  have hts : ∀ w ∈ T0, w.before _ s = true := fun w h => atoms_spec (ws := Cond.code yX3_aimAll cX3_aimAll 3 (some .boolean) :: T0) B.pre w (List.mem_cons_of_mem _ h)
  have hown : s.vm.findClass RX3 = some m.cls := findClass_of_methodNamed B.named
  have hlocks := B.notSynchronized
  have hS : va_S (fun q => q ∈ L) s.heap s.heap [] := va_S.rf
  have hfr : ∀ b, K b ∉ [4, 43] → F b = F b := fun _ _ => rfl
  have hl := lv_entry ([.ref a0]) (n := 3) (Nat.le_of_ble_eq_true rfl)
  rw [lg_entry_eq]
  generalize (lg_sl ([.ref a0]) ++ List.replicate (3 - (lg_sl ([.ref a0])).length) Slot.unset).toArray = ls at hl ⊢
  have hl : lv_has ls 3 [(0, .ref a0)] := hl
  refine s_gen hP hS (fun H locs hP hS => ?_)
  obtain ⟨z1, z3, z5, z7, z10, z13, z14, z16, z18, z19, z20, z22, z23, o25, h2, h4, h6, h8, h9, h11, h12, h15, h17, h21, h24, -⟩ := hR
  refine lv_iconst (v := 0) hx hb dX3_aimAll_0 (by decide) ?_
  refine lv_istore_n (lv' := [(1, .int 0), (0, .ref a0)]) hx hb dX3_aimAll_1 rfl hl (by decide) rfl (fun ls hl => ?_)
  refine th_loop (fun n g H locs => ∃ (G : Nat → va_E) (ls : Array Slot) (w26 : Int32), g = F0 m 2 ls [] ∧ lv_has ls 3 [(0, .ref a0), (1, .int w26)] ∧ s_I K cs D G ∧ va_P (dC, dI) vwCl (va_pl L G) H ∧ va_S (fun q => q ∈ L) s.heap H locs ∧ (∀ b, K b ∉ [4, 43] → G b = F b) ∧ (0 ≤ w26.toInt ∧ w26.toInt ≤ 40) ∧ s_QG cs G qq 0 ∧ s_AQ cs G qq w26.toInt ∧ s_rd4 K G a0 tt qq ∧ n = (41 - w26.toInt).toNat) _ ⟨F, _, 0, rfl, lv_sub hl [1, 0] rfl, hI, hP, hS, hfr, (by decide), hq, (fun w0 vs fr i r f q1 q3 hi hn => absurd hn (by have q9 : (0 : Int32).toInt = 0 := (by decide); omega)), ⟨z1, z3, z5, z7, z10, z13, z14, z16, z18, z19, z20, z22, z23, o25, h2, h4, h6, h8, h9, ⟨by omega, by omega⟩, h12, ⟨by omega, by omega⟩, ⟨by omega, by omega⟩, ⟨by omega, by omega⟩, (fun q => by first | omega | exact absurd q (by decide)), trivial⟩, rfl⟩ (fun n ih2 g H locs hq => ?_)
  obtain ⟨F9, ls, w26, rfl, hl, hI, hP, hS, hfr, h27, h28, h29, h30, hn⟩ := hq
  obtain ⟨z31, z33, z35, z37, z40, z43, z44, z46, z48, z49, z50, z52, z53, o55, h32, h34, h36, h38, h39, h41, h42, h45, h47, h51, h54, -⟩ := h30
  have hq := h28
  have haq := h29
  have hn_2 := hn
  obtain ⟨n_2, hn9_2⟩ : ∃ q, q = n := ⟨_, rfl⟩
  refine th_join (fun g H locs => ∃ (G : Nat → va_E) (ls : Array Slot), g = F0 m 75 ls [] ∧ lv_has ls 3 [(0, .ref a0), (1, .int w26)] ∧ s_I K cs D G ∧ va_P (dC, dI) vwCl (va_pl L G) H ∧ va_S (fun q => q ∈ L) s.heap H locs ∧ (∀ b, K b ∉ [4, 43] → G b = F b) ∧ (0 ≤ w26.toInt ∧ w26.toInt ≤ 39) ∧ s_QG cs G qq 0 ∧ s_AQ cs G qq (w26.toInt + 1) ∧ s_rd4 K G a0 tt qq) (fun K75 => ?_) ?_
  · refine lv_iload_n hx hb dX3_aimAll_2 rfl (lv_at hl 1 rfl) ?_
    refine lv_aload_n hx hb dX3_aimAll_3 rfl (lv_at hl 0 rfl) ?_
    refine th_get (D := (dC, dI)) (ci := 3) (v := .ref qq) (C := RX3) (T := TX3) (N := 15) hx hb hts inX3 hown hK hP (hLK _ ha0 (by decide)) o55 rfl 6 (by decide) (hts _ T_211) (fun _ h9 => h9) rfl dX3_aimAll_4 ?_
    obtain ⟨z56, z58, z60, z62, z64, z66, z67, o68, h57, h59, h61, h63, h65, -⟩ := s_op8 hI h42
    refine th_getN (D := (dC, dI)) (ci := 2) (v := .int z62) (C := RX2) (T := TX2) (N := 7) hx hb hts inX2 hown hK hP (hLK _ h42 (by decide)) o68 rfl 3 (by decide) (va_Nw.use rfl (ax_n9 hN)) (fun _ h9 => h9) rfl dX3_aimAll_7 ?_
    refine lv_icmp_ge (tgt := 81) hx hb dX3_aimAll_10 (by decide) (fun c69 => ?_) (fun c69 => ?_)
    · have c69 := Int32.le_iff_toInt_le.mp c69
      refine lv_iconst (v := 1) hx hb dX3_aimAll_81 (by decide) ?_
      exact W.zret (v := 1) (ty := .boolean) hx hb hr (by decide) (fun t ht hW => ⟨⟨1, F9, rfl, ⟨(by decide), ⟨trivial, ⟨hq, fun _ vs z q q2 => by rw [o68] at q; cases q; cases q2; exact s_AQle (by omega) haq⟩⟩, hI, hfr, ⟨z31, z33, z35, z37, z40, z43, z44, z46, z48, z49, z50, z52, z53, o55, h32, h34, h36, h38, h39, ⟨by omega, by omega⟩, h42, ⟨by omega, by omega⟩, ⟨by omega, by omega⟩, ⟨by omega, by omega⟩, (fun q => by first | omega | exact absurd q (by decide)), trivial⟩⟩, by rw [ht]; exact hP, va_K.moved hW.alike hK⟩, hS.F ht⟩) hS.2.2 dX3_aimAll_82
    · have c69 := mt Int32.le_iff_toInt_le.mpr c69
      refine lv_aload_n hx hb dX3_aimAll_13 rfl (lv_at hl 0 rfl) ?_
      refine th_get (D := (dC, dI)) (ci := 3) (v := .ref qq) (C := RX3) (T := TX3) (N := 15) hx hb hts inX3 hown hK hP (hLK _ ha0 (by decide)) o55 rfl 6 (by decide) (hts _ T_211) (fun _ h9 => h9) rfl dX3_aimAll_14 ?_
      refine th_getN (D := (dC, dI)) (ci := 2) (v := .ref z56) (C := RX2) (T := TX2) (N := 7) hx hb hts inX2 hown hK hP (hLK _ h42 (by decide)) o68 rfl 0 (by decide) (va_Nw.use rfl (ax_n39 hN)) (fun _ h9 => h9) rfl dX3_aimAll_17 ?_
      obtain ⟨f70, o71, h72⟩ := s_op42 hI h57
      refine lv_iload_n hx hb dX3_aimAll_20 rfl (lv_at hl 1 rfl) ?_
      obtain ⟨z73, o75, h74⟩ := h72 (w26 : Int32).toNatClampNeg (th_cl ⟨by omega, by omega⟩)
      refine th_aaldA hx hb hK hP (hLK _ h57 (by decide)) 5 o71 rfl (th_in ⟨by omega, by omega⟩) o75 dX3_aimAll_21 ?_
      obtain ⟨f76, o77, h78⟩ := s_op43 hI h74
      refine lv_iconst (v := 0) hx hb dX3_aimAll_22 (by decide) ?_
      refine th_iald hx hb hK hP (hLK _ h74 (by decide)) 0 o77 rfl (ax_in (by decide)) dX3_aimAll_23 ?_
      refine lv_topi (fun v79 ev79 => ?_)
      refine lv_bipush (v := 12) hx hb dX3_aimAll_24 (by decide) ?_
      refine lv_icmp_ne (tgt := 75) hx hb dX3_aimAll_26 (by decide) (fun c80 => ?_) (fun c80 => ?_)
      · have c80 := mt (ax_eq (n := 12) (by decide)).mpr c80
        exact K75 _ _ _ ⟨F9, _, rfl, lv_sub hl [0, 1] rfl, hI, hP, hS, hfr, ⟨by omega, by omega⟩, hq, (s_AQs o68 o71 (i := w26.toNatClampNeg) ((Int.toNat_of_nonneg (by omega)).symm) haq (fun r f q4 q5 h12 => by cases (o75.symm.trans q4); rw [o77] at q5; cases q5; exact absurd h12 (by rw [show (f76 0) = v79 from ev79.symm]; omega))), ⟨z31, z33, z35, z37, z40, z43, z44, z46, z48, z49, z50, z52, z53, o55, h32, h34, h36, h38, h39, ⟨by omega, by omega⟩, h42, ⟨by omega, by omega⟩, ⟨by omega, by omega⟩, ⟨by omega, by omega⟩, (fun q => by first | omega | exact absurd q (by decide)), trivial⟩⟩
      · have c80 := (ax_eq (n := 12) (by decide)).mp c80
        refine lv_aload_n hx hb dX3_aimAll_29 rfl (lv_at hl 0 rfl) ?_
        refine lv_aload_n hx hb dX3_aimAll_30 rfl (lv_at hl 0 rfl) ?_
        refine th_get (D := (dC, dI)) (ci := 3) (v := .ref z35) (C := RX3) (T := TX3) (N := 15) hx hb hts inX3 hown hK hP (hLK _ ha0 (by decide)) o55 rfl 2 (by decide) (hts _ T_131) (fun _ h9 => h9) rfl dX3_aimAll_31 ?_
        refine lv_iload_n hx hb dX3_aimAll_34 rfl (lv_at hl 1 rfl) ?_
        obtain ⟨f81, o82, h83⟩ := s_op21 hI h36
        refine th_iald hx hb hK hP (hLK _ h36 (by decide)) 0 o82 rfl (th_in ⟨by omega, by omega⟩) dX3_aimAll_35 ?_
        refine lv_topi (fun v84 ev84 => ?_)
        have qv84 : 0 ≤ v84.toInt ∧ v84.toInt ≤ 1600 := by rw [ev84]; exact h83 _ (th_cl ⟨by omega, by omega⟩)
        refine lv_aload_n hx hb dX3_aimAll_36 rfl (lv_at hl 0 rfl) ?_
        refine th_get (D := (dC, dI)) (ci := 3) (v := .ref z37) (C := RX3) (T := TX3) (N := 15) hx hb hts inX3 hown hK hP (hLK _ ha0 (by decide)) o55 rfl 3 (by decide) (hts _ T_132) (fun _ h9 => h9) rfl dX3_aimAll_37 ?_
        refine lv_iload_n hx hb dX3_aimAll_40 rfl (lv_at hl 1 rfl) ?_
        obtain ⟨f85, o86, h87⟩ := s_op21 hI h38
        refine th_iald hx hb hK hP (hLK _ h38 (by decide)) 0 o86 rfl (th_in ⟨by omega, by omega⟩) dX3_aimAll_41 ?_
        refine lv_topi (fun v88 ev88 => ?_)
        have qv88 : 0 ≤ v88.toInt ∧ v88.toInt ≤ 1600 := by rw [ev88]; exact h87 _ (th_cl ⟨by omega, by omega⟩)
        have hIq := hI
        refine va_calli (va_runV (As := [.int v84, .int v88]) (rest := []) ⟨hx, hb, hml, hown, hts⟩ (s_X3_lineNamed l dC dI H.size hLK D F9 a0 v84 v88 ha0 (⟨by omega, by omega⟩) (⟨by omega, by omega⟩) hI tt qq ⟨z31, z33, z35, z37, z40, z43, z44, z46, z48, z49, z50, z52, z53, o55, h32, h34, h36, h38, h39, ⟨by omega, by omega⟩, h42, ⟨by omega, by omega⟩, ⟨by omega, by omega⟩, ⟨by omega, by omega⟩, (fun q => by first | omega | exact absurd q (by decide)), trivial⟩) (cwV 2 hts (ax_gV T_753 T_755 T_756 T_163 T_754) rfl rfl rfl (by decide +kernel) ⟨Nat.le_of_ble_eq_true rfl, Nat.le_of_ble_eq_true rfl⟩) ⟨fun a U g mk q => ⟨q.1, s_pc (U := U) rfl rfl q.2⟩, s_recv hK hP (hLK _ ha0 (by decide)) (ci := 3) rfl o55, fun U hU hW => ⟨rfl, s_pw hU hW hP hK hD hN⟩⟩ rfl rfl hl.1 rfl (lv_room (Nat.le_of_ble_eq_true rfl)) dX3_aimAll_42 ⟨Nat.zero_le _, Nat.zero_le _⟩) hS (fun q _ h => h) (fun q h => h) (fun r89 F90 t H1 locs ht hvm hw hB hz1 hk1 hS => ?_)
        obtain ⟨hP, hK1⟩ := hB
        rw [ht] at hP
        generalize H1 = H at hP hS ⊢
        clear hz1 hk1
        obtain ⟨h91, h92, hI, hfr1, h93⟩ := hw
        have o94 : F90 a0 = .inr (3, [.ref z31, .ref z33, .ref z35, .ref z37, .ref tt, .int z40, .ref qq, .int z43, .int z44, .int z46, .int z48, .int z49, .int z50, .int z52, .int z53]) := (hfr1 _ (by rw [ha0]; decide)).trans o55
        have o95 : F90 qq = .inr (2, [.ref z56, .ref z58, .ref z60, .int z62, .int z64, .int z66, .int z67]) := (hfr1 _ (by rw [h42]; decide)).trans o68
        have o96 : F90 z56 = .inl (cs 5, 40, .inr (.inr (.inr (.inr f70)))) := (hfr1 _ (by rw [h57]; decide)).trans o71
        have o97 : F90 z73 = .inl (cs 0, 7, .inl f76) := (hfr1 _ (by rw [h74]; decide)).trans o77
        have hq := s_QGt hIq h42 (fun b hb9 => hfr1 b (by rcases hb9 with q | q | q <;> (rw [q]; decide))) hq
        have haq := s_AQt hIq h42 (fun b hb9 => hfr1 b (by rcases hb9 with q | q | q <;> (rw [q]; decide))) haq
        have hfr : ∀ b, K b ∉ [4, 43] → F90 b = F b := fun b hb9 => (hfr1 b (fun q => hb9 (s_sub (by decide) q))).trans (hfr b hb9)
        obtain ⟨z98, z100, z102, z104, z107, z110, z111, z113, z115, z116, z117, z119, z120, o122, h99, h101, h103, h105, h106, h108, h109, h112, h114, h118, h121, -⟩ := h93
        refine lv_istore_n (lv' := [(2, .int r89), (0, .ref a0), (1, .int w26)]) hx hb dX3_aimAll_45 rfl hl (by decide) rfl (fun ls hl => ?_)
        refine lv_iload_n hx hb dX3_aimAll_46 rfl (lv_at hl 0 rfl) ?_
        refine lv_iconst (v := (-1)) hx hb dX3_aimAll_47 (by decide) ?_
        refine lv_icmp_ne (tgt := 63) hx hb dX3_aimAll_48 (by decide) (fun c123 => ?_) (fun c123 => ?_)
        · have c123 := mt (ax_eq (n := (-1)) (by decide)).mpr c123
          refine lv_aload_n hx hb dX3_aimAll_63 rfl (lv_at hl 1 rfl) ?_
          refine th_get (D := (dC, dI)) (ci := 3) (v := .ref qq) (C := RX3) (T := TX3) (N := 15) hx hb hts inX3 hown hK hP (hLK _ ha0 (by decide)) o122 rfl 6 (by decide) (hts _ T_211) (fun _ h9 => h9) rfl dX3_aimAll_64 ?_
          refine th_getN (D := (dC, dI)) (ci := 2) (v := .ref z56) (C := RX2) (T := TX2) (N := 7) hx hb hts inX2 hown hK hP (hLK _ h109 (by decide)) o95 rfl 0 (by decide) (va_Nw.use rfl (ax_n39 hN)) (fun _ h9 => h9) rfl dX3_aimAll_67 ?_
          refine lv_iload_n hx hb dX3_aimAll_70 rfl (lv_at hl 2 rfl) ?_
          refine th_aaldA hx hb hK hP (hLK _ h57 (by decide)) 5 o96 rfl (th_in ⟨by omega, by omega⟩) o75 dX3_aimAll_71 ?_
          refine lv_iconst (v := 4) hx hb dX3_aimAll_72 (by decide) ?_
          refine lv_iload_n hx hb dX3_aimAll_73 rfl (lv_at hl 0 rfl) ?_
          refine th_iast hx hb hK hP hD hS (hLK _ h74 (by decide)) 0 o97 rfl (ax_in (by decide)) dX3_aimAll_74 (fun H locs hP hS => ?_)
          have hIq := hI
          have hP : va_P (dC, dI) vwCl (va_pl L (va_up F90 z73 (.inl (cs 0, 7, .inl (upd f76 (4 : Int32).toNatClampNeg r89))))) H := hP
          obtain ⟨F124, hF125⟩ : ∃ G : Nat → va_E, G = va_up F90 z73 (.inl (cs 0, 7, .inl (upd f76 (4 : Int32).toNatClampNeg r89))) := ⟨_, rfl⟩
          rw [← hF125] at hP
          have hI : s_I K cs D F124 := by rw [hF125]; exact s_cl43 hI h74 ⟨_, rfl, th_updJ (P := fun y => y.toInt ≤ 3) h78 (fun q => absurd q (by decide))⟩
          have hfr : ∀ b, K b ∉ [4, 43] → F124 b = F b := by rw [hF125]; exact s_fr hfr h74 (by decide)
          have o126 : F124 a0 = .inr (3, [.ref z98, .ref z100, .ref z102, .ref z104, .ref tt, .int z107, .ref qq, .int z110, .int z111, .int z113, .int z115, .int z116, .int z117, .int z119, .int z120]) := by rw [hF125]; exact th_ne (th_kd ha0 h74 (by decide)) o122
          have o127 : F124 qq = .inr (2, [.ref z56, .ref z58, .ref z60, .int z62, .int z64, .int z66, .int z67]) := by rw [hF125]; exact th_ne (th_kd h109 h74 (by decide)) o95
          have o128 : F124 z56 = .inl (cs 5, 40, .inr (.inr (.inr (.inr f70)))) := by rw [hF125]; exact th_ne (th_kd h57 h74 (by decide)) o96
          have hq := s_QGrow hIq h109 h74 o97 hF125 (by decide) (by decide) hq
          have haq := s_AQrow hIq h109 h74 o97 hF125 (by decide) (fun _ => ⟨by omega, by omega⟩) haq
          have oA : F124 z73 = (.inl (cs 0, 7, .inl (upd f76 (4 : Int32).toNatClampNeg r89))) := by rw [hF125]; exact th_up
          exact K75 _ _ _ ⟨F124, _, rfl, lv_sub hl [1, 2] rfl, hI, hP, hS, hfr, ⟨by omega, by omega⟩, hq, (s_AQs o127 o128 (i := w26.toNatClampNeg) ((Int.toNat_of_nonneg (by omega)).symm) haq (fun r f q4 q5 _ => by cases (o75.symm.trans q4); rw [oA] at q5; cases q5; rw [th_upd44]; exact ⟨by omega, by omega⟩)), ⟨z98, z100, z102, z104, z107, z110, z111, z113, z115, z116, z117, z119, z120, o126, h99, h101, h103, h105, h106, ⟨by omega, by omega⟩, h109, ⟨by omega, by omega⟩, ⟨by omega, by omega⟩, ⟨by omega, by omega⟩, (fun q => by first | omega | exact absurd q (by decide)), trivial⟩⟩
        · have c123 := (ax_eq (n := (-1)) (by decide)).mp c123
          refine lv_aload_n hx hb dX3_aimAll_51 rfl (lv_at hl 1 rfl) ?_
          refine lv_iconst (v := 3) hx hb dX3_aimAll_52 (by decide) ?_
          refine lv_aload_n hx hb dX3_aimAll_53 rfl (lv_at hl 1 rfl) ?_
          refine th_get (D := (dC, dI)) (ci := 3) (v := .ref z102) (C := RX3) (T := TX3) (N := 15) hx hb hts inX3 hown hK hP (hLK _ ha0 (by decide)) o122 rfl 2 (by decide) (hts _ T_131) (fun _ h9 => h9) rfl dX3_aimAll_54 ?_
          refine lv_iload_n hx hb dX3_aimAll_57 rfl (lv_at hl 2 rfl) ?_
          obtain ⟨f129, o130, h131⟩ := s_op21 hI h103
          refine th_iald hx hb hK hP (hLK _ h103 (by decide)) 0 o130 rfl (th_in ⟨by omega, by omega⟩) dX3_aimAll_58 ?_
          refine lv_topi (fun v132 ev132 => ?_)
          have qv132 : 0 ≤ v132.toInt ∧ v132.toInt ≤ 1600 := by rw [ev132]; exact h131 _ (th_cl ⟨by omega, by omega⟩)
          have hIq := hI
          refine va_calli (va_runV (As := [.int 3, .int v132]) (rest := []) ⟨hx, hb, hml, hown, hts⟩ (s_X3_fail l dC dI H.size hLK D F90 a0 3 v132 ha0 hI tt qq ⟨z98, z100, z102, z104, z107, z110, z111, z113, z115, z116, z117, z119, z120, o122, h99, h101, h103, h105, h106, ⟨by omega, by omega⟩, h109, ⟨by omega, by omega⟩, ⟨by omega, by omega⟩, ⟨by omega, by omega⟩, (fun q => by first | omega | exact absurd q (by decide)), trivial⟩) (cwV 2 hts (ax_gV T_218 T_219 T_220 T_163 T_14) rfl rfl rfl (by decide +kernel) ⟨Nat.le_of_ble_eq_true rfl, Nat.le_of_ble_eq_true rfl⟩) ⟨fun a U g mk q => ⟨q.1, s_pc (U := U) rfl rfl q.2⟩, s_recv hK hP (hLK _ ha0 (by decide)) (ci := 3) rfl o122, fun U hU hW => ⟨rfl, s_pw hU hW hP hK hD hN⟩⟩ rfl rfl hl.1 rfl (lv_room (Nat.le_of_ble_eq_true rfl)) dX3_aimAll_59 ⟨Nat.zero_le _, Nat.zero_le _⟩) hS (fun q _ h => h) (fun q h => h) (fun r133 F134 t H1 locs ht hvm hw hB hz1 hk1 hS => ?_)
          obtain ⟨hP, hK1⟩ := hB
          rw [ht] at hP
          generalize H1 = H at hP hS ⊢
          clear hz1 hk1
          obtain ⟨h135, h136, hI, hfr1, h137⟩ := hw
          have o138 : F134 qq = .inr (2, [.ref z56, .ref z58, .ref z60, .int z62, .int z64, .int z66, .int z67]) := (hfr1 _ (by rw [h109]; decide)).trans o95
          have o139 : F134 z56 = .inl (cs 5, 40, .inr (.inr (.inr (.inr f70)))) := (hfr1 _ (by rw [h57]; decide)).trans o96
          have o140 : F134 z73 = .inl (cs 0, 7, .inl f76) := (hfr1 _ (by rw [h74]; decide)).trans o97
          have hq := s_QGt hIq h109 (fun b hb9 => hfr1 b (by rcases hb9 with q | q | q <;> (rw [q]; decide))) hq
          have haq := s_AQt hIq h109 (fun b hb9 => hfr1 b (by rcases hb9 with q | q | q <;> (rw [q]; decide))) haq
          have hfr : ∀ b, K b ∉ [4, 43] → F134 b = F b := fun b hb9 => (hfr1 b (fun q => hb9 (s_sub (by decide) q))).trans (hfr b hb9)
          obtain ⟨h136, h141⟩ := h136
          have h141 : (∀ vs z, F134 a0 = .inr (3, vs) → vs[13]? = some (.int z) → z = 3) := h141
          obtain ⟨z142, z144, z146, z148, z151, z154, z155, z157, z159, z160, z161, z163, z164, o166, h143, h145, h147, h149, h150, h152, h153, h156, h158, h162, h165, -⟩ := h137
          exact W.zret (v := r133) (ty := .boolean) hx hb hr (th_nz ⟨by omega, by omega⟩) (fun t ht hW => ⟨⟨r133, F134, rfl, ⟨⟨by omega, by omega⟩, ⟨trivial, ⟨hq, (fun q => absurd (th_z0 ⟨by omega, by omega⟩) q)⟩⟩, hI, hfr, ⟨z142, z144, z146, z148, z151, z154, z155, z157, z159, z160, z161, z163, z164, o166, h143, h145, h147, h149, h150, ⟨by omega, by omega⟩, h153, ⟨by omega, by omega⟩, ⟨by omega, by omega⟩, ⟨by omega, by omega⟩, (fun q => by first | omega | exact absurd q (by decide)), trivial⟩⟩, by rw [ht]; exact hP, va_K.moved hW.alike hK⟩, hS.F ht⟩) hS.2.2 dX3_aimAll_62
  · intro g H locs hq
    obtain ⟨F9, ls, rfl, hl, hI, hP, hS, hfr, h167, h168, h169, h170⟩ := hq
    obtain ⟨z171, z173, z175, z177, z180, z183, z184, z186, z188, z189, z190, z192, z193, o195, h172, h174, h176, h178, h179, h181, h182, h185, h187, h191, h194, -⟩ := h170
    have hq := h168
    have haq := h169
    obtain ⟨v196, ev196⟩ : ∃ y : Int32, w26 + 1 = y := ⟨_, rfl⟩
    have qv196 : v196.toInt = w26.toInt + 1 := by rw [← ev196]; exact th_add rfl (by decide) ⟨by omega, by omega⟩
    refine lv_iinc (v := v196) (lv' := [(1, .int v196), (0, .ref a0)]) hx hb dX3_aimAll_75 hl (k := 1) rfl ev196 (by decide) rfl (fun ls hl => ?_)
    refine lv_goto (tgt := 2) hx hb dX3_aimAll_78 (by decide) ?_
    exact ih2 _ _ _ _ (by omega) ⟨F9, _, v196, rfl, lv_sub hl [1, 0] rfl, hI, hP, hS, hfr, ⟨by omega, by omega⟩, hq, (by first | exact haq | (rw [qv196]; exact haq)), ⟨z171, z173, z175, z177, z180, z183, z184, z186, z188, z189, z190, z192, z193, o195, h172, h174, h176, h178, h179, ⟨by omega, by omega⟩, h182, ⟨by omega, by omega⟩, ⟨by omega, by omega⟩, ⟨by omega, by omega⟩, (fun q => by first | omega | exact absurd q (by decide)), trivial⟩, rfl⟩

set_option maxHeartbeats 4000000 in
set_option maxRecDepth 100000 in
theorem s_X3_read (l : Launch) (dC : Nat → ClassId) (dI : Nat → Nat → Nat) (sz : Nat) {L : List Nat} {K : Nat → Nat} {cs : Nat → ClassId} (hLK : ∀ a {k : Nat}, K a = k → k ≠ 0 → a ∈ L) (D : Nat) (adK adV : Nat → Nat) (tf : Option Nat) (F : Nat → va_E) (a0 : Nat) (a1 : Nat) (x2 : Int32) (a3 : Nat) (ha0 : K a0 = 4) (ha1 : K a1 = 20) (hx2 : 0 ≤ x2.toInt ∧ x2.toInt ≤ 1600) (ha3 : K a3 = 8) (hI : s_I K cs D F) (hRI : s_RI K cs F) : Met l yX3_read (Cond.code yX3_read cX3_read 6 (some .boolean) :: T0) ({ frames := 9, cells := 0, slots := 0, locals := 200 }) (va_Pc [.ref a0, .ref a1, .int x2, .ref a3] (s_WZ dC dI sz L F [(cs 0, .int), (cs 1, .byte), (cs 2, .long), (cs 3, .object RX5), (cs 4, .object RX4), (cs 5, .array .int), (cs 6, .char), (cs 7, .boolean)] adK adV tf)) (va_Qi (fun (r : Int32) (G : Nat → va_E) => (0 ≤ r.toInt ∧ r.toInt ≤ 1) ∧ (True ∧ (¬ r = 0 → s_QG cs G a3 0 ∧ (∀ vs z, G a3 = .inr (2, vs) → vs[3]? = some (.int z) → s_AQ cs G a3 z.toInt))) ∧ s_I K cs D G ∧ ∀ b, K b ∉ [4, 8, 21, 24, 43] → G b = F b) (fun (G : Nat → va_E) (t : State) => va_P (dC, dI) vwCl (va_pl L G) t.heap ∧ va_K (dC, dI) vwCl [(cs 0, .int), (cs 1, .byte), (cs 2, .long), (cs 3, .object RX5), (cs 4, .object RX4), (cs 5, .array .int), (cs 6, .char), (cs 7, .boolean)] t) (fun q => q ∈ L)) 0 0 (fun q => q ∈ L) := by
  refine Met.ofW (cc := cX3_read) (maxL := 6) (ret := (some .boolean)) (by decide) rfl ?_
  intro p e s m args below meth c s₁ B hml hv
  obtain ⟨rfl, ⟨hsz, hP, hK, hD, hN⟩, hZ⟩ := hv
  have hx := B.exec
  have hb := B.bytes
  have hr := B.returns
  have hts : ∀ w ∈ T0, w.before _ s = true := fun w h => atoms_spec (ws := Cond.code yX3_read cX3_read 6 (some .boolean) :: T0) B.pre w (List.mem_cons_of_mem _ h)
  have hown : s.vm.findClass RX3 = some m.cls := findClass_of_methodNamed B.named
  have hlocks := B.notSynchronized
  have hS : va_S (fun q => q ∈ L) s.heap s.heap [] := va_S.rf
  have hfr : ∀ b, K b ∉ [4, 8, 21, 24, 43] → F b = F b := fun _ _ => rfl
  have hl := lv_entry ([.ref a0, .ref a1, .int x2, .ref a3]) (n := 6) (Nat.le_of_ble_eq_true rfl)
  rw [lg_entry_eq]
  generalize (lg_sl ([.ref a0, .ref a1, .int x2, .ref a3]) ++ List.replicate (6 - (lg_sl ([.ref a0, .ref a1, .int x2, .ref a3])).length) Slot.unset).toArray = ls at hl ⊢
  have hl : lv_has ls 6 [(0, .ref a0), (1, .ref a1), (2, .int x2), (3, .ref a3)] := hl
  refine s_gen hP hS (fun H locs hP hS => ?_)
  refine th_join (fun g H locs => ∃ (G : Nat → va_E) (ls : Array Slot) (w1 : Int32), g = F0 m 110 ls [] ∧ lv_has ls 6 [(0, .ref a0), (4, .int w1)] ∧ s_I K cs D G ∧ va_P (dC, dI) vwCl (va_pl L G) H ∧ va_S (fun q => q ∈ L) s.heap H locs ∧ (∀ b, K b ∉ [4, 8, 21, 24, 43] → G b = F b) ∧ (0 ≤ w1.toInt ∧ w1.toInt ≤ 1) ∧ (w1.toInt = 0 ∨ s_QG cs G a3 0) ∧ s_rd4 K G a0 a1 a3) (fun K110 => ?_) ?_
  refine th_join (fun g H locs => ∃ (G : Nat → va_E) (ls : Array Slot) (w2 : Int32), g = F0 m 85 ls [] ∧ lv_has ls 6 [(0, .ref a0), (4, .int w2)] ∧ s_I K cs D G ∧ va_P (dC, dI) vwCl (va_pl L G) H ∧ va_S (fun q => q ∈ L) s.heap H locs ∧ (∀ b, K b ∉ [4, 8, 21, 24, 43] → G b = F b) ∧ (0 ≤ w2.toInt ∧ w2.toInt ≤ 1) ∧ (w2.toInt = 0 ∨ s_QG cs G a3 0) ∧ s_rd4 K G a0 a1 a3) (fun K85 => ?_) ?_
  · refine lv_aload_n hx hb dX3_read_0 rfl (lv_at hl 0 rfl) ?_
    refine lv_aload_n hx hb dX3_read_1 rfl (lv_at hl 1 rfl) ?_
    obtain ⟨z3, z5, z7, z9, z11, z13, z15, z16, z17, z19, z21, z22, z23, z25, z26, o27, h4, h6, h8, h10, h12, h14, h18, h20, h24, -⟩ := s_op4 hI ha0
    refine th_put (D := (dC, dI)) (ci := 3) (v := .ref a1) (ty := .array .byte) (C := RX3) (T := TX3) (N := 15) hx hb hts inX3 tyX3 tyX3_ok nmX3 hown hK hP hD hS (hLK _ ha0 (by decide)) o27 rfl 4 (by decide) (hts _ T_210) (fun _ h9 => h9) rfl (by decide +kernel) rfl rfl (Nat.le_of_ble_eq_true rfl) dX3_read_2 (fun H locs hP hS => ?_)
    have hP : va_P (dC, dI) vwCl (va_pl L (va_up F a0 (.inr (3, [.ref z3, .ref z5, .ref z7, .ref z9, .ref a1, .int z13, va_rf z15, .int z16, .int z17, .int z19, .int z21, .int z22, .int z23, .int z25, .int z26])))) H := hP
    obtain ⟨F28, hF29⟩ : ∃ G : Nat → va_E, G = va_up F a0 (.inr (3, [.ref z3, .ref z5, .ref z7, .ref z9, .ref a1, .int z13, va_rf z15, .int z16, .int z17, .int z19, .int z21, .int z22, .int z23, .int z25, .int z26])) := ⟨_, rfl⟩
    rw [← hF29] at hP
    have hI : s_I K cs D F28 := by rw [hF29]; exact s_cl4 hI ha0 ⟨z3, z5, z7, z9, some a1, z13, z15, z16, z17, z19, z21, z22, z23, z25, z26, rfl, h4, h6, h8, h10, (fun q e => by cases e; exact ha1), ⟨by omega, by omega⟩, ⟨by omega, by omega⟩, ⟨by omega, by omega⟩, ⟨by omega, by omega⟩, trivial⟩
    have hfr : ∀ b, K b ∉ [4, 8, 21, 24, 43] → F28 b = F b := by rw [hF29]; exact s_fr hfr ha0 (by decide)
    have o30 : F28 a0 = .inr (3, [.ref z3, .ref z5, .ref z7, .ref z9, .ref a1, .int z13, va_rf z15, .int z16, .int z17, .int z19, .int z21, .int z22, .int z23, .int z25, .int z26]) := by rw [hF29]; exact th_up
    refine lv_aload_n hx hb dX3_read_5 rfl (lv_at hl 0 rfl) ?_
    refine lv_iload_n hx hb dX3_read_6 rfl (lv_at hl 2 rfl) ?_
    refine th_put (D := (dC, dI)) (ci := 3) (v := .int x2) (ty := .int) (C := RX3) (T := TX3) (N := 15) hx hb hts inX3 tyX3 tyX3_ok nmX3 hown hK hP hD hS (hLK _ ha0 (by decide)) o30 rfl 5 (by decide) (hts _ T_207) (fun _ h9 => h9) rfl (by decide +kernel) rfl rfl (Nat.le_of_ble_eq_true rfl) dX3_read_7 (fun H locs hP hS => ?_)
    have hP : va_P (dC, dI) vwCl (va_pl L (va_up F28 a0 (.inr (3, [.ref z3, .ref z5, .ref z7, .ref z9, .ref a1, .int x2, va_rf z15, .int z16, .int z17, .int z19, .int z21, .int z22, .int z23, .int z25, .int z26])))) H := hP
    obtain ⟨F31, hF32⟩ : ∃ G : Nat → va_E, G = va_up F28 a0 (.inr (3, [.ref z3, .ref z5, .ref z7, .ref z9, .ref a1, .int x2, va_rf z15, .int z16, .int z17, .int z19, .int z21, .int z22, .int z23, .int z25, .int z26])) := ⟨_, rfl⟩
    rw [← hF32] at hP
    have hI : s_I K cs D F31 := by rw [hF32]; exact s_cl4 hI ha0 ⟨z3, z5, z7, z9, some a1, x2, z15, z16, z17, z19, z21, z22, z23, z25, z26, rfl, h4, h6, h8, h10, (fun q e => by cases e; exact ha1), ⟨by omega, by omega⟩, ⟨by omega, by omega⟩, ⟨by omega, by omega⟩, ⟨by omega, by omega⟩, trivial⟩
    have hfr : ∀ b, K b ∉ [4, 8, 21, 24, 43] → F31 b = F b := by rw [hF32]; exact s_fr hfr ha0 (by decide)
    have o33 : F31 a0 = .inr (3, [.ref z3, .ref z5, .ref z7, .ref z9, .ref a1, .int x2, va_rf z15, .int z16, .int z17, .int z19, .int z21, .int z22, .int z23, .int z25, .int z26]) := by rw [hF32]; exact th_up
    refine lv_aload_n hx hb dX3_read_10 rfl (lv_at hl 0 rfl) ?_
    refine lv_aload_n hx hb dX3_read_11 rfl (lv_at hl 3 rfl) ?_
    refine th_put (D := (dC, dI)) (ci := 3) (v := .ref a3) (ty := .object "LaneWarps$Program") (C := RX3) (T := TX3) (N := 15) hx hb hts inX3 tyX3 tyX3_ok nmX3 hown hK hP hD hS (hLK _ ha0 (by decide)) o33 rfl 6 (by decide) (hts _ T_211) (fun _ h9 => h9) rfl (by decide +kernel) rfl rfl (Nat.le_of_ble_eq_true rfl) dX3_read_12 (fun H locs hP hS => ?_)
    have hP : va_P (dC, dI) vwCl (va_pl L (va_up F31 a0 (.inr (3, [.ref z3, .ref z5, .ref z7, .ref z9, .ref a1, .int x2, .ref a3, .int z16, .int z17, .int z19, .int z21, .int z22, .int z23, .int z25, .int z26])))) H := hP
    obtain ⟨F34, hF35⟩ : ∃ G : Nat → va_E, G = va_up F31 a0 (.inr (3, [.ref z3, .ref z5, .ref z7, .ref z9, .ref a1, .int x2, .ref a3, .int z16, .int z17, .int z19, .int z21, .int z22, .int z23, .int z25, .int z26])) := ⟨_, rfl⟩
    rw [← hF35] at hP
    have hI : s_I K cs D F34 := by rw [hF35]; exact s_cl4 hI ha0 ⟨z3, z5, z7, z9, some a1, x2, some a3, z16, z17, z19, z21, z22, z23, z25, z26, rfl, h4, h6, h8, h10, (fun q e => by cases e; exact ha1), ⟨by omega, by omega⟩, ⟨by omega, by omega⟩, ⟨by omega, by omega⟩, ⟨by omega, by omega⟩, trivial⟩
    have hfr : ∀ b, K b ∉ [4, 8, 21, 24, 43] → F34 b = F b := by rw [hF35]; exact s_fr hfr ha0 (by decide)
    have o36 : F34 a0 = .inr (3, [.ref z3, .ref z5, .ref z7, .ref z9, .ref a1, .int x2, .ref a3, .int z16, .int z17, .int z19, .int z21, .int z22, .int z23, .int z25, .int z26]) := by rw [hF35]; exact th_up
    refine lv_aload_n hx hb dX3_read_15 rfl (lv_at hl 0 rfl) ?_
    refine th_get (D := (dC, dI)) (ci := 3) (v := .ref a3) (C := RX3) (T := TX3) (N := 15) hx hb hts inX3 hown hK hP (hLK _ ha0 (by decide)) o36 rfl 6 (by decide) (hts _ T_211) (fun _ h9 => h9) rfl dX3_read_16 ?_
    obtain ⟨z37, z39, z41, z43, z45, z47, z48, o49, h38, h40, h42, h44, h46, -⟩ := s_op8 hI ha3
    have hIq := hI
    refine va_callv (va_runV (As := []) (rest := []) ⟨hx, hb, hml, hown, hts⟩ (s_X2_clear l dC dI H.size hLK D F34 a3 ha3 hI) (cwV 0 hts (ax_gV T_212 T_213 T_214 T_168 T_12) rfl rfl rfl (by decide +kernel) ⟨Nat.le_of_ble_eq_true rfl, Nat.le_of_ble_eq_true rfl⟩) ⟨fun a U g mk q => ⟨q.1, s_pc (U := U) rfl rfl q.2⟩, s_recv hK hP (hLK _ ha3 (by decide)) (ci := 2) rfl o49, fun U hU hW => ⟨rfl, s_pw hU hW hP hK hD hN⟩⟩ rfl rfl hl.1 rfl (lv_room (Nat.le_of_ble_eq_true rfl)) dX3_read_19 ⟨Nat.zero_le _, Nat.zero_le _⟩) hS (fun q _ h => h) (fun q h => h) (fun F50 t H1 locs ht hvm hw hB hz1 hk1 hS => ?_)
    obtain ⟨hP, hK1⟩ := hB
    rw [ht] at hP
    generalize H1 = H at hP hS ⊢
    clear hz1 hk1
    obtain ⟨h51, h52, hI, hfr1⟩ := hw
    have o53 : F50 a0 = .inr (3, [.ref z3, .ref z5, .ref z7, .ref z9, .ref a1, .int x2, .ref a3, .int z16, .int z17, .int z19, .int z21, .int z22, .int z23, .int z25, .int z26]) := (hfr1 _ (by rw [ha0]; decide)).trans o36
    have hfr : ∀ b, K b ∉ [4, 8, 21, 24, 43] → F50 b = F b := fun b hb9 => (hfr1 b (fun q => hb9 (s_sub (by decide) q))).trans (hfr b hb9)
    obtain ⟨h52, h54⟩ := h52
    have h54 : (∀ vs z, F50 a3 = .inr (2, vs) → (vs[3]? = some (.int z) ∨ vs[5]? = some (.int z) ∨ vs[6]? = some (.int z)) → z = 0) := h54
    have hq : s_QG cs F50 a3 0 := ⟨fun w0 vs ln fr i r f q1 q2 q3 hi => by have q8 := h54 _ ln q1 (Or.inl q2); have q9 : (0 : Int32).toInt = 0 := (by decide); rw [q8] at hi; omega, fun vs z q1 q2 => by rw [h54 vs z q1 (Or.inr q2)]; decide⟩
    refine lv_aload_n hx hb dX3_read_22 rfl (lv_at hl 0 rfl) ?_
    refine lv_iconst (v := 0) hx hb dX3_read_23 (by decide) ?_
    refine th_put (D := (dC, dI)) (ci := 3) (v := .int 0) (ty := .int) (C := RX3) (T := TX3) (N := 15) hx hb hts inX3 tyX3 tyX3_ok nmX3 hown hK hP hD hS (hLK _ ha0 (by decide)) o53 rfl 7 (by decide) (hts _ T_204) (fun _ h9 => h9) rfl (by decide +kernel) rfl rfl (Nat.le_of_ble_eq_true rfl) dX3_read_24 (fun H locs hP hS => ?_)
    have hIq := hI
    have hP : va_P (dC, dI) vwCl (va_pl L (va_up F50 a0 (.inr (3, [.ref z3, .ref z5, .ref z7, .ref z9, .ref a1, .int x2, .ref a3, .int 0, .int z17, .int z19, .int z21, .int z22, .int z23, .int z25, .int z26])))) H := hP
    obtain ⟨F55, hF56⟩ : ∃ G : Nat → va_E, G = va_up F50 a0 (.inr (3, [.ref z3, .ref z5, .ref z7, .ref z9, .ref a1, .int x2, .ref a3, .int 0, .int z17, .int z19, .int z21, .int z22, .int z23, .int z25, .int z26])) := ⟨_, rfl⟩
    rw [← hF56] at hP
    have hI : s_I K cs D F55 := by rw [hF56]; exact s_cl4 hI ha0 ⟨z3, z5, z7, z9, some a1, x2, some a3, 0, z17, z19, z21, z22, z23, z25, z26, rfl, h4, h6, h8, h10, (fun q e => by cases e; exact ha1), ⟨by omega, by omega⟩, ⟨by omega, by omega⟩, ⟨by omega, by omega⟩, ⟨by omega, by omega⟩, trivial⟩
    have hfr : ∀ b, K b ∉ [4, 8, 21, 24, 43] → F55 b = F b := by rw [hF56]; exact s_fr hfr ha0 (by decide)
    have hq := s_QGo hIq ha3 ha0 (by decide) hF56 hq
    have o57 : F55 a0 = .inr (3, [.ref z3, .ref z5, .ref z7, .ref z9, .ref a1, .int x2, .ref a3, .int 0, .int z17, .int z19, .int z21, .int z22, .int z23, .int z25, .int z26]) := by rw [hF56]; exact th_up
    refine lv_aload_n hx hb dX3_read_27 rfl (lv_at hl 0 rfl) ?_
    refine lv_iconst (v := 0) hx hb dX3_read_28 (by decide) ?_
    refine th_put (D := (dC, dI)) (ci := 3) (v := .int 0) (ty := .int) (C := RX3) (T := TX3) (N := 15) hx hb hts inX3 tyX3 tyX3_ok nmX3 hown hK hP hD hS (hLK _ ha0 (by decide)) o57 rfl 9 (by decide) (hts _ T_205) (fun _ h9 => h9) rfl (by decide +kernel) rfl rfl (Nat.le_of_ble_eq_true rfl) dX3_read_29 (fun H locs hP hS => ?_)
    have hIq := hI
    have hP : va_P (dC, dI) vwCl (va_pl L (va_up F55 a0 (.inr (3, [.ref z3, .ref z5, .ref z7, .ref z9, .ref a1, .int x2, .ref a3, .int 0, .int z17, .int 0, .int z21, .int z22, .int z23, .int z25, .int z26])))) H := hP
    obtain ⟨F58, hF59⟩ : ∃ G : Nat → va_E, G = va_up F55 a0 (.inr (3, [.ref z3, .ref z5, .ref z7, .ref z9, .ref a1, .int x2, .ref a3, .int 0, .int z17, .int 0, .int z21, .int z22, .int z23, .int z25, .int z26])) := ⟨_, rfl⟩
    rw [← hF59] at hP
    have hI : s_I K cs D F58 := by rw [hF59]; exact s_cl4 hI ha0 ⟨z3, z5, z7, z9, some a1, x2, some a3, 0, z17, 0, z21, z22, z23, z25, z26, rfl, h4, h6, h8, h10, (fun q e => by cases e; exact ha1), ⟨by omega, by omega⟩, ⟨by omega, by omega⟩, (by decide), ⟨by omega, by omega⟩, trivial⟩
    have hfr : ∀ b, K b ∉ [4, 8, 21, 24, 43] → F58 b = F b := by rw [hF59]; exact s_fr hfr ha0 (by decide)
    have hq := s_QGo hIq ha3 ha0 (by decide) hF59 hq
    have o60 : F58 a0 = .inr (3, [.ref z3, .ref z5, .ref z7, .ref z9, .ref a1, .int x2, .ref a3, .int 0, .int z17, .int 0, .int z21, .int z22, .int z23, .int z25, .int z26]) := by rw [hF59]; exact th_up
    refine lv_aload_n hx hb dX3_read_32 rfl (lv_at hl 0 rfl) ?_
    refine lv_iconst (v := 0) hx hb dX3_read_33 (by decide) ?_
    refine th_put (D := (dC, dI)) (ci := 3) (v := .int 0) (ty := .int) (C := RX3) (T := TX3) (N := 15) hx hb hts inX3 tyX3 tyX3_ok nmX3 hown hK hP hD hS (hLK _ ha0 (by decide)) o60 rfl 13 (by decide) (hts _ T_209) (fun _ h9 => h9) rfl (by decide +kernel) rfl rfl (Nat.le_of_ble_eq_true rfl) dX3_read_34 (fun H locs hP hS => ?_)
    have hIq := hI
    have hP : va_P (dC, dI) vwCl (va_pl L (va_up F58 a0 (.inr (3, [.ref z3, .ref z5, .ref z7, .ref z9, .ref a1, .int x2, .ref a3, .int 0, .int z17, .int 0, .int z21, .int z22, .int z23, .int 0, .int z26])))) H := hP
    obtain ⟨F61, hF62⟩ : ∃ G : Nat → va_E, G = va_up F58 a0 (.inr (3, [.ref z3, .ref z5, .ref z7, .ref z9, .ref a1, .int x2, .ref a3, .int 0, .int z17, .int 0, .int z21, .int z22, .int z23, .int 0, .int z26])) := ⟨_, rfl⟩
    rw [← hF62] at hP
    have hI : s_I K cs D F61 := by rw [hF62]; exact s_cl4 hI ha0 ⟨z3, z5, z7, z9, some a1, x2, some a3, 0, z17, 0, z21, z22, z23, 0, z26, rfl, h4, h6, h8, h10, (fun q e => by cases e; exact ha1), ⟨by omega, by omega⟩, ⟨by omega, by omega⟩, (by decide), ⟨by omega, by omega⟩, trivial⟩
    have hfr : ∀ b, K b ∉ [4, 8, 21, 24, 43] → F61 b = F b := by rw [hF62]; exact s_fr hfr ha0 (by decide)
    have hq := s_QGo hIq ha3 ha0 (by decide) hF62 hq
    have o63 : F61 a0 = .inr (3, [.ref z3, .ref z5, .ref z7, .ref z9, .ref a1, .int x2, .ref a3, .int 0, .int z17, .int 0, .int z21, .int z22, .int z23, .int 0, .int z26]) := by rw [hF62]; exact th_up
    refine lv_aload_n hx hb dX3_read_37 rfl (lv_at hl 0 rfl) ?_
    refine lv_iconst (v := (-1)) hx hb dX3_read_38 (by decide) ?_
    refine th_put (D := (dC, dI)) (ci := 3) (v := .int (-1)) (ty := .int) (C := RX3) (T := TX3) (N := 15) hx hb hts inX3 tyX3 tyX3_ok nmX3 hown hK hP hD hS (hLK _ ha0 (by decide)) o63 rfl 14 (by decide) (hts _ T_133) (fun _ h9 => h9) rfl (by decide +kernel) rfl rfl (Nat.le_of_ble_eq_true rfl) dX3_read_39 (fun H locs hP hS => ?_)
    have hIq := hI
    have hP : va_P (dC, dI) vwCl (va_pl L (va_up F61 a0 (.inr (3, [.ref z3, .ref z5, .ref z7, .ref z9, .ref a1, .int x2, .ref a3, .int 0, .int z17, .int 0, .int z21, .int z22, .int z23, .int 0, .int (-1)])))) H := hP
    obtain ⟨F64, hF65⟩ : ∃ G : Nat → va_E, G = va_up F61 a0 (.inr (3, [.ref z3, .ref z5, .ref z7, .ref z9, .ref a1, .int x2, .ref a3, .int 0, .int z17, .int 0, .int z21, .int z22, .int z23, .int 0, .int (-1)])) := ⟨_, rfl⟩
    rw [← hF65] at hP
    have hI : s_I K cs D F64 := by rw [hF65]; exact s_cl4 hI ha0 ⟨z3, z5, z7, z9, some a1, x2, some a3, 0, z17, 0, z21, z22, z23, 0, (-1), rfl, h4, h6, h8, h10, (fun q e => by cases e; exact ha1), ⟨by omega, by omega⟩, ⟨by omega, by omega⟩, (by decide), ⟨by omega, by omega⟩, trivial⟩
    have hfr : ∀ b, K b ∉ [4, 8, 21, 24, 43] → F64 b = F b := by rw [hF65]; exact s_fr hfr ha0 (by decide)
    have hq := s_QGo hIq ha3 ha0 (by decide) hF65 hq
    have o66 : F64 a0 = .inr (3, [.ref z3, .ref z5, .ref z7, .ref z9, .ref a1, .int x2, .ref a3, .int 0, .int z17, .int 0, .int z21, .int z22, .int z23, .int 0, .int (-1)]) := by rw [hF65]; exact th_up
    refine lv_iconst (v := 1) hx hb dX3_read_42 (by decide) ?_
    refine lv_istore (lv' := [(4, .int 1), (0, .ref a0), (1, .ref a1), (2, .int x2), (3, .ref a3)]) hx hb dX3_read_43 hl (by decide) rfl (fun ls hl => ?_)
    refine lv_aload_n hx hb dX3_read_45 rfl (lv_at hl 1 rfl) ?_
    have hIq := hI
    refine va_callv (va_runV (As := []) (rest := []) ⟨hx, hb, hml, hown, hts⟩ (s_X3_scan l dC dI H.size hLK D adK adV tf F64 a0 ha0 hI a1 a3 ⟨z3, z5, z7, z9, x2, 0, z17, 0, z21, z22, z23, 0, (-1), o66, h4, h6, h8, h10, ha1, ⟨by omega, by omega⟩, ha3, ⟨by omega, by omega⟩, (by decide), ⟨by omega, by omega⟩, trivial⟩) (cwV 0 hts (ax_gV T_215 T_216 T_217 T_163 T_13) rfl rfl rfl (by decide +kernel) ⟨Nat.le_of_ble_eq_true rfl, Nat.le_of_ble_eq_true rfl⟩) ⟨fun a U g mk q => ⟨q.1, s_pc (U := U) rfl rfl q.2.1, s_pcZ (U := U) rfl rfl q.2.2⟩, s_recv hK hP (hLK _ ha0 (by decide)) (ci := 3) rfl o66, fun U hU hW => ⟨rfl, s_pw hU hW hP hK hD hN, s_pwZ hU hW hS hZ⟩⟩ rfl rfl hl.1 rfl (lv_room (Nat.le_of_ble_eq_true rfl)) dX3_read_46 ⟨Nat.zero_le _, Nat.zero_le _⟩) hS (fun q _ h => h) (fun q h => h) (fun F67 t H1 locs ht hvm hw hB hz1 hk1 hS => ?_)
    obtain ⟨hP, hK1⟩ := hB
    rw [ht] at hP
    generalize H1 = H at hP hS ⊢
    clear hz1 hk1
    obtain ⟨h68, h69, hI, hfr1, h70⟩ := hw
    have hq := s_QGt hIq ha3 (fun b hb9 => hfr1 b (by rcases hb9 with q | q | q <;> (rw [q]; decide))) hq
    have hfr : ∀ b, K b ∉ [4, 8, 21, 24, 43] → F67 b = F b := fun b hb9 => (hfr1 b (fun q => hb9 (s_sub (by decide) q))).trans (hfr b hb9)
    obtain ⟨z71, z73, z75, z77, z80, z83, z84, z86, z88, z89, z90, z92, z93, o95, h72, h74, h76, h78, h79, h81, h82, h85, h87, h91, h94, -⟩ := h70
    refine lv_iconst (v := 0) hx hb dX3_read_49 (by decide) ?_
    refine lv_istore (lv' := [(5, .int 0), (4, .int 1), (0, .ref a0), (1, .ref a1), (2, .int x2), (3, .ref a3)]) hx hb dX3_read_50 hl (by decide) rfl (fun ls hl => ?_)
    refine th_loop (fun n g H locs => ∃ (G : Nat → va_E) (ls : Array Slot) (w96 : Int32) (w97 : Int32), g = F0 m 52 ls [] ∧ lv_has ls 6 [(0, .ref a0), (4, .int w96), (5, .int w97)] ∧ s_I K cs D G ∧ va_P (dC, dI) vwCl (va_pl L G) H ∧ va_S (fun q => q ∈ L) s.heap H locs ∧ (∀ b, K b ∉ [4, 8, 21, 24, 43] → G b = F b) ∧ (0 ≤ w96.toInt ∧ w96.toInt ≤ 1) ∧ (0 ≤ w97.toInt ∧ w97.toInt ≤ 81) ∧ (w96.toInt = 0 ∨ s_QG cs G a3 0) ∧ s_rd4 K G a0 a1 a3 ∧ n = (82 - w97.toInt).toNat) _ ⟨F67, _, 1, 0, rfl, lv_sub hl [2, 1, 0] rfl, hI, hP, hS, hfr, (by decide), (by decide), (Or.inr hq), ⟨z71, z73, z75, z77, z80, z83, z84, z86, z88, z89, z90, z92, z93, o95, h72, h74, h76, h78, h79, ⟨by omega, by omega⟩, h82, ⟨by omega, by omega⟩, ⟨by omega, by omega⟩, ⟨by omega, by omega⟩, (fun q => by first | omega | exact absurd q (by decide)), trivial⟩, rfl⟩ (fun n ih52 g H locs hq => ?_)
    obtain ⟨F9, ls, w96, w97, rfl, hl, hI, hP, hS, hfr, h98, h99, h100, h101, hn⟩ := hq
    obtain ⟨z102, z104, z106, z108, z111, z114, z115, z117, z119, z120, z121, z123, z124, o126, h103, h105, h107, h109, h110, h112, h113, h116, h118, h122, h125, -⟩ := h101
    have hn_52 := hn
    obtain ⟨n_52, hn9_52⟩ : ∃ q, q = n := ⟨_, rfl⟩
    refine lv_iload hx hb dX3_read_52 (lv_at hl 1 rfl) ?_
    refine lv_if_eq (tgt := 85) hx hb dX3_read_54 (by decide) (fun c127 => ?_) (fun c127 => ?_)
    · have c127 := (ax_eq (n := 0) (by decide)).mp c127
      exact K85 _ _ _ ⟨F9, _, w96, rfl, lv_sub hl [0, 1] rfl, hI, hP, hS, hfr, ⟨by omega, by omega⟩, h100, ⟨z102, z104, z106, z108, z111, z114, z115, z117, z119, z120, z121, z123, z124, o126, h103, h105, h107, h109, h110, ⟨by omega, by omega⟩, h113, ⟨by omega, by omega⟩, ⟨by omega, by omega⟩, ⟨by omega, by omega⟩, (fun q => by first | omega | exact absurd q (by decide)), trivial⟩⟩
    · have c127 := mt (ax_eq (n := 0) (by decide)).mpr c127
      have hq := h100.resolve_left c127
      refine lv_aload_n hx hb dX3_read_57 rfl (lv_at hl 0 rfl) ?_
      refine th_get (D := (dC, dI)) (ci := 3) (v := .int z114) (C := RX3) (T := TX3) (N := 15) hx hb hts inX3 hown hK hP (hLK _ ha0 (by decide)) o126 rfl 7 (by decide) (hts _ T_204) (fun _ h9 => h9) rfl dX3_read_58 ?_
      refine lv_if_eq (tgt := 85) hx hb dX3_read_61 (by decide) (fun c128 => ?_) (fun c128 => ?_)
      · have c128 := (ax_eq (n := 0) (by decide)).mp c128
        exact K85 _ _ _ ⟨F9, _, w96, rfl, lv_sub hl [0, 1] rfl, hI, hP, hS, hfr, ⟨by omega, by omega⟩, (Or.inr hq), ⟨z102, z104, z106, z108, z111, z114, z115, z117, z119, z120, z121, z123, z124, o126, h103, h105, h107, h109, h110, ⟨by omega, by omega⟩, h113, ⟨by omega, by omega⟩, ⟨by omega, by omega⟩, ⟨by omega, by omega⟩, (fun q => by first | omega | exact absurd q (by decide)), trivial⟩⟩
      · have c128 := mt (ax_eq (n := 0) (by decide)).mpr c128
        refine lv_iload hx hb dX3_read_64 (lv_at hl 2 rfl) ?_
        refine lv_bipush (v := 80) hx hb dX3_read_66 (by decide) ?_
        refine lv_icmp_gt (tgt := 85) hx hb dX3_read_68 (by decide) (fun c129 => ?_) (fun c129 => ?_)
        · have c129 := (ax_gt (n := 80) (by decide)).mp c129
          exact K85 _ _ _ ⟨F9, _, w96, rfl, lv_sub hl [0, 1] rfl, hI, hP, hS, hfr, ⟨by omega, by omega⟩, (Or.inr hq), ⟨z102, z104, z106, z108, z111, z114, z115, z117, z119, z120, z121, z123, z124, o126, h103, h105, h107, h109, h110, ⟨by omega, by omega⟩, h113, ⟨by omega, by omega⟩, ⟨by omega, by omega⟩, ⟨by omega, by omega⟩, (fun q => by first | omega | exact absurd q (by decide)), trivial⟩⟩
        · have c129 := mt (ax_gt (n := 80) (by decide)).mpr c129
          refine lv_aload_n hx hb dX3_read_71 rfl (lv_at hl 0 rfl) ?_
          refine lv_iload hx hb dX3_read_72 (lv_at hl 2 rfl) ?_
          have hIq := hI
          refine va_calli (va_runV (As := [.int w97]) (rest := []) ⟨hx, hb, hml, hown, hts⟩ (s_X3_readStatement l dC dI H.size hLK D adK adV tf F9 a0 w97 ha0 (⟨by omega, by omega⟩) hI a1 a3 ⟨z102, z104, z106, z108, z111, z114, z115, z117, z119, z120, z121, z123, z124, o126, h103, h105, h107, h109, h110, ⟨by omega, by omega⟩, h113, ⟨by omega, by omega⟩, ⟨by omega, by omega⟩, ⟨by omega, by omega⟩, (fun q => by first | omega | exact absurd q (by decide)), trivial⟩ (s_RIt hfr (by decide) hRI) hq) (cwV 1 hts (ax_gV T_777 T_779 T_780 T_163 T_778) rfl rfl rfl (by decide +kernel) ⟨Nat.le_of_ble_eq_true rfl, Nat.le_of_ble_eq_true rfl⟩) ⟨fun a U g mk q => ⟨q.1, s_pc (U := U) rfl rfl q.2.1, s_pcZ (U := U) rfl rfl q.2.2⟩, s_recv hK hP (hLK _ ha0 (by decide)) (ci := 3) rfl o126, fun U hU hW => ⟨rfl, s_pw hU hW hP hK hD hN, s_pwZ hU hW hS hZ⟩⟩ rfl rfl hl.1 rfl (lv_room (Nat.le_of_ble_eq_true rfl)) dX3_read_74 ⟨Nat.zero_le _, Nat.zero_le _⟩) hS (fun q _ h => h) (fun q h => h) (fun r130 F131 t H1 locs ht hvm hw hB hz1 hk1 hS => ?_)
          obtain ⟨hP, hK1⟩ := hB
          rw [ht] at hP
          generalize H1 = H at hP hS ⊢
          clear hz1 hk1
          obtain ⟨h132, h133, hI, hfr1, h134⟩ := hw
          have hfr : ∀ b, K b ∉ [4, 8, 21, 24, 43] → F131 b = F b := fun b hb9 => (hfr1 b (fun q => hb9 (s_sub (by decide) q))).trans (hfr b hb9)
          obtain ⟨h133, h135⟩ := h133
          have h135 : (¬ r130 = 0 → s_QG cs F131 a3 0) := h135
          obtain ⟨z136, z138, z140, z142, z145, z148, z149, z151, z153, z154, z155, z157, z158, o160, h137, h139, h141, h143, h144, h146, h147, h150, h152, h156, h159, -⟩ := h134
          refine lv_istore (lv' := [(4, .int r130), (0, .ref a0), (5, .int w97)]) hx hb dX3_read_77 hl (by decide) rfl (fun ls hl => ?_)
          obtain ⟨v161, ev161⟩ : ∃ y : Int32, w97 + 1 = y := ⟨_, rfl⟩
          have qv161 : v161.toInt = w97.toInt + 1 := by rw [← ev161]; exact th_add rfl (by decide) ⟨by omega, by omega⟩
          refine lv_iinc (v := v161) (lv' := [(5, .int v161), (4, .int r130), (0, .ref a0)]) hx hb dX3_read_79 hl (k := 2) rfl ev161 (by decide) rfl (fun ls hl => ?_)
          refine lv_goto (tgt := 52) hx hb dX3_read_82 (by decide) ?_
          exact ih52 _ _ _ _ (by omega) ⟨F131, _, r130, v161, rfl, lv_sub hl [2, 1, 0] rfl, hI, hP, hS, hfr, ⟨by omega, by omega⟩, ⟨by omega, by omega⟩, ((Classical.em (r130 = 0)).elim (fun q => Or.inl (by rw [q]; decide)) (fun q => Or.inr (h135 q))), ⟨z136, z138, z140, z142, z145, z148, z149, z151, z153, z154, z155, z157, z158, o160, h137, h139, h141, h143, h144, ⟨by omega, by omega⟩, h147, ⟨by omega, by omega⟩, ⟨by omega, by omega⟩, ⟨by omega, by omega⟩, (fun q => by first | omega | exact absurd q (by decide)), trivial⟩, rfl⟩
  · intro g H locs hq
    obtain ⟨F9, ls, w2, rfl, hl, hI, hP, hS, hfr, h162, h163, h164⟩ := hq
    obtain ⟨z165, z167, z169, z171, z174, z177, z178, z180, z182, z183, z184, z186, z187, o189, h166, h168, h170, h172, h173, h175, h176, h179, h181, h185, h188, -⟩ := h164
    refine lv_iload hx hb dX3_read_85 (lv_at hl 1 rfl) ?_
    refine lv_if_eq (tgt := 110) hx hb dX3_read_87 (by decide) (fun c190 => ?_) (fun c190 => ?_)
    · have c190 := (ax_eq (n := 0) (by decide)).mp c190
      exact K110 _ _ _ ⟨F9, _, w2, rfl, lv_sub hl [0, 1] rfl, hI, hP, hS, hfr, ⟨by omega, by omega⟩, h163, ⟨z165, z167, z169, z171, z174, z177, z178, z180, z182, z183, z184, z186, z187, o189, h166, h168, h170, h172, h173, ⟨by omega, by omega⟩, h176, ⟨by omega, by omega⟩, ⟨by omega, by omega⟩, ⟨by omega, by omega⟩, (fun q => by first | omega | exact absurd q (by decide)), trivial⟩⟩
    · have c190 := mt (ax_eq (n := 0) (by decide)).mpr c190
      have hq := h163.resolve_left c190
      refine lv_aload_n hx hb dX3_read_90 rfl (lv_at hl 0 rfl) ?_
      refine th_get (D := (dC, dI)) (ci := 3) (v := .ref a3) (C := RX3) (T := TX3) (N := 15) hx hb hts inX3 hown hK hP (hLK _ ha0 (by decide)) o189 rfl 6 (by decide) (hts _ T_211) (fun _ h9 => h9) rfl dX3_read_91 ?_
      obtain ⟨z191, z193, z195, z197, z199, z201, z202, o203, h192, h194, h196, h198, h200, -⟩ := s_op8 hI h176
      refine th_getN (D := (dC, dI)) (ci := 2) (v := .int z197) (C := RX2) (T := TX2) (N := 7) hx hb hts inX2 hown hK hP (hLK _ h176 (by decide)) o203 rfl 3 (by decide) (va_Nw.use rfl (ax_n9 hN)) (fun _ h9 => h9) rfl dX3_read_94 ?_
      refine lv_if_ne (tgt := 110) hx hb dX3_read_97 (by decide) (fun c204 => ?_) (fun c204 => ?_)
      · have c204 := mt (ax_eq (n := 0) (by decide)).mpr c204
        exact K110 _ _ _ ⟨F9, _, w2, rfl, lv_sub hl [0, 1] rfl, hI, hP, hS, hfr, ⟨by omega, by omega⟩, (Or.inr hq), ⟨z165, z167, z169, z171, z174, z177, z178, z180, z182, z183, z184, z186, z187, o189, h166, h168, h170, h172, h173, ⟨by omega, by omega⟩, h176, ⟨by omega, by omega⟩, ⟨by omega, by omega⟩, ⟨by omega, by omega⟩, (fun q => by first | omega | exact absurd q (by decide)), trivial⟩⟩
      · have c204 := (ax_eq (n := 0) (by decide)).mp c204
        refine lv_aload_n hx hb dX3_read_100 rfl (lv_at hl 0 rfl) ?_
        refine lv_iconst (v := 1) hx hb dX3_read_101 (by decide) ?_
        refine lv_aload_n hx hb dX3_read_102 rfl (lv_at hl 0 rfl) ?_
        refine th_get (D := (dC, dI)) (ci := 3) (v := .int z174) (C := RX3) (T := TX3) (N := 15) hx hb hts inX3 hown hK hP (hLK _ ha0 (by decide)) o189 rfl 5 (by decide) (hts _ T_207) (fun _ h9 => h9) rfl dX3_read_103 ?_
        have hIq := hI
        refine va_calli (va_runV (As := [.int 1, .int z174]) (rest := []) ⟨hx, hb, hml, hown, hts⟩ (s_X3_fail l dC dI H.size hLK D F9 a0 1 z174 ha0 hI a1 a3 ⟨z165, z167, z169, z171, z174, z177, z178, z180, z182, z183, z184, z186, z187, o189, h166, h168, h170, h172, h173, ⟨by omega, by omega⟩, h176, ⟨by omega, by omega⟩, ⟨by omega, by omega⟩, ⟨by omega, by omega⟩, (fun q => by first | omega | exact absurd q (by decide)), trivial⟩) (cwV 2 hts (ax_gV T_218 T_219 T_220 T_163 T_14) rfl rfl rfl (by decide +kernel) ⟨Nat.le_of_ble_eq_true rfl, Nat.le_of_ble_eq_true rfl⟩) ⟨fun a U g mk q => ⟨q.1, s_pc (U := U) rfl rfl q.2⟩, s_recv hK hP (hLK _ ha0 (by decide)) (ci := 3) rfl o189, fun U hU hW => ⟨rfl, s_pw hU hW hP hK hD hN⟩⟩ rfl rfl hl.1 rfl (lv_room (Nat.le_of_ble_eq_true rfl)) dX3_read_106 ⟨Nat.zero_le _, Nat.zero_le _⟩) hS (fun q _ h => h) (fun q h => h) (fun r205 F206 t H1 locs ht hvm hw hB hz1 hk1 hS => ?_)
        obtain ⟨hP, hK1⟩ := hB
        rw [ht] at hP
        generalize H1 = H at hP hS ⊢
        clear hz1 hk1
        obtain ⟨h207, h208, hI, hfr1, h209⟩ := hw
        have o210 : F206 a3 = .inr (2, [.ref z191, .ref z193, .ref z195, .int z197, .int z199, .int z201, .int z202]) := (hfr1 _ (by rw [h176]; decide)).trans o203
        have hq := s_QGt hIq h176 (fun b hb9 => hfr1 b (by rcases hb9 with q | q | q <;> (rw [q]; decide))) hq
        have hfr : ∀ b, K b ∉ [4, 8, 21, 24, 43] → F206 b = F b := fun b hb9 => (hfr1 b (fun q => hb9 (s_sub (by decide) q))).trans (hfr b hb9)
        obtain ⟨h208, h211⟩ := h208
        have h211 : (∀ vs z, F206 a0 = .inr (3, vs) → vs[13]? = some (.int z) → z = 1) := h211
        obtain ⟨z212, z214, z216, z218, z221, z224, z225, z227, z229, z230, z231, z233, z234, o236, h213, h215, h217, h219, h220, h222, h223, h226, h228, h232, h235, -⟩ := h209
        exact W.zret (v := r205) (ty := .boolean) hx hb hr (th_nz ⟨by omega, by omega⟩) (fun t ht hW => ⟨⟨r205, F206, rfl, ⟨⟨by omega, by omega⟩, ⟨trivial, (fun q => absurd (th_z0 ⟨by omega, by omega⟩) q)⟩, hI, hfr⟩, by rw [ht]; exact hP, va_K.moved hW.alike hK⟩, hS.F ht⟩) hS.2.2 dX3_read_109
  · intro g H locs hq
    obtain ⟨F9, ls, w1, rfl, hl, hI, hP, hS, hfr, h237, h238, h239⟩ := hq
    obtain ⟨z240, z242, z244, z246, z249, z252, z253, z255, z257, z258, z259, z261, z262, o264, h241, h243, h245, h247, h248, h250, h251, h254, h256, h260, h263, -⟩ := h239
    refine lv_iload hx hb dX3_read_110 (lv_at hl 1 rfl) ?_
    refine lv_if_eq (tgt := 126) hx hb dX3_read_112 (by decide) (fun c265 => ?_) (fun c265 => ?_)
    · have c265 := (ax_eq (n := 0) (by decide)).mp c265
      refine lv_iconst (v := 0) hx hb dX3_read_126 (by decide) ?_
      exact W.zret (v := 0) (ty := .boolean) hx hb hr (by decide) (fun t ht hW => ⟨⟨0, F9, rfl, ⟨(by decide), ⟨trivial, (fun q => absurd rfl q)⟩, hI, hfr⟩, by rw [ht]; exact hP, va_K.moved hW.alike hK⟩, hS.F ht⟩) hS.2.2 dX3_read_127
    · have c265 := mt (ax_eq (n := 0) (by decide)).mpr c265
      have hq := h238.resolve_left c265
      refine lv_aload_n hx hb dX3_read_115 rfl (lv_at hl 0 rfl) ?_
      have hIq := hI
      refine va_calli (va_runV (As := []) (rest := []) ⟨hx, hb, hml, hown, hts⟩ (s_X3_aimAll l dC dI H.size hLK D F9 a0 ha0 hI a1 a3 ⟨z240, z242, z244, z246, z249, z252, z253, z255, z257, z258, z259, z261, z262, o264, h241, h243, h245, h247, h248, ⟨by omega, by omega⟩, h251, ⟨by omega, by omega⟩, ⟨by omega, by omega⟩, ⟨by omega, by omega⟩, (fun q => by first | omega | exact absurd q (by decide)), trivial⟩ hq) (cwV 0 hts (ax_gV T_781 T_783 T_784 T_163 T_782) rfl rfl rfl (by decide +kernel) ⟨Nat.le_of_ble_eq_true rfl, Nat.le_of_ble_eq_true rfl⟩) ⟨fun a U g mk q => ⟨q.1, s_pc (U := U) rfl rfl q.2⟩, s_recv hK hP (hLK _ ha0 (by decide)) (ci := 3) rfl o264, fun U hU hW => ⟨rfl, s_pw hU hW hP hK hD hN⟩⟩ rfl rfl hl.1 rfl (lv_room (Nat.le_of_ble_eq_true rfl)) dX3_read_116 ⟨Nat.zero_le _, Nat.zero_le _⟩) hS (fun q _ h => h) (fun q h => h) (fun r266 F267 t H1 locs ht hvm hw hB hz1 hk1 hS => ?_)
      obtain ⟨hP, hK1⟩ := hB
      rw [ht] at hP
      generalize H1 = H at hP hS ⊢
      clear hz1 hk1
      obtain ⟨h268, h269, hI, hfr1, h270⟩ := hw
      have hfr : ∀ b, K b ∉ [4, 8, 21, 24, 43] → F267 b = F b := fun b hb9 => (hfr1 b (fun q => hb9 (s_sub (by decide) q))).trans (hfr b hb9)
      obtain ⟨h269, h271⟩ := h269
      have h271 : (s_QG cs F267 a3 0 ∧ (¬ r266 = 0 → ∀ vs z, F267 a3 = .inr (2, vs) → vs[3]? = some (.int z) → s_AQ cs F267 a3 z.toInt)) := h271
      obtain ⟨z272, z274, z276, z278, z281, z284, z285, z287, z289, z290, z291, z293, z294, o296, h273, h275, h277, h279, h280, h282, h283, h286, h288, h292, h295, -⟩ := h270
      refine lv_if_eq (tgt := 126) hx hb dX3_read_119 (by decide) (fun c297 => ?_) (fun c297 => ?_)
      · have c297 := (ax_eq (n := 0) (by decide)).mp c297
        refine lv_iconst (v := 0) hx hb dX3_read_126 (by decide) ?_
        exact W.zret (v := 0) (ty := .boolean) hx hb hr (by decide) (fun t ht hW => ⟨⟨0, F267, rfl, ⟨(by decide), ⟨trivial, (fun q => absurd rfl q)⟩, hI, hfr⟩, by rw [ht]; exact hP, va_K.moved hW.alike hK⟩, hS.F ht⟩) hS.2.2 dX3_read_127
      · have c297 := mt (ax_eq (n := 0) (by decide)).mpr c297
        obtain ⟨hqa, hqb⟩ := h271
        have hqb := hqb (fun q => c297 (by rw [q]; decide))
        refine lv_iconst (v := 1) hx hb dX3_read_122 (by decide) ?_
        refine lv_goto (tgt := 127) hx hb dX3_read_123 (by decide) ?_
        exact W.zret (v := 1) (ty := .boolean) hx hb hr (by decide) (fun t ht hW => ⟨⟨1, F267, rfl, ⟨(by decide), ⟨trivial, (fun _ => ⟨hqa, hqb⟩)⟩, hI, hfr⟩, by rw [ht]; exact hP, va_K.moved hW.alike hK⟩, hS.F ht⟩) hS.2.2 dX3_read_127

