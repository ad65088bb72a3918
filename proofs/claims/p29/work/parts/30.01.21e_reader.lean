set_option maxHeartbeats 4000000 in
set_option maxRecDepth 100000 in
theorem st_X3_readStatement (l : Launch) (dC : Nat → ClassId) (dI : Nat → Nat → Nat) (sz : Nat) {L : List Nat} {K : Nat → Nat} {cs : Nat → ClassId} (hLK : ∀ a {k : Nat}, K a = k → k ≠ 0 → a ∈ L) (D : Nat) (adK adV : Nat → Nat) (tf : Option Nat) (F : Nat → va_E) (a0 : Nat) (x1 : Int32) (ha0 : K a0 = 4) (hx1 : 0 ≤ x1.toInt ∧ x1.toInt ≤ 80) (hI : s_I K cs D F) (tt qq : Nat) (hR : s_rd4 K F a0 tt qq) (hRI : s_RI K cs F) (hq : s_QG cs F qq 0) : Met l yX3_readStatement (Cond.code yX3_readStatement cX3_readStatement 5 (some .boolean) :: T0) ({ frames := 8, cells := 0, slots := 0, locals := 176 }) (va_Pc [.ref a0, .int x1] (s_WZ dC dI sz L F [(cs 0, .int), (cs 1, .byte), (cs 2, .long), (cs 3, .object RX5), (cs 4, .object RX4), (cs 5, .array .int), (cs 6, .char), (cs 7, .boolean)] adK adV tf)) (va_Qi (fun (r : Int32) (G : Nat → va_E) => (0 ≤ r.toInt ∧ r.toInt ≤ 1) ∧ ((¬ r = 0 → 0 ≤ x1.toInt ∧ x1.toInt ≤ 79) ∧ (¬ r = 0 → s_QG cs G qq 0)) ∧ s_I K cs D G ∧ (∀ b, K b ∉ [4, 8, 21, 24, 43] → G b = F b) ∧ s_rd4 K G a0 tt qq) (fun (G : Nat → va_E) (t : State) => va_P (dC, dI) vwCl (va_pl L G) t.heap ∧ va_K (dC, dI) vwCl [(cs 0, .int), (cs 1, .byte), (cs 2, .long), (cs 3, .object RX5), (cs 4, .object RX4), (cs 5, .array .int), (cs 6, .char), (cs 7, .boolean)] t) (fun q => q ∈ L)) 0 0 (fun q => q ∈ L) := by
  refine Met.ofW (cc := cX3_readStatement) (maxL := 5) (ret := (some .boolean)) (by decide) rfl ?_
  intro p e s m args below meth c s₁ B hml hv
  obtain ⟨rfl, ⟨hsz, hP, hK, hD, hN⟩, hZ⟩ := hv
  have hx := B.exec
  have hb := B.bytes
  have hr := B.returns
  have hts : ∀ w ∈ T0, w.before _ s = true := fun w h => atoms_spec (ws := Cond.code yX3_readStatement cX3_readStatement 5 (some .boolean) :: T0) B.pre w (List.mem_cons_of_mem _ h)
  have hown : s.vm.findClass RX3 = some m.cls := findClass_of_methodNamed B.named
  have hlocks := B.notSynchronized
  have hS : va_S (fun q => q ∈ L) s.heap s.heap [] := va_S.rf
  have hfr : ∀ b, K b ∉ [4, 8, 21, 24, 43] → F b = F b := fun _ _ => rfl
  have hl := lv_entry ([.ref a0, .int x1]) (n := 5) (Nat.le_of_ble_eq_true rfl)
  rw [lg_entry_eq]
  generalize (lg_sl ([.ref a0, .int x1]) ++ List.replicate (5 - (lg_sl ([.ref a0, .int x1])).length) Slot.unset).toArray = ls at hl ⊢
  have hl : lv_has ls 5 [(0, .ref a0), (1, .int x1)] := hl
  refine s_gen hP hS (fun H locs hP hS => ?_)
  obtain ⟨z1, z3, z5, z7, z10, z13, z14, z16, z18, z19, z20, z22, z23, o25, h2, h4, h6, h8, h9, h11, h12, h15, h17, h21, h24, -⟩ := hR
  refine th_join (fun g H locs => ∃ (G : Nat → va_E) (ls : Array Slot) (w26 : Int32) (w27 : Int32), g = F0 m 39 ls [.int w26, .int w27] ∧ lv_has ls 5 [(0, .ref a0)] ∧ s_I K cs D G ∧ va_P (dC, dI) vwCl (va_pl L G) H ∧ va_S (fun q => q ∈ L) s.heap H locs ∧ (∀ b, K b ∉ [4, 8, 21, 24, 43] → G b = F b) ∧ (0 ≤ w26.toInt ∧ w26.toInt ≤ 1) ∧ (0 ≤ w27.toInt ∧ w27.toInt ≤ 1) ∧ s_QG cs G qq 0 ∧ s_rd4 K G a0 tt qq) (fun K39 => ?_) ?_
  refine th_join (fun g H locs => ∃ (G : Nat → va_E) (ls : Array Slot) (w28 : Int32), g = F0 m 25 ls [.int w28] ∧ lv_has ls 5 [(0, .ref a0)] ∧ s_I K cs D G ∧ va_P (dC, dI) vwCl (va_pl L G) H ∧ va_S (fun q => q ∈ L) s.heap H locs ∧ (∀ b, K b ∉ [4, 8, 21, 24, 43] → G b = F b) ∧ (0 ≤ w28.toInt ∧ w28.toInt ≤ 1) ∧ s_QG cs G qq 0 ∧ s_rd4 K G a0 tt qq) (fun K25 => ?_) ?_
  · refine lv_iload_n hx hb dX3_readStatement_0 rfl (lv_at hl 1 rfl) ?_
    refine lv_bipush (v := 80) hx hb dX3_readStatement_1 (by decide) ?_
    refine lv_icmp_ne (tgt := 16) hx hb dX3_readStatement_3 (by decide) (fun c29 => ?_) (fun c29 => ?_)
    · have c29 := mt (ax_eq (n := 80) (by decide)).mpr c29
      refine lv_iload_n hx hb dX3_readStatement_16 rfl (lv_at hl 1 rfl) ?_
      refine lv_if_ne (tgt := 24) hx hb dX3_readStatement_17 (by decide) (fun c30 => ?_) (fun c30 => ?_)
      · have c30 := mt (ax_eq (n := 0) (by decide)).mpr c30
        refine lv_iconst (v := 0) hx hb dX3_readStatement_24 (by decide) ?_
        exact K25 _ _ _ ⟨F, _, 0, rfl, lv_sub hl [0] rfl, hI, hP, hS, hfr, (by decide), hq, ⟨z1, z3, z5, z7, z10, z13, z14, z16, z18, z19, z20, z22, z23, o25, h2, h4, h6, h8, h9, ⟨by omega, by omega⟩, h12, ⟨by omega, by omega⟩, ⟨by omega, by omega⟩, ⟨by omega, by omega⟩, (fun q => by first | omega | exact absurd q (by decide)), trivial⟩⟩
      · have c30 := (ax_eq (n := 0) (by decide)).mp c30
        refine lv_iconst (v := 1) hx hb dX3_readStatement_20 (by decide) ?_
        refine lv_goto (tgt := 25) hx hb dX3_readStatement_21 (by decide) ?_
        exact K25 _ _ _ ⟨F, _, 1, rfl, lv_sub hl [0] rfl, hI, hP, hS, hfr, (by decide), hq, ⟨z1, z3, z5, z7, z10, z13, z14, z16, z18, z19, z20, z22, z23, o25, h2, h4, h6, h8, h9, ⟨by omega, by omega⟩, h12, ⟨by omega, by omega⟩, ⟨by omega, by omega⟩, ⟨by omega, by omega⟩, (fun q => by first | omega | exact absurd q (by decide)), trivial⟩⟩
    · have c29 := (ax_eq (n := 80) (by decide)).mp c29
      refine lv_aload_n hx hb dX3_readStatement_6 rfl (lv_at hl 0 rfl) ?_
      refine lv_iconst (v := 5) hx hb dX3_readStatement_7 (by decide) ?_
      refine lv_aload_n hx hb dX3_readStatement_8 rfl (lv_at hl 0 rfl) ?_
      refine th_get (D := (dC, dI)) (ci := 3) (v := .int z14) (C := RX3) (T := TX3) (N := 15) hx hb hts inX3 hown hK hP (hLK _ ha0 (by decide)) o25 rfl 8 (by decide) (hts _ T_206) (fun _ h9 => h9) rfl dX3_readStatement_9 ?_
      have hIq := hI
      refine va_calli (va_runV (As := [.int 5, .int z14]) (rest := []) ⟨hx, hb, hml, hown, hts⟩ (s_X3_fail l dC dI H.size hLK D F a0 5 z14 ha0 hI tt qq ⟨z1, z3, z5, z7, z10, z13, z14, z16, z18, z19, z20, z22, z23, o25, h2, h4, h6, h8, h9, ⟨by omega, by omega⟩, h12, ⟨by omega, by omega⟩, ⟨by omega, by omega⟩, ⟨by omega, by omega⟩, (fun q => by first | omega | exact absurd q (by decide)), trivial⟩) (cwV 2 hts (ax_gV T_218 T_219 T_220 T_163 T_14) rfl rfl rfl (by decide +kernel) ⟨Nat.le_of_ble_eq_true rfl, Nat.le_of_ble_eq_true rfl⟩) ⟨fun a U g mk q => ⟨q.1, s_pc (U := U) rfl rfl q.2⟩, s_recv hK hP (hLK _ ha0 (by decide)) (ci := 3) rfl o25, fun U hU hW => ⟨rfl, s_pw hU hW hP hK hD hN⟩⟩ rfl rfl hl.1 rfl (lv_room (Nat.le_of_ble_eq_true rfl)) dX3_readStatement_12 ⟨Nat.zero_le _, Nat.zero_le _⟩) hS (fun q _ h => h) (fun q h => h) (fun r31 F32 t H1 locs ht hvm hw hB hz1 hk1 hS => ?_)
      obtain ⟨hP, hK1⟩ := hB
      rw [ht] at hP
      generalize H1 = H at hP hS ⊢
      clear hz1 hk1
      obtain ⟨h33, h34, hI, hfr1, h35⟩ := hw
      have hq := s_QGt hIq h12 (fun b hb9 => hfr1 b (by rcases hb9 with q | q | q <;> (rw [q]; decide))) hq
      have hfr : ∀ b, K b ∉ [4, 8, 21, 24, 43] → F32 b = F b := fun b hb9 => (hfr1 b (fun q => hb9 (s_sub (by decide) q))).trans (hfr b hb9)
      obtain ⟨z37, z39, z41, z43, z45, z47, z49, z50, z51, z53, z55, z56, z57, z59, z60, o61, h38, h40, h42, h44, h46, h48, h52, h54, h58, -⟩ := s_op4 hI ha0
      obtain ⟨h34, h36⟩ := h34
      have h36 : (∀ vs z, F32 a0 = .inr (3, vs) → vs[13]? = some (.int z) → z = 5) := h36
      obtain ⟨z62, z64, z66, z68, z71, z74, z75, z77, z79, z80, z81, z83, z84, o86, h63, h65, h67, h69, h70, h72, h73, h76, h78, h82, h85, -⟩ := h35
      exact W.zret (v := r31) (ty := .boolean) hx hb hr (th_nz ⟨by omega, by omega⟩) (fun t ht hW => ⟨⟨r31, F32, rfl, ⟨⟨by omega, by omega⟩, ⟨(fun q => ⟨by omega, by omega⟩), (fun q => absurd (th_z0 ⟨by omega, by omega⟩) q)⟩, hI, hfr, ⟨z62, z64, z66, z68, z71, z74, z75, z77, z79, z80, z81, z83, z84, o86, h63, h65, h67, h69, h70, ⟨by omega, by omega⟩, h73, ⟨by omega, by omega⟩, ⟨by omega, by omega⟩, ⟨by omega, by omega⟩, (fun q => by first | omega | exact absurd q (by decide)), trivial⟩⟩, by rw [ht]; exact hP, va_K.moved hW.alike hK⟩, hS.F ht⟩) hS.2.2 dX3_readStatement_15
  · intro g H locs hq
    obtain ⟨F9, ls, w28, rfl, hl, hI, hP, hS, hfr, h87, h88, h89⟩ := hq
    obtain ⟨z90, z92, z94, z96, z99, z102, z103, z105, z107, z108, z109, z111, z112, o114, h91, h93, h95, h97, h98, h100, h101, h104, h106, h110, h113, -⟩ := h89
    have hq := h88
    refine lv_aload_n hx hb dX3_readStatement_25 rfl (lv_at hl 0 rfl) ?_
    refine th_get (D := (dC, dI)) (ci := 3) (v := .int z107) (C := RX3) (T := TX3) (N := 15) hx hb hts inX3 hown hK hP (hLK _ ha0 (by decide)) o114 rfl 10 (by decide) (hts _ T_208) (fun _ h9 => h9) rfl dX3_readStatement_26 ?_
    refine lv_bipush (v := 16) hx hb dX3_readStatement_29 (by decide) ?_
    refine lv_icmp_ne (tgt := 38) hx hb dX3_readStatement_31 (by decide) (fun c115 => ?_) (fun c115 => ?_)
    · have c115 := mt (ax_eq (n := 16) (by decide)).mpr c115
      refine lv_iconst (v := 0) hx hb dX3_readStatement_38 (by decide) ?_
      exact K39 _ _ _ ⟨F9, _, 0, w28, rfl, lv_sub hl [0] rfl, hI, hP, hS, hfr, (by decide), ⟨by omega, by omega⟩, hq, ⟨z90, z92, z94, z96, z99, z102, z103, z105, z107, z108, z109, z111, z112, o114, h91, h93, h95, h97, h98, ⟨by omega, by omega⟩, h101, ⟨by omega, by omega⟩, ⟨by omega, by omega⟩, ⟨by omega, by omega⟩, (fun q => by first | omega | exact absurd q (by decide)), trivial⟩⟩
    · have c115 := (ax_eq (n := 16) (by decide)).mp c115
      refine lv_iconst (v := 1) hx hb dX3_readStatement_34 (by decide) ?_
      refine lv_goto (tgt := 39) hx hb dX3_readStatement_35 (by decide) ?_
      exact K39 _ _ _ ⟨F9, _, 1, w28, rfl, lv_sub hl [0] rfl, hI, hP, hS, hfr, (by decide), ⟨by omega, by omega⟩, hq, ⟨z90, z92, z94, z96, z99, z102, z103, z105, z107, z108, z109, z111, z112, o114, h91, h93, h95, h97, h98, ⟨by omega, by omega⟩, h101, ⟨by omega, by omega⟩, ⟨by omega, by omega⟩, ⟨by omega, by omega⟩, (fun q => by first | omega | exact absurd q (by decide)), trivial⟩⟩
  · intro g H locs hq
    obtain ⟨F9, ls, w26, w27, rfl, hl, hI, hP, hS, hfr, h116, h117, h118, h119⟩ := hq
    obtain ⟨z120, z122, z124, z126, z129, z132, z133, z135, z137, z138, z139, z141, z142, o144, h121, h123, h125, h127, h128, h130, h131, h134, h136, h140, h143, -⟩ := h119
    have hq := h118
    refine lv_icmp_eq (tgt := 52) hx hb dX3_readStatement_39 (by decide) (fun c145 => ?_) (fun c145 => ?_)
    · have c145 := Int32.toInt_inj.symm.mp c145
      refine lv_aload_n hx hb dX3_readStatement_52 rfl (lv_at hl 0 rfl) ?_
      refine th_get (D := (dC, dI)) (ci := 3) (v := .int z137) (C := RX3) (T := TX3) (N := 15) hx hb hts inX3 hown hK hP (hLK _ ha0 (by decide)) o144 rfl 10 (by decide) (hts _ T_208) (fun _ h9 => h9) rfl dX3_readStatement_53 ?_
      refine lv_bipush (v := 15) hx hb dX3_readStatement_56 (by decide) ?_
      refine lv_icmp_gt (tgt := 70) hx hb dX3_readStatement_58 (by decide) (fun c146 => ?_) (fun c146 => ?_)
      · have c146 := (ax_gt (n := 15) (by decide)).mp c146
        refine lv_aload_n hx hb dX3_readStatement_70 rfl (lv_at hl 0 rfl) ?_
        refine th_get (D := (dC, dI)) (ci := 3) (v := .int z137) (C := RX3) (T := TX3) (N := 15) hx hb hts inX3 hown hK hP (hLK _ ha0 (by decide)) o144 rfl 10 (by decide) (hts _ T_208) (fun _ h9 => h9) rfl dX3_readStatement_71 ?_
        have hIq := hI
        refine va_callr (va_runS (As := [.int z137]) (rest := []) ⟨hx, hb, hml, hown, hts⟩ (s_X3_piecesOf l dC dI H.size hLK D adK adV tf F9 z137 hI) (cwS 1 hts (ax_gS T_808 T_810 T_163 T_809) rfl rfl rfl (by decide +kernel) ⟨Nat.le_of_ble_eq_true rfl, Nat.le_of_ble_eq_true rfl⟩) ⟨fun a U g mk q => ⟨q.1, s_pc (U := U) rfl rfl q.2.1, s_pcZ (U := U) rfl rfl q.2.2⟩, fun U hU hW => ⟨rfl, s_pw hU hW hP hK hD hN, s_pwZ hU hW hS hZ⟩⟩ rfl rfl hl.1 rfl (lv_room (Nat.le_of_ble_eq_true rfl)) dX3_readStatement_74 ⟨Nat.zero_le _, Nat.zero_le _⟩) hS (fun q _ h => h) (fun q h => h) (fun F148 r147 t H1 locs ht hvm hw hB hz1 hk1 hS => ?_)
        obtain ⟨⟨k149, hk_k149, e_k149, hr_k149⟩, hP, hK1⟩ := hB
        subst e_k149
        obtain ⟨h150, h151, hI, hfr1⟩ := hw
        have o152 : F148 a0 = .inr (3, [.ref z120, .ref z122, .ref z124, .ref z126, .ref tt, .int z129, .ref qq, .int z132, .int z133, .int z135, .int z137, .int z138, .int z139, .int z141, .int z142]) := (hfr1 _ (by rw [ha0]; decide)).trans o144
        have hq := s_QGt hIq h131 (fun b hb9 => hfr1 b (by rcases hb9 with q | q | q <;> (rw [q]; decide))) hq
        have hfr : ∀ b, K b ∉ [4, 8, 21, 24, 43] → F148 b = F b := fun b hb9 => (hfr1 b (fun q => hb9 (s_sub (by decide) q))).trans (hfr b hb9)
        refine lv_astore_n (lv' := [(2, .ref (adK k149)), (0, .ref a0)]) hx hb dX3_readStatement_77 rfl hl (by decide) rfl (fun ls hl => ?_)
        refine lv_aload_n hx hb dX3_readStatement_78 rfl (lv_at hl 0 rfl) ?_
        have hIq := hI
        refine va_calli (va_runV (As := []) (rest := []) ⟨hx, hb, hml, hown, hts⟩ (s_J0_isEmpty_aae02 l dC dI H.size hLK D adK adV tf F148 k149 hk_k149 hI) (cwV 0 hts (ax_gV T_811 T_813 T_814 T_445 T_812) rfl rfl rfl (by decide +kernel) ⟨Nat.le_of_ble_eq_true rfl, Nat.le_of_ble_eq_true rfl⟩) ⟨fun a U g mk q => ⟨q.1, s_pc (U := U) rfl rfl q.2.1, s_pcZ (U := U) rfl rfl q.2.2⟩, vk_recv hZ.2.2.1 hk_k149 hS, fun U hU hW => ⟨rfl, s_pw hU hW hP hK hD hN, s_pwZ hU hW hS hZ⟩⟩ rfl rfl hl.1 rfl (lv_room (Nat.le_of_ble_eq_true rfl)) dX3_readStatement_79 ⟨Nat.zero_le _, Nat.zero_le _⟩) hS (fun q _ h => h) (fun q h => h) (fun r153 F154 t H1 locs ht hvm hw hB hz1 hk1 hS => ?_)
        obtain ⟨hP, hK1⟩ := hB
        rw [ht] at hP
        generalize H1 = H at hP hS ⊢
        clear hz1 hk1
        obtain ⟨h155, h156, hI, hfr1⟩ := hw
        have o157 : F154 a0 = .inr (3, [.ref z120, .ref z122, .ref z124, .ref z126, .ref tt, .int z129, .ref qq, .int z132, .int z133, .int z135, .int z137, .int z138, .int z139, .int z141, .int z142]) := (hfr1 _ (by rw [ha0]; decide)).trans o152
        have hq := s_QGt hIq h131 (fun b hb9 => hfr1 b (by rcases hb9 with q | q | q <;> (rw [q]; decide))) hq
        have hfr : ∀ b, K b ∉ [4, 8, 21, 24, 43] → F154 b = F b := fun b hb9 => (hfr1 b (fun q => hb9 (s_sub (by decide) q))).trans (hfr b hb9)
        obtain ⟨h156, h158⟩ := h156
        have h158 : (r153 = 0 ∨ s_len.getD k149 0 = 0) := h158
        refine lv_if_eq (tgt := 95) hx hb dX3_readStatement_82 (by decide) (fun c159 => ?_) (fun c159 => ?_)
        · have c159 := (ax_eq (n := 0) (by decide)).mp c159
          refine lv_aload_n hx hb dX3_readStatement_95 rfl (lv_at hl 1 rfl) ?_
          have hIq := hI
          refine va_callv (va_runV (As := []) (rest := []) ⟨hx, hb, hml, hown, hts⟩ (s_X3_scan l dC dI H.size hLK D adK adV tf F154 a0 ha0 hI tt qq ⟨z120, z122, z124, z126, z129, z132, z133, z135, z137, z138, z139, z141, z142, o157, h121, h123, h125, h127, h128, ⟨by omega, by omega⟩, h131, ⟨by omega, by omega⟩, ⟨by omega, by omega⟩, ⟨by omega, by omega⟩, trivial⟩) (cwV 0 hts (ax_gV T_215 T_216 T_217 T_163 T_13) rfl rfl rfl (by decide +kernel) ⟨Nat.le_of_ble_eq_true rfl, Nat.le_of_ble_eq_true rfl⟩) ⟨fun a U g mk q => ⟨q.1, s_pc (U := U) rfl rfl q.2.1, s_pcZ (U := U) rfl rfl q.2.2⟩, s_recv hK hP (hLK _ ha0 (by decide)) (ci := 3) rfl o157, fun U hU hW => ⟨rfl, s_pw hU hW hP hK hD hN, s_pwZ hU hW hS hZ⟩⟩ rfl rfl hl.1 rfl (lv_room (Nat.le_of_ble_eq_true rfl)) dX3_readStatement_96 ⟨Nat.zero_le _, Nat.zero_le _⟩) hS (fun q _ h => h) (fun q h => h) (fun F160 t H1 locs ht hvm hw hB hz1 hk1 hS => ?_)
          obtain ⟨hP, hK1⟩ := hB
          rw [ht] at hP
          generalize H1 = H at hP hS ⊢
          clear hz1 hk1
          obtain ⟨h161, h162, hI, hfr1, h163⟩ := hw
          have hq := s_QGt hIq h131 (fun b hb9 => hfr1 b (by rcases hb9 with q | q | q <;> (rw [q]; decide))) hq
          have hfr : ∀ b, K b ∉ [4, 8, 21, 24, 43] → F160 b = F b := fun b hb9 => (hfr1 b (fun q => hb9 (s_sub (by decide) q))).trans (hfr b hb9)
          obtain ⟨z164, z166, z168, z170, z173, z176, z177, z179, z181, z182, z183, z185, z186, o188, h165, h167, h169, h171, h172, h174, h175, h178, h180, h184, h187, -⟩ := h163
          refine lv_iconst (v := 1) hx hb dX3_readStatement_99 (by decide) ?_
          refine lv_istore_n (lv' := [(3, .int 1), (2, .ref (adK k149)), (0, .ref a0)]) hx hb dX3_readStatement_100 rfl hl (by decide) rfl (fun ls hl => ?_)
          refine lv_iconst (v := 0) hx hb dX3_readStatement_101 (by decide) ?_
          refine lv_istore (lv' := [(4, .int 0), (3, .int 1), (2, .ref (adK k149)), (0, .ref a0)]) hx hb dX3_readStatement_102 hl (by decide) rfl (fun ls hl => ?_)
          refine th_loop (fun n g H locs => ∃ (G : Nat → va_E) (ls : Array Slot) (w189 : Int32) (w190 : Int32), g = F0 m 104 ls [] ∧ lv_has ls 5 [(0, .ref a0), (2, .ref (adK k149)), (3, .int w189), (4, .int w190)] ∧ s_I K cs D G ∧ va_P (dC, dI) vwCl (va_pl L G) H ∧ va_S (fun q => q ∈ L) s.heap H locs ∧ (∀ b, K b ∉ [4, 8, 21, 24, 43] → G b = F b) ∧ (0 ≤ w189.toInt ∧ w189.toInt ≤ 1) ∧ (0 ≤ w190.toInt ∧ w190.toInt ≤ 149) ∧ (w189.toInt = 0 ∨ s_QG cs G qq 0) ∧ s_rd4 K G a0 tt qq ∧ n = (150 - w190.toInt).toNat) _ ⟨F160, _, 1, 0, rfl, lv_sub hl [3, 2, 1, 0] rfl, hI, hP, hS, hfr, (by decide), (by decide), (Or.inr hq), ⟨z164, z166, z168, z170, z173, z176, z177, z179, z181, z182, z183, z185, z186, o188, h165, h167, h169, h171, h172, ⟨by omega, by omega⟩, h175, ⟨by omega, by omega⟩, ⟨by omega, by omega⟩, ⟨by omega, by omega⟩, (fun q => by first | omega | exact absurd q (by decide)), trivial⟩, rfl⟩ (fun n ih104 g H locs hq => ?_)
          obtain ⟨F9, ls, w189, w190, rfl, hl, hI, hP, hS, hfr, h191, h192, h193, h194, hn⟩ := hq
          obtain ⟨z195, z197, z199, z201, z204, z207, z208, z210, z212, z213, z214, z216, z217, o219, h196, h198, h200, h202, h203, h205, h206, h209, h211, h215, h218, -⟩ := h194
          have hn_104 := hn
          obtain ⟨n_104, hn9_104⟩ : ∃ q, q = n := ⟨_, rfl⟩
          refine th_join (fun g H locs => ∃ (G : Nat → va_E) (ls : Array Slot) (w220 : Int32), g = F0 m 144 ls [] ∧ lv_has ls 5 [(0, .ref a0), (2, .ref (adK k149)), (4, .int w220)] ∧ s_I K cs D G ∧ va_P (dC, dI) vwCl (va_pl L G) H ∧ va_S (fun q => q ∈ L) s.heap H locs ∧ (∀ b, K b ∉ [4, 8, 21, 24, 43] → G b = F b) ∧ (-1 ≤ w220.toInt ∧ w220.toInt ≤ 126) ∧ (w190.toInt ≤ w220.toInt ∧ w220.toInt < (s_len.getD k149 0 : Int)) ∧ s_QG cs G qq 0 ∧ s_rd4 K G a0 tt qq) (fun K144 => ?_) ?_
          · refine lv_iload_n hx hb dX3_readStatement_104 rfl (lv_at hl 2 rfl) ?_
            refine lv_if_eq (tgt := 161) hx hb dX3_readStatement_105 (by decide) (fun c221 => ?_) (fun c221 => ?_)
            · have c221 := (ax_eq (n := 0) (by decide)).mp c221
              refine lv_iload_n hx hb dX3_readStatement_161 rfl (lv_at hl 2 rfl) ?_
              exact W.zret (v := w189) (ty := .boolean) hx hb hr (th_nz ⟨by omega, by omega⟩) (fun t ht hW => ⟨⟨w189, F9, rfl, ⟨⟨by omega, by omega⟩, ⟨(fun q => ⟨by omega, by omega⟩), (fun q => absurd (Int32.toInt_inj.mp (c221.trans (by decide))) q)⟩, hI, hfr, ⟨z195, z197, z199, z201, z204, z207, z208, z210, z212, z213, z214, z216, z217, o219, h196, h198, h200, h202, h203, ⟨by omega, by omega⟩, h206, ⟨by omega, by omega⟩, ⟨by omega, by omega⟩, ⟨by omega, by omega⟩, (fun q => by first | omega | exact absurd q (by decide)), trivial⟩⟩, by rw [ht]; exact hP, va_K.moved hW.alike hK⟩, hS.F ht⟩) hS.2.2 dX3_readStatement_162
            · have c221 := mt (ax_eq (n := 0) (by decide)).mpr c221
              have hq := h193.resolve_left c221
              refine lv_iload hx hb dX3_readStatement_108 (lv_at hl 3 rfl) ?_
              refine lv_aload_n hx hb dX3_readStatement_110 rfl (lv_at hl 1 rfl) ?_
              have hIq := hI
              refine va_calli (va_runV (As := []) (rest := [.int w190]) ⟨hx, hb, hml, hown, hts⟩ (s_J0_length_8abf5 l dC dI H.size hLK D adK adV tf F9 k149 hk_k149 hI) (cwV 0 hts (ax_gV T_769 T_771 T_772 T_445 T_770) rfl rfl rfl (by decide +kernel) ⟨Nat.le_of_ble_eq_true rfl, Nat.le_of_ble_eq_true rfl⟩) ⟨fun a U g mk q => ⟨q.1, s_pc (U := U) rfl rfl q.2.1, s_pcZ (U := U) rfl rfl q.2.2⟩, vk_recv hZ.2.2.1 hk_k149 hS, fun U hU hW => ⟨rfl, s_pw hU hW hP hK hD hN, s_pwZ hU hW hS hZ⟩⟩ rfl rfl hl.1 rfl (lv_room (Nat.le_of_ble_eq_true rfl)) dX3_readStatement_111 ⟨Nat.zero_le _, Nat.zero_le _⟩) hS (fun q _ h => h) (fun q h => h) (fun r222 F223 t H1 locs ht hvm hw hB hz1 hk1 hS => ?_)
              obtain ⟨hP, hK1⟩ := hB
              rw [ht] at hP
              generalize H1 = H at hP hS ⊢
              clear hz1 hk1
              obtain ⟨h224, h225, hI, hfr1⟩ := hw
              have o226 : F223 a0 = .inr (3, [.ref z195, .ref z197, .ref z199, .ref z201, .ref tt, .int z204, .ref qq, .int z207, .int z208, .int z210, .int z212, .int z213, .int z214, .int z216, .int z217]) := (hfr1 _ (by rw [ha0]; decide)).trans o219
              have hq := s_QGt hIq h206 (fun b hb9 => hfr1 b (by rcases hb9 with q | q | q <;> (rw [q]; decide))) hq
              have hfr : ∀ b, K b ∉ [4, 8, 21, 24, 43] → F223 b = F b := fun b hb9 => (hfr1 b (fun q => hb9 (s_sub (by decide) q))).trans (hfr b hb9)
              obtain ⟨h225, h227⟩ := h225
              have h227 : (r222.toInt = (s_len.getD k149 0 : Int)) := h227
              refine lv_icmp_ge (tgt := 161) hx hb dX3_readStatement_114 (by decide) (fun c228 => ?_) (fun c228 => ?_)
              · have c228 := Int32.le_iff_toInt_le.mp c228
                refine lv_iload_n hx hb dX3_readStatement_161 rfl (lv_at hl 2 rfl) ?_
                exact W.zret (v := w189) (ty := .boolean) hx hb hr (th_nz ⟨by omega, by omega⟩) (fun t ht hW => ⟨⟨w189, F223, rfl, ⟨⟨by omega, by omega⟩, ⟨(fun q => ⟨by omega, by omega⟩), (fun _ => hq)⟩, hI, hfr, ⟨z195, z197, z199, z201, z204, z207, z208, z210, z212, z213, z214, z216, z217, o226, h196, h198, h200, h202, h203, ⟨by omega, by omega⟩, h206, ⟨by omega, by omega⟩, ⟨by omega, by omega⟩, ⟨by omega, by omega⟩, (fun q => by first | omega | exact absurd q (by decide)), trivial⟩⟩, by rw [ht]; exact hP, va_K.moved hW.alike hK⟩, hS.F ht⟩) hS.2.2 dX3_readStatement_162
              · have c228 := mt Int32.le_iff_toInt_le.mpr c228
                refine lv_aload_n hx hb dX3_readStatement_117 rfl (lv_at hl 1 rfl) ?_
                refine lv_iload hx hb dX3_readStatement_118 (lv_at hl 3 rfl) ?_
                have hIq := hI
                refine va_calli (va_runV (As := [.int w190]) (rest := []) ⟨hx, hb, hml, hown, hts⟩ (s_J0_charAt_5068e l dC dI H.size hLK D adK adV tf F223 k149 w190 hk_k149 hI ⟨by omega, by omega⟩) (cwV 1 hts (ax_gV T_773 T_775 T_776 T_445 T_774) rfl rfl rfl (by decide +kernel) ⟨Nat.le_of_ble_eq_true rfl, Nat.le_of_ble_eq_true rfl⟩) ⟨fun a U g mk q => ⟨q.1, s_pc (U := U) rfl rfl q.2.1, s_pcZ (U := U) rfl rfl q.2.2⟩, vk_recv hZ.2.2.1 hk_k149 hS, fun U hU hW => ⟨rfl, s_pw hU hW hP hK hD hN, s_pwZ hU hW hS hZ⟩⟩ rfl rfl hl.1 rfl (lv_room (Nat.le_of_ble_eq_true rfl)) dX3_readStatement_120 ⟨Nat.zero_le _, Nat.zero_le _⟩) hS (fun q _ h => h) (fun q h => h) (fun r229 F230 t H1 locs ht hvm hw hB hz1 hk1 hS => ?_)
                obtain ⟨hP, hK1⟩ := hB
                rw [ht] at hP
                generalize H1 = H at hP hS ⊢
                clear hz1 hk1
                obtain ⟨h231, h232, hI, hfr1⟩ := hw
                have o233 : F230 a0 = .inr (3, [.ref z195, .ref z197, .ref z199, .ref z201, .ref tt, .int z204, .ref qq, .int z207, .int z208, .int z210, .int z212, .int z213, .int z214, .int z216, .int z217]) := (hfr1 _ (by rw [ha0]; decide)).trans o226
                have hq := s_QGt hIq h206 (fun b hb9 => hfr1 b (by rcases hb9 with q | q | q <;> (rw [q]; decide))) hq
                have hfr : ∀ b, K b ∉ [4, 8, 21, 24, 43] → F230 b = F b := fun b hb9 => (hfr1 b (fun q => hb9 (s_sub (by decide) q))).trans (hfr b hb9)
                obtain ⟨h232, h234⟩ := h232
                have h234 : (r229 = (s_byt.getD k149 []).getD w190.toNatClampNeg 0) := h234
                refine lv_bipush (v := 73) hx hb dX3_readStatement_123 (by decide) ?_
                refine lv_icmp_ne (tgt := 144) hx hb dX3_readStatement_125 (by decide) (fun c235 => ?_) (fun c235 => ?_)
                · have c235 := mt (ax_eq (n := 73) (by decide)).mpr c235
                  exact K144 _ _ _ ⟨F230, _, w190, rfl, lv_sub hl [0, 1, 3] rfl, hI, hP, hS, hfr, ⟨by omega, by omega⟩, ⟨by omega, by omega⟩, hq, ⟨z195, z197, z199, z201, z204, z207, z208, z210, z212, z213, z214, z216, z217, o233, h196, h198, h200, h202, h203, ⟨by omega, by omega⟩, h206, ⟨by omega, by omega⟩, ⟨by omega, by omega⟩, ⟨by omega, by omega⟩, (fun q => by first | omega | exact absurd q (by decide)), trivial⟩⟩
                · have c235 := (ax_eq (n := 73) (by decide)).mp c235
                  refine lv_aload_n hx hb dX3_readStatement_128 rfl (lv_at hl 0 rfl) ?_
                  refine th_get (D := (dC, dI)) (ci := 3) (v := .int z207) (C := RX3) (T := TX3) (N := 15) hx hb hts inX3 hown hK hP (hLK _ ha0 (by decide)) o233 rfl 7 (by decide) (hts _ T_204) (fun _ h9 => h9) rfl dX3_readStatement_129 ?_
                  refine lv_iconst (v := 1) hx hb dX3_readStatement_132 (by decide) ?_
                  refine lv_icmp_eq (tgt := 144) hx hb dX3_readStatement_133 (by decide) (fun c236 => ?_) (fun c236 => ?_)
                  · have c236 := (ax_eq (n := 1) (by decide)).mp c236
                    exact K144 _ _ _ ⟨F230, _, w190, rfl, lv_sub hl [0, 1, 3] rfl, hI, hP, hS, hfr, ⟨by omega, by omega⟩, ⟨by omega, by omega⟩, hq, ⟨z195, z197, z199, z201, z204, z207, z208, z210, z212, z213, z214, z216, z217, o233, h196, h198, h200, h202, h203, ⟨by omega, by omega⟩, h206, ⟨by omega, by omega⟩, ⟨by omega, by omega⟩, ⟨by omega, by omega⟩, (fun q => by first | omega | exact absurd q (by decide)), trivial⟩⟩
                  · have c236 := mt (ax_eq (n := 1) (by decide)).mpr c236
                    refine lv_aload_n hx hb dX3_readStatement_136 rfl (lv_at hl 1 rfl) ?_
                    have hIq := hI
                    refine va_calli (va_runV (As := []) (rest := []) ⟨hx, hb, hml, hown, hts⟩ (s_J0_length_8abf5 l dC dI H.size hLK D adK adV tf F230 k149 hk_k149 hI) (cwV 0 hts (ax_gV T_769 T_771 T_772 T_445 T_770) rfl rfl rfl (by decide +kernel) ⟨Nat.le_of_ble_eq_true rfl, Nat.le_of_ble_eq_true rfl⟩) ⟨fun a U g mk q => ⟨q.1, s_pc (U := U) rfl rfl q.2.1, s_pcZ (U := U) rfl rfl q.2.2⟩, vk_recv hZ.2.2.1 hk_k149 hS, fun U hU hW => ⟨rfl, s_pw hU hW hP hK hD hN, s_pwZ hU hW hS hZ⟩⟩ rfl rfl hl.1 rfl (lv_room (Nat.le_of_ble_eq_true rfl)) dX3_readStatement_137 ⟨Nat.zero_le _, Nat.zero_le _⟩) hS (fun q _ h => h) (fun q h => h) (fun r237 F238 t H1 locs ht hvm hw hB hz1 hk1 hS => ?_)
                    obtain ⟨hP, hK1⟩ := hB
                    rw [ht] at hP
                    generalize H1 = H at hP hS ⊢
                    clear hz1 hk1
                    obtain ⟨h239, h240, hI, hfr1⟩ := hw
                    have o241 : F238 a0 = .inr (3, [.ref z195, .ref z197, .ref z199, .ref z201, .ref tt, .int z204, .ref qq, .int z207, .int z208, .int z210, .int z212, .int z213, .int z214, .int z216, .int z217]) := (hfr1 _ (by rw [ha0]; decide)).trans o233
                    have hq := s_QGt hIq h206 (fun b hb9 => hfr1 b (by rcases hb9 with q | q | q <;> (rw [q]; decide))) hq
                    have hfr : ∀ b, K b ∉ [4, 8, 21, 24, 43] → F238 b = F b := fun b hb9 => (hfr1 b (fun q => hb9 (s_sub (by decide) q))).trans (hfr b hb9)
                    obtain ⟨h240, h242⟩ := h240
                    have h242 : (r237.toInt = (s_len.getD k149 0 : Int)) := h242
                    refine lv_iconst (v := 1) hx hb dX3_readStatement_140 (by decide) ?_
                    refine lv_isub hx hb dX3_readStatement_141 ?_
                    refine lv_topi (fun v243 ev243 => ?_)
                    have qv243 : v243.toInt = r237.toInt - 1 := by rw [ev243]; exact th_sub rfl (by decide) ⟨by omega, by omega⟩
                    refine lv_istore (lv' := [(4, .int v243), (0, .ref a0), (2, .ref (adK k149)), (3, .int w189)]) hx hb dX3_readStatement_142 hl (by decide) rfl (fun ls hl => ?_)
                    exact K144 _ _ _ ⟨F238, _, v243, rfl, lv_sub hl [1, 2, 0] rfl, hI, hP, hS, hfr, ⟨by omega, by omega⟩, ⟨by omega, by omega⟩, hq, ⟨z195, z197, z199, z201, z204, z207, z208, z210, z212, z213, z214, z216, z217, o241, h196, h198, h200, h202, h203, ⟨by omega, by omega⟩, h206, ⟨by omega, by omega⟩, ⟨by omega, by omega⟩, ⟨by omega, by omega⟩, (fun q => by first | omega | exact absurd q (by decide)), trivial⟩⟩
          · intro g H locs hq
            obtain ⟨F9, ls, w220, rfl, hl, hI, hP, hS, hfr, h244, h245, h246, h247⟩ := hq
            obtain ⟨z248, z250, z252, z254, z257, z260, z261, z263, z265, z266, z267, z269, z270, o272, h249, h251, h253, h255, h256, h258, h259, h262, h264, h268, h271, -⟩ := h247
            have hq := h246
            refine lv_aload_n hx hb dX3_readStatement_144 rfl (lv_at hl 0 rfl) ?_
            refine lv_aload_n hx hb dX3_readStatement_145 rfl (lv_at hl 1 rfl) ?_
            refine lv_iload hx hb dX3_readStatement_146 (lv_at hl 2 rfl) ?_
            have hIq := hI
            refine va_calli (va_runV (As := [.int w220]) (rest := [.ref a0]) ⟨hx, hb, hml, hown, hts⟩ (s_J0_charAt_5068e l dC dI H.size hLK D adK adV tf F9 k149 w220 hk_k149 hI ⟨by omega, by omega⟩) (cwV 1 hts (ax_gV T_773 T_775 T_776 T_445 T_774) rfl rfl rfl (by decide +kernel) ⟨Nat.le_of_ble_eq_true rfl, Nat.le_of_ble_eq_true rfl⟩) ⟨fun a U g mk q => ⟨q.1, s_pc (U := U) rfl rfl q.2.1, s_pcZ (U := U) rfl rfl q.2.2⟩, vk_recv hZ.2.2.1 hk_k149 hS, fun U hU hW => ⟨rfl, s_pw hU hW hP hK hD hN, s_pwZ hU hW hS hZ⟩⟩ rfl rfl hl.1 rfl (lv_room (Nat.le_of_ble_eq_true rfl)) dX3_readStatement_148 ⟨Nat.zero_le _, Nat.zero_le _⟩) hS (fun q _ h => h) (fun q h => h) (fun r273 F274 t H1 locs ht hvm hw hB hz1 hk1 hS => ?_)
            obtain ⟨hP, hK1⟩ := hB
            rw [ht] at hP
            generalize H1 = H at hP hS ⊢
            clear hz1 hk1
            obtain ⟨h275, h276, hI, hfr1⟩ := hw
            have o277 : F274 a0 = .inr (3, [.ref z248, .ref z250, .ref z252, .ref z254, .ref tt, .int z257, .ref qq, .int z260, .int z261, .int z263, .int z265, .int z266, .int z267, .int z269, .int z270]) := (hfr1 _ (by rw [ha0]; decide)).trans o272
            have hq := s_QGt hIq h259 (fun b hb9 => hfr1 b (by rcases hb9 with q | q | q <;> (rw [q]; decide))) hq
            have hfr : ∀ b, K b ∉ [4, 8, 21, 24, 43] → F274 b = F b := fun b hb9 => (hfr1 b (fun q => hb9 (s_sub (by decide) q))).trans (hfr b hb9)
            obtain ⟨h276, h278⟩ := h276
            have h278 : (r273 = (s_byt.getD k149 []).getD w220.toNatClampNeg 0) := h278
            have hIq := hI
            refine va_calli (va_runV (As := [.int r273]) (rest := []) ⟨hx, hb, hml, hown, hts⟩ (s_X3_readPiece l dC dI H.size hLK D adK adV tf F274 a0 r273 ha0 hI tt qq ⟨z248, z250, z252, z254, z257, z260, z261, z263, z265, z266, z267, z269, z270, o277, h249, h251, h253, h255, h256, ⟨by omega, by omega⟩, h259, ⟨by omega, by omega⟩, ⟨by omega, by omega⟩, ⟨by omega, by omega⟩, (fun q => by first | omega | exact absurd q (by decide)), trivial⟩ (Or.inl hq) (fun q => absurd q (by rw [h278]; exact s_noG _ hk_k149 (fun h8 => by have q9 := hr_k149.2.1 h8; omega) _))) (cwV 1 hts (ax_gV T_815 T_817 T_818 T_163 T_816) rfl rfl rfl (by decide +kernel) ⟨Nat.le_of_ble_eq_true rfl, Nat.le_of_ble_eq_true rfl⟩) ⟨fun a U g mk q => ⟨q.1, s_pc (U := U) rfl rfl q.2.1, s_pcZ (U := U) rfl rfl q.2.2⟩, s_recv hK hP (hLK _ ha0 (by decide)) (ci := 3) rfl o277, fun U hU hW => ⟨rfl, s_pw hU hW hP hK hD hN, s_pwZ hU hW hS hZ⟩⟩ rfl rfl hl.1 rfl (lv_room (Nat.le_of_ble_eq_true rfl)) dX3_readStatement_151 ⟨Nat.zero_le _, Nat.zero_le _⟩) hS (fun q _ h => h) (fun q h => h) (fun r279 F280 t H1 locs ht hvm hw hB hz1 hk1 hS => ?_)
            obtain ⟨hP, hK1⟩ := hB
            rw [ht] at hP
            generalize H1 = H at hP hS ⊢
            clear hz1 hk1
            obtain ⟨h281, h282, hI, hfr1, h283⟩ := hw
            have hfr : ∀ b, K b ∉ [4, 8, 21, 24, 43] → F280 b = F b := fun b hb9 => (hfr1 b (fun q => hb9 (s_sub (by decide) q))).trans (hfr b hb9)
            obtain ⟨z285, z287, z289, z291, z293, z295, z297, z298, z299, z301, z303, z304, z305, z307, z308, o309, h286, h288, h290, h292, h294, h296, h300, h302, h306, -⟩ := s_op4 hI ha0
            obtain ⟨h282, h284⟩ := h282
            have h284 : ((¬ r279 = 0 → s_QG cs F280 z297 0) ∧ (∀ vs, F274 z297 = .inr (2, vs) → ∃ vs2, F280 z297 = .inr (2, vs2) ∧ vs2[3]? = vs[3]?)) := h284
            obtain ⟨z310, z312, z314, z316, z319, z322, z323, z325, z327, z328, z329, z331, z332, o334, h311, h313, h315, h317, h318, h320, h321, h324, h326, h330, h333, -⟩ := h283
            refine lv_istore_n (lv' := [(3, .int r279), (0, .ref a0), (2, .ref (adK k149)), (4, .int w220)]) hx hb dX3_readStatement_154 rfl hl (by decide) rfl (fun ls hl => ?_)
            obtain ⟨v335, ev335⟩ : ∃ y : Int32, w220 + 1 = y := ⟨_, rfl⟩
            have qv335 : v335.toInt = w220.toInt + 1 := by rw [← ev335]; exact th_add rfl (by decide) ⟨by omega, by omega⟩
            refine lv_iinc (v := v335) (lv' := [(4, .int v335), (3, .int r279), (0, .ref a0), (2, .ref (adK k149))]) hx hb dX3_readStatement_155 hl (k := 3) rfl ev335 (by decide) rfl (fun ls hl => ?_)
            refine lv_goto (tgt := 104) hx hb dX3_readStatement_158 (by decide) ?_
            exact ih104 _ _ _ _ (by omega) ⟨F280, _, r279, v335, rfl, lv_sub hl [2, 3, 1, 0] rfl, hI, hP, hS, hfr, ⟨by omega, by omega⟩, ⟨by omega, by omega⟩, ((Classical.em (r279 = 0)).elim (fun q => Or.inl (by rw [q]; decide)) (fun q => Or.inr (h284.1 q))), ⟨z310, z312, z314, z316, z319, z322, z323, z325, z327, z328, z329, z331, z332, o334, h311, h313, h315, h317, h318, ⟨by omega, by omega⟩, h321, ⟨by omega, by omega⟩, ⟨by omega, by omega⟩, ⟨by omega, by omega⟩, (fun q => by first | omega | exact absurd q (by decide)), trivial⟩, rfl⟩
        · have c159 := mt (ax_eq (n := 0) (by decide)).mpr c159
          refine lv_aload_n hx hb dX3_readStatement_85 rfl (lv_at hl 1 rfl) ?_
          refine lv_iconst (v := 1) hx hb dX3_readStatement_86 (by decide) ?_
          refine lv_aload_n hx hb dX3_readStatement_87 rfl (lv_at hl 1 rfl) ?_
          refine th_get (D := (dC, dI)) (ci := 3) (v := .int z133) (C := RX3) (T := TX3) (N := 15) hx hb hts inX3 hown hK hP (hLK _ ha0 (by decide)) o157 rfl 8 (by decide) (hts _ T_206) (fun _ h9 => h9) rfl dX3_readStatement_88 ?_
          have hIq := hI
          refine va_calli (va_runV (As := [.int 1, .int z133]) (rest := []) ⟨hx, hb, hml, hown, hts⟩ (s_X3_fail l dC dI H.size hLK D F154 a0 1 z133 ha0 hI tt qq ⟨z120, z122, z124, z126, z129, z132, z133, z135, z137, z138, z139, z141, z142, o157, h121, h123, h125, h127, h128, ⟨by omega, by omega⟩, h131, ⟨by omega, by omega⟩, ⟨by omega, by omega⟩, ⟨by omega, by omega⟩, (fun q => by first | omega | exact absurd q (by decide)), trivial⟩) (cwV 2 hts (ax_gV T_218 T_219 T_220 T_163 T_14) rfl rfl rfl (by decide +kernel) ⟨Nat.le_of_ble_eq_true rfl, Nat.le_of_ble_eq_true rfl⟩) ⟨fun a U g mk q => ⟨q.1, s_pc (U := U) rfl rfl q.2⟩, s_recv hK hP (hLK _ ha0 (by decide)) (ci := 3) rfl o157, fun U hU hW => ⟨rfl, s_pw hU hW hP hK hD hN⟩⟩ rfl rfl hl.1 rfl (lv_room (Nat.le_of_ble_eq_true rfl)) dX3_readStatement_91 ⟨Nat.zero_le _, Nat.zero_le _⟩) hS (fun q _ h => h) (fun q h => h) (fun r336 F337 t H1 locs ht hvm hw hB hz1 hk1 hS => ?_)
          obtain ⟨hP, hK1⟩ := hB
          rw [ht] at hP
          generalize H1 = H at hP hS ⊢
          clear hz1 hk1
          obtain ⟨h338, h339, hI, hfr1, h340⟩ := hw
          have hq := s_QGt hIq h131 (fun b hb9 => hfr1 b (by rcases hb9 with q | q | q <;> (rw [q]; decide))) hq
          have hfr : ∀ b, K b ∉ [4, 8, 21, 24, 43] → F337 b = F b := fun b hb9 => (hfr1 b (fun q => hb9 (s_sub (by decide) q))).trans (hfr b hb9)
          obtain ⟨z342, z344, z346, z348, z350, z352, z354, z355, z356, z358, z360, z361, z362, z364, z365, o366, h343, h345, h347, h349, h351, h353, h357, h359, h363, -⟩ := s_op4 hI ha0
          obtain ⟨h339, h341⟩ := h339
          have h341 : (∀ vs z, F337 a0 = .inr (3, vs) → vs[13]? = some (.int z) → z = 1) := h341
          obtain ⟨z367, z369, z371, z373, z376, z379, z380, z382, z384, z385, z386, z388, z389, o391, h368, h370, h372, h374, h375, h377, h378, h381, h383, h387, h390, -⟩ := h340
          exact W.zret (v := r336) (ty := .boolean) hx hb hr (th_nz ⟨by omega, by omega⟩) (fun t ht hW => ⟨⟨r336, F337, rfl, ⟨⟨by omega, by omega⟩, ⟨(fun q => ⟨by omega, by omega⟩), (fun q => absurd (th_z0 ⟨by omega, by omega⟩) q)⟩, hI, hfr, ⟨z367, z369, z371, z373, z376, z379, z380, z382, z384, z385, z386, z388, z389, o391, h368, h370, h372, h374, h375, ⟨by omega, by omega⟩, h378, ⟨by omega, by omega⟩, ⟨by omega, by omega⟩, ⟨by omega, by omega⟩, (fun q => by first | omega | exact absurd q (by decide)), trivial⟩⟩, by rw [ht]; exact hP, va_K.moved hW.alike hK⟩, hS.F ht⟩) hS.2.2 dX3_readStatement_94
      · have c146 := mt (ax_gt (n := 15) (by decide)).mpr c146
        refine lv_aload_n hx hb dX3_readStatement_61 rfl (lv_at hl 0 rfl) ?_
        have hIq := hI
        refine va_calli (va_runV (As := []) (rest := []) ⟨hx, hb, hml, hown, hts⟩ (s_X3_openLine l dC dI H.size hLK D adK adV tf F9 a0 ha0 hI tt qq ⟨z120, z122, z124, z126, z129, z132, z133, z135, z137, z138, z139, z141, z142, o144, h121, h123, h125, h127, h128, ⟨by omega, by omega⟩, h131, ⟨by omega, by omega⟩, ⟨by omega, by omega⟩, ⟨by omega, by omega⟩, (fun q => by first | omega | exact absurd q (by decide)), trivial⟩ (s_RIt hfr (by decide) hRI) hq) (cwV 0 hts (ax_gV T_804 T_806 T_807 T_163 T_805) rfl rfl rfl (by decide +kernel) ⟨Nat.le_of_ble_eq_true rfl, Nat.le_of_ble_eq_true rfl⟩) ⟨fun a U g mk q => ⟨q.1, s_pc (U := U) rfl rfl q.2.1, s_pcZ (U := U) rfl rfl q.2.2⟩, s_recv hK hP (hLK _ ha0 (by decide)) (ci := 3) rfl o144, fun U hU hW => ⟨rfl, s_pw hU hW hP hK hD hN, s_pwZ hU hW hS hZ⟩⟩ rfl rfl hl.1 rfl (lv_room (Nat.le_of_ble_eq_true rfl)) dX3_readStatement_62 ⟨Nat.zero_le _, Nat.zero_le _⟩) hS (fun q _ h => h) (fun q h => h) (fun r392 F393 t H1 locs ht hvm hw hB hz1 hk1 hS => ?_)
        obtain ⟨hP, hK1⟩ := hB
        rw [ht] at hP
        generalize H1 = H at hP hS ⊢
        clear hz1 hk1
        obtain ⟨h394, h395, hI, hfr1, h396⟩ := hw
        have hfr : ∀ b, K b ∉ [4, 8, 21, 24, 43] → F393 b = F b := fun b hb9 => (hfr1 b (fun q => hb9 (s_sub (by decide) q))).trans (hfr b hb9)
        obtain ⟨z398, z400, z402, z404, z406, z408, z410, z411, z412, z414, z416, z417, z418, z420, z421, o422, h399, h401, h403, h405, h407, h409, h413, h415, h419, -⟩ := s_op4 hI ha0
        obtain ⟨h395, h397⟩ := h395
        have h397 : (¬ r392 = 0 → s_QG cs F393 z410 1 ∧ (∀ vs z, F393 a0 = .inr (3, vs) → vs[10]? = some (.int z) → (0 ≤ z.toInt ∧ z.toInt ≤ 15 ∧ (7 ≤ z.toInt → s_QG cs F393 z410 0))) ∧ s_L1 F393 z410) := h397
        obtain ⟨z423, z425, z427, z429, z432, z435, z436, z438, z440, z441, z442, z444, z445, o447, h424, h426, h428, h430, h431, h433, h434, h437, h439, h443, h446, -⟩ := h396
        refine lv_if_ne (tgt := 70) hx hb dX3_readStatement_65 (by decide) (fun c448 => ?_) (fun c448 => ?_)
        · have c448 := mt (ax_eq (n := 0) (by decide)).mpr c448
          obtain ⟨hq, hown, hl1⟩ := h397 (fun q => c448 (by rw [q]; decide))
          have hown := hown _ _ o447 rfl
          by_cases c77 : z440.toInt < 7
          · have hq9 := hq
            refine lv_aload_n hx hb dX3_readStatement_70 rfl (lv_at hl 0 rfl) ?_
            refine th_get (D := (dC, dI)) (ci := 3) (v := .int z440) (C := RX3) (T := TX3) (N := 15) hx hb hts inX3 hown hK hP (hLK _ ha0 (by decide)) o447 rfl 10 (by decide) (hts _ T_208) (fun _ h9 => h9) rfl dX3_readStatement_71 ?_
            have hIq := hI
            refine va_callr (va_runS (As := [.int z440]) (rest := []) ⟨hx, hb, hml, hown, hts⟩ (s_X3_piecesOf l dC dI H.size hLK D adK adV tf F393 z440 hI) (cwS 1 hts (ax_gS T_808 T_810 T_163 T_809) rfl rfl rfl (by decide +kernel) ⟨Nat.le_of_ble_eq_true rfl, Nat.le_of_ble_eq_true rfl⟩) ⟨fun a U g mk q => ⟨q.1, s_pc (U := U) rfl rfl q.2.1, s_pcZ (U := U) rfl rfl q.2.2⟩, fun U hU hW => ⟨rfl, s_pw hU hW hP hK hD hN, s_pwZ hU hW hS hZ⟩⟩ rfl rfl hl.1 rfl (lv_room (Nat.le_of_ble_eq_true rfl)) dX3_readStatement_74 ⟨Nat.zero_le _, Nat.zero_le _⟩) hS (fun q _ h => h) (fun q h => h) (fun F451 r450 t H1 locs ht hvm hw hB hz1 hk1 hS => ?_)
            obtain ⟨⟨k452, hk_k452, e_k452, hr_k452⟩, hP, hK1⟩ := hB
            subst e_k452
            obtain ⟨h453, h454, hI, hfr1⟩ := hw
            have o455 : F451 a0 = .inr (3, [.ref z423, .ref z425, .ref z427, .ref z429, .ref tt, .int z432, .ref qq, .int z435, .int z436, .int z438, .int z440, .int z441, .int z442, .int z444, .int z445]) := (hfr1 _ (by rw [ha0]; decide)).trans o447
            have hq := s_QGt hIq h434 (fun b hb9 => hfr1 b (by rcases hb9 with q | q | q <;> (rw [q]; decide))) hq
            have hl1 : s_L1 F451 qq := s_L1t hIq h434 (fun vs q => ⟨vs, (hfr1 _ (by rw [h434]; decide)).trans q, rfl⟩) hl1
            have hfr : ∀ b, K b ∉ [4, 8, 21, 24, 43] → F451 b = F b := fun b hb9 => (hfr1 b (fun q => hb9 (s_sub (by decide) q))).trans (hfr b hb9)
            refine lv_astore_n (lv' := [(2, .ref (adK k452)), (0, .ref a0)]) hx hb dX3_readStatement_77 rfl hl (by decide) rfl (fun ls hl => ?_)
            refine lv_aload_n hx hb dX3_readStatement_78 rfl (lv_at hl 0 rfl) ?_
            have hIq := hI
            refine va_calli (va_runV (As := []) (rest := []) ⟨hx, hb, hml, hown, hts⟩ (s_J0_isEmpty_aae02 l dC dI H.size hLK D adK adV tf F451 k452 hk_k452 hI) (cwV 0 hts (ax_gV T_811 T_813 T_814 T_445 T_812) rfl rfl rfl (by decide +kernel) ⟨Nat.le_of_ble_eq_true rfl, Nat.le_of_ble_eq_true rfl⟩) ⟨fun a U g mk q => ⟨q.1, s_pc (U := U) rfl rfl q.2.1, s_pcZ (U := U) rfl rfl q.2.2⟩, vk_recv hZ.2.2.1 hk_k452 hS, fun U hU hW => ⟨rfl, s_pw hU hW hP hK hD hN, s_pwZ hU hW hS hZ⟩⟩ rfl rfl hl.1 rfl (lv_room (Nat.le_of_ble_eq_true rfl)) dX3_readStatement_79 ⟨Nat.zero_le _, Nat.zero_le _⟩) hS (fun q _ h => h) (fun q h => h) (fun r456 F457 t H1 locs ht hvm hw hB hz1 hk1 hS => ?_)
            obtain ⟨hP, hK1⟩ := hB
            rw [ht] at hP
            generalize H1 = H at hP hS ⊢
            clear hz1 hk1
            obtain ⟨h458, h459, hI, hfr1⟩ := hw
            have o460 : F457 a0 = .inr (3, [.ref z423, .ref z425, .ref z427, .ref z429, .ref tt, .int z432, .ref qq, .int z435, .int z436, .int z438, .int z440, .int z441, .int z442, .int z444, .int z445]) := (hfr1 _ (by rw [ha0]; decide)).trans o455
            have hq := s_QGt hIq h434 (fun b hb9 => hfr1 b (by rcases hb9 with q | q | q <;> (rw [q]; decide))) hq
            have hl1 : s_L1 F457 qq := s_L1t hIq h434 (fun vs q => ⟨vs, (hfr1 _ (by rw [h434]; decide)).trans q, rfl⟩) hl1
            have hfr : ∀ b, K b ∉ [4, 8, 21, 24, 43] → F457 b = F b := fun b hb9 => (hfr1 b (fun q => hb9 (s_sub (by decide) q))).trans (hfr b hb9)
            obtain ⟨h459, h461⟩ := h459
            have h461 : (r456 = 0 ∨ s_len.getD k452 0 = 0) := h461
            refine lv_if_eq (tgt := 95) hx hb dX3_readStatement_82 (by decide) (fun c462 => ?_) (fun c462 => ?_)
            · have c462 := (ax_eq (n := 0) (by decide)).mp c462
              refine lv_aload_n hx hb dX3_readStatement_95 rfl (lv_at hl 1 rfl) ?_
              have hIq := hI
              refine va_callv (va_runV (As := []) (rest := []) ⟨hx, hb, hml, hown, hts⟩ (s_X3_scan l dC dI H.size hLK D adK adV tf F457 a0 ha0 hI tt qq ⟨z423, z425, z427, z429, z432, z435, z436, z438, z440, z441, z442, z444, z445, o460, h424, h426, h428, h430, h431, ⟨by omega, by omega⟩, h434, ⟨by omega, by omega⟩, ⟨by omega, by omega⟩, ⟨by omega, by omega⟩, trivial⟩) (cwV 0 hts (ax_gV T_215 T_216 T_217 T_163 T_13) rfl rfl rfl (by decide +kernel) ⟨Nat.le_of_ble_eq_true rfl, Nat.le_of_ble_eq_true rfl⟩) ⟨fun a U g mk q => ⟨q.1, s_pc (U := U) rfl rfl q.2.1, s_pcZ (U := U) rfl rfl q.2.2⟩, s_recv hK hP (hLK _ ha0 (by decide)) (ci := 3) rfl o460, fun U hU hW => ⟨rfl, s_pw hU hW hP hK hD hN, s_pwZ hU hW hS hZ⟩⟩ rfl rfl hl.1 rfl (lv_room (Nat.le_of_ble_eq_true rfl)) dX3_readStatement_96 ⟨Nat.zero_le _, Nat.zero_le _⟩) hS (fun q _ h => h) (fun q h => h) (fun F463 t H1 locs ht hvm hw hB hz1 hk1 hS => ?_)
              obtain ⟨hP, hK1⟩ := hB
              rw [ht] at hP
              generalize H1 = H at hP hS ⊢
              clear hz1 hk1
              obtain ⟨h464, h465, hI, hfr1, h466⟩ := hw
              have hq := s_QGt hIq h434 (fun b hb9 => hfr1 b (by rcases hb9 with q | q | q <;> (rw [q]; decide))) hq
              have hl1 : s_L1 F463 qq := s_L1t hIq h434 (fun vs q => ⟨vs, (hfr1 _ (by rw [h434]; decide)).trans q, rfl⟩) hl1
              have hfr : ∀ b, K b ∉ [4, 8, 21, 24, 43] → F463 b = F b := fun b hb9 => (hfr1 b (fun q => hb9 (s_sub (by decide) q))).trans (hfr b hb9)
              obtain ⟨z467, z469, z471, z473, z476, z479, z480, z482, z484, z485, z486, z488, z489, o491, h468, h470, h472, h474, h475, h477, h478, h481, h483, h487, h490, -⟩ := h466
              refine lv_iconst (v := 1) hx hb dX3_readStatement_99 (by decide) ?_
              refine lv_istore_n (lv' := [(3, .int 1), (2, .ref (adK k452)), (0, .ref a0)]) hx hb dX3_readStatement_100 rfl hl (by decide) rfl (fun ls hl => ?_)
              refine lv_iconst (v := 0) hx hb dX3_readStatement_101 (by decide) ?_
              refine lv_istore (lv' := [(4, .int 0), (3, .int 1), (2, .ref (adK k452)), (0, .ref a0)]) hx hb dX3_readStatement_102 hl (by decide) rfl (fun ls hl => ?_)
              refine th_loop (fun n g H locs => ∃ (G : Nat → va_E) (ls : Array Slot) (w492 : Int32) (w493 : Int32), g = F0 m 104 ls [] ∧ lv_has ls 5 [(0, .ref a0), (2, .ref (adK k452)), (3, .int w492), (4, .int w493)] ∧ s_I K cs D G ∧ va_P (dC, dI) vwCl (va_pl L G) H ∧ va_S (fun q => q ∈ L) s.heap H locs ∧ (∀ b, K b ∉ [4, 8, 21, 24, 43] → G b = F b) ∧ (0 ≤ w492.toInt ∧ w492.toInt ≤ 1) ∧ (0 ≤ w493.toInt ∧ w493.toInt ≤ 149) ∧ (w492.toInt = 0 ∨ (s_QG cs G qq 0 ∨ (w493.toInt = 0 ∧ s_QG cs G qq 1))) ∧ s_L1 G qq ∧ s_rd4 K G a0 tt qq ∧ n = (150 - w493.toInt).toNat) _ ⟨F463, _, 1, 0, rfl, lv_sub hl [3, 2, 1, 0] rfl, hI, hP, hS, hfr, (by decide), (by decide), (Or.inr (Or.inr ⟨by decide, hq⟩)), hl1, ⟨z467, z469, z471, z473, z476, z479, z480, z482, z484, z485, z486, z488, z489, o491, h468, h470, h472, h474, h475, ⟨by omega, by omega⟩, h478, ⟨by omega, by omega⟩, ⟨by omega, by omega⟩, ⟨by omega, by omega⟩, (fun q => by first | omega | exact absurd q (by decide)), trivial⟩, rfl⟩ (fun n ih104 g H locs hq => ?_)
              obtain ⟨F9, ls, w492, w493, rfl, hl, hI, hP, hS, hfr, h494, h495, h496, h497, h498, hn⟩ := hq
              obtain ⟨z499, z501, z503, z505, z508, z511, z512, z514, z516, z517, z518, z520, z521, o523, h500, h502, h504, h506, h507, h509, h510, h513, h515, h519, h522, -⟩ := h498
              have hl1 := h497
              have hn_104 := hn
              obtain ⟨n_104, hn9_104⟩ : ∃ q, q = n := ⟨_, rfl⟩
              refine th_join (fun g H locs => ∃ (G : Nat → va_E) (ls : Array Slot) (w524 : Int32), g = F0 m 144 ls [] ∧ lv_has ls 5 [(0, .ref a0), (2, .ref (adK k452)), (4, .int w524)] ∧ s_I K cs D G ∧ va_P (dC, dI) vwCl (va_pl L G) H ∧ va_S (fun q => q ∈ L) s.heap H locs ∧ (∀ b, K b ∉ [4, 8, 21, 24, 43] → G b = F b) ∧ (-1 ≤ w524.toInt ∧ w524.toInt ≤ 126) ∧ (w493.toInt ≤ w524.toInt ∧ w524.toInt < (s_len.getD k452 0 : Int)) ∧ (s_QG cs G qq 0 ∨ (w524.toInt = 0 ∧ s_QG cs G qq 1)) ∧ s_L1 G qq ∧ s_rd4 K G a0 tt qq) (fun K144 => ?_) ?_
              · refine lv_iload_n hx hb dX3_readStatement_104 rfl (lv_at hl 2 rfl) ?_
                refine lv_if_eq (tgt := 161) hx hb dX3_readStatement_105 (by decide) (fun c525 => ?_) (fun c525 => ?_)
                · have c525 := (ax_eq (n := 0) (by decide)).mp c525
                  refine lv_iload_n hx hb dX3_readStatement_161 rfl (lv_at hl 2 rfl) ?_
                  exact W.zret (v := w492) (ty := .boolean) hx hb hr (th_nz ⟨by omega, by omega⟩) (fun t ht hW => ⟨⟨w492, F9, rfl, ⟨⟨by omega, by omega⟩, ⟨(fun q => ⟨by omega, by omega⟩), (fun q => absurd (Int32.toInt_inj.mp (c525.trans (by decide))) q)⟩, hI, hfr, ⟨z499, z501, z503, z505, z508, z511, z512, z514, z516, z517, z518, z520, z521, o523, h500, h502, h504, h506, h507, ⟨by omega, by omega⟩, h510, ⟨by omega, by omega⟩, ⟨by omega, by omega⟩, ⟨by omega, by omega⟩, (fun q => by first | omega | exact absurd q (by decide)), trivial⟩⟩, by rw [ht]; exact hP, va_K.moved hW.alike hK⟩, hS.F ht⟩) hS.2.2 dX3_readStatement_162
                · have c525 := mt (ax_eq (n := 0) (by decide)).mpr c525
                  have hqd := h496.resolve_left c525
                  refine lv_iload hx hb dX3_readStatement_108 (lv_at hl 3 rfl) ?_
                  refine lv_aload_n hx hb dX3_readStatement_110 rfl (lv_at hl 1 rfl) ?_
                  have hIq := hI
                  refine va_calli (va_runV (As := []) (rest := [.int w493]) ⟨hx, hb, hml, hown, hts⟩ (s_J0_length_8abf5 l dC dI H.size hLK D adK adV tf F9 k452 hk_k452 hI) (cwV 0 hts (ax_gV T_769 T_771 T_772 T_445 T_770) rfl rfl rfl (by decide +kernel) ⟨Nat.le_of_ble_eq_true rfl, Nat.le_of_ble_eq_true rfl⟩) ⟨fun a U g mk q => ⟨q.1, s_pc (U := U) rfl rfl q.2.1, s_pcZ (U := U) rfl rfl q.2.2⟩, vk_recv hZ.2.2.1 hk_k452 hS, fun U hU hW => ⟨rfl, s_pw hU hW hP hK hD hN, s_pwZ hU hW hS hZ⟩⟩ rfl rfl hl.1 rfl (lv_room (Nat.le_of_ble_eq_true rfl)) dX3_readStatement_111 ⟨Nat.zero_le _, Nat.zero_le _⟩) hS (fun q _ h => h) (fun q h => h) (fun r526 F527 t H1 locs ht hvm hw hB hz1 hk1 hS => ?_)
                  obtain ⟨hP, hK1⟩ := hB
                  rw [ht] at hP
                  generalize H1 = H at hP hS ⊢
                  clear hz1 hk1
                  obtain ⟨h528, h529, hI, hfr1⟩ := hw
                  have o530 : F527 a0 = .inr (3, [.ref z499, .ref z501, .ref z503, .ref z505, .ref tt, .int z508, .ref qq, .int z511, .int z512, .int z514, .int z516, .int z517, .int z518, .int z520, .int z521]) := (hfr1 _ (by rw [ha0]; decide)).trans o523
                  have hqd := hqd.imp (s_QGt hIq h510 (fun b hb9 => hfr1 b (by rcases hb9 with q | q | q <;> (rw [q]; decide)))) (fun w => ⟨w.1, s_QGt hIq h510 (fun b hb9 => hfr1 b (by rcases hb9 with q | q | q <;> (rw [q]; decide))) w.2⟩)
                  have hl1 : s_L1 F527 qq := s_L1t hIq h510 (fun vs q => ⟨vs, (hfr1 _ (by rw [h510]; decide)).trans q, rfl⟩) hl1
                  have hfr : ∀ b, K b ∉ [4, 8, 21, 24, 43] → F527 b = F b := fun b hb9 => (hfr1 b (fun q => hb9 (s_sub (by decide) q))).trans (hfr b hb9)
                  obtain ⟨h529, h531⟩ := h529
                  have h531 : (r526.toInt = (s_len.getD k452 0 : Int)) := h531
                  refine lv_icmp_ge (tgt := 161) hx hb dX3_readStatement_114 (by decide) (fun c532 => ?_) (fun c532 => ?_)
                  · have c532 := Int32.le_iff_toInt_le.mp c532
                    refine lv_iload_n hx hb dX3_readStatement_161 rfl (lv_at hl 2 rfl) ?_
                    exact W.zret (v := w492) (ty := .boolean) hx hb hr (th_nz ⟨by omega, by omega⟩) (fun t ht hW => ⟨⟨w492, F527, rfl, ⟨⟨by omega, by omega⟩, ⟨(fun q => ⟨by omega, by omega⟩), (fun _ => hqd.elim id (fun w => absurd w.1 (by have q9 := s_len46 (k := k452) (by omega) (by omega); omega)))⟩, hI, hfr, ⟨z499, z501, z503, z505, z508, z511, z512, z514, z516, z517, z518, z520, z521, o530, h500, h502, h504, h506, h507, ⟨by omega, by omega⟩, h510, ⟨by omega, by omega⟩, ⟨by omega, by omega⟩, ⟨by omega, by omega⟩, (fun q => by first | omega | exact absurd q (by decide)), trivial⟩⟩, by rw [ht]; exact hP, va_K.moved hW.alike hK⟩, hS.F ht⟩) hS.2.2 dX3_readStatement_162
                  · have c532 := mt Int32.le_iff_toInt_le.mpr c532
                    refine lv_aload_n hx hb dX3_readStatement_117 rfl (lv_at hl 1 rfl) ?_
                    refine lv_iload hx hb dX3_readStatement_118 (lv_at hl 3 rfl) ?_
                    have hIq := hI
                    refine va_calli (va_runV (As := [.int w493]) (rest := []) ⟨hx, hb, hml, hown, hts⟩ (s_J0_charAt_5068e l dC dI H.size hLK D adK adV tf F527 k452 w493 hk_k452 hI ⟨by omega, by omega⟩) (cwV 1 hts (ax_gV T_773 T_775 T_776 T_445 T_774) rfl rfl rfl (by decide +kernel) ⟨Nat.le_of_ble_eq_true rfl, Nat.le_of_ble_eq_true rfl⟩) ⟨fun a U g mk q => ⟨q.1, s_pc (U := U) rfl rfl q.2.1, s_pcZ (U := U) rfl rfl q.2.2⟩, vk_recv hZ.2.2.1 hk_k452 hS, fun U hU hW => ⟨rfl, s_pw hU hW hP hK hD hN, s_pwZ hU hW hS hZ⟩⟩ rfl rfl hl.1 rfl (lv_room (Nat.le_of_ble_eq_true rfl)) dX3_readStatement_120 ⟨Nat.zero_le _, Nat.zero_le _⟩) hS (fun q _ h => h) (fun q h => h) (fun r533 F534 t H1 locs ht hvm hw hB hz1 hk1 hS => ?_)
                    obtain ⟨hP, hK1⟩ := hB
                    rw [ht] at hP
                    generalize H1 = H at hP hS ⊢
                    clear hz1 hk1
                    obtain ⟨h535, h536, hI, hfr1⟩ := hw
                    have o537 : F534 a0 = .inr (3, [.ref z499, .ref z501, .ref z503, .ref z505, .ref tt, .int z508, .ref qq, .int z511, .int z512, .int z514, .int z516, .int z517, .int z518, .int z520, .int z521]) := (hfr1 _ (by rw [ha0]; decide)).trans o530
                    have hqd := hqd.imp (s_QGt hIq h510 (fun b hb9 => hfr1 b (by rcases hb9 with q | q | q <;> (rw [q]; decide)))) (fun w => ⟨w.1, s_QGt hIq h510 (fun b hb9 => hfr1 b (by rcases hb9 with q | q | q <;> (rw [q]; decide))) w.2⟩)
                    have hl1 : s_L1 F534 qq := s_L1t hIq h510 (fun vs q => ⟨vs, (hfr1 _ (by rw [h510]; decide)).trans q, rfl⟩) hl1
                    have hfr : ∀ b, K b ∉ [4, 8, 21, 24, 43] → F534 b = F b := fun b hb9 => (hfr1 b (fun q => hb9 (s_sub (by decide) q))).trans (hfr b hb9)
                    obtain ⟨h536, h538⟩ := h536
                    have h538 : (r533 = (s_byt.getD k452 []).getD w493.toNatClampNeg 0) := h538
                    refine lv_bipush (v := 73) hx hb dX3_readStatement_123 (by decide) ?_
                    refine lv_icmp_ne (tgt := 144) hx hb dX3_readStatement_125 (by decide) (fun c539 => ?_) (fun c539 => ?_)
                    · have c539 := mt (ax_eq (n := 73) (by decide)).mpr c539
                      exact K144 _ _ _ ⟨F534, _, w493, rfl, lv_sub hl [0, 1, 3] rfl, hI, hP, hS, hfr, ⟨by omega, by omega⟩, ⟨by omega, by omega⟩, hqd, hl1, ⟨z499, z501, z503, z505, z508, z511, z512, z514, z516, z517, z518, z520, z521, o537, h500, h502, h504, h506, h507, ⟨by omega, by omega⟩, h510, ⟨by omega, by omega⟩, ⟨by omega, by omega⟩, ⟨by omega, by omega⟩, (fun q => by first | omega | exact absurd q (by decide)), trivial⟩⟩
                    · have c539 := (ax_eq (n := 73) (by decide)).mp c539
                      have hq6 := hqd.elim id (fun w => absurd (s_R0c (k := k452) ⟨by omega, by omega⟩ w.1 h538) (by omega))
                      have hqd : ∀ z : Int32, (s_QG cs F534 qq 0 ∨ (z.toInt = 0 ∧ s_QG cs F534 qq 1)) := fun z => Or.inl hq6
                      refine lv_aload_n hx hb dX3_readStatement_128 rfl (lv_at hl 0 rfl) ?_
                      refine th_get (D := (dC, dI)) (ci := 3) (v := .int z511) (C := RX3) (T := TX3) (N := 15) hx hb hts inX3 hown hK hP (hLK _ ha0 (by decide)) o537 rfl 7 (by decide) (hts _ T_204) (fun _ h9 => h9) rfl dX3_readStatement_129 ?_
                      refine lv_iconst (v := 1) hx hb dX3_readStatement_132 (by decide) ?_
                      refine lv_icmp_eq (tgt := 144) hx hb dX3_readStatement_133 (by decide) (fun c540 => ?_) (fun c540 => ?_)
                      · have c540 := (ax_eq (n := 1) (by decide)).mp c540
                        exact K144 _ _ _ ⟨F534, _, w493, rfl, lv_sub hl [0, 1, 3] rfl, hI, hP, hS, hfr, ⟨by omega, by omega⟩, ⟨by omega, by omega⟩, hqd, hl1, ⟨z499, z501, z503, z505, z508, z511, z512, z514, z516, z517, z518, z520, z521, o537, h500, h502, h504, h506, h507, ⟨by omega, by omega⟩, h510, ⟨by omega, by omega⟩, ⟨by omega, by omega⟩, ⟨by omega, by omega⟩, (fun q => by first | omega | exact absurd q (by decide)), trivial⟩⟩
                      · have c540 := mt (ax_eq (n := 1) (by decide)).mpr c540
                        refine lv_aload_n hx hb dX3_readStatement_136 rfl (lv_at hl 1 rfl) ?_
                        have hIq := hI
                        refine va_calli (va_runV (As := []) (rest := []) ⟨hx, hb, hml, hown, hts⟩ (s_J0_length_8abf5 l dC dI H.size hLK D adK adV tf F534 k452 hk_k452 hI) (cwV 0 hts (ax_gV T_769 T_771 T_772 T_445 T_770) rfl rfl rfl (by decide +kernel) ⟨Nat.le_of_ble_eq_true rfl, Nat.le_of_ble_eq_true rfl⟩) ⟨fun a U g mk q => ⟨q.1, s_pc (U := U) rfl rfl q.2.1, s_pcZ (U := U) rfl rfl q.2.2⟩, vk_recv hZ.2.2.1 hk_k452 hS, fun U hU hW => ⟨rfl, s_pw hU hW hP hK hD hN, s_pwZ hU hW hS hZ⟩⟩ rfl rfl hl.1 rfl (lv_room (Nat.le_of_ble_eq_true rfl)) dX3_readStatement_137 ⟨Nat.zero_le _, Nat.zero_le _⟩) hS (fun q _ h => h) (fun q h => h) (fun r541 F542 t H1 locs ht hvm hw hB hz1 hk1 hS => ?_)
                        obtain ⟨hP, hK1⟩ := hB
                        rw [ht] at hP
                        generalize H1 = H at hP hS ⊢
                        clear hz1 hk1
                        obtain ⟨h543, h544, hI, hfr1⟩ := hw
                        have o545 : F542 a0 = .inr (3, [.ref z499, .ref z501, .ref z503, .ref z505, .ref tt, .int z508, .ref qq, .int z511, .int z512, .int z514, .int z516, .int z517, .int z518, .int z520, .int z521]) := (hfr1 _ (by rw [ha0]; decide)).trans o537
                        have hqd := fun z => (hqd z).imp (s_QGt hIq h510 (fun b hb9 => hfr1 b (by rcases hb9 with q | q | q <;> (rw [q]; decide)))) (fun w => ⟨w.1, s_QGt hIq h510 (fun b hb9 => hfr1 b (by rcases hb9 with q | q | q <;> (rw [q]; decide))) w.2⟩)
                        have hl1 : s_L1 F542 qq := s_L1t hIq h510 (fun vs q => ⟨vs, (hfr1 _ (by rw [h510]; decide)).trans q, rfl⟩) hl1
                        have hfr : ∀ b, K b ∉ [4, 8, 21, 24, 43] → F542 b = F b := fun b hb9 => (hfr1 b (fun q => hb9 (s_sub (by decide) q))).trans (hfr b hb9)
                        obtain ⟨h544, h546⟩ := h544
                        have h546 : (r541.toInt = (s_len.getD k452 0 : Int)) := h546
                        refine lv_iconst (v := 1) hx hb dX3_readStatement_140 (by decide) ?_
                        refine lv_isub hx hb dX3_readStatement_141 ?_
                        refine lv_topi (fun v547 ev547 => ?_)
                        have qv547 : v547.toInt = r541.toInt - 1 := by rw [ev547]; exact th_sub rfl (by decide) ⟨by omega, by omega⟩
                        refine lv_istore (lv' := [(4, .int v547), (0, .ref a0), (2, .ref (adK k452)), (3, .int w492)]) hx hb dX3_readStatement_142 hl (by decide) rfl (fun ls hl => ?_)
                        exact K144 _ _ _ ⟨F542, _, v547, rfl, lv_sub hl [1, 2, 0] rfl, hI, hP, hS, hfr, ⟨by omega, by omega⟩, ⟨by omega, by omega⟩, hqd, hl1, ⟨z499, z501, z503, z505, z508, z511, z512, z514, z516, z517, z518, z520, z521, o545, h500, h502, h504, h506, h507, ⟨by omega, by omega⟩, h510, ⟨by omega, by omega⟩, ⟨by omega, by omega⟩, ⟨by omega, by omega⟩, (fun q => by first | omega | exact absurd q (by decide)), trivial⟩⟩
              · intro g H locs hq
                obtain ⟨F9, ls, w524, rfl, hl, hI, hP, hS, hfr, h548, h549, h550, h551, h552⟩ := hq
                obtain ⟨z553, z555, z557, z559, z562, z565, z566, z568, z570, z571, z572, z574, z575, o577, h554, h556, h558, h560, h561, h563, h564, h567, h569, h573, h576, -⟩ := h552
                have hqd := h550
                have hl1 := h551
                refine lv_aload_n hx hb dX3_readStatement_144 rfl (lv_at hl 0 rfl) ?_
                refine lv_aload_n hx hb dX3_readStatement_145 rfl (lv_at hl 1 rfl) ?_
                refine lv_iload hx hb dX3_readStatement_146 (lv_at hl 2 rfl) ?_
                have hIq := hI
                refine va_calli (va_runV (As := [.int w524]) (rest := [.ref a0]) ⟨hx, hb, hml, hown, hts⟩ (s_J0_charAt_5068e l dC dI H.size hLK D adK adV tf F9 k452 w524 hk_k452 hI ⟨by omega, by omega⟩) (cwV 1 hts (ax_gV T_773 T_775 T_776 T_445 T_774) rfl rfl rfl (by decide +kernel) ⟨Nat.le_of_ble_eq_true rfl, Nat.le_of_ble_eq_true rfl⟩) ⟨fun a U g mk q => ⟨q.1, s_pc (U := U) rfl rfl q.2.1, s_pcZ (U := U) rfl rfl q.2.2⟩, vk_recv hZ.2.2.1 hk_k452 hS, fun U hU hW => ⟨rfl, s_pw hU hW hP hK hD hN, s_pwZ hU hW hS hZ⟩⟩ rfl rfl hl.1 rfl (lv_room (Nat.le_of_ble_eq_true rfl)) dX3_readStatement_148 ⟨Nat.zero_le _, Nat.zero_le _⟩) hS (fun q _ h => h) (fun q h => h) (fun r578 F579 t H1 locs ht hvm hw hB hz1 hk1 hS => ?_)
                obtain ⟨hP, hK1⟩ := hB
                rw [ht] at hP
                generalize H1 = H at hP hS ⊢
                clear hz1 hk1
                obtain ⟨h580, h581, hI, hfr1⟩ := hw
                have o582 : F579 a0 = .inr (3, [.ref z553, .ref z555, .ref z557, .ref z559, .ref tt, .int z562, .ref qq, .int z565, .int z566, .int z568, .int z570, .int z571, .int z572, .int z574, .int z575]) := (hfr1 _ (by rw [ha0]; decide)).trans o577
                have hqd := hqd.imp (s_QGt hIq h564 (fun b hb9 => hfr1 b (by rcases hb9 with q | q | q <;> (rw [q]; decide)))) (fun w => ⟨w.1, s_QGt hIq h564 (fun b hb9 => hfr1 b (by rcases hb9 with q | q | q <;> (rw [q]; decide))) w.2⟩)
                have hl1 : s_L1 F579 qq := s_L1t hIq h564 (fun vs q => ⟨vs, (hfr1 _ (by rw [h564]; decide)).trans q, rfl⟩) hl1
                have hfr : ∀ b, K b ∉ [4, 8, 21, 24, 43] → F579 b = F b := fun b hb9 => (hfr1 b (fun q => hb9 (s_sub (by decide) q))).trans (hfr b hb9)
                obtain ⟨h581, h583⟩ := h581
                have h583 : (r578 = (s_byt.getD k452 []).getD w524.toNatClampNeg 0) := h583
                have hIq := hI
                refine va_calli (va_runV (As := [.int r578]) (rest := []) ⟨hx, hb, hml, hown, hts⟩ (s_X3_readPiece l dC dI H.size hLK D adK adV tf F579 a0 r578 ha0 hI tt qq ⟨z553, z555, z557, z559, z562, z565, z566, z568, z570, z571, z572, z574, z575, o582, h554, h556, h558, h560, h561, ⟨by omega, by omega⟩, h564, ⟨by omega, by omega⟩, ⟨by omega, by omega⟩, ⟨by omega, by omega⟩, (fun q => by first | omega | exact absurd q (by decide)), trivial⟩ (hqd.imp id (fun w => ⟨s_R0c ⟨by omega, by omega⟩ w.1 h583, w.2⟩)) (fun _ => hl1)) (cwV 1 hts (ax_gV T_815 T_817 T_818 T_163 T_816) rfl rfl rfl (by decide +kernel) ⟨Nat.le_of_ble_eq_true rfl, Nat.le_of_ble_eq_true rfl⟩) ⟨fun a U g mk q => ⟨q.1, s_pc (U := U) rfl rfl q.2.1, s_pcZ (U := U) rfl rfl q.2.2⟩, s_recv hK hP (hLK _ ha0 (by decide)) (ci := 3) rfl o582, fun U hU hW => ⟨rfl, s_pw hU hW hP hK hD hN, s_pwZ hU hW hS hZ⟩⟩ rfl rfl hl.1 rfl (lv_room (Nat.le_of_ble_eq_true rfl)) dX3_readStatement_151 ⟨Nat.zero_le _, Nat.zero_le _⟩) hS (fun q _ h => h) (fun q h => h) (fun r584 F585 t H1 locs ht hvm hw hB hz1 hk1 hS => ?_)
                obtain ⟨hP, hK1⟩ := hB
                rw [ht] at hP
                generalize H1 = H at hP hS ⊢
                clear hz1 hk1
                obtain ⟨h586, h587, hI, hfr1, h588⟩ := hw
                have hfr : ∀ b, K b ∉ [4, 8, 21, 24, 43] → F585 b = F b := fun b hb9 => (hfr1 b (fun q => hb9 (s_sub (by decide) q))).trans (hfr b hb9)
                obtain ⟨z590, z592, z594, z596, z598, z600, z602, z603, z604, z606, z608, z609, z610, z612, z613, o614, h591, h593, h595, h597, h599, h601, h605, h607, h611, -⟩ := s_op4 hI ha0
                obtain ⟨h587, h589⟩ := h587
                have h589 : ((¬ r584 = 0 → s_QG cs F585 z602 0) ∧ (∀ vs, F579 z602 = .inr (2, vs) → ∃ vs2, F585 z602 = .inr (2, vs2) ∧ vs2[3]? = vs[3]?)) := h589
                obtain ⟨z615, z617, z619, z621, z624, z627, z628, z630, z632, z633, z634, z636, z637, o639, h616, h618, h620, h622, h623, h625, h626, h629, h631, h635, h638, -⟩ := h588
                refine lv_istore_n (lv' := [(3, .int r584), (0, .ref a0), (2, .ref (adK k452)), (4, .int w524)]) hx hb dX3_readStatement_154 rfl hl (by decide) rfl (fun ls hl => ?_)
                obtain ⟨v640, ev640⟩ : ∃ y : Int32, w524 + 1 = y := ⟨_, rfl⟩
                have qv640 : v640.toInt = w524.toInt + 1 := by rw [← ev640]; exact th_add rfl (by decide) ⟨by omega, by omega⟩
                refine lv_iinc (v := v640) (lv' := [(4, .int v640), (3, .int r584), (0, .ref a0), (2, .ref (adK k452))]) hx hb dX3_readStatement_155 hl (k := 3) rfl ev640 (by decide) rfl (fun ls hl => ?_)
                refine lv_goto (tgt := 104) hx hb dX3_readStatement_158 (by decide) ?_
                exact ih104 _ _ _ _ (by omega) ⟨F585, _, r584, v640, rfl, lv_sub hl [2, 3, 1, 0] rfl, hI, hP, hS, hfr, ⟨by omega, by omega⟩, ⟨by omega, by omega⟩, ((Classical.em (r584 = 0)).elim (fun q => Or.inl (by rw [q]; decide)) (fun q => Or.inr (Or.inl (h589.1 q)))), (s_L1t hIq h626 h589.2 hl1), ⟨z615, z617, z619, z621, z624, z627, z628, z630, z632, z633, z634, z636, z637, o639, h616, h618, h620, h622, h623, ⟨by omega, by omega⟩, h626, ⟨by omega, by omega⟩, ⟨by omega, by omega⟩, ⟨by omega, by omega⟩, (fun q => by first | omega | exact absurd q (by decide)), trivial⟩, rfl⟩
            · have c462 := mt (ax_eq (n := 0) (by decide)).mpr c462
              refine lv_aload_n hx hb dX3_readStatement_85 rfl (lv_at hl 1 rfl) ?_
              refine lv_iconst (v := 1) hx hb dX3_readStatement_86 (by decide) ?_
              refine lv_aload_n hx hb dX3_readStatement_87 rfl (lv_at hl 1 rfl) ?_
              refine th_get (D := (dC, dI)) (ci := 3) (v := .int z436) (C := RX3) (T := TX3) (N := 15) hx hb hts inX3 hown hK hP (hLK _ ha0 (by decide)) o460 rfl 8 (by decide) (hts _ T_206) (fun _ h9 => h9) rfl dX3_readStatement_88 ?_
              have hIq := hI
              refine va_calli (va_runV (As := [.int 1, .int z436]) (rest := []) ⟨hx, hb, hml, hown, hts⟩ (s_X3_fail l dC dI H.size hLK D F457 a0 1 z436 ha0 hI tt qq ⟨z423, z425, z427, z429, z432, z435, z436, z438, z440, z441, z442, z444, z445, o460, h424, h426, h428, h430, h431, ⟨by omega, by omega⟩, h434, ⟨by omega, by omega⟩, ⟨by omega, by omega⟩, ⟨by omega, by omega⟩, (fun q => by first | omega | exact absurd q (by decide)), trivial⟩) (cwV 2 hts (ax_gV T_218 T_219 T_220 T_163 T_14) rfl rfl rfl (by decide +kernel) ⟨Nat.le_of_ble_eq_true rfl, Nat.le_of_ble_eq_true rfl⟩) ⟨fun a U g mk q => ⟨q.1, s_pc (U := U) rfl rfl q.2⟩, s_recv hK hP (hLK _ ha0 (by decide)) (ci := 3) rfl o460, fun U hU hW => ⟨rfl, s_pw hU hW hP hK hD hN⟩⟩ rfl rfl hl.1 rfl (lv_room (Nat.le_of_ble_eq_true rfl)) dX3_readStatement_91 ⟨Nat.zero_le _, Nat.zero_le _⟩) hS (fun q _ h => h) (fun q h => h) (fun r641 F642 t H1 locs ht hvm hw hB hz1 hk1 hS => ?_)
              obtain ⟨hP, hK1⟩ := hB
              rw [ht] at hP
              generalize H1 = H at hP hS ⊢
              clear hz1 hk1
              obtain ⟨h643, h644, hI, hfr1, h645⟩ := hw
              have hq := s_QGt hIq h434 (fun b hb9 => hfr1 b (by rcases hb9 with q | q | q <;> (rw [q]; decide))) hq
              have hl1 : s_L1 F642 qq := s_L1t hIq h434 (fun vs q => ⟨vs, (hfr1 _ (by rw [h434]; decide)).trans q, rfl⟩) hl1
              have hfr : ∀ b, K b ∉ [4, 8, 21, 24, 43] → F642 b = F b := fun b hb9 => (hfr1 b (fun q => hb9 (s_sub (by decide) q))).trans (hfr b hb9)
              obtain ⟨z647, z649, z651, z653, z655, z657, z659, z660, z661, z663, z665, z666, z667, z669, z670, o671, h648, h650, h652, h654, h656, h658, h662, h664, h668, -⟩ := s_op4 hI ha0
              obtain ⟨h644, h646⟩ := h644
              have h646 : (∀ vs z, F642 a0 = .inr (3, vs) → vs[13]? = some (.int z) → z = 1) := h646
              obtain ⟨z672, z674, z676, z678, z681, z684, z685, z687, z689, z690, z691, z693, z694, o696, h673, h675, h677, h679, h680, h682, h683, h686, h688, h692, h695, -⟩ := h645
              exact W.zret (v := r641) (ty := .boolean) hx hb hr (th_nz ⟨by omega, by omega⟩) (fun t ht hW => ⟨⟨r641, F642, rfl, ⟨⟨by omega, by omega⟩, ⟨(fun q => ⟨by omega, by omega⟩), (fun q => absurd (th_z0 ⟨by omega, by omega⟩) q)⟩, hI, hfr, ⟨z672, z674, z676, z678, z681, z684, z685, z687, z689, z690, z691, z693, z694, o696, h673, h675, h677, h679, h680, ⟨by omega, by omega⟩, h683, ⟨by omega, by omega⟩, ⟨by omega, by omega⟩, ⟨by omega, by omega⟩, (fun q => by first | omega | exact absurd q (by decide)), trivial⟩⟩, by rw [ht]; exact hP, va_K.moved hW.alike hK⟩, hS.F ht⟩) hS.2.2 dX3_readStatement_94
          · have hq := hown.2.2 (by omega)
            refine lv_aload_n hx hb dX3_readStatement_70 rfl (lv_at hl 0 rfl) ?_
            refine th_get (D := (dC, dI)) (ci := 3) (v := .int z440) (C := RX3) (T := TX3) (N := 15) hx hb hts inX3 hown hK hP (hLK _ ha0 (by decide)) o447 rfl 10 (by decide) (hts _ T_208) (fun _ h9 => h9) rfl dX3_readStatement_71 ?_
            have hIq := hI
            refine va_callr (va_runS (As := [.int z440]) (rest := []) ⟨hx, hb, hml, hown, hts⟩ (s_X3_piecesOf l dC dI H.size hLK D adK adV tf F393 z440 hI) (cwS 1 hts (ax_gS T_808 T_810 T_163 T_809) rfl rfl rfl (by decide +kernel) ⟨Nat.le_of_ble_eq_true rfl, Nat.le_of_ble_eq_true rfl⟩) ⟨fun a U g mk q => ⟨q.1, s_pc (U := U) rfl rfl q.2.1, s_pcZ (U := U) rfl rfl q.2.2⟩, fun U hU hW => ⟨rfl, s_pw hU hW hP hK hD hN, s_pwZ hU hW hS hZ⟩⟩ rfl rfl hl.1 rfl (lv_room (Nat.le_of_ble_eq_true rfl)) dX3_readStatement_74 ⟨Nat.zero_le _, Nat.zero_le _⟩) hS (fun q _ h => h) (fun q h => h) (fun F698 r697 t H1 locs ht hvm hw hB hz1 hk1 hS => ?_)
            obtain ⟨⟨k699, hk_k699, e_k699, hr_k699⟩, hP, hK1⟩ := hB
            subst e_k699
            obtain ⟨h700, h701, hI, hfr1⟩ := hw
            have o702 : F698 a0 = .inr (3, [.ref z423, .ref z425, .ref z427, .ref z429, .ref tt, .int z432, .ref qq, .int z435, .int z436, .int z438, .int z440, .int z441, .int z442, .int z444, .int z445]) := (hfr1 _ (by rw [ha0]; decide)).trans o447
            have hq := s_QGt hIq h434 (fun b hb9 => hfr1 b (by rcases hb9 with q | q | q <;> (rw [q]; decide))) hq
            have hl1 : s_L1 F698 qq := s_L1t hIq h434 (fun vs q => ⟨vs, (hfr1 _ (by rw [h434]; decide)).trans q, rfl⟩) hl1
            have hfr : ∀ b, K b ∉ [4, 8, 21, 24, 43] → F698 b = F b := fun b hb9 => (hfr1 b (fun q => hb9 (s_sub (by decide) q))).trans (hfr b hb9)
            refine lv_astore_n (lv' := [(2, .ref (adK k699)), (0, .ref a0)]) hx hb dX3_readStatement_77 rfl hl (by decide) rfl (fun ls hl => ?_)
            refine lv_aload_n hx hb dX3_readStatement_78 rfl (lv_at hl 0 rfl) ?_
            have hIq := hI
            refine va_calli (va_runV (As := []) (rest := []) ⟨hx, hb, hml, hown, hts⟩ (s_J0_isEmpty_aae02 l dC dI H.size hLK D adK adV tf F698 k699 hk_k699 hI) (cwV 0 hts (ax_gV T_811 T_813 T_814 T_445 T_812) rfl rfl rfl (by decide +kernel) ⟨Nat.le_of_ble_eq_true rfl, Nat.le_of_ble_eq_true rfl⟩) ⟨fun a U g mk q => ⟨q.1, s_pc (U := U) rfl rfl q.2.1, s_pcZ (U := U) rfl rfl q.2.2⟩, vk_recv hZ.2.2.1 hk_k699 hS, fun U hU hW => ⟨rfl, s_pw hU hW hP hK hD hN, s_pwZ hU hW hS hZ⟩⟩ rfl rfl hl.1 rfl (lv_room (Nat.le_of_ble_eq_true rfl)) dX3_readStatement_79 ⟨Nat.zero_le _, Nat.zero_le _⟩) hS (fun q _ h => h) (fun q h => h) (fun r703 F704 t H1 locs ht hvm hw hB hz1 hk1 hS => ?_)
            obtain ⟨hP, hK1⟩ := hB
            rw [ht] at hP
            generalize H1 = H at hP hS ⊢
            clear hz1 hk1
            obtain ⟨h705, h706, hI, hfr1⟩ := hw
            have o707 : F704 a0 = .inr (3, [.ref z423, .ref z425, .ref z427, .ref z429, .ref tt, .int z432, .ref qq, .int z435, .int z436, .int z438, .int z440, .int z441, .int z442, .int z444, .int z445]) := (hfr1 _ (by rw [ha0]; decide)).trans o702
            have hq := s_QGt hIq h434 (fun b hb9 => hfr1 b (by rcases hb9 with q | q | q <;> (rw [q]; decide))) hq
            have hl1 : s_L1 F704 qq := s_L1t hIq h434 (fun vs q => ⟨vs, (hfr1 _ (by rw [h434]; decide)).trans q, rfl⟩) hl1
            have hfr : ∀ b, K b ∉ [4, 8, 21, 24, 43] → F704 b = F b := fun b hb9 => (hfr1 b (fun q => hb9 (s_sub (by decide) q))).trans (hfr b hb9)
            obtain ⟨h706, h708⟩ := h706
            have h708 : (r703 = 0 ∨ s_len.getD k699 0 = 0) := h708
            refine lv_if_eq (tgt := 95) hx hb dX3_readStatement_82 (by decide) (fun c709 => ?_) (fun c709 => ?_)
            · have c709 := (ax_eq (n := 0) (by decide)).mp c709
              refine lv_aload_n hx hb dX3_readStatement_95 rfl (lv_at hl 1 rfl) ?_
              have hIq := hI
              refine va_callv (va_runV (As := []) (rest := []) ⟨hx, hb, hml, hown, hts⟩ (s_X3_scan l dC dI H.size hLK D adK adV tf F704 a0 ha0 hI tt qq ⟨z423, z425, z427, z429, z432, z435, z436, z438, z440, z441, z442, z444, z445, o707, h424, h426, h428, h430, h431, ⟨by omega, by omega⟩, h434, ⟨by omega, by omega⟩, ⟨by omega, by omega⟩, ⟨by omega, by omega⟩, trivial⟩) (cwV 0 hts (ax_gV T_215 T_216 T_217 T_163 T_13) rfl rfl rfl (by decide +kernel) ⟨Nat.le_of_ble_eq_true rfl, Nat.le_of_ble_eq_true rfl⟩) ⟨fun a U g mk q => ⟨q.1, s_pc (U := U) rfl rfl q.2.1, s_pcZ (U := U) rfl rfl q.2.2⟩, s_recv hK hP (hLK _ ha0 (by decide)) (ci := 3) rfl o707, fun U hU hW => ⟨rfl, s_pw hU hW hP hK hD hN, s_pwZ hU hW hS hZ⟩⟩ rfl rfl hl.1 rfl (lv_room (Nat.le_of_ble_eq_true rfl)) dX3_readStatement_96 ⟨Nat.zero_le _, Nat.zero_le _⟩) hS (fun q _ h => h) (fun q h => h) (fun F710 t H1 locs ht hvm hw hB hz1 hk1 hS => ?_)
              obtain ⟨hP, hK1⟩ := hB
              rw [ht] at hP
              generalize H1 = H at hP hS ⊢
              clear hz1 hk1
              obtain ⟨h711, h712, hI, hfr1, h713⟩ := hw
              have hq := s_QGt hIq h434 (fun b hb9 => hfr1 b (by rcases hb9 with q | q | q <;> (rw [q]; decide))) hq
              have hl1 : s_L1 F710 qq := s_L1t hIq h434 (fun vs q => ⟨vs, (hfr1 _ (by rw [h434]; decide)).trans q, rfl⟩) hl1
              have hfr : ∀ b, K b ∉ [4, 8, 21, 24, 43] → F710 b = F b := fun b hb9 => (hfr1 b (fun q => hb9 (s_sub (by decide) q))).trans (hfr b hb9)
              obtain ⟨z714, z716, z718, z720, z723, z726, z727, z729, z731, z732, z733, z735, z736, o738, h715, h717, h719, h721, h722, h724, h725, h728, h730, h734, h737, -⟩ := h713
              refine lv_iconst (v := 1) hx hb dX3_readStatement_99 (by decide) ?_
              refine lv_istore_n (lv' := [(3, .int 1), (2, .ref (adK k699)), (0, .ref a0)]) hx hb dX3_readStatement_100 rfl hl (by decide) rfl (fun ls hl => ?_)
              refine lv_iconst (v := 0) hx hb dX3_readStatement_101 (by decide) ?_
              refine lv_istore (lv' := [(4, .int 0), (3, .int 1), (2, .ref (adK k699)), (0, .ref a0)]) hx hb dX3_readStatement_102 hl (by decide) rfl (fun ls hl => ?_)
              refine th_loop (fun n g H locs => ∃ (G : Nat → va_E) (ls : Array Slot) (w739 : Int32) (w740 : Int32), g = F0 m 104 ls [] ∧ lv_has ls 5 [(0, .ref a0), (2, .ref (adK k699)), (3, .int w739), (4, .int w740)] ∧ s_I K cs D G ∧ va_P (dC, dI) vwCl (va_pl L G) H ∧ va_S (fun q => q ∈ L) s.heap H locs ∧ (∀ b, K b ∉ [4, 8, 21, 24, 43] → G b = F b) ∧ (0 ≤ w739.toInt ∧ w739.toInt ≤ 1) ∧ (0 ≤ w740.toInt ∧ w740.toInt ≤ 149) ∧ (w739.toInt = 0 ∨ s_QG cs G qq 0) ∧ s_L1 G qq ∧ s_rd4 K G a0 tt qq ∧ n = (150 - w740.toInt).toNat) _ ⟨F710, _, 1, 0, rfl, lv_sub hl [3, 2, 1, 0] rfl, hI, hP, hS, hfr, (by decide), (by decide), (Or.inr hq), hl1, ⟨z714, z716, z718, z720, z723, z726, z727, z729, z731, z732, z733, z735, z736, o738, h715, h717, h719, h721, h722, ⟨by omega, by omega⟩, h725, ⟨by omega, by omega⟩, ⟨by omega, by omega⟩, ⟨by omega, by omega⟩, (fun q => by first | omega | exact absurd q (by decide)), trivial⟩, rfl⟩ (fun n ih104 g H locs hq => ?_)
              obtain ⟨F9, ls, w739, w740, rfl, hl, hI, hP, hS, hfr, h741, h742, h743, h744, h745, hn⟩ := hq
              obtain ⟨z746, z748, z750, z752, z755, z758, z759, z761, z763, z764, z765, z767, z768, o770, h747, h749, h751, h753, h754, h756, h757, h760, h762, h766, h769, -⟩ := h745
              have hl1 := h744
              have hn_104 := hn
              obtain ⟨n_104, hn9_104⟩ : ∃ q, q = n := ⟨_, rfl⟩
              refine th_join (fun g H locs => ∃ (G : Nat → va_E) (ls : Array Slot) (w771 : Int32), g = F0 m 144 ls [] ∧ lv_has ls 5 [(0, .ref a0), (2, .ref (adK k699)), (4, .int w771)] ∧ s_I K cs D G ∧ va_P (dC, dI) vwCl (va_pl L G) H ∧ va_S (fun q => q ∈ L) s.heap H locs ∧ (∀ b, K b ∉ [4, 8, 21, 24, 43] → G b = F b) ∧ (-1 ≤ w771.toInt ∧ w771.toInt ≤ 126) ∧ (w740.toInt ≤ w771.toInt ∧ w771.toInt < (s_len.getD k699 0 : Int)) ∧ s_QG cs G qq 0 ∧ s_L1 G qq ∧ s_rd4 K G a0 tt qq) (fun K144 => ?_) ?_
              · refine lv_iload_n hx hb dX3_readStatement_104 rfl (lv_at hl 2 rfl) ?_
                refine lv_if_eq (tgt := 161) hx hb dX3_readStatement_105 (by decide) (fun c772 => ?_) (fun c772 => ?_)
                · have c772 := (ax_eq (n := 0) (by decide)).mp c772
                  refine lv_iload_n hx hb dX3_readStatement_161 rfl (lv_at hl 2 rfl) ?_
                  exact W.zret (v := w739) (ty := .boolean) hx hb hr (th_nz ⟨by omega, by omega⟩) (fun t ht hW => ⟨⟨w739, F9, rfl, ⟨⟨by omega, by omega⟩, ⟨(fun q => ⟨by omega, by omega⟩), (fun q => absurd (Int32.toInt_inj.mp (c772.trans (by decide))) q)⟩, hI, hfr, ⟨z746, z748, z750, z752, z755, z758, z759, z761, z763, z764, z765, z767, z768, o770, h747, h749, h751, h753, h754, ⟨by omega, by omega⟩, h757, ⟨by omega, by omega⟩, ⟨by omega, by omega⟩, ⟨by omega, by omega⟩, (fun q => by first | omega | exact absurd q (by decide)), trivial⟩⟩, by rw [ht]; exact hP, va_K.moved hW.alike hK⟩, hS.F ht⟩) hS.2.2 dX3_readStatement_162
                · have c772 := mt (ax_eq (n := 0) (by decide)).mpr c772
                  have hq := h743.resolve_left c772
                  refine lv_iload hx hb dX3_readStatement_108 (lv_at hl 3 rfl) ?_
                  refine lv_aload_n hx hb dX3_readStatement_110 rfl (lv_at hl 1 rfl) ?_
                  have hIq := hI
                  refine va_calli (va_runV (As := []) (rest := [.int w740]) ⟨hx, hb, hml, hown, hts⟩ (s_J0_length_8abf5 l dC dI H.size hLK D adK adV tf F9 k699 hk_k699 hI) (cwV 0 hts (ax_gV T_769 T_771 T_772 T_445 T_770) rfl rfl rfl (by decide +kernel) ⟨Nat.le_of_ble_eq_true rfl, Nat.le_of_ble_eq_true rfl⟩) ⟨fun a U g mk q => ⟨q.1, s_pc (U := U) rfl rfl q.2.1, s_pcZ (U := U) rfl rfl q.2.2⟩, vk_recv hZ.2.2.1 hk_k699 hS, fun U hU hW => ⟨rfl, s_pw hU hW hP hK hD hN, s_pwZ hU hW hS hZ⟩⟩ rfl rfl hl.1 rfl (lv_room (Nat.le_of_ble_eq_true rfl)) dX3_readStatement_111 ⟨Nat.zero_le _, Nat.zero_le _⟩) hS (fun q _ h => h) (fun q h => h) (fun r773 F774 t H1 locs ht hvm hw hB hz1 hk1 hS => ?_)
                  obtain ⟨hP, hK1⟩ := hB
                  rw [ht] at hP
                  generalize H1 = H at hP hS ⊢
                  clear hz1 hk1
                  obtain ⟨h775, h776, hI, hfr1⟩ := hw
                  have o777 : F774 a0 = .inr (3, [.ref z746, .ref z748, .ref z750, .ref z752, .ref tt, .int z755, .ref qq, .int z758, .int z759, .int z761, .int z763, .int z764, .int z765, .int z767, .int z768]) := (hfr1 _ (by rw [ha0]; decide)).trans o770
                  have hq := s_QGt hIq h757 (fun b hb9 => hfr1 b (by rcases hb9 with q | q | q <;> (rw [q]; decide))) hq
                  have hl1 : s_L1 F774 qq := s_L1t hIq h757 (fun vs q => ⟨vs, (hfr1 _ (by rw [h757]; decide)).trans q, rfl⟩) hl1
                  have hfr : ∀ b, K b ∉ [4, 8, 21, 24, 43] → F774 b = F b := fun b hb9 => (hfr1 b (fun q => hb9 (s_sub (by decide) q))).trans (hfr b hb9)
                  obtain ⟨h776, h778⟩ := h776
                  have h778 : (r773.toInt = (s_len.getD k699 0 : Int)) := h778
                  refine lv_icmp_ge (tgt := 161) hx hb dX3_readStatement_114 (by decide) (fun c779 => ?_) (fun c779 => ?_)
                  · have c779 := Int32.le_iff_toInt_le.mp c779
                    refine lv_iload_n hx hb dX3_readStatement_161 rfl (lv_at hl 2 rfl) ?_
                    exact W.zret (v := w739) (ty := .boolean) hx hb hr (th_nz ⟨by omega, by omega⟩) (fun t ht hW => ⟨⟨w739, F774, rfl, ⟨⟨by omega, by omega⟩, ⟨(fun q => ⟨by omega, by omega⟩), (fun _ => hq)⟩, hI, hfr, ⟨z746, z748, z750, z752, z755, z758, z759, z761, z763, z764, z765, z767, z768, o777, h747, h749, h751, h753, h754, ⟨by omega, by omega⟩, h757, ⟨by omega, by omega⟩, ⟨by omega, by omega⟩, ⟨by omega, by omega⟩, (fun q => by first | omega | exact absurd q (by decide)), trivial⟩⟩, by rw [ht]; exact hP, va_K.moved hW.alike hK⟩, hS.F ht⟩) hS.2.2 dX3_readStatement_162
                  · have c779 := mt Int32.le_iff_toInt_le.mpr c779
                    refine lv_aload_n hx hb dX3_readStatement_117 rfl (lv_at hl 1 rfl) ?_
                    refine lv_iload hx hb dX3_readStatement_118 (lv_at hl 3 rfl) ?_
                    have hIq := hI
                    refine va_calli (va_runV (As := [.int w740]) (rest := []) ⟨hx, hb, hml, hown, hts⟩ (s_J0_charAt_5068e l dC dI H.size hLK D adK adV tf F774 k699 w740 hk_k699 hI ⟨by omega, by omega⟩) (cwV 1 hts (ax_gV T_773 T_775 T_776 T_445 T_774) rfl rfl rfl (by decide +kernel) ⟨Nat.le_of_ble_eq_true rfl, Nat.le_of_ble_eq_true rfl⟩) ⟨fun a U g mk q => ⟨q.1, s_pc (U := U) rfl rfl q.2.1, s_pcZ (U := U) rfl rfl q.2.2⟩, vk_recv hZ.2.2.1 hk_k699 hS, fun U hU hW => ⟨rfl, s_pw hU hW hP hK hD hN, s_pwZ hU hW hS hZ⟩⟩ rfl rfl hl.1 rfl (lv_room (Nat.le_of_ble_eq_true rfl)) dX3_readStatement_120 ⟨Nat.zero_le _, Nat.zero_le _⟩) hS (fun q _ h => h) (fun q h => h) (fun r780 F781 t H1 locs ht hvm hw hB hz1 hk1 hS => ?_)
                    obtain ⟨hP, hK1⟩ := hB
                    rw [ht] at hP
                    generalize H1 = H at hP hS ⊢
                    clear hz1 hk1
                    obtain ⟨h782, h783, hI, hfr1⟩ := hw
                    have o784 : F781 a0 = .inr (3, [.ref z746, .ref z748, .ref z750, .ref z752, .ref tt, .int z755, .ref qq, .int z758, .int z759, .int z761, .int z763, .int z764, .int z765, .int z767, .int z768]) := (hfr1 _ (by rw [ha0]; decide)).trans o777
                    have hq := s_QGt hIq h757 (fun b hb9 => hfr1 b (by rcases hb9 with q | q | q <;> (rw [q]; decide))) hq
                    have hl1 : s_L1 F781 qq := s_L1t hIq h757 (fun vs q => ⟨vs, (hfr1 _ (by rw [h757]; decide)).trans q, rfl⟩) hl1
                    have hfr : ∀ b, K b ∉ [4, 8, 21, 24, 43] → F781 b = F b := fun b hb9 => (hfr1 b (fun q => hb9 (s_sub (by decide) q))).trans (hfr b hb9)
                    obtain ⟨h783, h785⟩ := h783
                    have h785 : (r780 = (s_byt.getD k699 []).getD w740.toNatClampNeg 0) := h785
                    refine lv_bipush (v := 73) hx hb dX3_readStatement_123 (by decide) ?_
                    refine lv_icmp_ne (tgt := 144) hx hb dX3_readStatement_125 (by decide) (fun c786 => ?_) (fun c786 => ?_)
                    · have c786 := mt (ax_eq (n := 73) (by decide)).mpr c786
                      exact K144 _ _ _ ⟨F781, _, w740, rfl, lv_sub hl [0, 1, 3] rfl, hI, hP, hS, hfr, ⟨by omega, by omega⟩, ⟨by omega, by omega⟩, hq, hl1, ⟨z746, z748, z750, z752, z755, z758, z759, z761, z763, z764, z765, z767, z768, o784, h747, h749, h751, h753, h754, ⟨by omega, by omega⟩, h757, ⟨by omega, by omega⟩, ⟨by omega, by omega⟩, ⟨by omega, by omega⟩, (fun q => by first | omega | exact absurd q (by decide)), trivial⟩⟩
                    · have c786 := (ax_eq (n := 73) (by decide)).mp c786
                      refine lv_aload_n hx hb dX3_readStatement_128 rfl (lv_at hl 0 rfl) ?_
                      refine th_get (D := (dC, dI)) (ci := 3) (v := .int z758) (C := RX3) (T := TX3) (N := 15) hx hb hts inX3 hown hK hP (hLK _ ha0 (by decide)) o784 rfl 7 (by decide) (hts _ T_204) (fun _ h9 => h9) rfl dX3_readStatement_129 ?_
                      refine lv_iconst (v := 1) hx hb dX3_readStatement_132 (by decide) ?_
                      refine lv_icmp_eq (tgt := 144) hx hb dX3_readStatement_133 (by decide) (fun c787 => ?_) (fun c787 => ?_)
                      · have c787 := (ax_eq (n := 1) (by decide)).mp c787
                        exact K144 _ _ _ ⟨F781, _, w740, rfl, lv_sub hl [0, 1, 3] rfl, hI, hP, hS, hfr, ⟨by omega, by omega⟩, ⟨by omega, by omega⟩, hq, hl1, ⟨z746, z748, z750, z752, z755, z758, z759, z761, z763, z764, z765, z767, z768, o784, h747, h749, h751, h753, h754, ⟨by omega, by omega⟩, h757, ⟨by omega, by omega⟩, ⟨by omega, by omega⟩, ⟨by omega, by omega⟩, (fun q => by first | omega | exact absurd q (by decide)), trivial⟩⟩
                      · have c787 := mt (ax_eq (n := 1) (by decide)).mpr c787
                        refine lv_aload_n hx hb dX3_readStatement_136 rfl (lv_at hl 1 rfl) ?_
                        have hIq := hI
                        refine va_calli (va_runV (As := []) (rest := []) ⟨hx, hb, hml, hown, hts⟩ (s_J0_length_8abf5 l dC dI H.size hLK D adK adV tf F781 k699 hk_k699 hI) (cwV 0 hts (ax_gV T_769 T_771 T_772 T_445 T_770) rfl rfl rfl (by decide +kernel) ⟨Nat.le_of_ble_eq_true rfl, Nat.le_of_ble_eq_true rfl⟩) ⟨fun a U g mk q => ⟨q.1, s_pc (U := U) rfl rfl q.2.1, s_pcZ (U := U) rfl rfl q.2.2⟩, vk_recv hZ.2.2.1 hk_k699 hS, fun U hU hW => ⟨rfl, s_pw hU hW hP hK hD hN, s_pwZ hU hW hS hZ⟩⟩ rfl rfl hl.1 rfl (lv_room (Nat.le_of_ble_eq_true rfl)) dX3_readStatement_137 ⟨Nat.zero_le _, Nat.zero_le _⟩) hS (fun q _ h => h) (fun q h => h) (fun r788 F789 t H1 locs ht hvm hw hB hz1 hk1 hS => ?_)
                        obtain ⟨hP, hK1⟩ := hB
                        rw [ht] at hP
                        generalize H1 = H at hP hS ⊢
                        clear hz1 hk1
                        obtain ⟨h790, h791, hI, hfr1⟩ := hw
                        have o792 : F789 a0 = .inr (3, [.ref z746, .ref z748, .ref z750, .ref z752, .ref tt, .int z755, .ref qq, .int z758, .int z759, .int z761, .int z763, .int z764, .int z765, .int z767, .int z768]) := (hfr1 _ (by rw [ha0]; decide)).trans o784
                        have hq := s_QGt hIq h757 (fun b hb9 => hfr1 b (by rcases hb9 with q | q | q <;> (rw [q]; decide))) hq
                        have hl1 : s_L1 F789 qq := s_L1t hIq h757 (fun vs q => ⟨vs, (hfr1 _ (by rw [h757]; decide)).trans q, rfl⟩) hl1
                        have hfr : ∀ b, K b ∉ [4, 8, 21, 24, 43] → F789 b = F b := fun b hb9 => (hfr1 b (fun q => hb9 (s_sub (by decide) q))).trans (hfr b hb9)
                        obtain ⟨h791, h793⟩ := h791
                        have h793 : (r788.toInt = (s_len.getD k699 0 : Int)) := h793
                        refine lv_iconst (v := 1) hx hb dX3_readStatement_140 (by decide) ?_
                        refine lv_isub hx hb dX3_readStatement_141 ?_
                        refine lv_topi (fun v794 ev794 => ?_)
                        have qv794 : v794.toInt = r788.toInt - 1 := by rw [ev794]; exact th_sub rfl (by decide) ⟨by omega, by omega⟩
                        refine lv_istore (lv' := [(4, .int v794), (0, .ref a0), (2, .ref (adK k699)), (3, .int w739)]) hx hb dX3_readStatement_142 hl (by decide) rfl (fun ls hl => ?_)
                        exact K144 _ _ _ ⟨F789, _, v794, rfl, lv_sub hl [1, 2, 0] rfl, hI, hP, hS, hfr, ⟨by omega, by omega⟩, ⟨by omega, by omega⟩, hq, hl1, ⟨z746, z748, z750, z752, z755, z758, z759, z761, z763, z764, z765, z767, z768, o792, h747, h749, h751, h753, h754, ⟨by omega, by omega⟩, h757, ⟨by omega, by omega⟩, ⟨by omega, by omega⟩, ⟨by omega, by omega⟩, (fun q => by first | omega | exact absurd q (by decide)), trivial⟩⟩
              · intro g H locs hq
                obtain ⟨F9, ls, w771, rfl, hl, hI, hP, hS, hfr, h795, h796, h797, h798, h799⟩ := hq
                obtain ⟨z800, z802, z804, z806, z809, z812, z813, z815, z817, z818, z819, z821, z822, o824, h801, h803, h805, h807, h808, h810, h811, h814, h816, h820, h823, -⟩ := h799
                have hq := h797
                have hl1 := h798
                refine lv_aload_n hx hb dX3_readStatement_144 rfl (lv_at hl 0 rfl) ?_
                refine lv_aload_n hx hb dX3_readStatement_145 rfl (lv_at hl 1 rfl) ?_
                refine lv_iload hx hb dX3_readStatement_146 (lv_at hl 2 rfl) ?_
                have hIq := hI
                refine va_calli (va_runV (As := [.int w771]) (rest := [.ref a0]) ⟨hx, hb, hml, hown, hts⟩ (s_J0_charAt_5068e l dC dI H.size hLK D adK adV tf F9 k699 w771 hk_k699 hI ⟨by omega, by omega⟩) (cwV 1 hts (ax_gV T_773 T_775 T_776 T_445 T_774) rfl rfl rfl (by decide +kernel) ⟨Nat.le_of_ble_eq_true rfl, Nat.le_of_ble_eq_true rfl⟩) ⟨fun a U g mk q => ⟨q.1, s_pc (U := U) rfl rfl q.2.1, s_pcZ (U := U) rfl rfl q.2.2⟩, vk_recv hZ.2.2.1 hk_k699 hS, fun U hU hW => ⟨rfl, s_pw hU hW hP hK hD hN, s_pwZ hU hW hS hZ⟩⟩ rfl rfl hl.1 rfl (lv_room (Nat.le_of_ble_eq_true rfl)) dX3_readStatement_148 ⟨Nat.zero_le _, Nat.zero_le _⟩) hS (fun q _ h => h) (fun q h => h) (fun r825 F826 t H1 locs ht hvm hw hB hz1 hk1 hS => ?_)
                obtain ⟨hP, hK1⟩ := hB
                rw [ht] at hP
                generalize H1 = H at hP hS ⊢
                clear hz1 hk1
                obtain ⟨h827, h828, hI, hfr1⟩ := hw
                have o829 : F826 a0 = .inr (3, [.ref z800, .ref z802, .ref z804, .ref z806, .ref tt, .int z809, .ref qq, .int z812, .int z813, .int z815, .int z817, .int z818, .int z819, .int z821, .int z822]) := (hfr1 _ (by rw [ha0]; decide)).trans o824
                have hq := s_QGt hIq h811 (fun b hb9 => hfr1 b (by rcases hb9 with q | q | q <;> (rw [q]; decide))) hq
                have hl1 : s_L1 F826 qq := s_L1t hIq h811 (fun vs q => ⟨vs, (hfr1 _ (by rw [h811]; decide)).trans q, rfl⟩) hl1
                have hfr : ∀ b, K b ∉ [4, 8, 21, 24, 43] → F826 b = F b := fun b hb9 => (hfr1 b (fun q => hb9 (s_sub (by decide) q))).trans (hfr b hb9)
                obtain ⟨h828, h830⟩ := h828
                have h830 : (r825 = (s_byt.getD k699 []).getD w771.toNatClampNeg 0) := h830
                have hIq := hI
                refine va_calli (va_runV (As := [.int r825]) (rest := []) ⟨hx, hb, hml, hown, hts⟩ (s_X3_readPiece l dC dI H.size hLK D adK adV tf F826 a0 r825 ha0 hI tt qq ⟨z800, z802, z804, z806, z809, z812, z813, z815, z817, z818, z819, z821, z822, o829, h801, h803, h805, h807, h808, ⟨by omega, by omega⟩, h811, ⟨by omega, by omega⟩, ⟨by omega, by omega⟩, ⟨by omega, by omega⟩, (fun q => by first | omega | exact absurd q (by decide)), trivial⟩ (Or.inl hq) (fun _ => hl1)) (cwV 1 hts (ax_gV T_815 T_817 T_818 T_163 T_816) rfl rfl rfl (by decide +kernel) ⟨Nat.le_of_ble_eq_true rfl, Nat.le_of_ble_eq_true rfl⟩) ⟨fun a U g mk q => ⟨q.1, s_pc (U := U) rfl rfl q.2.1, s_pcZ (U := U) rfl rfl q.2.2⟩, s_recv hK hP (hLK _ ha0 (by decide)) (ci := 3) rfl o829, fun U hU hW => ⟨rfl, s_pw hU hW hP hK hD hN, s_pwZ hU hW hS hZ⟩⟩ rfl rfl hl.1 rfl (lv_room (Nat.le_of_ble_eq_true rfl)) dX3_readStatement_151 ⟨Nat.zero_le _, Nat.zero_le _⟩) hS (fun q _ h => h) (fun q h => h) (fun r831 F832 t H1 locs ht hvm hw hB hz1 hk1 hS => ?_)
                obtain ⟨hP, hK1⟩ := hB
                rw [ht] at hP
                generalize H1 = H at hP hS ⊢
                clear hz1 hk1
                obtain ⟨h833, h834, hI, hfr1, h835⟩ := hw
                have hfr : ∀ b, K b ∉ [4, 8, 21, 24, 43] → F832 b = F b := fun b hb9 => (hfr1 b (fun q => hb9 (s_sub (by decide) q))).trans (hfr b hb9)
                obtain ⟨z837, z839, z841, z843, z845, z847, z849, z850, z851, z853, z855, z856, z857, z859, z860, o861, h838, h840, h842, h844, h846, h848, h852, h854, h858, -⟩ := s_op4 hI ha0
                obtain ⟨h834, h836⟩ := h834
                have h836 : ((¬ r831 = 0 → s_QG cs F832 z849 0) ∧ (∀ vs, F826 z849 = .inr (2, vs) → ∃ vs2, F832 z849 = .inr (2, vs2) ∧ vs2[3]? = vs[3]?)) := h836
                obtain ⟨z862, z864, z866, z868, z871, z874, z875, z877, z879, z880, z881, z883, z884, o886, h863, h865, h867, h869, h870, h872, h873, h876, h878, h882, h885, -⟩ := h835
                refine lv_istore_n (lv' := [(3, .int r831), (0, .ref a0), (2, .ref (adK k699)), (4, .int w771)]) hx hb dX3_readStatement_154 rfl hl (by decide) rfl (fun ls hl => ?_)
                obtain ⟨v887, ev887⟩ : ∃ y : Int32, w771 + 1 = y := ⟨_, rfl⟩
                have qv887 : v887.toInt = w771.toInt + 1 := by rw [← ev887]; exact th_add rfl (by decide) ⟨by omega, by omega⟩
                refine lv_iinc (v := v887) (lv' := [(4, .int v887), (3, .int r831), (0, .ref a0), (2, .ref (adK k699))]) hx hb dX3_readStatement_155 hl (k := 3) rfl ev887 (by decide) rfl (fun ls hl => ?_)
                refine lv_goto (tgt := 104) hx hb dX3_readStatement_158 (by decide) ?_
                exact ih104 _ _ _ _ (by omega) ⟨F832, _, r831, v887, rfl, lv_sub hl [2, 3, 1, 0] rfl, hI, hP, hS, hfr, ⟨by omega, by omega⟩, ⟨by omega, by omega⟩, ((Classical.em (r831 = 0)).elim (fun q => Or.inl (by rw [q]; decide)) (fun q => Or.inr (h836.1 q))), (s_L1t hIq h873 h836.2 hl1), ⟨z862, z864, z866, z868, z871, z874, z875, z877, z879, z880, z881, z883, z884, o886, h863, h865, h867, h869, h870, ⟨by omega, by omega⟩, h873, ⟨by omega, by omega⟩, ⟨by omega, by omega⟩, ⟨by omega, by omega⟩, (fun q => by first | omega | exact absurd q (by decide)), trivial⟩, rfl⟩
            · have c709 := mt (ax_eq (n := 0) (by decide)).mpr c709
              refine lv_aload_n hx hb dX3_readStatement_85 rfl (lv_at hl 1 rfl) ?_
              refine lv_iconst (v := 1) hx hb dX3_readStatement_86 (by decide) ?_
              refine lv_aload_n hx hb dX3_readStatement_87 rfl (lv_at hl 1 rfl) ?_
              refine th_get (D := (dC, dI)) (ci := 3) (v := .int z436) (C := RX3) (T := TX3) (N := 15) hx hb hts inX3 hown hK hP (hLK _ ha0 (by decide)) o707 rfl 8 (by decide) (hts _ T_206) (fun _ h9 => h9) rfl dX3_readStatement_88 ?_
              have hIq := hI
              refine va_calli (va_runV (As := [.int 1, .int z436]) (rest := []) ⟨hx, hb, hml, hown, hts⟩ (s_X3_fail l dC dI H.size hLK D F704 a0 1 z436 ha0 hI tt qq ⟨z423, z425, z427, z429, z432, z435, z436, z438, z440, z441, z442, z444, z445, o707, h424, h426, h428, h430, h431, ⟨by omega, by omega⟩, h434, ⟨by omega, by omega⟩, ⟨by omega, by omega⟩, ⟨by omega, by omega⟩, (fun q => by first | omega | exact absurd q (by decide)), trivial⟩) (cwV 2 hts (ax_gV T_218 T_219 T_220 T_163 T_14) rfl rfl rfl (by decide +kernel) ⟨Nat.le_of_ble_eq_true rfl, Nat.le_of_ble_eq_true rfl⟩) ⟨fun a U g mk q => ⟨q.1, s_pc (U := U) rfl rfl q.2⟩, s_recv hK hP (hLK _ ha0 (by decide)) (ci := 3) rfl o707, fun U hU hW => ⟨rfl, s_pw hU hW hP hK hD hN⟩⟩ rfl rfl hl.1 rfl (lv_room (Nat.le_of_ble_eq_true rfl)) dX3_readStatement_91 ⟨Nat.zero_le _, Nat.zero_le _⟩) hS (fun q _ h => h) (fun q h => h) (fun r888 F889 t H1 locs ht hvm hw hB hz1 hk1 hS => ?_)
              obtain ⟨hP, hK1⟩ := hB
              rw [ht] at hP
              generalize H1 = H at hP hS ⊢
              clear hz1 hk1
              obtain ⟨h890, h891, hI, hfr1, h892⟩ := hw
              have hq := s_QGt hIq h434 (fun b hb9 => hfr1 b (by rcases hb9 with q | q | q <;> (rw [q]; decide))) hq
              have hl1 : s_L1 F889 qq := s_L1t hIq h434 (fun vs q => ⟨vs, (hfr1 _ (by rw [h434]; decide)).trans q, rfl⟩) hl1
              have hfr : ∀ b, K b ∉ [4, 8, 21, 24, 43] → F889 b = F b := fun b hb9 => (hfr1 b (fun q => hb9 (s_sub (by decide) q))).trans (hfr b hb9)
              obtain ⟨z894, z896, z898, z900, z902, z904, z906, z907, z908, z910, z912, z913, z914, z916, z917, o918, h895, h897, h899, h901, h903, h905, h909, h911, h915, -⟩ := s_op4 hI ha0
              obtain ⟨h891, h893⟩ := h891
              have h893 : (∀ vs z, F889 a0 = .inr (3, vs) → vs[13]? = some (.int z) → z = 1) := h893
              obtain ⟨z919, z921, z923, z925, z928, z931, z932, z934, z936, z937, z938, z940, z941, o943, h920, h922, h924, h926, h927, h929, h930, h933, h935, h939, h942, -⟩ := h892
              exact W.zret (v := r888) (ty := .boolean) hx hb hr (th_nz ⟨by omega, by omega⟩) (fun t ht hW => ⟨⟨r888, F889, rfl, ⟨⟨by omega, by omega⟩, ⟨(fun q => ⟨by omega, by omega⟩), (fun q => absurd (th_z0 ⟨by omega, by omega⟩) q)⟩, hI, hfr, ⟨z919, z921, z923, z925, z928, z931, z932, z934, z936, z937, z938, z940, z941, o943, h920, h922, h924, h926, h927, ⟨by omega, by omega⟩, h930, ⟨by omega, by omega⟩, ⟨by omega, by omega⟩, ⟨by omega, by omega⟩, (fun q => by first | omega | exact absurd q (by decide)), trivial⟩⟩, by rw [ht]; exact hP, va_K.moved hW.alike hK⟩, hS.F ht⟩) hS.2.2 dX3_readStatement_94
        · have c448 := (ax_eq (n := 0) (by decide)).mp c448
          refine lv_iconst (v := 0) hx hb dX3_readStatement_68 (by decide) ?_
          exact W.zret (v := 0) (ty := .boolean) hx hb hr (by decide) (fun t ht hW => ⟨⟨0, F393, rfl, ⟨(by decide), ⟨(fun q => absurd (by decide) q), (fun q => absurd rfl q)⟩, hI, hfr, ⟨z423, z425, z427, z429, z432, z435, z436, z438, z440, z441, z442, z444, z445, o447, h424, h426, h428, h430, h431, ⟨by omega, by omega⟩, h434, ⟨by omega, by omega⟩, ⟨by omega, by omega⟩, ⟨by omega, by omega⟩, (fun q => by first | omega | exact absurd q (by decide)), trivial⟩⟩, by rw [ht]; exact hP, va_K.moved hW.alike hK⟩, hS.F ht⟩) hS.2.2 dX3_readStatement_69
    · have c145 := mt Int32.toInt_inj.symm.mpr c145
      refine lv_aload_n hx hb dX3_readStatement_42 rfl (lv_at hl 0 rfl) ?_
      refine lv_iconst (v := 1) hx hb dX3_readStatement_43 (by decide) ?_
      refine lv_aload_n hx hb dX3_readStatement_44 rfl (lv_at hl 0 rfl) ?_
      refine th_get (D := (dC, dI)) (ci := 3) (v := .int z133) (C := RX3) (T := TX3) (N := 15) hx hb hts inX3 hown hK hP (hLK _ ha0 (by decide)) o144 rfl 8 (by decide) (hts _ T_206) (fun _ h9 => h9) rfl dX3_readStatement_45 ?_
      have hIq := hI
      refine va_calli (va_runV (As := [.int 1, .int z133]) (rest := []) ⟨hx, hb, hml, hown, hts⟩ (s_X3_fail l dC dI H.size hLK D F9 a0 1 z133 ha0 hI tt qq ⟨z120, z122, z124, z126, z129, z132, z133, z135, z137, z138, z139, z141, z142, o144, h121, h123, h125, h127, h128, ⟨by omega, by omega⟩, h131, ⟨by omega, by omega⟩, ⟨by omega, by omega⟩, ⟨by omega, by omega⟩, (fun q => by first | omega | exact absurd q (by decide)), trivial⟩) (cwV 2 hts (ax_gV T_218 T_219 T_220 T_163 T_14) rfl rfl rfl (by decide +kernel) ⟨Nat.le_of_ble_eq_true rfl, Nat.le_of_ble_eq_true rfl⟩) ⟨fun a U g mk q => ⟨q.1, s_pc (U := U) rfl rfl q.2⟩, s_recv hK hP (hLK _ ha0 (by decide)) (ci := 3) rfl o144, fun U hU hW => ⟨rfl, s_pw hU hW hP hK hD hN⟩⟩ rfl rfl hl.1 rfl (lv_room (Nat.le_of_ble_eq_true rfl)) dX3_readStatement_48 ⟨Nat.zero_le _, Nat.zero_le _⟩) hS (fun q _ h => h) (fun q h => h) (fun r944 F945 t H1 locs ht hvm hw hB hz1 hk1 hS => ?_)
      obtain ⟨hP, hK1⟩ := hB
      rw [ht] at hP
      generalize H1 = H at hP hS ⊢
      clear hz1 hk1
      obtain ⟨h946, h947, hI, hfr1, h948⟩ := hw
      have hq := s_QGt hIq h131 (fun b hb9 => hfr1 b (by rcases hb9 with q | q | q <;> (rw [q]; decide))) hq
      have hfr : ∀ b, K b ∉ [4, 8, 21, 24, 43] → F945 b = F b := fun b hb9 => (hfr1 b (fun q => hb9 (s_sub (by decide) q))).trans (hfr b hb9)
      obtain ⟨z950, z952, z954, z956, z958, z960, z962, z963, z964, z966, z968, z969, z970, z972, z973, o974, h951, h953, h955, h957, h959, h961, h965, h967, h971, -⟩ := s_op4 hI ha0
      obtain ⟨h947, h949⟩ := h947
      have h949 : (∀ vs z, F945 a0 = .inr (3, vs) → vs[13]? = some (.int z) → z = 1) := h949
      obtain ⟨z975, z977, z979, z981, z984, z987, z988, z990, z992, z993, z994, z996, z997, o999, h976, h978, h980, h982, h983, h985, h986, h989, h991, h995, h998, -⟩ := h948
      exact W.zret (v := r944) (ty := .boolean) hx hb hr (th_nz ⟨by omega, by omega⟩) (fun t ht hW => ⟨⟨r944, F945, rfl, ⟨⟨by omega, by omega⟩, ⟨(fun q => ⟨by omega, by omega⟩), (fun q => absurd (th_z0 ⟨by omega, by omega⟩) q)⟩, hI, hfr, ⟨z975, z977, z979, z981, z984, z987, z988, z990, z992, z993, z994, z996, z997, o999, h976, h978, h980, h982, h983, ⟨by omega, by omega⟩, h986, ⟨by omega, by omega⟩, ⟨by omega, by omega⟩, ⟨by omega, by omega⟩, (fun q => by first | omega | exact absurd q (by decide)), trivial⟩⟩, by rw [ht]; exact hP, va_K.moved hW.alike hK⟩, hS.F ht⟩) hS.2.2 dX3_readStatement_51

set_option maxHeartbeats 4000000 in
set_option maxRecDepth 100000 in
theorem st_X3_aimAll (l : Launch) (dC : Nat → ClassId) (dI : Nat → Nat → Nat) (sz : Nat) {L : List Nat} {K : Nat → Nat} {cs : Nat → ClassId} (hLK : ∀ a {k : Nat}, K a = k → k ≠ 0 → a ∈ L) (D : Nat) (F : Nat → va_E) (a0 : Nat) (ha0 : K a0 = 4) (hI : s_I K cs D F) (tt qq : Nat) (hR : s_rd4 K F a0 tt qq) (hq : s_QG cs F qq 0) : Met l yX3_aimAll (Cond.code yX3_aimAll cX3_aimAll 3 (some .boolean) :: T0) ({ frames := 1, cells := 0, slots := 0, locals := 26 }) (va_Pc [.ref a0] (s_W dC dI sz L F [(cs 0, .int), (cs 1, .byte), (cs 2, .long), (cs 3, .object RX5), (cs 4, .object RX4), (cs 5, .array .int), (cs 6, .char), (cs 7, .boolean)])) (va_Qi (fun (r : Int32) (G : Nat → va_E) => (0 ≤ r.toInt ∧ r.toInt ≤ 1) ∧ (True ∧ (s_QG cs G qq 0 ∧ (¬ r = 0 → ∀ vs z, G qq = .inr (2, vs) → vs[3]? = some (.int z) → s_AQ cs G qq z.toInt))) ∧ s_I K cs D G ∧ (∀ b, K b ∉ [4, 43] → G b = F b) ∧ s_rd4 K G a0 tt qq) (fun (G : Nat → va_E) (t : State) => va_P (dC, dI) vwCl (va_pl L G) t.heap ∧ va_K (dC, dI) vwCl [(cs 0, .int), (cs 1, .byte), (cs 2, .long), (cs 3, .object RX5), (cs 4, .object RX4), (cs 5, .array .int), (cs 6, .char), (cs 7, .boolean)] t) (fun q => q ∈ L)) 0 0 (fun q => q ∈ L) := by
  refine Met.ofW (cc := cX3_aimAll) (maxL := 3) (ret := (some .boolean)) (by decide) rfl ?_
  intro p e s m args below meth c s₁ B hml hv
  obtain ⟨rfl, hsz, hP, hK, hD, hN⟩ := hv
  have hx := B.exec
  have hb := B.bytes
  have hr := B.returns
  have hts : ∀ w ∈ T0, w.before _ s = true := fun w h => atoms_spec (ws := Cond.code yX3_aimAll cX3_aimAll 3 (some .boolean) :: T0) B.pre w (List.mem_cons_of_mem _ h)
  have hown : s.vm.findClass RX3 = some m.cls := findClass_of_methodNamed B.named
  have hlocks := B.notSynchronized
  have hS : va_S (fun q => q ∈ L) s.heap s.heap [] := va_S.rf
  have hfr : ∀ b, K b ∉ [4, 43] → F b = F b := fun _ _ => rfl
  have hl := lv_entry ([.ref a0]) (n := 3) (Nat.le_of_ble_eq_true rfl)
  rw [lg_entry_eq]
  generalize (lg_sl ([.ref a0]) ++ List.replicate (3 - (lg_sl ([.ref a0])).length) Slot.unset).toArray = ls at hl ⊢
  have hl : lv_has ls 3 [(0, .ref a0)] := hl
  refine s_gen hP hS (fun H locs hP hS => ?_)
  obtain ⟨z1, z3, z5, z7, z10, z13, z14, z16, z18, z19, z20, z22, z23, o25, h2, h4, h6, h8, h9, h11, h12, h15, h17, h21, h24, -⟩ := hR
  refine lv_iconst (v := 0) hx hb dX3_aimAll_0 (by decide) ?_
  refine lv_istore_n (lv' := [(1, .int 0), (0, .ref a0)]) hx hb dX3_aimAll_1 rfl hl (by decide) rfl (fun ls hl => ?_)
  refine th_loop (fun n g H locs => ∃ (G : Nat → va_E) (ls : Array Slot) (w26 : Int32), g = F0 m 2 ls [] ∧ lv_has ls 3 [(0, .ref a0), (1, .int w26)] ∧ s_I K cs D G ∧ va_P (dC, dI) vwCl (va_pl L G) H ∧ va_S (fun q => q ∈ L) s.heap H locs ∧ (∀ b, K b ∉ [4, 43] → G b = F b) ∧ (0 ≤ w26.toInt ∧ w26.toInt ≤ 40) ∧ s_QG cs G qq 0 ∧ s_AQ cs G qq w26.toInt ∧ s_rd4 K G a0 tt qq ∧ n = (41 - w26.toInt).toNat) _ ⟨F, _, 0, rfl, lv_sub hl [1, 0] rfl, hI, hP, hS, hfr, (by decide), hq, (fun w0 vs fr i r f q1 q3 hi hn => absurd hn (by have q9 : (0 : Int32).toInt = 0 := (by decide); omega)), ⟨z1, z3, z5, z7, z10, z13, z14, z16, z18, z19, z20, z22, z23, o25, h2, h4, h6, h8, h9, ⟨by omega, by omega⟩, h12, ⟨by omega, by omega⟩, ⟨by omega, by omega⟩, ⟨by omega, by omega⟩, (fun q => by first | omega | exact absurd q (by decide)), trivial⟩, rfl⟩ (fun n ih2 g H locs hq => ?_)
  obtain ⟨F9, ls, w26, rfl, hl, hI, hP, hS, hfr, h27, h28, h29, h30, hn⟩ := hq
  obtain ⟨z31, z33, z35, z37, z40, z43, z44, z46, z48, z49, z50, z52, z53, o55, h32, h34, h36, h38, h39, h41, h42, h45, h47, h51, h54, -⟩ := h30
  have hq := h28
  have haq := h29
  have hn_2 := hn
  obtain ⟨n_2, hn9_2⟩ : ∃ q, q = n := ⟨_, rfl⟩
  refine th_join (fun g H locs => ∃ (G : Nat → va_E) (ls : Array Slot), g = F0 m 75 ls [] ∧ lv_has ls 3 [(0, .ref a0), (1, .int w26)] ∧ s_I K cs D G ∧ va_P (dC, dI) vwCl (va_pl L G) H ∧ va_S (fun q => q ∈ L) s.heap H locs ∧ (∀ b, K b ∉ [4, 43] → G b = F b) ∧ (0 ≤ w26.toInt ∧ w26.toInt ≤ 39) ∧ s_QG cs G qq 0 ∧ s_AQ cs G qq (w26.toInt + 1) ∧ s_rd4 K G a0 tt qq) (fun K75 => ?_) ?_
  · refine lv_iload_n hx hb dX3_aimAll_2 rfl (lv_at hl 1 rfl) ?_
    refine lv_aload_n hx hb dX3_aimAll_3 rfl (lv_at hl 0 rfl) ?_
    refine th_get (D := (dC, dI)) (ci := 3) (v := .ref qq) (C := RX3) (T := TX3) (N := 15) hx hb hts inX3 hown hK hP (hLK _ ha0 (by decide)) o55 rfl 6 (by decide) (hts _ T_211) (fun _ h9 => h9) rfl dX3_aimAll_4 ?_
    obtain ⟨z56, z58, z60, z62, z64, z66, z67, o68, h57, h59, h61, h63, h65, -⟩ := s_op8 hI h42
    refine th_getN (D := (dC, dI)) (ci := 2) (v := .int z62) (C := RX2) (T := TX2) (N := 7) hx hb hts inX2 hown hK hP (hLK _ h42 (by decide)) o68 rfl 3 (by decide) (va_Nw.use rfl (ax_n9 hN)) (fun _ h9 => h9) rfl dX3_aimAll_7 ?_
    refine lv_icmp_ge (tgt := 81) hx hb dX3_aimAll_10 (by decide) (fun c69 => ?_) (fun c69 => ?_)
    · have c69 := Int32.le_iff_toInt_le.mp c69
      refine lv_iconst (v := 1) hx hb dX3_aimAll_81 (by decide) ?_
      exact W.zret (v := 1) (ty := .boolean) hx hb hr (by decide) (fun t ht hW => ⟨⟨1, F9, rfl, ⟨(by decide), ⟨trivial, ⟨hq, fun _ vs z q q2 => by rw [o68] at q; cases q; cases q2; exact s_AQle (by omega) haq⟩⟩, hI, hfr, ⟨z31, z33, z35, z37, z40, z43, z44, z46, z48, z49, z50, z52, z53, o55, h32, h34, h36, h38, h39, ⟨by omega, by omega⟩, h42, ⟨by omega, by omega⟩, ⟨by omega, by omega⟩, ⟨by omega, by omega⟩, (fun q => by first | omega | exact absurd q (by decide)), trivial⟩⟩, by rw [ht]; exact hP, va_K.moved hW.alike hK⟩, hS.F ht⟩) hS.2.2 dX3_aimAll_82
    · have c69 := mt Int32.le_iff_toInt_le.mpr c69
      refine lv_aload_n hx hb dX3_aimAll_13 rfl (lv_at hl 0 rfl) ?_
      refine th_get (D := (dC, dI)) (ci := 3) (v := .ref qq) (C := RX3) (T := TX3) (N := 15) hx hb hts inX3 hown hK hP (hLK _ ha0 (by decide)) o55 rfl 6 (by decide) (hts _ T_211) (fun _ h9 => h9) rfl dX3_aimAll_14 ?_
      refine th_getN (D := (dC, dI)) (ci := 2) (v := .ref z56) (C := RX2) (T := TX2) (N := 7) hx hb hts inX2 hown hK hP (hLK _ h42 (by decide)) o68 rfl 0 (by decide) (va_Nw.use rfl (ax_n39 hN)) (fun _ h9 => h9) rfl dX3_aimAll_17 ?_
      obtain ⟨f70, o71, h72⟩ := s_op42 hI h57
      refine lv_iload_n hx hb dX3_aimAll_20 rfl (lv_at hl 1 rfl) ?_
      obtain ⟨z73, o75, h74⟩ := h72 (w26 : Int32).toNatClampNeg (th_cl ⟨by omega, by omega⟩)
      refine th_aaldA hx hb hK hP (hLK _ h57 (by decide)) 5 o71 rfl (th_in ⟨by omega, by omega⟩) o75 dX3_aimAll_21 ?_
      obtain ⟨f76, o77, h78⟩ := s_op43 hI h74
      refine lv_iconst (v := 0) hx hb dX3_aimAll_22 (by decide) ?_
      refine th_iald hx hb hK hP (hLK _ h74 (by decide)) 0 o77 rfl (ax_in (by decide)) dX3_aimAll_23 ?_
      refine lv_topi (fun v79 ev79 => ?_)
      refine lv_bipush (v := 12) hx hb dX3_aimAll_24 (by decide) ?_
      refine lv_icmp_ne (tgt := 75) hx hb dX3_aimAll_26 (by decide) (fun c80 => ?_) (fun c80 => ?_)
      · have c80 := mt (ax_eq (n := 12) (by decide)).mpr c80
        exact K75 _ _ _ ⟨F9, _, rfl, lv_sub hl [0, 1] rfl, hI, hP, hS, hfr, ⟨by omega, by omega⟩, hq, (s_AQs o68 o71 (i := w26.toNatClampNeg) (by omega) haq (fun r f q4 q5 h12 => by cases (o75.symm.trans q4); rw [o77] at q5; cases q5; exact absurd h12 (by rw [show (f76 0) = v79 from ev79.symm]; omega))), ⟨z31, z33, z35, z37, z40, z43, z44, z46, z48, z49, z50, z52, z53, o55, h32, h34, h36, h38, h39, ⟨by omega, by omega⟩, h42, ⟨by omega, by omega⟩, ⟨by omega, by omega⟩, ⟨by omega, by omega⟩, (fun q => by first | omega | exact absurd q (by decide)), trivial⟩⟩
      · have c80 := (ax_eq (n := 12) (by decide)).mp c80
        refine lv_aload_n hx hb dX3_aimAll_29 rfl (lv_at hl 0 rfl) ?_
        refine lv_aload_n hx hb dX3_aimAll_30 rfl (lv_at hl 0 rfl) ?_
        refine th_get (D := (dC, dI)) (ci := 3) (v := .ref z35) (C := RX3) (T := TX3) (N := 15) hx hb hts inX3 hown hK hP (hLK _ ha0 (by decide)) o55 rfl 2 (by decide) (hts _ T_131) (fun _ h9 => h9) rfl dX3_aimAll_31 ?_
        refine lv_iload_n hx hb dX3_aimAll_34 rfl (lv_at hl 1 rfl) ?_
        obtain ⟨f81, o82, h83⟩ := s_op21 hI h36
        refine th_iald hx hb hK hP (hLK _ h36 (by decide)) 0 o82 rfl (th_in ⟨by omega, by omega⟩) dX3_aimAll_35 ?_
        refine lv_topi (fun v84 ev84 => ?_)
        have qv84 : 0 ≤ v84.toInt ∧ v84.toInt ≤ 1600 := by rw [ev84]; exact h83 _ (th_cl ⟨by omega, by omega⟩)
        refine lv_aload_n hx hb dX3_aimAll_36 rfl (lv_at hl 0 rfl) ?_
        refine th_get (D := (dC, dI)) (ci := 3) (v := .ref z37) (C := RX3) (T := TX3) (N := 15) hx hb hts inX3 hown hK hP (hLK _ ha0 (by decide)) o55 rfl 3 (by decide) (hts _ T_132) (fun _ h9 => h9) rfl dX3_aimAll_37 ?_
        refine lv_iload_n hx hb dX3_aimAll_40 rfl (lv_at hl 1 rfl) ?_
        obtain ⟨f85, o86, h87⟩ := s_op21 hI h38
        refine th_iald hx hb hK hP (hLK _ h38 (by decide)) 0 o86 rfl (th_in ⟨by omega, by omega⟩) dX3_aimAll_41 ?_
        refine lv_topi (fun v88 ev88 => ?_)
        have qv88 : 0 ≤ v88.toInt ∧ v88.toInt ≤ 1600 := by rw [ev88]; exact h87 _ (th_cl ⟨by omega, by omega⟩)
        have hIq := hI
        refine va_calli (va_runV (As := [.int v84, .int v88]) (rest := []) ⟨hx, hb, hml, hown, hts⟩ (s_X3_lineNamed l dC dI H.size hLK D F9 a0 v84 v88 ha0 (⟨by omega, by omega⟩) (⟨by omega, by omega⟩) hI tt qq ⟨z31, z33, z35, z37, z40, z43, z44, z46, z48, z49, z50, z52, z53, o55, h32, h34, h36, h38, h39, ⟨by omega, by omega⟩, h42, ⟨by omega, by omega⟩, ⟨by omega, by omega⟩, ⟨by omega, by omega⟩, (fun q => by first | omega | exact absurd q (by decide)), trivial⟩) (cwV 2 hts (ax_gV T_753 T_755 T_756 T_163 T_754) rfl rfl rfl (by decide +kernel) ⟨Nat.le_of_ble_eq_true rfl, Nat.le_of_ble_eq_true rfl⟩) ⟨fun a U g mk q => ⟨q.1, s_pc (U := U) rfl rfl q.2⟩, s_recv hK hP (hLK _ ha0 (by decide)) (ci := 3) rfl o55, fun U hU hW => ⟨rfl, s_pw hU hW hP hK hD hN⟩⟩ rfl rfl hl.1 rfl (lv_room (Nat.le_of_ble_eq_true rfl)) dX3_aimAll_42 ⟨Nat.zero_le _, Nat.zero_le _⟩) hS (fun q _ h => h) (fun q h => h) (fun r89 F90 t H1 locs ht hvm hw hB hz1 hk1 hS => ?_)
        obtain ⟨hP, hK1⟩ := hB
        rw [ht] at hP
        generalize H1 = H at hP hS ⊢
        clear hz1 hk1
        obtain ⟨h91, h92, hI, hfr1, h93⟩ := hw
        have o94 : F90 a0 = .inr (3, [.ref z31, .ref z33, .ref z35, .ref z37, .ref tt, .int z40, .ref qq, .int z43, .int z44, .int z46, .int z48, .int z49, .int z50, .int z52, .int z53]) := (hfr1 _ (by rw [ha0]; decide)).trans o55
        have o95 : F90 qq = .inr (2, [.ref z56, .ref z58, .ref z60, .int z62, .int z64, .int z66, .int z67]) := (hfr1 _ (by rw [h42]; decide)).trans o68
        have o96 : F90 z56 = .inl (cs 5, 40, .inr (.inr (.inr (.inr f70)))) := (hfr1 _ (by rw [h57]; decide)).trans o71
        have o97 : F90 z73 = .inl (cs 0, 7, .inl f76) := (hfr1 _ (by rw [h74]; decide)).trans o77
        have hq := s_QGt hIq h42 (fun b hb9 => hfr1 b (by rcases hb9 with q | q | q <;> (rw [q]; decide))) hq
        have haq := s_AQt hIq h42 (fun b hb9 => hfr1 b (by rcases hb9 with q | q | q <;> (rw [q]; decide))) haq
        have hfr : ∀ b, K b ∉ [4, 43] → F90 b = F b := fun b hb9 => (hfr1 b (fun q => hb9 (s_sub (by decide) q))).trans (hfr b hb9)
        obtain ⟨z98, z100, z102, z104, z107, z110, z111, z113, z115, z116, z117, z119, z120, o122, h99, h101, h103, h105, h106, h108, h109, h112, h114, h118, h121, -⟩ := h93
        refine lv_istore_n (lv' := [(2, .int r89), (0, .ref a0), (1, .int w26)]) hx hb dX3_aimAll_45 rfl hl (by decide) rfl (fun ls hl => ?_)
        refine lv_iload_n hx hb dX3_aimAll_46 rfl (lv_at hl 0 rfl) ?_
        refine lv_iconst (v := (-1)) hx hb dX3_aimAll_47 (by decide) ?_
        refine lv_icmp_ne (tgt := 63) hx hb dX3_aimAll_48 (by decide) (fun c123 => ?_) (fun c123 => ?_)
        · have c123 := mt (ax_eq (n := (-1)) (by decide)).mpr c123
          refine lv_aload_n hx hb dX3_aimAll_63 rfl (lv_at hl 1 rfl) ?_
          refine th_get (D := (dC, dI)) (ci := 3) (v := .ref qq) (C := RX3) (T := TX3) (N := 15) hx hb hts inX3 hown hK hP (hLK _ ha0 (by decide)) o122 rfl 6 (by decide) (hts _ T_211) (fun _ h9 => h9) rfl dX3_aimAll_64 ?_
          refine th_getN (D := (dC, dI)) (ci := 2) (v := .ref z56) (C := RX2) (T := TX2) (N := 7) hx hb hts inX2 hown hK hP (hLK _ h109 (by decide)) o95 rfl 0 (by decide) (va_Nw.use rfl (ax_n39 hN)) (fun _ h9 => h9) rfl dX3_aimAll_67 ?_
          refine lv_iload_n hx hb dX3_aimAll_70 rfl (lv_at hl 2 rfl) ?_
          refine th_aaldA hx hb hK hP (hLK _ h57 (by decide)) 5 o96 rfl (th_in ⟨by omega, by omega⟩) o75 dX3_aimAll_71 ?_
          refine lv_iconst (v := 4) hx hb dX3_aimAll_72 (by decide) ?_
          refine lv_iload_n hx hb dX3_aimAll_73 rfl (lv_at hl 0 rfl) ?_
          refine th_iast hx hb hK hP hD hS (hLK _ h74 (by decide)) 0 o97 rfl (ax_in (by decide)) dX3_aimAll_74 (fun H locs hP hS => ?_)
          have hIq := hI
          have hP : va_P (dC, dI) vwCl (va_pl L (va_up F90 z73 (.inl (cs 0, 7, .inl (upd f76 (4 : Int32).toNatClampNeg r89))))) H := hP
          obtain ⟨F124, hF125⟩ : ∃ G : Nat → va_E, G = va_up F90 z73 (.inl (cs 0, 7, .inl (upd f76 (4 : Int32).toNatClampNeg r89))) := ⟨_, rfl⟩
          rw [← hF125] at hP
          have hI : s_I K cs D F124 := by rw [hF125]; exact s_cl43 hI h74 ⟨_, rfl, th_updJ (P := fun y => y.toInt ≤ 3) h78 (fun q => absurd q (by decide))⟩
          have hfr : ∀ b, K b ∉ [4, 43] → F124 b = F b := by rw [hF125]; exact s_fr hfr h74 (by decide)
          have o126 : F124 a0 = .inr (3, [.ref z98, .ref z100, .ref z102, .ref z104, .ref tt, .int z107, .ref qq, .int z110, .int z111, .int z113, .int z115, .int z116, .int z117, .int z119, .int z120]) := by rw [hF125]; exact th_ne (th_kd ha0 h74 (by decide)) o122
          have o127 : F124 qq = .inr (2, [.ref z56, .ref z58, .ref z60, .int z62, .int z64, .int z66, .int z67]) := by rw [hF125]; exact th_ne (th_kd h109 h74 (by decide)) o95
          have o128 : F124 z56 = .inl (cs 5, 40, .inr (.inr (.inr (.inr f70)))) := by rw [hF125]; exact th_ne (th_kd h57 h74 (by decide)) o96
          have hq := s_QGrow hIq h109 h74 o97 hF125 (by decide) (by decide) hq
          have haq := s_AQrow hIq h109 h74 o97 hF125 (by decide) (fun _ => ⟨by omega, by omega⟩) haq
          have oA : F124 z73 = (.inl (cs 0, 7, .inl (upd f76 (4 : Int32).toNatClampNeg r89))) := by rw [hF125]; exact th_up
          exact K75 _ _ _ ⟨F124, _, rfl, lv_sub hl [1, 2] rfl, hI, hP, hS, hfr, ⟨by omega, by omega⟩, hq, (s_AQs o127 o128 (i := w26.toNatClampNeg) (by omega) haq (fun r f q4 q5 _ => by cases (o75.symm.trans q4); rw [oA] at q5; cases q5; rw [th_upd44]; exact ⟨by omega, by omega⟩)), ⟨z98, z100, z102, z104, z107, z110, z111, z113, z115, z116, z117, z119, z120, o126, h99, h101, h103, h105, h106, ⟨by omega, by omega⟩, h109, ⟨by omega, by omega⟩, ⟨by omega, by omega⟩, ⟨by omega, by omega⟩, (fun q => by first | omega | exact absurd q (by decide)), trivial⟩⟩
        · have c123 := (ax_eq (n := (-1)) (by decide)).mp c123
          refine lv_aload_n hx hb dX3_aimAll_51 rfl (lv_at hl 1 rfl) ?_
          refine lv_iconst (v := 3) hx hb dX3_aimAll_52 (by decide) ?_
          refine lv_aload_n hx hb dX3_aimAll_53 rfl (lv_at hl 1 rfl) ?_
          refine th_get (D := (dC, dI)) (ci := 3) (v := .ref z102) (C := RX3) (T := TX3) (N := 15) hx hb hts inX3 hown hK hP (hLK _ ha0 (by decide)) o122 rfl 2 (by decide) (hts _ T_131) (fun _ h9 => h9) rfl dX3_aimAll_54 ?_
          refine lv_iload_n hx hb dX3_aimAll_57 rfl (lv_at hl 2 rfl) ?_
          obtain ⟨f129, o130, h131⟩ := s_op21 hI h103
          refine th_iald hx hb hK hP (hLK _ h103 (by decide)) 0 o130 rfl (th_in ⟨by omega, by omega⟩) dX3_aimAll_58 ?_
          refine lv_topi (fun v132 ev132 => ?_)
          have qv132 : 0 ≤ v132.toInt ∧ v132.toInt ≤ 1600 := by rw [ev132]; exact h131 _ (th_cl ⟨by omega, by omega⟩)
          have hIq := hI
          refine va_calli (va_runV (As := [.int 3, .int v132]) (rest := []) ⟨hx, hb, hml, hown, hts⟩ (s_X3_fail l dC dI H.size hLK D F90 a0 3 v132 ha0 hI tt qq ⟨z98, z100, z102, z104, z107, z110, z111, z113, z115, z116, z117, z119, z120, o122, h99, h101, h103, h105, h106, ⟨by omega, by omega⟩, h109, ⟨by omega, by omega⟩, ⟨by omega, by omega⟩, ⟨by omega, by omega⟩, (fun q => by first | omega | exact absurd q (by decide)), trivial⟩) (cwV 2 hts (ax_gV T_218 T_219 T_220 T_163 T_14) rfl rfl rfl (by decide +kernel) ⟨Nat.le_of_ble_eq_true rfl, Nat.le_of_ble_eq_true rfl⟩) ⟨fun a U g mk q => ⟨q.1, s_pc (U := U) rfl rfl q.2⟩, s_recv hK hP (hLK _ ha0 (by decide)) (ci := 3) rfl o122, fun U hU hW => ⟨rfl, s_pw hU hW hP hK hD hN⟩⟩ rfl rfl hl.1 rfl (lv_room (Nat.le_of_ble_eq_true rfl)) dX3_aimAll_59 ⟨Nat.zero_le _, Nat.zero_le _⟩) hS (fun q _ h => h) (fun q h => h) (fun r133 F134 t H1 locs ht hvm hw hB hz1 hk1 hS => ?_)
          obtain ⟨hP, hK1⟩ := hB
          rw [ht] at hP
          generalize H1 = H at hP hS ⊢
          clear hz1 hk1
          obtain ⟨h135, h136, hI, hfr1, h137⟩ := hw
          have o138 : F134 qq = .inr (2, [.ref z56, .ref z58, .ref z60, .int z62, .int z64, .int z66, .int z67]) := (hfr1 _ (by rw [h109]; decide)).trans o95
          have o139 : F134 z56 = .inl (cs 5, 40, .inr (.inr (.inr (.inr f70)))) := (hfr1 _ (by rw [h57]; decide)).trans o96
          have o140 : F134 z73 = .inl (cs 0, 7, .inl f76) := (hfr1 _ (by rw [h74]; decide)).trans o97
          have hq := s_QGt hIq h109 (fun b hb9 => hfr1 b (by rcases hb9 with q | q | q <;> (rw [q]; decide))) hq
          have haq := s_AQt hIq h109 (fun b hb9 => hfr1 b (by rcases hb9 with q | q | q <;> (rw [q]; decide))) haq
          have hfr : ∀ b, K b ∉ [4, 43] → F134 b = F b := fun b hb9 => (hfr1 b (fun q => hb9 (s_sub (by decide) q))).trans (hfr b hb9)
          obtain ⟨z142, z144, z146, z148, z150, z152, z154, z155, z156, z158, z160, z161, z162, z164, z165, o166, h143, h145, h147, h149, h151, h153, h157, h159, h163, -⟩ := s_op4 hI ha0
          obtain ⟨h136, h141⟩ := h136
          have h141 : (∀ vs z, F134 a0 = .inr (3, vs) → vs[13]? = some (.int z) → z = 3) := h141
          obtain ⟨z167, z169, z171, z173, z176, z179, z180, z182, z184, z185, z186, z188, z189, o191, h168, h170, h172, h174, h175, h177, h178, h181, h183, h187, h190, -⟩ := h137
          exact W.zret (v := r133) (ty := .boolean) hx hb hr (th_nz ⟨by omega, by omega⟩) (fun t ht hW => ⟨⟨r133, F134, rfl, ⟨⟨by omega, by omega⟩, ⟨trivial, ⟨hq, (fun q => absurd (th_z0 ⟨by omega, by omega⟩) q)⟩⟩, hI, hfr, ⟨z167, z169, z171, z173, z176, z179, z180, z182, z184, z185, z186, z188, z189, o191, h168, h170, h172, h174, h175, ⟨by omega, by omega⟩, h178, ⟨by omega, by omega⟩, ⟨by omega, by omega⟩, ⟨by omega, by omega⟩, (fun q => by first | omega | exact absurd q (by decide)), trivial⟩⟩, by rw [ht]; exact hP, va_K.moved hW.alike hK⟩, hS.F ht⟩) hS.2.2 dX3_aimAll_62
  · intro g H locs hq
    obtain ⟨F9, ls, rfl, hl, hI, hP, hS, hfr, h192, h193, h194, h195⟩ := hq
    obtain ⟨z196, z198, z200, z202, z205, z208, z209, z211, z213, z214, z215, z217, z218, o220, h197, h199, h201, h203, h204, h206, h207, h210, h212, h216, h219, -⟩ := h195
    have hq := h193
    have haq := h194
    obtain ⟨v221, ev221⟩ : ∃ y : Int32, w26 + 1 = y := ⟨_, rfl⟩
    have qv221 : v221.toInt = w26.toInt + 1 := by rw [← ev221]; exact th_add rfl (by decide) ⟨by omega, by omega⟩
    refine lv_iinc (v := v221) (lv' := [(1, .int v221), (0, .ref a0)]) hx hb dX3_aimAll_75 hl (k := 1) rfl ev221 (by decide) rfl (fun ls hl => ?_)
    refine lv_goto (tgt := 2) hx hb dX3_aimAll_78 (by decide) ?_
    exact ih2 _ _ _ _ (by omega) ⟨F9, _, v221, rfl, lv_sub hl [1, 0] rfl, hI, hP, hS, hfr, ⟨by omega, by omega⟩, hq, haq, ⟨z196, z198, z200, z202, z205, z208, z209, z211, z213, z214, z215, z217, z218, o220, h197, h199, h201, h203, h204, ⟨by omega, by omega⟩, h207, ⟨by omega, by omega⟩, ⟨by omega, by omega⟩, ⟨by omega, by omega⟩, (fun q => by first | omega | exact absurd q (by decide)), trivial⟩, rfl⟩
