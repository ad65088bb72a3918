set_option maxHeartbeats 4000000 in
set_option maxRecDepth 100000 in
theorem s_X3_openLine (l : Launch) (dC : Nat → ClassId) (dI : Nat → Nat → Nat) (sz : Nat) {L : List Nat} {K : Nat → Nat} {cs : Nat → ClassId} (hLK : ∀ a {k : Nat}, K a = k → k ≠ 0 → a ∈ L) (D : Nat) (adK adV : Nat → Nat) (tf : Option Nat) (F : Nat → va_E) (a0 : Nat) (ha0 : K a0 = 4) (hI : s_I K cs D F) (tt qq : Nat) (hR : s_rd4 K F a0 tt qq) (hRI : s_RI K cs F) (hq : s_QG cs F qq 0) : Met l yX3_openLine (Cond.code yX3_openLine cX3_openLine 3 (some .boolean) :: T0) ({ frames := 7, cells := 0, slots := 0, locals := 153 }) (va_Pc [.ref a0] (s_WZ dC dI sz L F [(cs 0, .int), (cs 1, .byte), (cs 2, .long), (cs 3, .object RX5), (cs 4, .object RX4), (cs 5, .array .int), (cs 6, .char), (cs 7, .boolean)] adK adV tf)) (va_Qi (fun (r : Int32) (G : Nat → va_E) => (0 ≤ r.toInt ∧ r.toInt ≤ 1) ∧ (True ∧ (¬ r = 0 → s_QG cs G qq 1 ∧ (∀ vs z, G a0 = .inr (3, vs) → vs[10]? = some (.int z) → (0 ≤ z.toInt ∧ z.toInt ≤ 15 ∧ (7 ≤ z.toInt → s_QG cs G qq 0))) ∧ s_L1 G qq)) ∧ s_I K cs D G ∧ (∀ b, K b ∉ [4, 8, 21, 43] → G b = F b) ∧ s_rd4 K G a0 tt qq) (fun (G : Nat → va_E) (t : State) => va_P (dC, dI) vwCl (va_pl L G) t.heap ∧ va_K (dC, dI) vwCl [(cs 0, .int), (cs 1, .byte), (cs 2, .long), (cs 3, .object RX5), (cs 4, .object RX4), (cs 5, .array .int), (cs 6, .char), (cs 7, .boolean)] t) (fun q => q ∈ L)) 0 0 (fun q => q ∈ L) := by
  refine Met.ofW (cc := cX3_openLine) (maxL := 3) (ret := (some .boolean)) (by decide) rfl ?_
  intro p e s m args below meth c s₁ B hml hv
  obtain ⟨rfl, ⟨hsz, hP, hK, hD, hN⟩, hZ⟩ := hv
  have hx := B.exec
  have hb := B.bytes
  have hr := B.returns
  have hts : ∀ w ∈ T0, w.before _ s = true := fun w h => atoms_spec (ws := Cond.code yX3_openLine cX3_openLine 3 (some .boolean) :: T0) B.pre w (List.mem_cons_of_mem _ h)
  have hown : s.vm.findClass RX3 = some m.cls := findClass_of_methodNamed B.named
  have hlocks := B.notSynchronized
  have hS : va_S (fun q => q ∈ L) s.heap s.heap [] := va_S.rf
  have hfr : ∀ b, K b ∉ [4, 8, 21, 43] → F b = F b := fun _ _ => rfl
  have hl := lv_entry ([.ref a0]) (n := 3) (Nat.le_of_ble_eq_true rfl)
  rw [lg_entry_eq]
  generalize (lg_sl ([.ref a0]) ++ List.replicate (3 - (lg_sl ([.ref a0])).length) Slot.unset).toArray = ls at hl ⊢
  have hl : lv_has ls 3 [(0, .ref a0)] := hl
  refine s_gen hP hS (fun H locs hP hS => ?_)
  obtain ⟨z1, z3, z5, z7, z10, z13, z14, z16, z18, z19, z20, z22, z23, o25, h2, h4, h6, h8, h9, h11, h12, h15, h17, h21, h24, -⟩ := hR
  refine th_join (fun g H locs => ∃ (G : Nat → va_E) (ls : Array Slot), g = F0 m 126 ls [] ∧ lv_has ls 3 [(0, .ref a0)] ∧ s_I K cs D G ∧ va_P (dC, dI) vwCl (va_pl L G) H ∧ va_S (fun q => q ∈ L) s.heap H locs ∧ (∀ b, K b ∉ [4, 8, 21, 43] → G b = F b) ∧ s_rd4 K G a0 tt qq) (fun K126 => ?_) ?_
  · refine lv_aload_n hx hb dX3_openLine_0 rfl (lv_at hl 0 rfl) ?_
    refine th_get (D := (dC, dI)) (ci := 3) (v := .int z13) (C := RX3) (T := TX3) (N := 15) hx hb hts inX3 hown hK hP (hLK _ ha0 (by decide)) o25 rfl 7 (by decide) (hts _ T_204) (fun _ h9 => h9) rfl dX3_openLine_1 ?_
    refine lv_iconst (v := 1) hx hb dX3_openLine_4 (by decide) ?_
    refine lv_icmp_eq (tgt := 18) hx hb dX3_openLine_5 (by decide) (fun c26 => ?_) (fun c26 => ?_)
    · have c26 := (ax_eq (n := 1) (by decide)).mp c26
      refine lv_aload_n hx hb dX3_openLine_18 rfl (lv_at hl 0 rfl) ?_
      refine th_get (D := (dC, dI)) (ci := 3) (v := .ref qq) (C := RX3) (T := TX3) (N := 15) hx hb hts inX3 hown hK hP (hLK _ ha0 (by decide)) o25 rfl 6 (by decide) (hts _ T_211) (fun _ h9 => h9) rfl dX3_openLine_19 ?_
      obtain ⟨z27, z29, z31, z33, z35, z37, z38, o39, h28, h30, h32, h34, h36, -⟩ := s_op8 hI h12
      refine th_getN (D := (dC, dI)) (ci := 2) (v := .int z33) (C := RX2) (T := TX2) (N := 7) hx hb hts inX2 hown hK hP (hLK _ h12 (by decide)) o39 rfl 3 (by decide) (va_Nw.use rfl (ax_n9 hN)) (fun _ h9 => h9) rfl dX3_openLine_22 ?_
      refine lv_bipush (v := 40) hx hb dX3_openLine_25 (by decide) ?_
      refine lv_icmp_ne (tgt := 40) hx hb dX3_openLine_27 (by decide) (fun c40 => ?_) (fun c40 => ?_)
      · have c40 := mt (ax_eq (n := 40) (by decide)).mpr c40
        refine lv_aload_n hx hb dX3_openLine_40 rfl (lv_at hl 0 rfl) ?_
        refine th_get (D := (dC, dI)) (ci := 3) (v := .int z14) (C := RX3) (T := TX3) (N := 15) hx hb hts inX3 hown hK hP (hLK _ ha0 (by decide)) o25 rfl 8 (by decide) (hts _ T_206) (fun _ h9 => h9) rfl dX3_openLine_41 ?_
        refine lv_istore_n (lv' := [(1, .int z14), (0, .ref a0)]) hx hb dX3_openLine_44 rfl hl (by decide) rfl (fun ls hl => ?_)
        refine lv_aload_n hx hb dX3_openLine_45 rfl (lv_at hl 1 rfl) ?_
        refine th_get (D := (dC, dI)) (ci := 3) (v := .int z18) (C := RX3) (T := TX3) (N := 15) hx hb hts inX3 hown hK hP (hLK _ ha0 (by decide)) o25 rfl 10 (by decide) (hts _ T_208) (fun _ h9 => h9) rfl dX3_openLine_46 ?_
        refine lv_iconst (v := (-1)) hx hb dX3_openLine_49 (by decide) ?_
        refine lv_icmp_ne (tgt := 60) hx hb dX3_openLine_50 (by decide) (fun c41 => ?_) (fun c41 => ?_)
        · have c41 := mt (ax_eq (n := (-1)) (by decide)).mpr c41
          refine lv_aload_n hx hb dX3_openLine_60 rfl (lv_at hl 1 rfl) ?_
          refine th_get (D := (dC, dI)) (ci := 3) (v := .int z14) (C := RX3) (T := TX3) (N := 15) hx hb hts inX3 hown hK hP (hLK _ ha0 (by decide)) o25 rfl 8 (by decide) (hts _ T_206) (fun _ h9 => h9) rfl dX3_openLine_61 ?_
          refine lv_istore_n (lv' := [(2, .int z14), (1, .int z14), (0, .ref a0)]) hx hb dX3_openLine_64 rfl hl (by decide) rfl (fun ls hl => ?_)
          refine lv_aload_n hx hb dX3_openLine_65 rfl (lv_at hl 2 rfl) ?_
          refine th_get (D := (dC, dI)) (ci := 3) (v := .int z18) (C := RX3) (T := TX3) (N := 15) hx hb hts inX3 hown hK hP (hLK _ ha0 (by decide)) o25 rfl 10 (by decide) (hts _ T_208) (fun _ h9 => h9) rfl dX3_openLine_66 ?_
          refine lv_iconst (v := (-1)) hx hb dX3_openLine_69 (by decide) ?_
          refine lv_icmp_ne (tgt := 110) hx hb dX3_openLine_70 (by decide) (fun c42 => ?_) (fun c42 => ?_)
          · have c42 := mt (ax_eq (n := (-1)) (by decide)).mpr c42
            refine lv_aload_n hx hb dX3_openLine_110 rfl (lv_at hl 2 rfl) ?_
            refine th_get (D := (dC, dI)) (ci := 3) (v := .int z18) (C := RX3) (T := TX3) (N := 15) hx hb hts inX3 hown hK hP (hLK _ ha0 (by decide)) o25 rfl 10 (by decide) (hts _ T_208) (fun _ h9 => h9) rfl dX3_openLine_111 ?_
            refine lv_if_lt (tgt := 126) hx hb dX3_openLine_114 (by decide) (fun c43 => ?_) (fun c43 => ?_)
            · have c43 := (ax_lt (n := 0) (by decide)).mp c43
              exact K126 _ _ _ ⟨F, _, rfl, lv_sub hl [2] rfl, hI, hP, hS, hfr, ⟨z1, z3, z5, z7, z10, z13, z14, z16, z18, z19, z20, z22, z23, o25, h2, h4, h6, h8, h9, ⟨by omega, by omega⟩, h12, ⟨by omega, by omega⟩, ⟨by omega, by omega⟩, ⟨by omega, by omega⟩, (fun q => by first | omega | exact absurd q (by decide)), trivial⟩⟩
            · have c43 := mt (ax_lt (n := 0) (by decide)).mpr c43
              refine lv_aload_n hx hb dX3_openLine_117 rfl (lv_at hl 2 rfl) ?_
              refine th_get (D := (dC, dI)) (ci := 3) (v := .int z18) (C := RX3) (T := TX3) (N := 15) hx hb hts inX3 hown hK hP (hLK _ ha0 (by decide)) o25 rfl 10 (by decide) (hts _ T_208) (fun _ h9 => h9) rfl dX3_openLine_118 ?_
              refine lv_bipush (v := 15) hx hb dX3_openLine_121 (by decide) ?_
              refine lv_icmp_le (tgt := 136) hx hb dX3_openLine_123 (by decide) (fun c44 => ?_) (fun c44 => ?_)
              · have c44 := (ax_le (n := 15) (by decide)).mp c44
                refine lv_aload_n hx hb dX3_openLine_136 rfl (lv_at hl 2 rfl) ?_
                refine th_get (D := (dC, dI)) (ci := 3) (v := .ref z1) (C := RX3) (T := TX3) (N := 15) hx hb hts inX3 hown hK hP (hLK _ ha0 (by decide)) o25 rfl 0 (by decide) (hts _ T_129) (fun _ h9 => h9) rfl dX3_openLine_137 ?_
                refine lv_aload_n hx hb dX3_openLine_140 rfl (lv_at hl 2 rfl) ?_
                refine th_get (D := (dC, dI)) (ci := 3) (v := .ref qq) (C := RX3) (T := TX3) (N := 15) hx hb hts inX3 hown hK hP (hLK _ ha0 (by decide)) o25 rfl 6 (by decide) (hts _ T_211) (fun _ h9 => h9) rfl dX3_openLine_141 ?_
                refine th_getN (D := (dC, dI)) (ci := 2) (v := .int z33) (C := RX2) (T := TX2) (N := 7) hx hb hts inX2 hown hK hP (hLK _ h12 (by decide)) o39 rfl 3 (by decide) (va_Nw.use rfl (ax_n9 hN)) (fun _ h9 => h9) rfl dX3_openLine_144 ?_
                refine lv_iload_n hx hb dX3_openLine_147 rfl (lv_at hl 1 rfl) ?_
                obtain ⟨f45, o46, h47⟩ := s_op21 hI h2
                refine th_iast hx hb hK hP hD hS (hLK _ h2 (by decide)) 0 o46 rfl (th_in ⟨by omega, by omega⟩) dX3_openLine_148 (fun H locs hP hS => ?_)
                have hIq := hI
                have hP : va_P (dC, dI) vwCl (va_pl L (va_up F z1 (.inl (cs 0, 40, .inl (upd f45 (z33 : Int32).toNatClampNeg z14))))) H := hP
                obtain ⟨F48, hF49⟩ : ∃ G : Nat → va_E, G = va_up F z1 (.inl (cs 0, 40, .inl (upd f45 (z33 : Int32).toNatClampNeg z14))) := ⟨_, rfl⟩
                rw [← hF49] at hP
                have hI : s_I K cs D F48 := by rw [hF49]; exact s_cl21 hI h2 ⟨_, rfl, (th_updB h47 ⟨by omega, by omega⟩)⟩
                have hfr : ∀ b, K b ∉ [4, 8, 21, 43] → F48 b = F b := by rw [hF49]; exact s_fr hfr h2 (by decide)
                have o50 : F48 a0 = .inr (3, [.ref z1, .ref z3, .ref z5, .ref z7, .ref tt, .int z10, .ref qq, .int z13, .int z14, .int z16, .int z18, .int z19, .int z20, .int z22, .int z23]) := by rw [hF49]; exact th_ne (th_kd ha0 h2 (by decide)) o25
                have o51 : F48 qq = .inr (2, [.ref z27, .ref z29, .ref z31, .int z33, .int z35, .int z37, .int z38]) := by rw [hF49]; exact th_ne (th_kd h12 h2 (by decide)) o39
                have hq := s_QGo hIq h12 h2 (by decide) hF49 hq
                refine lv_aload_n hx hb dX3_openLine_149 rfl (lv_at hl 2 rfl) ?_
                refine th_get (D := (dC, dI)) (ci := 3) (v := .ref z3) (C := RX3) (T := TX3) (N := 15) hx hb hts inX3 hown hK hP (hLK _ ha0 (by decide)) o50 rfl 1 (by decide) (hts _ T_130) (fun _ h9 => h9) rfl dX3_openLine_150 ?_
                refine lv_aload_n hx hb dX3_openLine_153 rfl (lv_at hl 2 rfl) ?_
                refine th_get (D := (dC, dI)) (ci := 3) (v := .ref qq) (C := RX3) (T := TX3) (N := 15) hx hb hts inX3 hown hK hP (hLK _ ha0 (by decide)) o50 rfl 6 (by decide) (hts _ T_211) (fun _ h9 => h9) rfl dX3_openLine_154 ?_
                refine th_getN (D := (dC, dI)) (ci := 2) (v := .int z33) (C := RX2) (T := TX2) (N := 7) hx hb hts inX2 hown hK hP (hLK _ h12 (by decide)) o51 rfl 3 (by decide) (va_Nw.use rfl (ax_n9 hN)) (fun _ h9 => h9) rfl dX3_openLine_157 ?_
                refine lv_iload_n hx hb dX3_openLine_160 rfl (lv_at hl 0 rfl) ?_
                obtain ⟨f52, o53, h54⟩ := s_op21 hI h4
                refine th_iast hx hb hK hP hD hS (hLK _ h4 (by decide)) 0 o53 rfl (th_in ⟨by omega, by omega⟩) dX3_openLine_161 (fun H locs hP hS => ?_)
                have hIq := hI
                have hP : va_P (dC, dI) vwCl (va_pl L (va_up F48 z3 (.inl (cs 0, 40, .inl (upd f52 (z33 : Int32).toNatClampNeg z14))))) H := hP
                obtain ⟨F55, hF56⟩ : ∃ G : Nat → va_E, G = va_up F48 z3 (.inl (cs 0, 40, .inl (upd f52 (z33 : Int32).toNatClampNeg z14))) := ⟨_, rfl⟩
                rw [← hF56] at hP
                have hI : s_I K cs D F55 := by rw [hF56]; exact s_cl21 hI h4 ⟨_, rfl, (th_updB h54 ⟨by omega, by omega⟩)⟩
                have hfr : ∀ b, K b ∉ [4, 8, 21, 43] → F55 b = F b := by rw [hF56]; exact s_fr hfr h4 (by decide)
                have o57 : F55 a0 = .inr (3, [.ref z1, .ref z3, .ref z5, .ref z7, .ref tt, .int z10, .ref qq, .int z13, .int z14, .int z16, .int z18, .int z19, .int z20, .int z22, .int z23]) := by rw [hF56]; exact th_ne (th_kd ha0 h4 (by decide)) o50
                have o58 : F55 qq = .inr (2, [.ref z27, .ref z29, .ref z31, .int z33, .int z35, .int z37, .int z38]) := by rw [hF56]; exact th_ne (th_kd h12 h4 (by decide)) o51
                have hq := s_QGo hIq h12 h4 (by decide) hF56 hq
                refine lv_aload_n hx hb dX3_openLine_162 rfl (lv_at hl 2 rfl) ?_
                refine th_get (D := (dC, dI)) (ci := 3) (v := .ref qq) (C := RX3) (T := TX3) (N := 15) hx hb hts inX3 hown hK hP (hLK _ ha0 (by decide)) o57 rfl 6 (by decide) (hts _ T_211) (fun _ h9 => h9) rfl dX3_openLine_163 ?_
                refine lv_aload_n hx hb dX3_openLine_166 rfl (lv_at hl 2 rfl) ?_
                refine th_get (D := (dC, dI)) (ci := 3) (v := .int z18) (C := RX3) (T := TX3) (N := 15) hx hb hts inX3 hown hK hP (hLK _ ha0 (by decide)) o57 rfl 10 (by decide) (hts _ T_208) (fun _ h9 => h9) rfl dX3_openLine_167 ?_
                have hIq := hI
                refine va_callv (va_runV (As := [.int z18]) (rest := []) ⟨hx, hb, hml, hown, hts⟩ (s_X2_addLine l dC dI H.size hLK D F55 qq z18 h12 hI (s_RIt hfr (by decide) hRI) (fun vs z q q2 => by rw [o58] at q; cases q; cases q2; omega)) (cwV 1 hts (ax_gV T_765 T_767 T_768 T_168 T_766) rfl rfl rfl (by decide +kernel) ⟨Nat.le_of_ble_eq_true rfl, Nat.le_of_ble_eq_true rfl⟩) ⟨fun a U g mk q => ⟨q.1, s_pc (U := U) rfl rfl q.2⟩, s_recv hK hP (hLK _ h12 (by decide)) (ci := 2) rfl o58, fun U hU hW => ⟨rfl, s_pw hU hW hP hK hD hN⟩⟩ rfl rfl hl.1 rfl (lv_room (Nat.le_of_ble_eq_true rfl)) dX3_openLine_170 ⟨Nat.zero_le _, Nat.zero_le _⟩) hS (fun q _ h => h) (fun q h => h) (fun F59 t H1 locs ht hvm hw hB hz1 hk1 hS => ?_)
                obtain ⟨hP, hK1⟩ := hB
                rw [ht] at hP
                generalize H1 = H at hP hS ⊢
                clear hz1 hk1
                obtain ⟨h60, h61, hI, hfr1⟩ := hw
                have o62 : F59 a0 = .inr (3, [.ref z1, .ref z3, .ref z5, .ref z7, .ref tt, .int z10, .ref qq, .int z13, .int z14, .int z16, .int z18, .int z19, .int z20, .int z22, .int z23]) := (hfr1 _ (by rw [ha0]; decide)).trans o57
                have hfr : ∀ b, K b ∉ [4, 8, 21, 43] → F59 b = F b := fun b hb9 => (hfr1 b (fun q => hb9 (s_sub (by decide) q))).trans (hfr b hb9)
                obtain ⟨h61, h63⟩ := h61
                have h63 : ((s_QG cs F55 qq 0 → s_QG cs F59 qq 1 ∧ (7 ≤ z18.toInt → s_QG cs F59 qq 0)) ∧ s_L1 F59 qq) := h63
                refine lv_iconst (v := 1) hx hb dX3_openLine_173 (by decide) ?_
                exact W.zret (v := 1) (ty := .boolean) hx hb hr (by decide) (fun t ht hW => ⟨⟨1, F59, rfl, ⟨(by decide), ⟨trivial, (fun _ => ⟨(h63.1 hq).1, fun vs z q q2 => by rw [o62] at q; cases q; cases q2; exact ⟨by omega, by omega, (h63.1 hq).2⟩, h63.2⟩)⟩, hI, hfr, ⟨z1, z3, z5, z7, z10, z13, z14, z16, z18, z19, z20, z22, z23, o62, h2, h4, h6, h8, h9, ⟨by omega, by omega⟩, h12, ⟨by omega, by omega⟩, ⟨by omega, by omega⟩, ⟨by omega, by omega⟩, (fun q => by first | omega | exact absurd q (by decide)), trivial⟩⟩, by rw [ht]; exact hP, va_K.moved hW.alike hK⟩, hS.F ht⟩) hS.2.2 dX3_openLine_174
              · have c44 := mt (ax_le (n := 15) (by decide)).mpr c44
                exact K126 _ _ _ ⟨F, _, rfl, lv_sub hl [2] rfl, hI, hP, hS, hfr, ⟨z1, z3, z5, z7, z10, z13, z14, z16, z18, z19, z20, z22, z23, o25, h2, h4, h6, h8, h9, ⟨by omega, by omega⟩, h12, ⟨by omega, by omega⟩, ⟨by omega, by omega⟩, ⟨by omega, by omega⟩, (fun q => by first | omega | exact absurd q (by decide)), trivial⟩⟩
          · have c42 := (ax_eq (n := (-1)) (by decide)).mp c42
            refine lv_aload_n hx hb dX3_openLine_73 rfl (lv_at hl 2 rfl) ?_
            have hIq := hI
            refine va_calli (va_runV (As := []) (rest := []) ⟨hx, hb, hml, hown, hts⟩ (s_X3_readName l dC dI H.size hLK D adK adV tf F a0 ha0 hI tt qq ⟨z1, z3, z5, z7, z10, z13, z14, z16, z18, z19, z20, z22, z23, o25, h2, h4, h6, h8, h9, ⟨by omega, by omega⟩, h12, ⟨by omega, by omega⟩, ⟨by omega, by omega⟩, ⟨by omega, by omega⟩, (fun q => by first | omega | exact absurd q (by decide)), trivial⟩) (cwV 0 hts (ax_gV T_757 T_759 T_760 T_163 T_758) rfl rfl rfl (by decide +kernel) ⟨Nat.le_of_ble_eq_true rfl, Nat.le_of_ble_eq_true rfl⟩) ⟨fun a U g mk q => ⟨q.1, s_pc (U := U) rfl rfl q.2.1, s_pcZ (U := U) rfl rfl q.2.2⟩, s_recv hK hP (hLK _ ha0 (by decide)) (ci := 3) rfl o25, fun U hU hW => ⟨rfl, s_pw hU hW hP hK hD hN, s_pwZ hU hW hS hZ⟩⟩ rfl rfl hl.1 rfl (lv_room (Nat.le_of_ble_eq_true rfl)) dX3_openLine_74 ⟨Nat.zero_le _, Nat.zero_le _⟩) hS (fun q _ h => h) (fun q h => h) (fun r64 F65 t H1 locs ht hvm hw hB hz1 hk1 hS => ?_)
            obtain ⟨hP, hK1⟩ := hB
            rw [ht] at hP
            generalize H1 = H at hP hS ⊢
            clear hz1 hk1
            obtain ⟨h66, h67, hI, hfr1, h68⟩ := hw
            have o69 : F65 qq = .inr (2, [.ref z27, .ref z29, .ref z31, .int z33, .int z35, .int z37, .int z38]) := (hfr1 _ (by rw [h12]; decide)).trans o39
            have hq := s_QGt hIq h12 (fun b hb9 => hfr1 b (by rcases hb9 with q | q | q <;> (rw [q]; decide))) hq
            have hfr : ∀ b, K b ∉ [4, 8, 21, 43] → F65 b = F b := fun b hb9 => (hfr1 b (fun q => hb9 (s_sub (by decide) q))).trans (hfr b hb9)
            obtain ⟨z70, z72, z74, z76, z79, z82, z83, z85, z87, z88, z89, z91, z92, o94, h71, h73, h75, h77, h78, h80, h81, h84, h86, h90, h93, -⟩ := h68
            refine lv_if_ne (tgt := 82) hx hb dX3_openLine_77 (by decide) (fun c95 => ?_) (fun c95 => ?_)
            · have c95 := mt (ax_eq (n := 0) (by decide)).mpr c95
              refine lv_aload_n hx hb dX3_openLine_82 rfl (lv_at hl 2 rfl) ?_
              refine lv_iload_n hx hb dX3_openLine_83 rfl (lv_at hl 1 rfl) ?_
              refine lv_iload_n hx hb dX3_openLine_84 rfl (lv_at hl 0 rfl) ?_
              have hIq := hI
              refine va_calli (va_runV (As := [.int z14, .int z14]) (rest := []) ⟨hx, hb, hml, hown, hts⟩ (s_X3_lineNamed l dC dI H.size hLK D F65 a0 z14 z14 ha0 (⟨by omega, by omega⟩) (⟨by omega, by omega⟩) hI tt qq ⟨z70, z72, z74, z76, z79, z82, z83, z85, z87, z88, z89, z91, z92, o94, h71, h73, h75, h77, h78, ⟨by omega, by omega⟩, h81, ⟨by omega, by omega⟩, ⟨by omega, by omega⟩, ⟨by omega, by omega⟩, (fun q => by first | omega | exact absurd q (by decide)), trivial⟩) (cwV 2 hts (ax_gV T_753 T_755 T_756 T_163 T_754) rfl rfl rfl (by decide +kernel) ⟨Nat.le_of_ble_eq_true rfl, Nat.le_of_ble_eq_true rfl⟩) ⟨fun a U g mk q => ⟨q.1, s_pc (U := U) rfl rfl q.2⟩, s_recv hK hP (hLK _ ha0 (by decide)) (ci := 3) rfl o94, fun U hU hW => ⟨rfl, s_pw hU hW hP hK hD hN⟩⟩ rfl rfl hl.1 rfl (lv_room (Nat.le_of_ble_eq_true rfl)) dX3_openLine_85 ⟨Nat.zero_le _, Nat.zero_le _⟩) hS (fun q _ h => h) (fun q h => h) (fun r96 F97 t H1 locs ht hvm hw hB hz1 hk1 hS => ?_)
              obtain ⟨hP, hK1⟩ := hB
              rw [ht] at hP
              generalize H1 = H at hP hS ⊢
              clear hz1 hk1
              obtain ⟨h98, h99, hI, hfr1, h100⟩ := hw
              have o101 : F97 qq = .inr (2, [.ref z27, .ref z29, .ref z31, .int z33, .int z35, .int z37, .int z38]) := (hfr1 _ (by rw [h81]; decide)).trans o69
              have o102 : F97 a0 = .inr (3, [.ref z70, .ref z72, .ref z74, .ref z76, .ref tt, .int z79, .ref qq, .int z82, .int z83, .int z85, .int z87, .int z88, .int z89, .int z91, .int z92]) := (hfr1 _ (by rw [ha0]; decide)).trans o94
              have hq := s_QGt hIq h81 (fun b hb9 => hfr1 b (by rcases hb9 with q | q | q <;> (rw [q]; decide))) hq
              have hfr : ∀ b, K b ∉ [4, 8, 21, 43] → F97 b = F b := fun b hb9 => (hfr1 b (fun q => hb9 (s_sub (by decide) q))).trans (hfr b hb9)
              obtain ⟨z103, z105, z107, z109, z112, z115, z116, z118, z120, z121, z122, z124, z125, o127, h104, h106, h108, h110, h111, h113, h114, h117, h119, h123, h126, -⟩ := h100
              refine lv_iconst (v := (-1)) hx hb dX3_openLine_88 (by decide) ?_
              refine lv_icmp_eq (tgt := 99) hx hb dX3_openLine_89 (by decide) (fun c128 => ?_) (fun c128 => ?_)
              · have c128 := (ax_eq (n := (-1)) (by decide)).mp c128
                refine lv_aload_n hx hb dX3_openLine_99 rfl (lv_at hl 2 rfl) ?_
                refine lv_bipush (v := 58) hx hb dX3_openLine_100 (by decide) ?_
                have hIq := hI
                refine va_calli (va_runV (As := [.int 58]) (rest := []) ⟨hx, hb, hml, hown, hts⟩ (s_X3_readSign l dC dI H.size hLK D adK adV tf F97 a0 58 ha0 hI tt qq ⟨z103, z105, z107, z109, z112, z115, z116, z118, z120, z121, z122, z124, z125, o127, h104, h106, h108, h110, h111, ⟨by omega, by omega⟩, h114, ⟨by omega, by omega⟩, ⟨by omega, by omega⟩, ⟨by omega, by omega⟩, (fun q => by first | omega | exact absurd q (by decide)), trivial⟩) (cwV 1 hts (ax_gV T_761 T_763 T_764 T_163 T_762) rfl rfl rfl (by decide +kernel) ⟨Nat.le_of_ble_eq_true rfl, Nat.le_of_ble_eq_true rfl⟩) ⟨fun a U g mk q => ⟨q.1, s_pc (U := U) rfl rfl q.2.1, s_pcZ (U := U) rfl rfl q.2.2⟩, s_recv hK hP (hLK _ ha0 (by decide)) (ci := 3) rfl o127, fun U hU hW => ⟨rfl, s_pw hU hW hP hK hD hN, s_pwZ hU hW hS hZ⟩⟩ rfl rfl hl.1 rfl (lv_room (Nat.le_of_ble_eq_true rfl)) dX3_openLine_102 ⟨Nat.zero_le _, Nat.zero_le _⟩) hS (fun q _ h => h) (fun q h => h) (fun r129 F130 t H1 locs ht hvm hw hB hz1 hk1 hS => ?_)
                obtain ⟨hP, hK1⟩ := hB
                rw [ht] at hP
                generalize H1 = H at hP hS ⊢
                clear hz1 hk1
                obtain ⟨h131, h132, hI, hfr1, h133⟩ := hw
                have o134 : F130 qq = .inr (2, [.ref z27, .ref z29, .ref z31, .int z33, .int z35, .int z37, .int z38]) := (hfr1 _ (by rw [h114]; decide)).trans o101
                have hq := s_QGt hIq h114 (fun b hb9 => hfr1 b (by rcases hb9 with q | q | q <;> (rw [q]; decide))) hq
                have hfr : ∀ b, K b ∉ [4, 8, 21, 43] → F130 b = F b := fun b hb9 => (hfr1 b (fun q => hb9 (s_sub (by decide) q))).trans (hfr b hb9)
                obtain ⟨z135, z137, z139, z141, z144, z147, z148, z150, z152, z153, z154, z156, z157, o159, h136, h138, h140, h142, h143, h145, h146, h149, h151, h155, h158, -⟩ := h133
                refine lv_if_ne (tgt := 110) hx hb dX3_openLine_105 (by decide) (fun c160 => ?_) (fun c160 => ?_)
                · have c160 := mt (ax_eq (n := 0) (by decide)).mpr c160
                  refine lv_aload_n hx hb dX3_openLine_110 rfl (lv_at hl 2 rfl) ?_
                  refine th_get (D := (dC, dI)) (ci := 3) (v := .int z152) (C := RX3) (T := TX3) (N := 15) hx hb hts inX3 hown hK hP (hLK _ ha0 (by decide)) o159 rfl 10 (by decide) (hts _ T_208) (fun _ h9 => h9) rfl dX3_openLine_111 ?_
                  refine lv_if_lt (tgt := 126) hx hb dX3_openLine_114 (by decide) (fun c161 => ?_) (fun c161 => ?_)
                  · have c161 := (ax_lt (n := 0) (by decide)).mp c161
                    exact K126 _ _ _ ⟨F130, _, rfl, lv_sub hl [2] rfl, hI, hP, hS, hfr, ⟨z135, z137, z139, z141, z144, z147, z148, z150, z152, z153, z154, z156, z157, o159, h136, h138, h140, h142, h143, ⟨by omega, by omega⟩, h146, ⟨by omega, by omega⟩, ⟨by omega, by omega⟩, ⟨by omega, by omega⟩, (fun q => by first | omega | exact absurd q (by decide)), trivial⟩⟩
                  · have c161 := mt (ax_lt (n := 0) (by decide)).mpr c161
                    refine lv_aload_n hx hb dX3_openLine_117 rfl (lv_at hl 2 rfl) ?_
                    refine th_get (D := (dC, dI)) (ci := 3) (v := .int z152) (C := RX3) (T := TX3) (N := 15) hx hb hts inX3 hown hK hP (hLK _ ha0 (by decide)) o159 rfl 10 (by decide) (hts _ T_208) (fun _ h9 => h9) rfl dX3_openLine_118 ?_
                    refine lv_bipush (v := 15) hx hb dX3_openLine_121 (by decide) ?_
                    refine lv_icmp_le (tgt := 136) hx hb dX3_openLine_123 (by decide) (fun c162 => ?_) (fun c162 => ?_)
                    · have c162 := (ax_le (n := 15) (by decide)).mp c162
                      refine lv_aload_n hx hb dX3_openLine_136 rfl (lv_at hl 2 rfl) ?_
                      refine th_get (D := (dC, dI)) (ci := 3) (v := .ref z135) (C := RX3) (T := TX3) (N := 15) hx hb hts inX3 hown hK hP (hLK _ ha0 (by decide)) o159 rfl 0 (by decide) (hts _ T_129) (fun _ h9 => h9) rfl dX3_openLine_137 ?_
                      refine lv_aload_n hx hb dX3_openLine_140 rfl (lv_at hl 2 rfl) ?_
                      refine th_get (D := (dC, dI)) (ci := 3) (v := .ref qq) (C := RX3) (T := TX3) (N := 15) hx hb hts inX3 hown hK hP (hLK _ ha0 (by decide)) o159 rfl 6 (by decide) (hts _ T_211) (fun _ h9 => h9) rfl dX3_openLine_141 ?_
                      refine th_getN (D := (dC, dI)) (ci := 2) (v := .int z33) (C := RX2) (T := TX2) (N := 7) hx hb hts inX2 hown hK hP (hLK _ h146 (by decide)) o134 rfl 3 (by decide) (va_Nw.use rfl (ax_n9 hN)) (fun _ h9 => h9) rfl dX3_openLine_144 ?_
                      refine lv_iload_n hx hb dX3_openLine_147 rfl (lv_at hl 1 rfl) ?_
                      obtain ⟨f163, o164, h165⟩ := s_op21 hI h136
                      refine th_iast hx hb hK hP hD hS (hLK _ h136 (by decide)) 0 o164 rfl (th_in ⟨by omega, by omega⟩) dX3_openLine_148 (fun H locs hP hS => ?_)
                      have hIq := hI
                      have hP : va_P (dC, dI) vwCl (va_pl L (va_up F130 z135 (.inl (cs 0, 40, .inl (upd f163 (z33 : Int32).toNatClampNeg z14))))) H := hP
                      obtain ⟨F166, hF167⟩ : ∃ G : Nat → va_E, G = va_up F130 z135 (.inl (cs 0, 40, .inl (upd f163 (z33 : Int32).toNatClampNeg z14))) := ⟨_, rfl⟩
                      rw [← hF167] at hP
                      have hI : s_I K cs D F166 := by rw [hF167]; exact s_cl21 hI h136 ⟨_, rfl, (th_updB h165 ⟨by omega, by omega⟩)⟩
                      have hfr : ∀ b, K b ∉ [4, 8, 21, 43] → F166 b = F b := by rw [hF167]; exact s_fr hfr h136 (by decide)
                      have o168 : F166 qq = .inr (2, [.ref z27, .ref z29, .ref z31, .int z33, .int z35, .int z37, .int z38]) := by rw [hF167]; exact th_ne (th_kd h146 h136 (by decide)) o134
                      have o169 : F166 a0 = .inr (3, [.ref z135, .ref z137, .ref z139, .ref z141, .ref tt, .int z144, .ref qq, .int z147, .int z148, .int z150, .int z152, .int z153, .int z154, .int z156, .int z157]) := by rw [hF167]; exact th_ne (th_kd ha0 h136 (by decide)) o159
                      have hq := s_QGo hIq h146 h136 (by decide) hF167 hq
                      refine lv_aload_n hx hb dX3_openLine_149 rfl (lv_at hl 2 rfl) ?_
                      refine th_get (D := (dC, dI)) (ci := 3) (v := .ref z137) (C := RX3) (T := TX3) (N := 15) hx hb hts inX3 hown hK hP (hLK _ ha0 (by decide)) o169 rfl 1 (by decide) (hts _ T_130) (fun _ h9 => h9) rfl dX3_openLine_150 ?_
                      refine lv_aload_n hx hb dX3_openLine_153 rfl (lv_at hl 2 rfl) ?_
                      refine th_get (D := (dC, dI)) (ci := 3) (v := .ref qq) (C := RX3) (T := TX3) (N := 15) hx hb hts inX3 hown hK hP (hLK _ ha0 (by decide)) o169 rfl 6 (by decide) (hts _ T_211) (fun _ h9 => h9) rfl dX3_openLine_154 ?_
                      refine th_getN (D := (dC, dI)) (ci := 2) (v := .int z33) (C := RX2) (T := TX2) (N := 7) hx hb hts inX2 hown hK hP (hLK _ h146 (by decide)) o168 rfl 3 (by decide) (va_Nw.use rfl (ax_n9 hN)) (fun _ h9 => h9) rfl dX3_openLine_157 ?_
                      refine lv_iload_n hx hb dX3_openLine_160 rfl (lv_at hl 0 rfl) ?_
                      obtain ⟨f170, o171, h172⟩ := s_op21 hI h138
                      refine th_iast hx hb hK hP hD hS (hLK _ h138 (by decide)) 0 o171 rfl (th_in ⟨by omega, by omega⟩) dX3_openLine_161 (fun H locs hP hS => ?_)
                      have hIq := hI
                      have hP : va_P (dC, dI) vwCl (va_pl L (va_up F166 z137 (.inl (cs 0, 40, .inl (upd f170 (z33 : Int32).toNatClampNeg z14))))) H := hP
                      obtain ⟨F173, hF174⟩ : ∃ G : Nat → va_E, G = va_up F166 z137 (.inl (cs 0, 40, .inl (upd f170 (z33 : Int32).toNatClampNeg z14))) := ⟨_, rfl⟩
                      rw [← hF174] at hP
                      have hI : s_I K cs D F173 := by rw [hF174]; exact s_cl21 hI h138 ⟨_, rfl, (th_updB h172 ⟨by omega, by omega⟩)⟩
                      have hfr : ∀ b, K b ∉ [4, 8, 21, 43] → F173 b = F b := by rw [hF174]; exact s_fr hfr h138 (by decide)
                      have o175 : F173 qq = .inr (2, [.ref z27, .ref z29, .ref z31, .int z33, .int z35, .int z37, .int z38]) := by rw [hF174]; exact th_ne (th_kd h146 h138 (by decide)) o168
                      have o176 : F173 a0 = .inr (3, [.ref z135, .ref z137, .ref z139, .ref z141, .ref tt, .int z144, .ref qq, .int z147, .int z148, .int z150, .int z152, .int z153, .int z154, .int z156, .int z157]) := by rw [hF174]; exact th_ne (th_kd ha0 h138 (by decide)) o169
                      have hq := s_QGo hIq h146 h138 (by decide) hF174 hq
                      refine lv_aload_n hx hb dX3_openLine_162 rfl (lv_at hl 2 rfl) ?_
                      refine th_get (D := (dC, dI)) (ci := 3) (v := .ref qq) (C := RX3) (T := TX3) (N := 15) hx hb hts inX3 hown hK hP (hLK _ ha0 (by decide)) o176 rfl 6 (by decide) (hts _ T_211) (fun _ h9 => h9) rfl dX3_openLine_163 ?_
                      refine lv_aload_n hx hb dX3_openLine_166 rfl (lv_at hl 2 rfl) ?_
                      refine th_get (D := (dC, dI)) (ci := 3) (v := .int z152) (C := RX3) (T := TX3) (N := 15) hx hb hts inX3 hown hK hP (hLK _ ha0 (by decide)) o176 rfl 10 (by decide) (hts _ T_208) (fun _ h9 => h9) rfl dX3_openLine_167 ?_
                      have hIq := hI
                      refine va_callv (va_runV (As := [.int z152]) (rest := []) ⟨hx, hb, hml, hown, hts⟩ (s_X2_addLine l dC dI H.size hLK D F173 qq z152 h146 hI (s_RIt hfr (by decide) hRI) (fun vs z q q2 => by rw [o175] at q; cases q; cases q2; omega)) (cwV 1 hts (ax_gV T_765 T_767 T_768 T_168 T_766) rfl rfl rfl (by decide +kernel) ⟨Nat.le_of_ble_eq_true rfl, Nat.le_of_ble_eq_true rfl⟩) ⟨fun a U g mk q => ⟨q.1, s_pc (U := U) rfl rfl q.2⟩, s_recv hK hP (hLK _ h146 (by decide)) (ci := 2) rfl o175, fun U hU hW => ⟨rfl, s_pw hU hW hP hK hD hN⟩⟩ rfl rfl hl.1 rfl (lv_room (Nat.le_of_ble_eq_true rfl)) dX3_openLine_170 ⟨Nat.zero_le _, Nat.zero_le _⟩) hS (fun q _ h => h) (fun q h => h) (fun F177 t H1 locs ht hvm hw hB hz1 hk1 hS => ?_)
                      obtain ⟨hP, hK1⟩ := hB
                      rw [ht] at hP
                      generalize H1 = H at hP hS ⊢
                      clear hz1 hk1
                      obtain ⟨h178, h179, hI, hfr1⟩ := hw
                      have o180 : F177 a0 = .inr (3, [.ref z135, .ref z137, .ref z139, .ref z141, .ref tt, .int z144, .ref qq, .int z147, .int z148, .int z150, .int z152, .int z153, .int z154, .int z156, .int z157]) := (hfr1 _ (by rw [ha0]; decide)).trans o176
                      have hfr : ∀ b, K b ∉ [4, 8, 21, 43] → F177 b = F b := fun b hb9 => (hfr1 b (fun q => hb9 (s_sub (by decide) q))).trans (hfr b hb9)
                      obtain ⟨h179, h181⟩ := h179
                      have h181 : ((s_QG cs F173 qq 0 → s_QG cs F177 qq 1 ∧ (7 ≤ z152.toInt → s_QG cs F177 qq 0)) ∧ s_L1 F177 qq) := h181
                      refine lv_iconst (v := 1) hx hb dX3_openLine_173 (by decide) ?_
                      exact W.zret (v := 1) (ty := .boolean) hx hb hr (by decide) (fun t ht hW => ⟨⟨1, F177, rfl, ⟨(by decide), ⟨trivial, (fun _ => ⟨(h181.1 hq).1, fun vs z q q2 => by rw [o180] at q; cases q; cases q2; exact ⟨by omega, by omega, (h181.1 hq).2⟩, h181.2⟩)⟩, hI, hfr, ⟨z135, z137, z139, z141, z144, z147, z148, z150, z152, z153, z154, z156, z157, o180, h136, h138, h140, h142, h143, ⟨by omega, by omega⟩, h146, ⟨by omega, by omega⟩, ⟨by omega, by omega⟩, ⟨by omega, by omega⟩, (fun q => by first | omega | exact absurd q (by decide)), trivial⟩⟩, by rw [ht]; exact hP, va_K.moved hW.alike hK⟩, hS.F ht⟩) hS.2.2 dX3_openLine_174
                    · have c162 := mt (ax_le (n := 15) (by decide)).mpr c162
                      exact K126 _ _ _ ⟨F130, _, rfl, lv_sub hl [2] rfl, hI, hP, hS, hfr, ⟨z135, z137, z139, z141, z144, z147, z148, z150, z152, z153, z154, z156, z157, o159, h136, h138, h140, h142, h143, ⟨by omega, by omega⟩, h146, ⟨by omega, by omega⟩, ⟨by omega, by omega⟩, ⟨by omega, by omega⟩, (fun q => by first | omega | exact absurd q (by decide)), trivial⟩⟩
                · have c160 := (ax_eq (n := 0) (by decide)).mp c160
                  refine lv_iconst (v := 0) hx hb dX3_openLine_108 (by decide) ?_
                  exact W.zret (v := 0) (ty := .boolean) hx hb hr (by decide) (fun t ht hW => ⟨⟨0, F130, rfl, ⟨(by decide), ⟨trivial, (fun q => absurd rfl q)⟩, hI, hfr, ⟨z135, z137, z139, z141, z144, z147, z148, z150, z152, z153, z154, z156, z157, o159, h136, h138, h140, h142, h143, ⟨by omega, by omega⟩, h146, ⟨by omega, by omega⟩, ⟨by omega, by omega⟩, ⟨by omega, by omega⟩, (fun q => by first | omega | exact absurd q (by decide)), trivial⟩⟩, by rw [ht]; exact hP, va_K.moved hW.alike hK⟩, hS.F ht⟩) hS.2.2 dX3_openLine_109
              · have c128 := mt (ax_eq (n := (-1)) (by decide)).mpr c128
                refine lv_aload_n hx hb dX3_openLine_92 rfl (lv_at hl 2 rfl) ?_
                refine lv_iconst (v := 3) hx hb dX3_openLine_93 (by decide) ?_
                refine lv_iload_n hx hb dX3_openLine_94 rfl (lv_at hl 1 rfl) ?_
                have hIq := hI
                refine va_calli (va_runV (As := [.int 3, .int z14]) (rest := []) ⟨hx, hb, hml, hown, hts⟩ (s_X3_fail l dC dI H.size hLK D F97 a0 3 z14 ha0 hI tt qq ⟨z103, z105, z107, z109, z112, z115, z116, z118, z120, z121, z122, z124, z125, o127, h104, h106, h108, h110, h111, ⟨by omega, by omega⟩, h114, ⟨by omega, by omega⟩, ⟨by omega, by omega⟩, ⟨by omega, by omega⟩, (fun q => by first | omega | exact absurd q (by decide)), trivial⟩) (cwV 2 hts (ax_gV T_218 T_219 T_220 T_163 T_14) rfl rfl rfl (by decide +kernel) ⟨Nat.le_of_ble_eq_true rfl, Nat.le_of_ble_eq_true rfl⟩) ⟨fun a U g mk q => ⟨q.1, s_pc (U := U) rfl rfl q.2⟩, s_recv hK hP (hLK _ ha0 (by decide)) (ci := 3) rfl o127, fun U hU hW => ⟨rfl, s_pw hU hW hP hK hD hN⟩⟩ rfl rfl hl.1 rfl (lv_room (Nat.le_of_ble_eq_true rfl)) dX3_openLine_95 ⟨Nat.zero_le _, Nat.zero_le _⟩) hS (fun q _ h => h) (fun q h => h) (fun r182 F183 t H1 locs ht hvm hw hB hz1 hk1 hS => ?_)
                obtain ⟨hP, hK1⟩ := hB
                rw [ht] at hP
                generalize H1 = H at hP hS ⊢
                clear hz1 hk1
                obtain ⟨h184, h185, hI, hfr1, h186⟩ := hw
                have o187 : F183 qq = .inr (2, [.ref z27, .ref z29, .ref z31, .int z33, .int z35, .int z37, .int z38]) := (hfr1 _ (by rw [h114]; decide)).trans o101
                have hq := s_QGt hIq h114 (fun b hb9 => hfr1 b (by rcases hb9 with q | q | q <;> (rw [q]; decide))) hq
                have hfr : ∀ b, K b ∉ [4, 8, 21, 43] → F183 b = F b := fun b hb9 => (hfr1 b (fun q => hb9 (s_sub (by decide) q))).trans (hfr b hb9)
                obtain ⟨h185, h188⟩ := h185
                have h188 : (∀ vs z, F183 a0 = .inr (3, vs) → vs[13]? = some (.int z) → z = 3) := h188
                obtain ⟨z189, z191, z193, z195, z198, z201, z202, z204, z206, z207, z208, z210, z211, o213, h190, h192, h194, h196, h197, h199, h200, h203, h205, h209, h212, -⟩ := h186
                exact W.zret (v := r182) (ty := .boolean) hx hb hr (th_nz ⟨by omega, by omega⟩) (fun t ht hW => ⟨⟨r182, F183, rfl, ⟨⟨by omega, by omega⟩, ⟨trivial, (fun q => absurd (th_z0 ⟨by omega, by omega⟩) q)⟩, hI, hfr, ⟨z189, z191, z193, z195, z198, z201, z202, z204, z206, z207, z208, z210, z211, o213, h190, h192, h194, h196, h197, ⟨by omega, by omega⟩, h200, ⟨by omega, by omega⟩, ⟨by omega, by omega⟩, ⟨by omega, by omega⟩, (fun q => by first | omega | exact absurd q (by decide)), trivial⟩⟩, by rw [ht]; exact hP, va_K.moved hW.alike hK⟩, hS.F ht⟩) hS.2.2 dX3_openLine_98
            · have c95 := (ax_eq (n := 0) (by decide)).mp c95
              refine lv_iconst (v := 0) hx hb dX3_openLine_80 (by decide) ?_
              exact W.zret (v := 0) (ty := .boolean) hx hb hr (by decide) (fun t ht hW => ⟨⟨0, F65, rfl, ⟨(by decide), ⟨trivial, (fun q => absurd rfl q)⟩, hI, hfr, ⟨z70, z72, z74, z76, z79, z82, z83, z85, z87, z88, z89, z91, z92, o94, h71, h73, h75, h77, h78, ⟨by omega, by omega⟩, h81, ⟨by omega, by omega⟩, ⟨by omega, by omega⟩, ⟨by omega, by omega⟩, (fun q => by first | omega | exact absurd q (by decide)), trivial⟩⟩, by rw [ht]; exact hP, va_K.moved hW.alike hK⟩, hS.F ht⟩) hS.2.2 dX3_openLine_81
        · have c41 := (ax_eq (n := (-1)) (by decide)).mp c41
          refine lv_aload_n hx hb dX3_openLine_53 rfl (lv_at hl 1 rfl) ?_
          refine th_get (D := (dC, dI)) (ci := 3) (v := .int z16) (C := RX3) (T := TX3) (N := 15) hx hb hts inX3 hown hK hP (hLK _ ha0 (by decide)) o25 rfl 9 (by decide) (hts _ T_205) (fun _ h9 => h9) rfl dX3_openLine_54 ?_
          refine lv_goto (tgt := 64) hx hb dX3_openLine_57 (by decide) ?_
          refine lv_istore_n (lv' := [(2, .int z16), (1, .int z14), (0, .ref a0)]) hx hb dX3_openLine_64 rfl hl (by decide) rfl (fun ls hl => ?_)
          refine lv_aload_n hx hb dX3_openLine_65 rfl (lv_at hl 2 rfl) ?_
          refine th_get (D := (dC, dI)) (ci := 3) (v := .int z18) (C := RX3) (T := TX3) (N := 15) hx hb hts inX3 hown hK hP (hLK _ ha0 (by decide)) o25 rfl 10 (by decide) (hts _ T_208) (fun _ h9 => h9) rfl dX3_openLine_66 ?_
          refine lv_iconst (v := (-1)) hx hb dX3_openLine_69 (by decide) ?_
          refine lv_icmp_ne (tgt := 110) hx hb dX3_openLine_70 (by decide) (fun c214 => ?_) (fun c214 => ?_)
          · have c214 := mt (ax_eq (n := (-1)) (by decide)).mpr c214
            exact absurd c214 (by omega)
          · have c214 := (ax_eq (n := (-1)) (by decide)).mp c214
            refine lv_aload_n hx hb dX3_openLine_73 rfl (lv_at hl 2 rfl) ?_
            have hIq := hI
            refine va_calli (va_runV (As := []) (rest := []) ⟨hx, hb, hml, hown, hts⟩ (s_X3_readName l dC dI H.size hLK D adK adV tf F a0 ha0 hI tt qq ⟨z1, z3, z5, z7, z10, z13, z14, z16, z18, z19, z20, z22, z23, o25, h2, h4, h6, h8, h9, ⟨by omega, by omega⟩, h12, ⟨by omega, by omega⟩, ⟨by omega, by omega⟩, ⟨by omega, by omega⟩, (fun q => by first | omega | exact absurd q (by decide)), trivial⟩) (cwV 0 hts (ax_gV T_757 T_759 T_760 T_163 T_758) rfl rfl rfl (by decide +kernel) ⟨Nat.le_of_ble_eq_true rfl, Nat.le_of_ble_eq_true rfl⟩) ⟨fun a U g mk q => ⟨q.1, s_pc (U := U) rfl rfl q.2.1, s_pcZ (U := U) rfl rfl q.2.2⟩, s_recv hK hP (hLK _ ha0 (by decide)) (ci := 3) rfl o25, fun U hU hW => ⟨rfl, s_pw hU hW hP hK hD hN, s_pwZ hU hW hS hZ⟩⟩ rfl rfl hl.1 rfl (lv_room (Nat.le_of_ble_eq_true rfl)) dX3_openLine_74 ⟨Nat.zero_le _, Nat.zero_le _⟩) hS (fun q _ h => h) (fun q h => h) (fun r215 F216 t H1 locs ht hvm hw hB hz1 hk1 hS => ?_)
            obtain ⟨hP, hK1⟩ := hB
            rw [ht] at hP
            generalize H1 = H at hP hS ⊢
            clear hz1 hk1
            obtain ⟨h217, h218, hI, hfr1, h219⟩ := hw
            have o220 : F216 qq = .inr (2, [.ref z27, .ref z29, .ref z31, .int z33, .int z35, .int z37, .int z38]) := (hfr1 _ (by rw [h12]; decide)).trans o39
            have hq := s_QGt hIq h12 (fun b hb9 => hfr1 b (by rcases hb9 with q | q | q <;> (rw [q]; decide))) hq
            have hfr : ∀ b, K b ∉ [4, 8, 21, 43] → F216 b = F b := fun b hb9 => (hfr1 b (fun q => hb9 (s_sub (by decide) q))).trans (hfr b hb9)
            obtain ⟨z221, z223, z225, z227, z230, z233, z234, z236, z238, z239, z240, z242, z243, o245, h222, h224, h226, h228, h229, h231, h232, h235, h237, h241, h244, -⟩ := h219
            refine lv_if_ne (tgt := 82) hx hb dX3_openLine_77 (by decide) (fun c246 => ?_) (fun c246 => ?_)
            · have c246 := mt (ax_eq (n := 0) (by decide)).mpr c246
              refine lv_aload_n hx hb dX3_openLine_82 rfl (lv_at hl 2 rfl) ?_
              refine lv_iload_n hx hb dX3_openLine_83 rfl (lv_at hl 1 rfl) ?_
              refine lv_iload_n hx hb dX3_openLine_84 rfl (lv_at hl 0 rfl) ?_
              have hIq := hI
              refine va_calli (va_runV (As := [.int z14, .int z16]) (rest := []) ⟨hx, hb, hml, hown, hts⟩ (s_X3_lineNamed l dC dI H.size hLK D F216 a0 z14 z16 ha0 (⟨by omega, by omega⟩) (⟨by omega, by omega⟩) hI tt qq ⟨z221, z223, z225, z227, z230, z233, z234, z236, z238, z239, z240, z242, z243, o245, h222, h224, h226, h228, h229, ⟨by omega, by omega⟩, h232, ⟨by omega, by omega⟩, ⟨by omega, by omega⟩, ⟨by omega, by omega⟩, (fun q => by first | omega | exact absurd q (by decide)), trivial⟩) (cwV 2 hts (ax_gV T_753 T_755 T_756 T_163 T_754) rfl rfl rfl (by decide +kernel) ⟨Nat.le_of_ble_eq_true rfl, Nat.le_of_ble_eq_true rfl⟩) ⟨fun a U g mk q => ⟨q.1, s_pc (U := U) rfl rfl q.2⟩, s_recv hK hP (hLK _ ha0 (by decide)) (ci := 3) rfl o245, fun U hU hW => ⟨rfl, s_pw hU hW hP hK hD hN⟩⟩ rfl rfl hl.1 rfl (lv_room (Nat.le_of_ble_eq_true rfl)) dX3_openLine_85 ⟨Nat.zero_le _, Nat.zero_le _⟩) hS (fun q _ h => h) (fun q h => h) (fun r247 F248 t H1 locs ht hvm hw hB hz1 hk1 hS => ?_)
              obtain ⟨hP, hK1⟩ := hB
              rw [ht] at hP
              generalize H1 = H at hP hS ⊢
              clear hz1 hk1
              obtain ⟨h249, h250, hI, hfr1, h251⟩ := hw
              have o252 : F248 qq = .inr (2, [.ref z27, .ref z29, .ref z31, .int z33, .int z35, .int z37, .int z38]) := (hfr1 _ (by rw [h232]; decide)).trans o220
              have o253 : F248 a0 = .inr (3, [.ref z221, .ref z223, .ref z225, .ref z227, .ref tt, .int z230, .ref qq, .int z233, .int z234, .int z236, .int z238, .int z239, .int z240, .int z242, .int z243]) := (hfr1 _ (by rw [ha0]; decide)).trans o245
              have hq := s_QGt hIq h232 (fun b hb9 => hfr1 b (by rcases hb9 with q | q | q <;> (rw [q]; decide))) hq
              have hfr : ∀ b, K b ∉ [4, 8, 21, 43] → F248 b = F b := fun b hb9 => (hfr1 b (fun q => hb9 (s_sub (by decide) q))).trans (hfr b hb9)
              obtain ⟨z254, z256, z258, z260, z263, z266, z267, z269, z271, z272, z273, z275, z276, o278, h255, h257, h259, h261, h262, h264, h265, h268, h270, h274, h277, -⟩ := h251
              refine lv_iconst (v := (-1)) hx hb dX3_openLine_88 (by decide) ?_
              refine lv_icmp_eq (tgt := 99) hx hb dX3_openLine_89 (by decide) (fun c279 => ?_) (fun c279 => ?_)
              · have c279 := (ax_eq (n := (-1)) (by decide)).mp c279
                refine lv_aload_n hx hb dX3_openLine_99 rfl (lv_at hl 2 rfl) ?_
                refine lv_bipush (v := 58) hx hb dX3_openLine_100 (by decide) ?_
                have hIq := hI
                refine va_calli (va_runV (As := [.int 58]) (rest := []) ⟨hx, hb, hml, hown, hts⟩ (s_X3_readSign l dC dI H.size hLK D adK adV tf F248 a0 58 ha0 hI tt qq ⟨z254, z256, z258, z260, z263, z266, z267, z269, z271, z272, z273, z275, z276, o278, h255, h257, h259, h261, h262, ⟨by omega, by omega⟩, h265, ⟨by omega, by omega⟩, ⟨by omega, by omega⟩, ⟨by omega, by omega⟩, (fun q => by first | omega | exact absurd q (by decide)), trivial⟩) (cwV 1 hts (ax_gV T_761 T_763 T_764 T_163 T_762) rfl rfl rfl (by decide +kernel) ⟨Nat.le_of_ble_eq_true rfl, Nat.le_of_ble_eq_true rfl⟩) ⟨fun a U g mk q => ⟨q.1, s_pc (U := U) rfl rfl q.2.1, s_pcZ (U := U) rfl rfl q.2.2⟩, s_recv hK hP (hLK _ ha0 (by decide)) (ci := 3) rfl o278, fun U hU hW => ⟨rfl, s_pw hU hW hP hK hD hN, s_pwZ hU hW hS hZ⟩⟩ rfl rfl hl.1 rfl (lv_room (Nat.le_of_ble_eq_true rfl)) dX3_openLine_102 ⟨Nat.zero_le _, Nat.zero_le _⟩) hS (fun q _ h => h) (fun q h => h) (fun r280 F281 t H1 locs ht hvm hw hB hz1 hk1 hS => ?_)
                obtain ⟨hP, hK1⟩ := hB
                rw [ht] at hP
                generalize H1 = H at hP hS ⊢
                clear hz1 hk1
                obtain ⟨h282, h283, hI, hfr1, h284⟩ := hw
                have o285 : F281 qq = .inr (2, [.ref z27, .ref z29, .ref z31, .int z33, .int z35, .int z37, .int z38]) := (hfr1 _ (by rw [h265]; decide)).trans o252
                have hq := s_QGt hIq h265 (fun b hb9 => hfr1 b (by rcases hb9 with q | q | q <;> (rw [q]; decide))) hq
                have hfr : ∀ b, K b ∉ [4, 8, 21, 43] → F281 b = F b := fun b hb9 => (hfr1 b (fun q => hb9 (s_sub (by decide) q))).trans (hfr b hb9)
                obtain ⟨z286, z288, z290, z292, z295, z298, z299, z301, z303, z304, z305, z307, z308, o310, h287, h289, h291, h293, h294, h296, h297, h300, h302, h306, h309, -⟩ := h284
                refine lv_if_ne (tgt := 110) hx hb dX3_openLine_105 (by decide) (fun c311 => ?_) (fun c311 => ?_)
                · have c311 := mt (ax_eq (n := 0) (by decide)).mpr c311
                  refine lv_aload_n hx hb dX3_openLine_110 rfl (lv_at hl 2 rfl) ?_
                  refine th_get (D := (dC, dI)) (ci := 3) (v := .int z303) (C := RX3) (T := TX3) (N := 15) hx hb hts inX3 hown hK hP (hLK _ ha0 (by decide)) o310 rfl 10 (by decide) (hts _ T_208) (fun _ h9 => h9) rfl dX3_openLine_111 ?_
                  refine lv_if_lt (tgt := 126) hx hb dX3_openLine_114 (by decide) (fun c312 => ?_) (fun c312 => ?_)
                  · have c312 := (ax_lt (n := 0) (by decide)).mp c312
                    exact K126 _ _ _ ⟨F281, _, rfl, lv_sub hl [2] rfl, hI, hP, hS, hfr, ⟨z286, z288, z290, z292, z295, z298, z299, z301, z303, z304, z305, z307, z308, o310, h287, h289, h291, h293, h294, ⟨by omega, by omega⟩, h297, ⟨by omega, by omega⟩, ⟨by omega, by omega⟩, ⟨by omega, by omega⟩, (fun q => by first | omega | exact absurd q (by decide)), trivial⟩⟩
                  · have c312 := mt (ax_lt (n := 0) (by decide)).mpr c312
                    refine lv_aload_n hx hb dX3_openLine_117 rfl (lv_at hl 2 rfl) ?_
                    refine th_get (D := (dC, dI)) (ci := 3) (v := .int z303) (C := RX3) (T := TX3) (N := 15) hx hb hts inX3 hown hK hP (hLK _ ha0 (by decide)) o310 rfl 10 (by decide) (hts _ T_208) (fun _ h9 => h9) rfl dX3_openLine_118 ?_
                    refine lv_bipush (v := 15) hx hb dX3_openLine_121 (by decide) ?_
                    refine lv_icmp_le (tgt := 136) hx hb dX3_openLine_123 (by decide) (fun c313 => ?_) (fun c313 => ?_)
                    · have c313 := (ax_le (n := 15) (by decide)).mp c313
                      refine lv_aload_n hx hb dX3_openLine_136 rfl (lv_at hl 2 rfl) ?_
                      refine th_get (D := (dC, dI)) (ci := 3) (v := .ref z286) (C := RX3) (T := TX3) (N := 15) hx hb hts inX3 hown hK hP (hLK _ ha0 (by decide)) o310 rfl 0 (by decide) (hts _ T_129) (fun _ h9 => h9) rfl dX3_openLine_137 ?_
                      refine lv_aload_n hx hb dX3_openLine_140 rfl (lv_at hl 2 rfl) ?_
                      refine th_get (D := (dC, dI)) (ci := 3) (v := .ref qq) (C := RX3) (T := TX3) (N := 15) hx hb hts inX3 hown hK hP (hLK _ ha0 (by decide)) o310 rfl 6 (by decide) (hts _ T_211) (fun _ h9 => h9) rfl dX3_openLine_141 ?_
                      refine th_getN (D := (dC, dI)) (ci := 2) (v := .int z33) (C := RX2) (T := TX2) (N := 7) hx hb hts inX2 hown hK hP (hLK _ h297 (by decide)) o285 rfl 3 (by decide) (va_Nw.use rfl (ax_n9 hN)) (fun _ h9 => h9) rfl dX3_openLine_144 ?_
                      refine lv_iload_n hx hb dX3_openLine_147 rfl (lv_at hl 1 rfl) ?_
                      obtain ⟨f314, o315, h316⟩ := s_op21 hI h287
                      refine th_iast hx hb hK hP hD hS (hLK _ h287 (by decide)) 0 o315 rfl (th_in ⟨by omega, by omega⟩) dX3_openLine_148 (fun H locs hP hS => ?_)
                      have hIq := hI
                      have hP : va_P (dC, dI) vwCl (va_pl L (va_up F281 z286 (.inl (cs 0, 40, .inl (upd f314 (z33 : Int32).toNatClampNeg z14))))) H := hP
                      obtain ⟨F317, hF318⟩ : ∃ G : Nat → va_E, G = va_up F281 z286 (.inl (cs 0, 40, .inl (upd f314 (z33 : Int32).toNatClampNeg z14))) := ⟨_, rfl⟩
                      rw [← hF318] at hP
                      have hI : s_I K cs D F317 := by rw [hF318]; exact s_cl21 hI h287 ⟨_, rfl, (th_updB h316 ⟨by omega, by omega⟩)⟩
                      have hfr : ∀ b, K b ∉ [4, 8, 21, 43] → F317 b = F b := by rw [hF318]; exact s_fr hfr h287 (by decide)
                      have o319 : F317 qq = .inr (2, [.ref z27, .ref z29, .ref z31, .int z33, .int z35, .int z37, .int z38]) := by rw [hF318]; exact th_ne (th_kd h297 h287 (by decide)) o285
                      have o320 : F317 a0 = .inr (3, [.ref z286, .ref z288, .ref z290, .ref z292, .ref tt, .int z295, .ref qq, .int z298, .int z299, .int z301, .int z303, .int z304, .int z305, .int z307, .int z308]) := by rw [hF318]; exact th_ne (th_kd ha0 h287 (by decide)) o310
                      have hq := s_QGo hIq h297 h287 (by decide) hF318 hq
                      refine lv_aload_n hx hb dX3_openLine_149 rfl (lv_at hl 2 rfl) ?_
                      refine th_get (D := (dC, dI)) (ci := 3) (v := .ref z288) (C := RX3) (T := TX3) (N := 15) hx hb hts inX3 hown hK hP (hLK _ ha0 (by decide)) o320 rfl 1 (by decide) (hts _ T_130) (fun _ h9 => h9) rfl dX3_openLine_150 ?_
                      refine lv_aload_n hx hb dX3_openLine_153 rfl (lv_at hl 2 rfl) ?_
                      refine th_get (D := (dC, dI)) (ci := 3) (v := .ref qq) (C := RX3) (T := TX3) (N := 15) hx hb hts inX3 hown hK hP (hLK _ ha0 (by decide)) o320 rfl 6 (by decide) (hts _ T_211) (fun _ h9 => h9) rfl dX3_openLine_154 ?_
                      refine th_getN (D := (dC, dI)) (ci := 2) (v := .int z33) (C := RX2) (T := TX2) (N := 7) hx hb hts inX2 hown hK hP (hLK _ h297 (by decide)) o319 rfl 3 (by decide) (va_Nw.use rfl (ax_n9 hN)) (fun _ h9 => h9) rfl dX3_openLine_157 ?_
                      refine lv_iload_n hx hb dX3_openLine_160 rfl (lv_at hl 0 rfl) ?_
                      obtain ⟨f321, o322, h323⟩ := s_op21 hI h289
                      refine th_iast hx hb hK hP hD hS (hLK _ h289 (by decide)) 0 o322 rfl (th_in ⟨by omega, by omega⟩) dX3_openLine_161 (fun H locs hP hS => ?_)
                      have hIq := hI
                      have hP : va_P (dC, dI) vwCl (va_pl L (va_up F317 z288 (.inl (cs 0, 40, .inl (upd f321 (z33 : Int32).toNatClampNeg z16))))) H := hP
                      obtain ⟨F324, hF325⟩ : ∃ G : Nat → va_E, G = va_up F317 z288 (.inl (cs 0, 40, .inl (upd f321 (z33 : Int32).toNatClampNeg z16))) := ⟨_, rfl⟩
                      rw [← hF325] at hP
                      have hI : s_I K cs D F324 := by rw [hF325]; exact s_cl21 hI h289 ⟨_, rfl, (th_updB h323 ⟨by omega, by omega⟩)⟩
                      have hfr : ∀ b, K b ∉ [4, 8, 21, 43] → F324 b = F b := by rw [hF325]; exact s_fr hfr h289 (by decide)
                      have o326 : F324 qq = .inr (2, [.ref z27, .ref z29, .ref z31, .int z33, .int z35, .int z37, .int z38]) := by rw [hF325]; exact th_ne (th_kd h297 h289 (by decide)) o319
                      have o327 : F324 a0 = .inr (3, [.ref z286, .ref z288, .ref z290, .ref z292, .ref tt, .int z295, .ref qq, .int z298, .int z299, .int z301, .int z303, .int z304, .int z305, .int z307, .int z308]) := by rw [hF325]; exact th_ne (th_kd ha0 h289 (by decide)) o320
                      have hq := s_QGo hIq h297 h289 (by decide) hF325 hq
                      refine lv_aload_n hx hb dX3_openLine_162 rfl (lv_at hl 2 rfl) ?_
                      refine th_get (D := (dC, dI)) (ci := 3) (v := .ref qq) (C := RX3) (T := TX3) (N := 15) hx hb hts inX3 hown hK hP (hLK _ ha0 (by decide)) o327 rfl 6 (by decide) (hts _ T_211) (fun _ h9 => h9) rfl dX3_openLine_163 ?_
                      refine lv_aload_n hx hb dX3_openLine_166 rfl (lv_at hl 2 rfl) ?_
                      refine th_get (D := (dC, dI)) (ci := 3) (v := .int z303) (C := RX3) (T := TX3) (N := 15) hx hb hts inX3 hown hK hP (hLK _ ha0 (by decide)) o327 rfl 10 (by decide) (hts _ T_208) (fun _ h9 => h9) rfl dX3_openLine_167 ?_
                      have hIq := hI
                      refine va_callv (va_runV (As := [.int z303]) (rest := []) ⟨hx, hb, hml, hown, hts⟩ (s_X2_addLine l dC dI H.size hLK D F324 qq z303 h297 hI (s_RIt hfr (by decide) hRI) (fun vs z q q2 => by rw [o326] at q; cases q; cases q2; omega)) (cwV 1 hts (ax_gV T_765 T_767 T_768 T_168 T_766) rfl rfl rfl (by decide +kernel) ⟨Nat.le_of_ble_eq_true rfl, Nat.le_of_ble_eq_true rfl⟩) ⟨fun a U g mk q => ⟨q.1, s_pc (U := U) rfl rfl q.2⟩, s_recv hK hP (hLK _ h297 (by decide)) (ci := 2) rfl o326, fun U hU hW => ⟨rfl, s_pw hU hW hP hK hD hN⟩⟩ rfl rfl hl.1 rfl (lv_room (Nat.le_of_ble_eq_true rfl)) dX3_openLine_170 ⟨Nat.zero_le _, Nat.zero_le _⟩) hS (fun q _ h => h) (fun q h => h) (fun F328 t H1 locs ht hvm hw hB hz1 hk1 hS => ?_)
                      obtain ⟨hP, hK1⟩ := hB
                      rw [ht] at hP
                      generalize H1 = H at hP hS ⊢
                      clear hz1 hk1
                      obtain ⟨h329, h330, hI, hfr1⟩ := hw
                      have o331 : F328 a0 = .inr (3, [.ref z286, .ref z288, .ref z290, .ref z292, .ref tt, .int z295, .ref qq, .int z298, .int z299, .int z301, .int z303, .int z304, .int z305, .int z307, .int z308]) := (hfr1 _ (by rw [ha0]; decide)).trans o327
                      have hfr : ∀ b, K b ∉ [4, 8, 21, 43] → F328 b = F b := fun b hb9 => (hfr1 b (fun q => hb9 (s_sub (by decide) q))).trans (hfr b hb9)
                      obtain ⟨h330, h332⟩ := h330
                      have h332 : ((s_QG cs F324 qq 0 → s_QG cs F328 qq 1 ∧ (7 ≤ z303.toInt → s_QG cs F328 qq 0)) ∧ s_L1 F328 qq) := h332
                      refine lv_iconst (v := 1) hx hb dX3_openLine_173 (by decide) ?_
                      exact W.zret (v := 1) (ty := .boolean) hx hb hr (by decide) (fun t ht hW => ⟨⟨1, F328, rfl, ⟨(by decide), ⟨trivial, (fun _ => ⟨(h332.1 hq).1, fun vs z q q2 => by rw [o331] at q; cases q; cases q2; exact ⟨by omega, by omega, (h332.1 hq).2⟩, h332.2⟩)⟩, hI, hfr, ⟨z286, z288, z290, z292, z295, z298, z299, z301, z303, z304, z305, z307, z308, o331, h287, h289, h291, h293, h294, ⟨by omega, by omega⟩, h297, ⟨by omega, by omega⟩, ⟨by omega, by omega⟩, ⟨by omega, by omega⟩, (fun q => by first | omega | exact absurd q (by decide)), trivial⟩⟩, by rw [ht]; exact hP, va_K.moved hW.alike hK⟩, hS.F ht⟩) hS.2.2 dX3_openLine_174
                    · have c313 := mt (ax_le (n := 15) (by decide)).mpr c313
                      exact K126 _ _ _ ⟨F281, _, rfl, lv_sub hl [2] rfl, hI, hP, hS, hfr, ⟨z286, z288, z290, z292, z295, z298, z299, z301, z303, z304, z305, z307, z308, o310, h287, h289, h291, h293, h294, ⟨by omega, by omega⟩, h297, ⟨by omega, by omega⟩, ⟨by omega, by omega⟩, ⟨by omega, by omega⟩, (fun q => by first | omega | exact absurd q (by decide)), trivial⟩⟩
                · have c311 := (ax_eq (n := 0) (by decide)).mp c311
                  refine lv_iconst (v := 0) hx hb dX3_openLine_108 (by decide) ?_
                  exact W.zret (v := 0) (ty := .boolean) hx hb hr (by decide) (fun t ht hW => ⟨⟨0, F281, rfl, ⟨(by decide), ⟨trivial, (fun q => absurd rfl q)⟩, hI, hfr, ⟨z286, z288, z290, z292, z295, z298, z299, z301, z303, z304, z305, z307, z308, o310, h287, h289, h291, h293, h294, ⟨by omega, by omega⟩, h297, ⟨by omega, by omega⟩, ⟨by omega, by omega⟩, ⟨by omega, by omega⟩, (fun q => by first | omega | exact absurd q (by decide)), trivial⟩⟩, by rw [ht]; exact hP, va_K.moved hW.alike hK⟩, hS.F ht⟩) hS.2.2 dX3_openLine_109
              · have c279 := mt (ax_eq (n := (-1)) (by decide)).mpr c279
                refine lv_aload_n hx hb dX3_openLine_92 rfl (lv_at hl 2 rfl) ?_
                refine lv_iconst (v := 3) hx hb dX3_openLine_93 (by decide) ?_
                refine lv_iload_n hx hb dX3_openLine_94 rfl (lv_at hl 1 rfl) ?_
                have hIq := hI
                refine va_calli (va_runV (As := [.int 3, .int z14]) (rest := []) ⟨hx, hb, hml, hown, hts⟩ (s_X3_fail l dC dI H.size hLK D F248 a0 3 z14 ha0 hI tt qq ⟨z254, z256, z258, z260, z263, z266, z267, z269, z271, z272, z273, z275, z276, o278, h255, h257, h259, h261, h262, ⟨by omega, by omega⟩, h265, ⟨by omega, by omega⟩, ⟨by omega, by omega⟩, ⟨by omega, by omega⟩, (fun q => by first | omega | exact absurd q (by decide)), trivial⟩) (cwV 2 hts (ax_gV T_218 T_219 T_220 T_163 T_14) rfl rfl rfl (by decide +kernel) ⟨Nat.le_of_ble_eq_true rfl, Nat.le_of_ble_eq_true rfl⟩) ⟨fun a U g mk q => ⟨q.1, s_pc (U := U) rfl rfl q.2⟩, s_recv hK hP (hLK _ ha0 (by decide)) (ci := 3) rfl o278, fun U hU hW => ⟨rfl, s_pw hU hW hP hK hD hN⟩⟩ rfl rfl hl.1 rfl (lv_room (Nat.le_of_ble_eq_true rfl)) dX3_openLine_95 ⟨Nat.zero_le _, Nat.zero_le _⟩) hS (fun q _ h => h) (fun q h => h) (fun r333 F334 t H1 locs ht hvm hw hB hz1 hk1 hS => ?_)
                obtain ⟨hP, hK1⟩ := hB
                rw [ht] at hP
                generalize H1 = H at hP hS ⊢
                clear hz1 hk1
                obtain ⟨h335, h336, hI, hfr1, h337⟩ := hw
                have o338 : F334 qq = .inr (2, [.ref z27, .ref z29, .ref z31, .int z33, .int z35, .int z37, .int z38]) := (hfr1 _ (by rw [h265]; decide)).trans o252
                have hq := s_QGt hIq h265 (fun b hb9 => hfr1 b (by rcases hb9 with q | q | q <;> (rw [q]; decide))) hq
                have hfr : ∀ b, K b ∉ [4, 8, 21, 43] → F334 b = F b := fun b hb9 => (hfr1 b (fun q => hb9 (s_sub (by decide) q))).trans (hfr b hb9)
                obtain ⟨h336, h339⟩ := h336
                have h339 : (∀ vs z, F334 a0 = .inr (3, vs) → vs[13]? = some (.int z) → z = 3) := h339
                obtain ⟨z340, z342, z344, z346, z349, z352, z353, z355, z357, z358, z359, z361, z362, o364, h341, h343, h345, h347, h348, h350, h351, h354, h356, h360, h363, -⟩ := h337
                exact W.zret (v := r333) (ty := .boolean) hx hb hr (th_nz ⟨by omega, by omega⟩) (fun t ht hW => ⟨⟨r333, F334, rfl, ⟨⟨by omega, by omega⟩, ⟨trivial, (fun q => absurd (th_z0 ⟨by omega, by omega⟩) q)⟩, hI, hfr, ⟨z340, z342, z344, z346, z349, z352, z353, z355, z357, z358, z359, z361, z362, o364, h341, h343, h345, h347, h348, ⟨by omega, by omega⟩, h351, ⟨by omega, by omega⟩, ⟨by omega, by omega⟩, ⟨by omega, by omega⟩, (fun q => by first | omega | exact absurd q (by decide)), trivial⟩⟩, by rw [ht]; exact hP, va_K.moved hW.alike hK⟩, hS.F ht⟩) hS.2.2 dX3_openLine_98
            · have c246 := (ax_eq (n := 0) (by decide)).mp c246
              refine lv_iconst (v := 0) hx hb dX3_openLine_80 (by decide) ?_
              exact W.zret (v := 0) (ty := .boolean) hx hb hr (by decide) (fun t ht hW => ⟨⟨0, F216, rfl, ⟨(by decide), ⟨trivial, (fun q => absurd rfl q)⟩, hI, hfr, ⟨z221, z223, z225, z227, z230, z233, z234, z236, z238, z239, z240, z242, z243, o245, h222, h224, h226, h228, h229, ⟨by omega, by omega⟩, h232, ⟨by omega, by omega⟩, ⟨by omega, by omega⟩, ⟨by omega, by omega⟩, (fun q => by first | omega | exact absurd q (by decide)), trivial⟩⟩, by rw [ht]; exact hP, va_K.moved hW.alike hK⟩, hS.F ht⟩) hS.2.2 dX3_openLine_81
      · have c40 := (ax_eq (n := 40) (by decide)).mp c40
        refine lv_aload_n hx hb dX3_openLine_30 rfl (lv_at hl 0 rfl) ?_
        refine lv_iconst (v := 5) hx hb dX3_openLine_31 (by decide) ?_
        refine lv_aload_n hx hb dX3_openLine_32 rfl (lv_at hl 0 rfl) ?_
        refine th_get (D := (dC, dI)) (ci := 3) (v := .int z14) (C := RX3) (T := TX3) (N := 15) hx hb hts inX3 hown hK hP (hLK _ ha0 (by decide)) o25 rfl 8 (by decide) (hts _ T_206) (fun _ h9 => h9) rfl dX3_openLine_33 ?_
        have hIq := hI
        refine va_calli (va_runV (As := [.int 5, .int z14]) (rest := []) ⟨hx, hb, hml, hown, hts⟩ (s_X3_fail l dC dI H.size hLK D F a0 5 z14 ha0 hI tt qq ⟨z1, z3, z5, z7, z10, z13, z14, z16, z18, z19, z20, z22, z23, o25, h2, h4, h6, h8, h9, ⟨by omega, by omega⟩, h12, ⟨by omega, by omega⟩, ⟨by omega, by omega⟩, ⟨by omega, by omega⟩, (fun q => by first | omega | exact absurd q (by decide)), trivial⟩) (cwV 2 hts (ax_gV T_218 T_219 T_220 T_163 T_14) rfl rfl rfl (by decide +kernel) ⟨Nat.le_of_ble_eq_true rfl, Nat.le_of_ble_eq_true rfl⟩) ⟨fun a U g mk q => ⟨q.1, s_pc (U := U) rfl rfl q.2⟩, s_recv hK hP (hLK _ ha0 (by decide)) (ci := 3) rfl o25, fun U hU hW => ⟨rfl, s_pw hU hW hP hK hD hN⟩⟩ rfl rfl hl.1 rfl (lv_room (Nat.le_of_ble_eq_true rfl)) dX3_openLine_36 ⟨Nat.zero_le _, Nat.zero_le _⟩) hS (fun q _ h => h) (fun q h => h) (fun r365 F366 t H1 locs ht hvm hw hB hz1 hk1 hS => ?_)
        obtain ⟨hP, hK1⟩ := hB
        rw [ht] at hP
        generalize H1 = H at hP hS ⊢
        clear hz1 hk1
        obtain ⟨h367, h368, hI, hfr1, h369⟩ := hw
        have o370 : F366 qq = .inr (2, [.ref z27, .ref z29, .ref z31, .int z33, .int z35, .int z37, .int z38]) := (hfr1 _ (by rw [h12]; decide)).trans o39
        have hq := s_QGt hIq h12 (fun b hb9 => hfr1 b (by rcases hb9 with q | q | q <;> (rw [q]; decide))) hq
        have hfr : ∀ b, K b ∉ [4, 8, 21, 43] → F366 b = F b := fun b hb9 => (hfr1 b (fun q => hb9 (s_sub (by decide) q))).trans (hfr b hb9)
        obtain ⟨h368, h371⟩ := h368
        have h371 : (∀ vs z, F366 a0 = .inr (3, vs) → vs[13]? = some (.int z) → z = 5) := h371
        obtain ⟨z372, z374, z376, z378, z381, z384, z385, z387, z389, z390, z391, z393, z394, o396, h373, h375, h377, h379, h380, h382, h383, h386, h388, h392, h395, -⟩ := h369
        exact W.zret (v := r365) (ty := .boolean) hx hb hr (th_nz ⟨by omega, by omega⟩) (fun t ht hW => ⟨⟨r365, F366, rfl, ⟨⟨by omega, by omega⟩, ⟨trivial, (fun q => absurd (th_z0 ⟨by omega, by omega⟩) q)⟩, hI, hfr, ⟨z372, z374, z376, z378, z381, z384, z385, z387, z389, z390, z391, z393, z394, o396, h373, h375, h377, h379, h380, ⟨by omega, by omega⟩, h383, ⟨by omega, by omega⟩, ⟨by omega, by omega⟩, ⟨by omega, by omega⟩, (fun q => by first | omega | exact absurd q (by decide)), trivial⟩⟩, by rw [ht]; exact hP, va_K.moved hW.alike hK⟩, hS.F ht⟩) hS.2.2 dX3_openLine_39
    · have c26 := mt (ax_eq (n := 1) (by decide)).mpr c26
      refine lv_aload_n hx hb dX3_openLine_8 rfl (lv_at hl 0 rfl) ?_
      refine lv_iconst (v := 1) hx hb dX3_openLine_9 (by decide) ?_
      refine lv_aload_n hx hb dX3_openLine_10 rfl (lv_at hl 0 rfl) ?_
      refine th_get (D := (dC, dI)) (ci := 3) (v := .int z14) (C := RX3) (T := TX3) (N := 15) hx hb hts inX3 hown hK hP (hLK _ ha0 (by decide)) o25 rfl 8 (by decide) (hts _ T_206) (fun _ h9 => h9) rfl dX3_openLine_11 ?_
      have hIq := hI
      refine va_calli (va_runV (As := [.int 1, .int z14]) (rest := []) ⟨hx, hb, hml, hown, hts⟩ (s_X3_fail l dC dI H.size hLK D F a0 1 z14 ha0 hI tt qq ⟨z1, z3, z5, z7, z10, z13, z14, z16, z18, z19, z20, z22, z23, o25, h2, h4, h6, h8, h9, ⟨by omega, by omega⟩, h12, ⟨by omega, by omega⟩, ⟨by omega, by omega⟩, ⟨by omega, by omega⟩, (fun q => by first | omega | exact absurd q (by decide)), trivial⟩) (cwV 2 hts (ax_gV T_218 T_219 T_220 T_163 T_14) rfl rfl rfl (by decide +kernel) ⟨Nat.le_of_ble_eq_true rfl, Nat.le_of_ble_eq_true rfl⟩) ⟨fun a U g mk q => ⟨q.1, s_pc (U := U) rfl rfl q.2⟩, s_recv hK hP (hLK _ ha0 (by decide)) (ci := 3) rfl o25, fun U hU hW => ⟨rfl, s_pw hU hW hP hK hD hN⟩⟩ rfl rfl hl.1 rfl (lv_room (Nat.le_of_ble_eq_true rfl)) dX3_openLine_14 ⟨Nat.zero_le _, Nat.zero_le _⟩) hS (fun q _ h => h) (fun q h => h) (fun r397 F398 t H1 locs ht hvm hw hB hz1 hk1 hS => ?_)
      obtain ⟨hP, hK1⟩ := hB
      rw [ht] at hP
      generalize H1 = H at hP hS ⊢
      clear hz1 hk1
      obtain ⟨h399, h400, hI, hfr1, h401⟩ := hw
      have hq := s_QGt hIq h12 (fun b hb9 => hfr1 b (by rcases hb9 with q | q | q <;> (rw [q]; decide))) hq
      have hfr : ∀ b, K b ∉ [4, 8, 21, 43] → F398 b = F b := fun b hb9 => (hfr1 b (fun q => hb9 (s_sub (by decide) q))).trans (hfr b hb9)
      obtain ⟨h400, h402⟩ := h400
      have h402 : (∀ vs z, F398 a0 = .inr (3, vs) → vs[13]? = some (.int z) → z = 1) := h402
      obtain ⟨z403, z405, z407, z409, z412, z415, z416, z418, z420, z421, z422, z424, z425, o427, h404, h406, h408, h410, h411, h413, h414, h417, h419, h423, h426, -⟩ := h401
      exact W.zret (v := r397) (ty := .boolean) hx hb hr (th_nz ⟨by omega, by omega⟩) (fun t ht hW => ⟨⟨r397, F398, rfl, ⟨⟨by omega, by omega⟩, ⟨trivial, (fun q => absurd (th_z0 ⟨by omega, by omega⟩) q)⟩, hI, hfr, ⟨z403, z405, z407, z409, z412, z415, z416, z418, z420, z421, z422, z424, z425, o427, h404, h406, h408, h410, h411, ⟨by omega, by omega⟩, h414, ⟨by omega, by omega⟩, ⟨by omega, by omega⟩, ⟨by omega, by omega⟩, (fun q => by first | omega | exact absurd q (by decide)), trivial⟩⟩, by rw [ht]; exact hP, va_K.moved hW.alike hK⟩, hS.F ht⟩) hS.2.2 dX3_openLine_17
  · intro g H locs hq
    obtain ⟨F9, ls, rfl, hl, hI, hP, hS, hfr, h428⟩ := hq
    obtain ⟨z429, z431, z433, z435, z438, z441, z442, z444, z446, z447, z448, z450, z451, o453, h430, h432, h434, h436, h437, h439, h440, h443, h445, h449, h452, -⟩ := h428
    refine lv_aload_n hx hb dX3_openLine_126 rfl (lv_at hl 0 rfl) ?_
    refine lv_iconst (v := 1) hx hb dX3_openLine_127 (by decide) ?_
    refine lv_aload_n hx hb dX3_openLine_128 rfl (lv_at hl 0 rfl) ?_
    refine th_get (D := (dC, dI)) (ci := 3) (v := .int z442) (C := RX3) (T := TX3) (N := 15) hx hb hts inX3 hown hK hP (hLK _ ha0 (by decide)) o453 rfl 8 (by decide) (hts _ T_206) (fun _ h9 => h9) rfl dX3_openLine_129 ?_
    have hIq := hI
    refine va_calli (va_runV (As := [.int 1, .int z442]) (rest := []) ⟨hx, hb, hml, hown, hts⟩ (s_X3_fail l dC dI H.size hLK D F9 a0 1 z442 ha0 hI tt qq ⟨z429, z431, z433, z435, z438, z441, z442, z444, z446, z447, z448, z450, z451, o453, h430, h432, h434, h436, h437, ⟨by omega, by omega⟩, h440, ⟨by omega, by omega⟩, ⟨by omega, by omega⟩, ⟨by omega, by omega⟩, (fun q => by first | omega | exact absurd q (by decide)), trivial⟩) (cwV 2 hts (ax_gV T_218 T_219 T_220 T_163 T_14) rfl rfl rfl (by decide +kernel) ⟨Nat.le_of_ble_eq_true rfl, Nat.le_of_ble_eq_true rfl⟩) ⟨fun a U g mk q => ⟨q.1, s_pc (U := U) rfl rfl q.2⟩, s_recv hK hP (hLK _ ha0 (by decide)) (ci := 3) rfl o453, fun U hU hW => ⟨rfl, s_pw hU hW hP hK hD hN⟩⟩ rfl rfl hl.1 rfl (lv_room (Nat.le_of_ble_eq_true rfl)) dX3_openLine_132 ⟨Nat.zero_le _, Nat.zero_le _⟩) hS (fun q _ h => h) (fun q h => h) (fun r454 F455 t H1 locs ht hvm hw hB hz1 hk1 hS => ?_)
    obtain ⟨hP, hK1⟩ := hB
    rw [ht] at hP
    generalize H1 = H at hP hS ⊢
    clear hz1 hk1
    obtain ⟨h456, h457, hI, hfr1, h458⟩ := hw
    have hfr : ∀ b, K b ∉ [4, 8, 21, 43] → F455 b = F b := fun b hb9 => (hfr1 b (fun q => hb9 (s_sub (by decide) q))).trans (hfr b hb9)
    obtain ⟨h457, h459⟩ := h457
    have h459 : (∀ vs z, F455 a0 = .inr (3, vs) → vs[13]? = some (.int z) → z = 1) := h459
    obtain ⟨z460, z462, z464, z466, z469, z472, z473, z475, z477, z478, z479, z481, z482, o484, h461, h463, h465, h467, h468, h470, h471, h474, h476, h480, h483, -⟩ := h458
    exact W.zret (v := r454) (ty := .boolean) hx hb hr (th_nz ⟨by omega, by omega⟩) (fun t ht hW => ⟨⟨r454, F455, rfl, ⟨⟨by omega, by omega⟩, ⟨trivial, (fun q => absurd (th_z0 ⟨by omega, by omega⟩) q)⟩, hI, hfr, ⟨z460, z462, z464, z466, z469, z472, z473, z475, z477, z478, z479, z481, z482, o484, h461, h463, h465, h467, h468, ⟨by omega, by omega⟩, h471, ⟨by omega, by omega⟩, ⟨by omega, by omega⟩, ⟨by omega, by omega⟩, (fun q => by first | omega | exact absurd q (by decide)), trivial⟩⟩, by rw [ht]; exact hP, va_K.moved hW.alike hK⟩, hS.F ht⟩) hS.2.2 dX3_openLine_135

set_option maxHeartbeats 4000000 in
set_option maxRecDepth 100000 in
theorem s_X3_piecesOf (l : Launch) (dC : Nat → ClassId) (dI : Nat → Nat → Nat) (sz : Nat) {L : List Nat} {K : Nat → Nat} {cs : Nat → ClassId} (hLK : ∀ a {k : Nat}, K a = k → k ≠ 0 → a ∈ L) (D : Nat) (adK adV : Nat → Nat) (tf : Option Nat) (F : Nat → va_E) (x0 : Int32)  (hI : s_I K cs D F) : Met l yX3_piecesOf (Cond.code yX3_piecesOf cX3_piecesOf 1 (some (.object "java/lang/String")) :: T0) ({ frames := 0, cells := 0, slots := 0, locals := 0 }) (va_Pc [.int x0] (s_WZ dC dI sz L F [(cs 0, .int), (cs 1, .byte), (cs 2, .long), (cs 3, .object RX5), (cs 4, .object RX4), (cs 5, .array .int), (cs 6, .char), (cs 7, .boolean)] adK adV tf)) (va_Qr (fun (G : Nat → va_E) => True ∧ True ∧ s_I K cs D G ∧ ∀ b, K b ∉ ([] : List Nat) → G b = F b) (fun (G : Nat → va_E) (r : Nat) (t : State) => (∃ k, k < 12 ∧ r = adK k ∧ ((x0.toInt < 0 ∨ 7 ≤ x0.toInt ∨ (4 ≤ k ∧ k ≤ 6)) ∧ (k = 8 → x0.toInt = 12) ∧ (x0.toInt ≤ 15 ∨ k ≤ 3 ∨ k = 10))) ∧ va_P (dC, dI) vwCl (va_pl L G) t.heap ∧ va_K (dC, dI) vwCl [(cs 0, .int), (cs 1, .byte), (cs 2, .long), (cs 3, .object RX5), (cs 4, .object RX4), (cs 5, .array .int), (cs 6, .char), (cs 7, .boolean)] t) (fun q => q ∈ L)) 0 0 (fun q => q ∈ L) := by
  refine Met.ofW (cc := cX3_piecesOf) (maxL := 1) (ret := (some (.object "java/lang/String"))) (by decide) rfl ?_
  intro p e s m args below meth c s₁ B hml hv
  obtain ⟨rfl, ⟨hsz, hP, hK, hD, hN⟩, hZ⟩ := hv
  have hx := B.exec
  have hb := B.bytes
  have hr := B.returns
  have hts : ∀ w ∈ T0, w.before _ s = true := fun w h => atoms_spec (ws := Cond.code yX3_piecesOf cX3_piecesOf 1 (some (.object "java/lang/String")) :: T0) B.pre w (List.mem_cons_of_mem _ h)
  have hown : s.vm.findClass RX3 = some m.cls := findClass_of_methodNamed B.named
  have hlocks := B.notSynchronized
  have hS : va_S (fun q => q ∈ L) s.heap s.heap [] := va_S.rf
  have hfr : ∀ b, K b ∉ ([] : List Nat) → F b = F b := fun _ _ => rfl
  have hl := lv_entry ([.int x0]) (n := 1) (Nat.le_of_ble_eq_true rfl)
  rw [lg_entry_eq]
  generalize (lg_sl ([.int x0]) ++ List.replicate (1 - (lg_sl ([.int x0])).length) Slot.unset).toArray = ls at hl ⊢
  have hl : lv_has ls 1 [(0, .int x0)] := hl
  refine s_gen hP hS (fun H locs hP hS => ?_)
  refine lv_iload_n hx hb dX3_piecesOf_0 rfl (lv_at hl 0 rfl) ?_
  by_cases c1 : x0 = 0
  · refine ax_eqi c1 ?_
    refine lv_tableIn (off := 115) (tgt := 116) hx hb dX3_piecesOf_1 (by decide) (by decide) (by decide) (by decide) ?_
    have c1 := (ax_eq (n := 0) (by decide)).mp c1
    refine va_ldcS hx hb hown (show vk_R RX3 122 "RX;" (adK 4) s from hZ.2.2.2 4 (by decide)) dX3_piecesOf_116 ?_
    exact W.aret (v := .ref (adK 4)) hx hb hr (Or.inl ⟨_, rfl⟩) (Or.inr ⟨_, rfl⟩) (fun t ht hW => ⟨⟨F, (adK 4), rfl, ⟨trivial, trivial, hI, hfr⟩, ⟨4, by decide, rfl, ⟨by omega, by omega, by omega⟩⟩, by rw [ht]; exact hP, va_K.moved hW.alike hK⟩, hS.F ht⟩) hS.2.2 dX3_piecesOf_118
  · have c1 := mt (ax_eq (n := 0) (by decide)).mpr c1
    by_cases c2 : x0 = 1
    · refine ax_eqi c2 ?_
      refine lv_tableIn (off := 118) (tgt := 119) hx hb dX3_piecesOf_1 (by decide) (by decide) (by decide) (by decide) ?_
      have c2 := (ax_eq (n := 1) (by decide)).mp c2
      refine va_ldcS hx hb hown (show vk_R RX3 124 "RXY;" (adK 5) s from hZ.2.2.2 5 (by decide)) dX3_piecesOf_119 ?_
      exact W.aret (v := .ref (adK 5)) hx hb hr (Or.inl ⟨_, rfl⟩) (Or.inr ⟨_, rfl⟩) (fun t ht hW => ⟨⟨F, (adK 5), rfl, ⟨trivial, trivial, hI, hfr⟩, ⟨5, by decide, rfl, ⟨by omega, by omega, by omega⟩⟩, by rw [ht]; exact hP, va_K.moved hW.alike hK⟩, hS.F ht⟩) hS.2.2 dX3_piecesOf_121
    · have c2 := mt (ax_eq (n := 1) (by decide)).mpr c2
      by_cases c3 : x0 = 2
      · refine ax_eqi c3 ?_
        refine lv_tableIn (off := 118) (tgt := 119) hx hb dX3_piecesOf_1 (by decide) (by decide) (by decide) (by decide) ?_
        have c3 := (ax_eq (n := 2) (by decide)).mp c3
        refine va_ldcS hx hb hown (show vk_R RX3 124 "RXY;" (adK 5) s from hZ.2.2.2 5 (by decide)) dX3_piecesOf_119 ?_
        exact W.aret (v := .ref (adK 5)) hx hb hr (Or.inl ⟨_, rfl⟩) (Or.inr ⟨_, rfl⟩) (fun t ht hW => ⟨⟨F, (adK 5), rfl, ⟨trivial, trivial, hI, hfr⟩, ⟨5, by decide, rfl, ⟨by omega, by omega, by omega⟩⟩, by rw [ht]; exact hP, va_K.moved hW.alike hK⟩, hS.F ht⟩) hS.2.2 dX3_piecesOf_121
      · have c3 := mt (ax_eq (n := 2) (by decide)).mpr c3
        by_cases c4 : x0 = 3
        · refine ax_eqi c4 ?_
          refine lv_tableIn (off := 118) (tgt := 119) hx hb dX3_piecesOf_1 (by decide) (by decide) (by decide) (by decide) ?_
          have c4 := (ax_eq (n := 3) (by decide)).mp c4
          refine va_ldcS hx hb hown (show vk_R RX3 124 "RXY;" (adK 5) s from hZ.2.2.2 5 (by decide)) dX3_piecesOf_119 ?_
          exact W.aret (v := .ref (adK 5)) hx hb hr (Or.inl ⟨_, rfl⟩) (Or.inr ⟨_, rfl⟩) (fun t ht hW => ⟨⟨F, (adK 5), rfl, ⟨trivial, trivial, hI, hfr⟩, ⟨5, by decide, rfl, ⟨by omega, by omega, by omega⟩⟩, by rw [ht]; exact hP, va_K.moved hW.alike hK⟩, hS.F ht⟩) hS.2.2 dX3_piecesOf_121
        · have c4 := mt (ax_eq (n := 3) (by decide)).mpr c4
          by_cases c5 : x0 = 4
          · refine ax_eqi c5 ?_
            refine lv_tableIn (off := 118) (tgt := 119) hx hb dX3_piecesOf_1 (by decide) (by decide) (by decide) (by decide) ?_
            have c5 := (ax_eq (n := 4) (by decide)).mp c5
            refine va_ldcS hx hb hown (show vk_R RX3 124 "RXY;" (adK 5) s from hZ.2.2.2 5 (by decide)) dX3_piecesOf_119 ?_
            exact W.aret (v := .ref (adK 5)) hx hb hr (Or.inl ⟨_, rfl⟩) (Or.inr ⟨_, rfl⟩) (fun t ht hW => ⟨⟨F, (adK 5), rfl, ⟨trivial, trivial, hI, hfr⟩, ⟨5, by decide, rfl, ⟨by omega, by omega, by omega⟩⟩, by rw [ht]; exact hP, va_K.moved hW.alike hK⟩, hS.F ht⟩) hS.2.2 dX3_piecesOf_121
          · have c5 := mt (ax_eq (n := 4) (by decide)).mpr c5
            by_cases c6 : x0 = 5
            · refine ax_eqi c6 ?_
              refine lv_tableIn (off := 121) (tgt := 122) hx hb dX3_piecesOf_1 (by decide) (by decide) (by decide) (by decide) ?_
              have c6 := (ax_eq (n := 5) (by decide)).mp c6
              refine va_ldcS hx hb hown (show vk_R RX3 126 "R;" (adK 6) s from hZ.2.2.2 6 (by decide)) dX3_piecesOf_122 ?_
              exact W.aret (v := .ref (adK 6)) hx hb hr (Or.inl ⟨_, rfl⟩) (Or.inr ⟨_, rfl⟩) (fun t ht hW => ⟨⟨F, (adK 6), rfl, ⟨trivial, trivial, hI, hfr⟩, ⟨6, by decide, rfl, ⟨by omega, by omega, by omega⟩⟩, by rw [ht]; exact hP, va_K.moved hW.alike hK⟩, hS.F ht⟩) hS.2.2 dX3_piecesOf_124
            · have c6 := mt (ax_eq (n := 5) (by decide)).mpr c6
              by_cases c7 : x0 = 6
              · refine ax_eqi c7 ?_
                refine lv_tableIn (off := 121) (tgt := 122) hx hb dX3_piecesOf_1 (by decide) (by decide) (by decide) (by decide) ?_
                have c7 := (ax_eq (n := 6) (by decide)).mp c7
                refine va_ldcS hx hb hown (show vk_R RX3 126 "R;" (adK 6) s from hZ.2.2.2 6 (by decide)) dX3_piecesOf_122 ?_
                exact W.aret (v := .ref (adK 6)) hx hb hr (Or.inl ⟨_, rfl⟩) (Or.inr ⟨_, rfl⟩) (fun t ht hW => ⟨⟨F, (adK 6), rfl, ⟨trivial, trivial, hI, hfr⟩, ⟨6, by decide, rfl, ⟨by omega, by omega, by omega⟩⟩, by rw [ht]; exact hP, va_K.moved hW.alike hK⟩, hS.F ht⟩) hS.2.2 dX3_piecesOf_124
              · have c7 := mt (ax_eq (n := 6) (by decide)).mpr c7
                by_cases c8 : x0 = 7
                · refine ax_eqi c8 ?_
                  refine lv_tableIn (off := 115) (tgt := 116) hx hb dX3_piecesOf_1 (by decide) (by decide) (by decide) (by decide) ?_
                  have c8 := (ax_eq (n := 7) (by decide)).mp c8
                  refine va_ldcS hx hb hown (show vk_R RX3 122 "RX;" (adK 4) s from hZ.2.2.2 4 (by decide)) dX3_piecesOf_116 ?_
                  exact W.aret (v := .ref (adK 4)) hx hb hr (Or.inl ⟨_, rfl⟩) (Or.inr ⟨_, rfl⟩) (fun t ht hW => ⟨⟨F, (adK 4), rfl, ⟨trivial, trivial, hI, hfr⟩, ⟨4, by decide, rfl, ⟨by omega, by omega, by omega⟩⟩, by rw [ht]; exact hP, va_K.moved hW.alike hK⟩, hS.F ht⟩) hS.2.2 dX3_piecesOf_118
                · have c8 := mt (ax_eq (n := 7) (by decide)).mpr c8
                  by_cases c9 : x0 = 8
                  · refine ax_eqi c9 ?_
                    refine lv_tableIn (off := 124) (tgt := 125) hx hb dX3_piecesOf_1 (by decide) (by decide) (by decide) (by decide) ?_
                    have c9 := (ax_eq (n := 8) (by decide)).mp c9
                    refine va_ldcS hx hb hown (show vk_R RX3 128 "XY;" (adK 7) s from hZ.2.2.2 7 (by decide)) dX3_piecesOf_125 ?_
                    exact W.aret (v := .ref (adK 7)) hx hb hr (Or.inl ⟨_, rfl⟩) (Or.inr ⟨_, rfl⟩) (fun t ht hW => ⟨⟨F, (adK 7), rfl, ⟨trivial, trivial, hI, hfr⟩, ⟨7, by decide, rfl, ⟨by omega, by omega, by omega⟩⟩, by rw [ht]; exact hP, va_K.moved hW.alike hK⟩, hS.F ht⟩) hS.2.2 dX3_piecesOf_127
                  · have c9 := mt (ax_eq (n := 8) (by decide)).mpr c9
                    by_cases c10 : x0 = 9
                    · refine ax_eqi c10 ?_
                      refine lv_tableIn (off := 115) (tgt := 116) hx hb dX3_piecesOf_1 (by decide) (by decide) (by decide) (by decide) ?_
                      have c10 := (ax_eq (n := 9) (by decide)).mp c10
                      refine va_ldcS hx hb hown (show vk_R RX3 122 "RX;" (adK 4) s from hZ.2.2.2 4 (by decide)) dX3_piecesOf_116 ?_
                      exact W.aret (v := .ref (adK 4)) hx hb hr (Or.inl ⟨_, rfl⟩) (Or.inr ⟨_, rfl⟩) (fun t ht hW => ⟨⟨F, (adK 4), rfl, ⟨trivial, trivial, hI, hfr⟩, ⟨4, by decide, rfl, ⟨by omega, by omega, by omega⟩⟩, by rw [ht]; exact hP, va_K.moved hW.alike hK⟩, hS.F ht⟩) hS.2.2 dX3_piecesOf_118
                    · have c10 := mt (ax_eq (n := 9) (by decide)).mpr c10
                      by_cases c11 : x0 = 10
                      · refine ax_eqi c11 ?_
                        refine lv_tableIn (off := 124) (tgt := 125) hx hb dX3_piecesOf_1 (by decide) (by decide) (by decide) (by decide) ?_
                        have c11 := (ax_eq (n := 10) (by decide)).mp c11
                        refine va_ldcS hx hb hown (show vk_R RX3 128 "XY;" (adK 7) s from hZ.2.2.2 7 (by decide)) dX3_piecesOf_125 ?_
                        exact W.aret (v := .ref (adK 7)) hx hb hr (Or.inl ⟨_, rfl⟩) (Or.inr ⟨_, rfl⟩) (fun t ht hW => ⟨⟨F, (adK 7), rfl, ⟨trivial, trivial, hI, hfr⟩, ⟨7, by decide, rfl, ⟨by omega, by omega, by omega⟩⟩, by rw [ht]; exact hP, va_K.moved hW.alike hK⟩, hS.F ht⟩) hS.2.2 dX3_piecesOf_127
                      · have c11 := mt (ax_eq (n := 10) (by decide)).mpr c11
                        by_cases c12 : x0 = 11
                        · refine ax_eqi c12 ?_
                          refine lv_tableIn (off := 115) (tgt := 116) hx hb dX3_piecesOf_1 (by decide) (by decide) (by decide) (by decide) ?_
                          have c12 := (ax_eq (n := 11) (by decide)).mp c12
                          refine va_ldcS hx hb hown (show vk_R RX3 122 "RX;" (adK 4) s from hZ.2.2.2 4 (by decide)) dX3_piecesOf_116 ?_
                          exact W.aret (v := .ref (adK 4)) hx hb hr (Or.inl ⟨_, rfl⟩) (Or.inr ⟨_, rfl⟩) (fun t ht hW => ⟨⟨F, (adK 4), rfl, ⟨trivial, trivial, hI, hfr⟩, ⟨4, by decide, rfl, ⟨by omega, by omega, by omega⟩⟩, by rw [ht]; exact hP, va_K.moved hW.alike hK⟩, hS.F ht⟩) hS.2.2 dX3_piecesOf_118
                        · have c12 := mt (ax_eq (n := 11) (by decide)).mpr c12
                          by_cases c13 : x0 = 12
                          · refine ax_eqi c13 ?_
                            refine lv_tableIn (off := 127) (tgt := 128) hx hb dX3_piecesOf_1 (by decide) (by decide) (by decide) (by decide) ?_
                            have c13 := (ax_eq (n := 12) (by decide)).mp c13
                            refine va_ldcS hx hb hown (show vk_R RX3 130 "GIXSY;" (adK 8) s from hZ.2.2.2 8 (by decide)) dX3_piecesOf_128 ?_
                            exact W.aret (v := .ref (adK 8)) hx hb hr (Or.inl ⟨_, rfl⟩) (Or.inr ⟨_, rfl⟩) (fun t ht hW => ⟨⟨F, (adK 8), rfl, ⟨trivial, trivial, hI, hfr⟩, ⟨8, by decide, rfl, ⟨by omega, by omega, by omega⟩⟩, by rw [ht]; exact hP, va_K.moved hW.alike hK⟩, hS.F ht⟩) hS.2.2 dX3_piecesOf_130
                          · have c13 := mt (ax_eq (n := 12) (by decide)).mpr c13
                            by_cases c14 : x0 = 13
                            · refine ax_eqi c14 ?_
                              refine lv_tableIn (off := 130) (tgt := 131) hx hb dX3_piecesOf_1 (by decide) (by decide) (by decide) (by decide) ?_
                              have c14 := (ax_eq (n := 13) (by decide)).mp c14
                              refine va_ldcS hx hb hown (show vk_R RX3 132 ";" (adK 9) s from hZ.2.2.2 9 (by decide)) dX3_piecesOf_131 ?_
                              exact W.aret (v := .ref (adK 9)) hx hb hr (Or.inl ⟨_, rfl⟩) (Or.inr ⟨_, rfl⟩) (fun t ht hW => ⟨⟨F, (adK 9), rfl, ⟨trivial, trivial, hI, hfr⟩, ⟨9, by decide, rfl, ⟨by omega, by omega, by omega⟩⟩, by rw [ht]; exact hP, va_K.moved hW.alike hK⟩, hS.F ht⟩) hS.2.2 dX3_piecesOf_133
                            · have c14 := mt (ax_eq (n := 13) (by decide)).mpr c14
                              by_cases c15 : x0 = 14
                              · refine ax_eqi c15 ?_
                                refine lv_tableIn (off := 130) (tgt := 131) hx hb dX3_piecesOf_1 (by decide) (by decide) (by decide) (by decide) ?_
                                have c15 := (ax_eq (n := 14) (by decide)).mp c15
                                refine va_ldcS hx hb hown (show vk_R RX3 132 ";" (adK 9) s from hZ.2.2.2 9 (by decide)) dX3_piecesOf_131 ?_
                                exact W.aret (v := .ref (adK 9)) hx hb hr (Or.inl ⟨_, rfl⟩) (Or.inr ⟨_, rfl⟩) (fun t ht hW => ⟨⟨F, (adK 9), rfl, ⟨trivial, trivial, hI, hfr⟩, ⟨9, by decide, rfl, ⟨by omega, by omega, by omega⟩⟩, by rw [ht]; exact hP, va_K.moved hW.alike hK⟩, hS.F ht⟩) hS.2.2 dX3_piecesOf_133
                              · have c15 := mt (ax_eq (n := 14) (by decide)).mpr c15
                                by_cases c16 : x0 = 15
                                · refine ax_eqi c16 ?_
                                  refine lv_tableIn (off := 130) (tgt := 131) hx hb dX3_piecesOf_1 (by decide) (by decide) (by decide) (by decide) ?_
                                  have c16 := (ax_eq (n := 15) (by decide)).mp c16
                                  refine va_ldcS hx hb hown (show vk_R RX3 132 ";" (adK 9) s from hZ.2.2.2 9 (by decide)) dX3_piecesOf_131 ?_
                                  exact W.aret (v := .ref (adK 9)) hx hb hr (Or.inl ⟨_, rfl⟩) (Or.inr ⟨_, rfl⟩) (fun t ht hW => ⟨⟨F, (adK 9), rfl, ⟨trivial, trivial, hI, hfr⟩, ⟨9, by decide, rfl, ⟨by omega, by omega, by omega⟩⟩, by rw [ht]; exact hP, va_K.moved hW.alike hK⟩, hS.F ht⟩) hS.2.2 dX3_piecesOf_133
                                · have c16 := mt (ax_eq (n := 15) (by decide)).mpr c16
                                  by_cases c17 : x0 = 16
                                  · refine ax_eqi c17 ?_
                                    refine lv_tableIn (off := 103) (tgt := 104) hx hb dX3_piecesOf_1 (by decide) (by decide) (by decide) (by decide) ?_
                                    have c17 := (ax_eq (n := 16) (by decide)).mp c17
                                    refine va_ldcS hx hb hown (show vk_R RX3 114 "W;" (adK 0) s from hZ.2.2.2 0 (by decide)) dX3_piecesOf_104 ?_
                                    exact W.aret (v := .ref (adK 0)) hx hb hr (Or.inl ⟨_, rfl⟩) (Or.inr ⟨_, rfl⟩) (fun t ht hW => ⟨⟨F, (adK 0), rfl, ⟨trivial, trivial, hI, hfr⟩, ⟨0, by decide, rfl, ⟨by omega, by omega, by omega⟩⟩, by rw [ht]; exact hP, va_K.moved hW.alike hK⟩, hS.F ht⟩) hS.2.2 dX3_piecesOf_106
                                  · have c17 := mt (ax_eq (n := 16) (by decide)).mpr c17
                                    by_cases c18 : x0 = 17
                                    · refine ax_eqi c18 ?_
                                      refine lv_tableIn (off := 106) (tgt := 107) hx hb dX3_piecesOf_1 (by decide) (by decide) (by decide) (by decide) ?_
                                      have c18 := (ax_eq (n := 17) (by decide)).mp c18
                                      refine va_ldcS hx hb hown (show vk_R RX3 116 "AV;" (adK 1) s from hZ.2.2.2 1 (by decide)) dX3_piecesOf_107 ?_
                                      exact W.aret (v := .ref (adK 1)) hx hb hr (Or.inl ⟨_, rfl⟩) (Or.inr ⟨_, rfl⟩) (fun t ht hW => ⟨⟨F, (adK 1), rfl, ⟨trivial, trivial, hI, hfr⟩, ⟨1, by decide, rfl, ⟨by omega, by omega, by omega⟩⟩, by rw [ht]; exact hP, va_K.moved hW.alike hK⟩, hS.F ht⟩) hS.2.2 dX3_piecesOf_109
                                    · have c18 := mt (ax_eq (n := 17) (by decide)).mpr c18
                                      by_cases c19 : x0 = 18
                                      · refine ax_eqi c19 ?_
                                        refine lv_tableIn (off := 109) (tgt := 110) hx hb dX3_piecesOf_1 (by decide) (by decide) (by decide) (by decide) ?_
                                        have c19 := (ax_eq (n := 18) (by decide)).mp c19
                                        refine va_ldcS hx hb hown (show vk_R RX3 118 "M;" (adK 2) s from hZ.2.2.2 2 (by decide)) dX3_piecesOf_110 ?_
                                        exact W.aret (v := .ref (adK 2)) hx hb hr (Or.inl ⟨_, rfl⟩) (Or.inr ⟨_, rfl⟩) (fun t ht hW => ⟨⟨F, (adK 2), rfl, ⟨trivial, trivial, hI, hfr⟩, ⟨2, by decide, rfl, ⟨by omega, by omega, by omega⟩⟩, by rw [ht]; exact hP, va_K.moved hW.alike hK⟩, hS.F ht⟩) hS.2.2 dX3_piecesOf_112
                                      · have c19 := mt (ax_eq (n := 18) (by decide)).mpr c19
                                        by_cases c20 : x0 = 21
                                        · refine ax_eqi c20 ?_
                                          refine lv_tableIn (off := 112) (tgt := 113) hx hb dX3_piecesOf_1 (by decide) (by decide) (by decide) (by decide) ?_
                                          have c20 := (ax_eq (n := 21) (by decide)).mp c20
                                          refine va_ldcS hx hb hown (show vk_R RX3 120 "O;" (adK 3) s from hZ.2.2.2 3 (by decide)) dX3_piecesOf_113 ?_
                                          exact W.aret (v := .ref (adK 3)) hx hb hr (Or.inl ⟨_, rfl⟩) (Or.inr ⟨_, rfl⟩) (fun t ht hW => ⟨⟨F, (adK 3), rfl, ⟨trivial, trivial, hI, hfr⟩, ⟨3, by decide, rfl, ⟨by omega, by omega, by omega⟩⟩, by rw [ht]; exact hP, va_K.moved hW.alike hK⟩, hS.F ht⟩) hS.2.2 dX3_piecesOf_115
                                        · have c20 := mt (ax_eq (n := 21) (by decide)).mpr c20
                                          by_cases c21 : x0 = 19
                                          · refine ax_eqi c21 ?_
                                            refine lv_tableIn (off := 133) (tgt := 134) hx hb dX3_piecesOf_1 (by decide) (by decide) (by decide) (by decide) ?_
                                            have c21 := (ax_eq (n := 19) (by decide)).mp c21
                                            refine va_ldcS hx hb hown (show vk_R RX3 134 "" (adK 10) s from hZ.2.2.2 10 (by decide)) dX3_piecesOf_134 ?_
                                            exact W.aret (v := .ref (adK 10)) hx hb hr (Or.inl ⟨_, rfl⟩) (Or.inr ⟨_, rfl⟩) (fun t ht hW => ⟨⟨F, (adK 10), rfl, ⟨trivial, trivial, hI, hfr⟩, ⟨10, by decide, rfl, ⟨by omega, by omega, by omega⟩⟩, by rw [ht]; exact hP, va_K.moved hW.alike hK⟩, hS.F ht⟩) hS.2.2 dX3_piecesOf_136
                                          · have c21 := mt (ax_eq (n := 19) (by decide)).mpr c21
                                            by_cases c22 : x0 = 20
                                            · refine ax_eqi c22 ?_
                                              refine lv_tableIn (off := 133) (tgt := 134) hx hb dX3_piecesOf_1 (by decide) (by decide) (by decide) (by decide) ?_
                                              have c22 := (ax_eq (n := 20) (by decide)).mp c22
                                              refine va_ldcS hx hb hown (show vk_R RX3 134 "" (adK 10) s from hZ.2.2.2 10 (by decide)) dX3_piecesOf_134 ?_
                                              exact W.aret (v := .ref (adK 10)) hx hb hr (Or.inl ⟨_, rfl⟩) (Or.inr ⟨_, rfl⟩) (fun t ht hW => ⟨⟨F, (adK 10), rfl, ⟨trivial, trivial, hI, hfr⟩, ⟨10, by decide, rfl, ⟨by omega, by omega, by omega⟩⟩, by rw [ht]; exact hP, va_K.moved hW.alike hK⟩, hS.F ht⟩) hS.2.2 dX3_piecesOf_136
                                            · have c22 := mt (ax_eq (n := 20) (by decide)).mpr c22
                                              refine lv_tableOut (tgt := 134) hx hb dX3_piecesOf_1 (by omega) (by decide) ?_
                                              refine va_ldcS hx hb hown (show vk_R RX3 134 "" (adK 10) s from hZ.2.2.2 10 (by decide)) dX3_piecesOf_134 ?_
                                              exact W.aret (v := .ref (adK 10)) hx hb hr (Or.inl ⟨_, rfl⟩) (Or.inr ⟨_, rfl⟩) (fun t ht hW => ⟨⟨F, (adK 10), rfl, ⟨trivial, trivial, hI, hfr⟩, ⟨10, by decide, rfl, ⟨by omega, by omega, by omega⟩⟩, by rw [ht]; exact hP, va_K.moved hW.alike hK⟩, hS.F ht⟩) hS.2.2 dX3_piecesOf_136

