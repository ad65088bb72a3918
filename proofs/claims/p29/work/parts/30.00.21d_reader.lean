set_option maxHeartbeats 4000000 in
set_option maxRecDepth 100000 in
theorem st_X3_readPiece (l : Launch) (dC : Nat → ClassId) (dI : Nat → Nat → Nat) (sz : Nat) {L : List Nat} {K : Nat → Nat} {cs : Nat → ClassId} (hLK : ∀ a {k : Nat}, K a = k → k ≠ 0 → a ∈ L) (D : Nat) (adK adV : Nat → Nat) (tf : Option Nat) (F : Nat → va_E) (a0 : Nat) (x1 : Int32) (ha0 : K a0 = 4) (hI : s_I K cs D F) (tt qq : Nat) (hR : s_rd4 K F a0 tt qq) (hQ : s_QG cs F qq 0 ∨ (x1.toInt = 82 ∧ s_QG cs F qq 1)) (hG1 : x1.toInt = 71 → s_L1 F qq) : Met l yX3_readPiece (Cond.code yX3_readPiece cX3_readPiece 2 (some .boolean) :: T0) ({ frames := 7, cells := 0, slots := 0, locals := 155 }) (va_Pc [.ref a0, .int x1] (s_WZ dC dI sz L F [(cs 0, .int), (cs 1, .byte), (cs 2, .long), (cs 3, .object RX5), (cs 4, .object RX4), (cs 5, .array .int), (cs 6, .char), (cs 7, .boolean)] adK adV tf)) (va_Qi (fun (r : Int32) (G : Nat → va_E) => (0 ≤ r.toInt ∧ r.toInt ≤ 1) ∧ (True ∧ ((¬ r = 0 → s_QG cs G qq 0) ∧ (∀ vs, F qq = .inr (2, vs) → ∃ vs2, G qq = .inr (2, vs2) ∧ vs2[3]? = vs[3]?))) ∧ s_I K cs D G ∧ (∀ b, K b ∉ [4, 8, 21, 24, 43] → G b = F b) ∧ s_rd4 K G a0 tt qq) (fun (G : Nat → va_E) (t : State) => va_P (dC, dI) vwCl (va_pl L G) t.heap ∧ va_K (dC, dI) vwCl [(cs 0, .int), (cs 1, .byte), (cs 2, .long), (cs 3, .object RX5), (cs 4, .object RX4), (cs 5, .array .int), (cs 6, .char), (cs 7, .boolean)] t) (fun q => q ∈ L)) 0 0 (fun q => q ∈ L) := by
  refine Met.ofW (cc := cX3_readPiece) (maxL := 2) (ret := (some .boolean)) (by decide) rfl ?_
  intro p e s m args below meth c s₁ B hml hv
  obtain ⟨rfl, ⟨hsz, hP, hK, hD, hN⟩, hZ⟩ := hv
  have hx := B.exec
  have hb := B.bytes
  have hr := B.returns
  have hts : ∀ w ∈ T0, w.before _ s = true := fun w h => atoms_spec (ws := Cond.code yX3_readPiece cX3_readPiece 2 (some .boolean) :: T0) B.pre w (List.mem_cons_of_mem _ h)
  have hown : s.vm.findClass RX3 = some m.cls := findClass_of_methodNamed B.named
  have hlocks := B.notSynchronized
  have hS : va_S (fun q => q ∈ L) s.heap s.heap [] := va_S.rf
  have hfr : ∀ b, K b ∉ [4, 8, 21, 24, 43] → F b = F b := fun _ _ => rfl
  have hl := lv_entry ([.ref a0, .int x1]) (n := 2) (Nat.le_of_ble_eq_true rfl)
  rw [lg_entry_eq]
  generalize (lg_sl ([.ref a0, .int x1]) ++ List.replicate (2 - (lg_sl ([.ref a0, .int x1])).length) Slot.unset).toArray = ls at hl ⊢
  have hl : lv_has ls 2 [(0, .ref a0), (1, .int x1)] := hl
  refine s_gen hP hS (fun H locs hP hS => ?_)
  obtain ⟨z1, z3, z5, z7, z10, z13, z14, z16, z18, z19, z20, z22, z23, o25, h2, h4, h6, h8, h9, h11, h12, h15, h17, h21, h24, -⟩ := hR
  have hLn : ∀ vs, F qq = .inr (2, vs) → ∃ vs2, F qq = .inr (2, vs2) ∧ vs2[3]? = vs[3]? := fun vs q => ⟨vs, q, rfl⟩
  refine th_join (fun g H locs => ∃ (G : Nat → va_E) (ls : Array Slot), g = F0 m 365 ls [] ∧ lv_has ls 2 [(0, .ref a0)] ∧ s_I K cs D G ∧ va_P (dC, dI) vwCl (va_pl L G) H ∧ va_S (fun q => q ∈ L) s.heap H locs ∧ (∀ b, K b ∉ [4, 8, 21, 24, 43] → G b = F b) ∧ (∀ vs z, G a0 = .inr (3, vs) → vs[13]? = some (.int z) → z.toInt = 0 → s_QG cs G qq 0) ∧ (∀ vs, F qq = .inr (2, vs) → ∃ vs2, G qq = .inr (2, vs2) ∧ vs2[3]? = vs[3]?) ∧ s_rd4 K G a0 tt qq) (fun K365 => ?_) ?_
  · refine lv_iload_n hx hb dX3_readPiece_0 rfl (lv_at hl 1 rfl) ?_
    by_cases c26 : x1 = 65
    · refine ax_eqi c26 ?_
      refine lv_tableIn (off := 131) (tgt := 132) hx hb dX3_readPiece_1 (by decide) (by decide) (by decide) (by decide) ?_
      have c26 := (ax_eq (n := 65) (by decide)).mp c26
      refine lv_aload_n hx hb dX3_readPiece_132 rfl (lv_at hl 0 rfl) ?_
      have hq : s_QG cs F qq 0 := hQ.resolve_right (fun q => by omega)
      refine lv_aload_n hx hb dX3_readPiece_133 rfl (lv_at hl 0 rfl) ?_
      refine lv_iconst (v := 0) hx hb dX3_readPiece_134 (by decide) ?_
      refine lv_bipush (v := 63) hx hb dX3_readPiece_135 (by decide) ?_
      have hIq := hI
      refine va_calli (va_runV (As := [.int 0, .int 63]) (rest := [.ref a0]) ⟨hx, hb, hml, hown, hts⟩ (s_X3_readNumber l dC dI H.size hLK D adK adV tf F a0 0 63 ha0 (by decide) (by decide) hI tt qq ⟨z1, z3, z5, z7, z10, z13, z14, z16, z18, z19, z20, z22, z23, o25, h2, h4, h6, h8, h9, ⟨by omega, by omega⟩, h12, ⟨by omega, by omega⟩, ⟨by omega, by omega⟩, ⟨by omega, by omega⟩, (fun q => by first | omega | exact absurd q (by decide)), trivial⟩) (cwV 2 hts (ax_gV T_786 T_788 T_789 T_163 T_787) rfl rfl rfl (by decide +kernel) ⟨Nat.le_of_ble_eq_true rfl, Nat.le_of_ble_eq_true rfl⟩) ⟨fun a U g mk q => ⟨q.1, s_pc (U := U) rfl rfl q.2.1, s_pcZ (U := U) rfl rfl q.2.2⟩, s_recv hK hP (hLK _ ha0 (by decide)) (ci := 3) rfl o25, fun U hU hW => ⟨rfl, s_pw hU hW hP hK hD hN, s_pwZ hU hW hS hZ⟩⟩ rfl rfl hl.1 rfl (lv_room (Nat.le_of_ble_eq_true rfl)) dX3_readPiece_137 ⟨Nat.zero_le _, Nat.zero_le _⟩) hS (fun q _ h => h) (fun q h => h) (fun r27 F28 t H1 locs ht hvm hw hB hz1 hk1 hS => ?_)
      obtain ⟨hP, hK1⟩ := hB
      rw [ht] at hP
      generalize H1 = H at hP hS ⊢
      clear hz1 hk1
      obtain ⟨h29, h30, hI, hfr1, h31⟩ := hw
      have hq := s_QGt hIq h12 (fun b hb9 => hfr1 b (by rcases hb9 with q | q | q <;> (rw [q]; decide))) hq
      have hLn : ∀ vs, F qq = .inr (2, vs) → ∃ vs2, F28 qq = .inr (2, vs2) ∧ vs2[3]? = vs[3]? := fun vs q => by obtain ⟨w, h1, h2⟩ := hLn vs q; exact ⟨w, (hfr1 _ (by rw [h12]; decide)).trans h1, h2⟩
      have hfr : ∀ b, K b ∉ [4, 8, 21, 24, 43] → F28 b = F b := fun b hb9 => (hfr1 b (fun q => hb9 (s_sub (by decide) q))).trans (hfr b hb9)
      obtain ⟨z33, z35, z37, z39, z41, z43, z45, z46, z47, z49, z51, z52, z53, z55, z56, o57, h34, h36, h38, h40, h42, h44, h48, h50, h54, -⟩ := s_op4 hI ha0
      obtain ⟨h30, h32⟩ := h30
      have h32 : (r27.toInt = -1 ∨ (0 ≤ r27.toInt ∧ r27.toInt ≤ 63)) := h32
      obtain ⟨z58, z60, z62, z64, z67, z70, z71, z73, z75, z76, z77, z79, z80, o82, h59, h61, h63, h65, h66, h68, h69, h72, h74, h78, h81, -⟩ := h31
      refine th_put (D := (dC, dI)) (ci := 3) (v := .int r27) (ty := .int) (C := RX3) (T := TX3) (N := 15) hx hb hts inX3 tyX3 tyX3_ok nmX3 hown hK hP hD hS (hLK _ ha0 (by decide)) o82 rfl 12 (by decide) (hts _ T_790) (fun _ h9 => h9) rfl (by decide +kernel) rfl rfl (Nat.le_of_ble_eq_true rfl) dX3_readPiece_140 (fun H locs hP hS => ?_)
      have hIq := hI
      have hP : va_P (dC, dI) vwCl (va_pl L (va_up F28 a0 (.inr (3, [.ref z58, .ref z60, .ref z62, .ref z64, .ref tt, .int z67, .ref qq, .int z70, .int z71, .int z73, .int z75, .int z76, .int r27, .int z79, .int z80])))) H := hP
      obtain ⟨F83, hF84⟩ : ∃ G : Nat → va_E, G = va_up F28 a0 (.inr (3, [.ref z58, .ref z60, .ref z62, .ref z64, .ref tt, .int z67, .ref qq, .int z70, .int z71, .int z73, .int z75, .int z76, .int r27, .int z79, .int z80])) := ⟨_, rfl⟩
      rw [← hF84] at hP
      have hI : s_I K cs D F83 := by rw [hF84]; exact s_cl4 hI ha0 ⟨z58, z60, z62, z64, some tt, z67, some qq, z70, z71, z73, z75, z76, r27, z79, z80, rfl, h59, h61, h63, h65, (fun q e => by cases e; exact h66), ⟨by omega, by omega⟩, ⟨by omega, by omega⟩, ⟨by omega, by omega⟩, ⟨by omega, by omega⟩, trivial⟩
      have hfr : ∀ b, K b ∉ [4, 8, 21, 24, 43] → F83 b = F b := by rw [hF84]; exact s_fr hfr ha0 (by decide)
      have hq := s_QGo hIq h69 ha0 (by decide) hF84 hq
      have hLn : ∀ vs, F qq = .inr (2, vs) → ∃ vs2, F83 qq = .inr (2, vs2) ∧ vs2[3]? = vs[3]? := fun vs q => by obtain ⟨w, h1, h2⟩ := hLn vs q; exact ⟨w, by rw [hF84]; exact th_ne (th_kd h69 ha0 (by decide)) h1, h2⟩
      have o85 : F83 a0 = .inr (3, [.ref z58, .ref z60, .ref z62, .ref z64, .ref tt, .int z67, .ref qq, .int z70, .int z71, .int z73, .int z75, .int z76, .int r27, .int z79, .int z80]) := by rw [hF84]; exact th_up
      refine lv_goto (tgt := 365) hx hb dX3_readPiece_143 (by decide) ?_
      exact K365 _ _ _ ⟨F83, _, rfl, lv_sub hl [0] rfl, hI, hP, hS, hfr, (fun vs z q q2 q3 => hq), hLn, ⟨z58, z60, z62, z64, z67, z70, z71, z73, z75, z76, r27, z79, z80, o85, h59, h61, h63, h65, h66, ⟨by omega, by omega⟩, h69, ⟨by omega, by omega⟩, ⟨by omega, by omega⟩, ⟨by omega, by omega⟩, (fun q => by first | omega | exact absurd q (by decide)), trivial⟩⟩
    · have c26 := mt (ax_eq (n := 65) (by decide)).mpr c26
      by_cases c86 : x1 = 71
      · refine ax_eqi c86 ?_
        refine lv_tableIn (off := 289) (tgt := 290) hx hb dX3_readPiece_1 (by decide) (by decide) (by decide) (by decide) ?_
        have c86 := (ax_eq (n := 71) (by decide)).mp c86
        refine lv_aload_n hx hb dX3_readPiece_290 rfl (lv_at hl 0 rfl) ?_
        have hq : s_QG cs F qq 0 := hQ.resolve_right (fun q => by omega)
        obtain ⟨z87, z89, z91, z93, z95, z97, z98, o99, h88, h90, h92, h94, h96, -⟩ := s_op8 hI h12
        have hl9 := hG1 (by omega) _ _ o99 rfl
        refine th_get (D := (dC, dI)) (ci := 3) (v := .ref z5) (C := RX3) (T := TX3) (N := 15) hx hb hts inX3 hown hK hP (hLK _ ha0 (by decide)) o25 rfl 2 (by decide) (hts _ T_131) (fun _ h9 => h9) rfl dX3_readPiece_291 ?_
        refine lv_aload_n hx hb dX3_readPiece_294 rfl (lv_at hl 0 rfl) ?_
        refine th_get (D := (dC, dI)) (ci := 3) (v := .ref qq) (C := RX3) (T := TX3) (N := 15) hx hb hts inX3 hown hK hP (hLK _ ha0 (by decide)) o25 rfl 6 (by decide) (hts _ T_211) (fun _ h9 => h9) rfl dX3_readPiece_295 ?_
        refine th_getN (D := (dC, dI)) (ci := 2) (v := .int z93) (C := RX2) (T := TX2) (N := 7) hx hb hts inX2 hown hK hP (hLK _ h12 (by decide)) o99 rfl 3 (by decide) (va_Nw.use rfl (ax_n9 hN)) (fun _ h9 => h9) rfl dX3_readPiece_298 ?_
        refine lv_iconst (v := 1) hx hb dX3_readPiece_301 (by decide) ?_
        refine lv_isub hx hb dX3_readPiece_302 ?_
        refine lv_topi (fun v100 ev100 => ?_)
        have qv100 : v100.toInt = z93.toInt - 1 := by rw [ev100]; exact th_sub rfl (by decide) ⟨by omega, by omega⟩
        refine lv_aload_n hx hb dX3_readPiece_303 rfl (lv_at hl 0 rfl) ?_
        refine th_get (D := (dC, dI)) (ci := 3) (v := .int z14) (C := RX3) (T := TX3) (N := 15) hx hb hts inX3 hown hK hP (hLK _ ha0 (by decide)) o25 rfl 8 (by decide) (hts _ T_206) (fun _ h9 => h9) rfl dX3_readPiece_304 ?_
        obtain ⟨f101, o102, h103⟩ := s_op21 hI h6
        refine th_iast hx hb hK hP hD hS (hLK _ h6 (by decide)) 0 o102 rfl (th_in ⟨by omega, by omega⟩) dX3_readPiece_307 (fun H locs hP hS => ?_)
        have hIq := hI
        have hP : va_P (dC, dI) vwCl (va_pl L (va_up F z5 (.inl (cs 0, 40, .inl (upd f101 (v100 : Int32).toNatClampNeg z14))))) H := hP
        obtain ⟨F104, hF105⟩ : ∃ G : Nat → va_E, G = va_up F z5 (.inl (cs 0, 40, .inl (upd f101 (v100 : Int32).toNatClampNeg z14))) := ⟨_, rfl⟩
        rw [← hF105] at hP
        have hI : s_I K cs D F104 := by rw [hF105]; exact s_cl21 hI h6 ⟨_, rfl, (th_updB h103 ⟨by omega, by omega⟩)⟩
        have hfr : ∀ b, K b ∉ [4, 8, 21, 24, 43] → F104 b = F b := by rw [hF105]; exact s_fr hfr h6 (by decide)
        have o106 : F104 a0 = .inr (3, [.ref z1, .ref z3, .ref z5, .ref z7, .ref tt, .int z10, .ref qq, .int z13, .int z14, .int z16, .int z18, .int z19, .int z20, .int z22, .int z23]) := by rw [hF105]; exact th_ne (th_kd ha0 h6 (by decide)) o25
        have o107 : F104 qq = .inr (2, [.ref z87, .ref z89, .ref z91, .int z93, .int z95, .int z97, .int z98]) := by rw [hF105]; exact th_ne (th_kd h12 h6 (by decide)) o99
        have hq := s_QGo hIq h12 h6 (by decide) hF105 hq
        have hLn : ∀ vs, F qq = .inr (2, vs) → ∃ vs2, F104 qq = .inr (2, vs2) ∧ vs2[3]? = vs[3]? := fun vs q => by obtain ⟨w, h1, h2⟩ := hLn vs q; exact ⟨w, by rw [hF105]; exact th_ne (th_kd h12 h6 (by decide)) h1, h2⟩
        refine lv_aload_n hx hb dX3_readPiece_308 rfl (lv_at hl 0 rfl) ?_
        refine th_get (D := (dC, dI)) (ci := 3) (v := .ref z7) (C := RX3) (T := TX3) (N := 15) hx hb hts inX3 hown hK hP (hLK _ ha0 (by decide)) o106 rfl 3 (by decide) (hts _ T_132) (fun _ h9 => h9) rfl dX3_readPiece_309 ?_
        refine lv_aload_n hx hb dX3_readPiece_312 rfl (lv_at hl 0 rfl) ?_
        refine th_get (D := (dC, dI)) (ci := 3) (v := .ref qq) (C := RX3) (T := TX3) (N := 15) hx hb hts inX3 hown hK hP (hLK _ ha0 (by decide)) o106 rfl 6 (by decide) (hts _ T_211) (fun _ h9 => h9) rfl dX3_readPiece_313 ?_
        refine th_getN (D := (dC, dI)) (ci := 2) (v := .int z93) (C := RX2) (T := TX2) (N := 7) hx hb hts inX2 hown hK hP (hLK _ h12 (by decide)) o107 rfl 3 (by decide) (va_Nw.use rfl (ax_n9 hN)) (fun _ h9 => h9) rfl dX3_readPiece_316 ?_
        refine lv_iconst (v := 1) hx hb dX3_readPiece_319 (by decide) ?_
        refine lv_isub hx hb dX3_readPiece_320 ?_
        refine lv_topi (fun v108 ev108 => ?_)
        have qv108 : v108.toInt = z93.toInt - 1 := by rw [ev108]; exact th_sub rfl (by decide) ⟨by omega, by omega⟩
        refine lv_aload_n hx hb dX3_readPiece_321 rfl (lv_at hl 0 rfl) ?_
        refine th_get (D := (dC, dI)) (ci := 3) (v := .int z16) (C := RX3) (T := TX3) (N := 15) hx hb hts inX3 hown hK hP (hLK _ ha0 (by decide)) o106 rfl 9 (by decide) (hts _ T_205) (fun _ h9 => h9) rfl dX3_readPiece_322 ?_
        obtain ⟨f109, o110, h111⟩ := s_op21 hI h8
        refine th_iast hx hb hK hP hD hS (hLK _ h8 (by decide)) 0 o110 rfl (th_in ⟨by omega, by omega⟩) dX3_readPiece_325 (fun H locs hP hS => ?_)
        have hIq := hI
        have hP : va_P (dC, dI) vwCl (va_pl L (va_up F104 z7 (.inl (cs 0, 40, .inl (upd f109 (v108 : Int32).toNatClampNeg z16))))) H := hP
        obtain ⟨F112, hF113⟩ : ∃ G : Nat → va_E, G = va_up F104 z7 (.inl (cs 0, 40, .inl (upd f109 (v108 : Int32).toNatClampNeg z16))) := ⟨_, rfl⟩
        rw [← hF113] at hP
        have hI : s_I K cs D F112 := by rw [hF113]; exact s_cl21 hI h8 ⟨_, rfl, (th_updB h111 ⟨by omega, by omega⟩)⟩
        have hfr : ∀ b, K b ∉ [4, 8, 21, 24, 43] → F112 b = F b := by rw [hF113]; exact s_fr hfr h8 (by decide)
        have o114 : F112 a0 = .inr (3, [.ref z1, .ref z3, .ref z5, .ref z7, .ref tt, .int z10, .ref qq, .int z13, .int z14, .int z16, .int z18, .int z19, .int z20, .int z22, .int z23]) := by rw [hF113]; exact th_ne (th_kd ha0 h8 (by decide)) o106
        have o115 : F112 qq = .inr (2, [.ref z87, .ref z89, .ref z91, .int z93, .int z95, .int z97, .int z98]) := by rw [hF113]; exact th_ne (th_kd h12 h8 (by decide)) o107
        have hq := s_QGo hIq h12 h8 (by decide) hF113 hq
        have hLn : ∀ vs, F qq = .inr (2, vs) → ∃ vs2, F112 qq = .inr (2, vs2) ∧ vs2[3]? = vs[3]? := fun vs q => by obtain ⟨w, h1, h2⟩ := hLn vs q; exact ⟨w, by rw [hF113]; exact th_ne (th_kd h12 h8 (by decide)) h1, h2⟩
        refine lv_aload_n hx hb dX3_readPiece_326 rfl (lv_at hl 0 rfl) ?_
        have hIq := hI
        refine va_calli (va_runV (As := []) (rest := []) ⟨hx, hb, hml, hown, hts⟩ (s_X3_readName l dC dI H.size hLK D adK adV tf F112 a0 ha0 hI tt qq ⟨z1, z3, z5, z7, z10, z13, z14, z16, z18, z19, z20, z22, z23, o114, h2, h4, h6, h8, h9, ⟨by omega, by omega⟩, h12, ⟨by omega, by omega⟩, ⟨by omega, by omega⟩, ⟨by omega, by omega⟩, (fun q => by first | omega | exact absurd q (by decide)), trivial⟩) (cwV 0 hts (ax_gV T_757 T_759 T_760 T_163 T_758) rfl rfl rfl (by decide +kernel) ⟨Nat.le_of_ble_eq_true rfl, Nat.le_of_ble_eq_true rfl⟩) ⟨fun a U g mk q => ⟨q.1, s_pc (U := U) rfl rfl q.2.1, s_pcZ (U := U) rfl rfl q.2.2⟩, s_recv hK hP (hLK _ ha0 (by decide)) (ci := 3) rfl o114, fun U hU hW => ⟨rfl, s_pw hU hW hP hK hD hN, s_pwZ hU hW hS hZ⟩⟩ rfl rfl hl.1 rfl (lv_room (Nat.le_of_ble_eq_true rfl)) dX3_readPiece_327 ⟨Nat.zero_le _, Nat.zero_le _⟩) hS (fun q _ h => h) (fun q h => h) (fun r116 F117 t H1 locs ht hvm hw hB hz1 hk1 hS => ?_)
        obtain ⟨hP, hK1⟩ := hB
        rw [ht] at hP
        generalize H1 = H at hP hS ⊢
        clear hz1 hk1
        obtain ⟨h118, h119, hI, hfr1, h120⟩ := hw
        have o121 : F117 qq = .inr (2, [.ref z87, .ref z89, .ref z91, .int z93, .int z95, .int z97, .int z98]) := (hfr1 _ (by rw [h12]; decide)).trans o115
        have hq := s_QGt hIq h12 (fun b hb9 => hfr1 b (by rcases hb9 with q | q | q <;> (rw [q]; decide))) hq
        have hLn : ∀ vs, F qq = .inr (2, vs) → ∃ vs2, F117 qq = .inr (2, vs2) ∧ vs2[3]? = vs[3]? := fun vs q => by obtain ⟨w, h1, h2⟩ := hLn vs q; exact ⟨w, (hfr1 _ (by rw [h12]; decide)).trans h1, h2⟩
        have hfr : ∀ b, K b ∉ [4, 8, 21, 24, 43] → F117 b = F b := fun b hb9 => (hfr1 b (fun q => hb9 (s_sub (by decide) q))).trans (hfr b hb9)
        obtain ⟨z122, z124, z126, z128, z131, z134, z135, z137, z139, z140, z141, z143, z144, o146, h123, h125, h127, h129, h130, h132, h133, h136, h138, h142, h145, -⟩ := h120
        exact W.zret (v := r116) (ty := .boolean) hx hb hr (th_nz ⟨by omega, by omega⟩) (fun t ht hW => ⟨⟨r116, F117, rfl, ⟨⟨by omega, by omega⟩, ⟨trivial, ⟨fun _ => hq, hLn⟩⟩, hI, hfr, ⟨z122, z124, z126, z128, z131, z134, z135, z137, z139, z140, z141, z143, z144, o146, h123, h125, h127, h129, h130, ⟨by omega, by omega⟩, h133, ⟨by omega, by omega⟩, ⟨by omega, by omega⟩, ⟨by omega, by omega⟩, (fun q => by first | omega | exact absurd q (by decide)), trivial⟩⟩, by rw [ht]; exact hP, va_K.moved hW.alike hK⟩, hS.F ht⟩) hS.2.2 dX3_readPiece_330
      · have c86 := mt (ax_eq (n := 71) (by decide)).mpr c86
        by_cases c147 : x1 = 73
        · refine ax_eqi c147 ?_
          refine lv_tableIn (off := 330) (tgt := 331) hx hb dX3_readPiece_1 (by decide) (by decide) (by decide) (by decide) ?_
          have c147 := (ax_eq (n := 73) (by decide)).mp c147
          refine lv_aload_n hx hb dX3_readPiece_331 rfl (lv_at hl 0 rfl) ?_
          have hq : s_QG cs F qq 0 := hQ.resolve_right (fun q => by omega)
          refine lv_bipush (v := 24) hx hb dX3_readPiece_332 (by decide) ?_
          refine lv_bipush (v := 24) hx hb dX3_readPiece_334 (by decide) ?_
          have hIq := hI
          refine va_calli (va_runV (As := [.int 24, .int 24]) (rest := []) ⟨hx, hb, hml, hown, hts⟩ (s_X3_readOwn l dC dI H.size hLK D adK adV tf F a0 24 24 ha0 (by decide) (by decide) hI tt qq ⟨z1, z3, z5, z7, z10, z13, z14, z16, z18, z19, z20, z22, z23, o25, h2, h4, h6, h8, h9, ⟨by omega, by omega⟩, h12, ⟨by omega, by omega⟩, ⟨by omega, by omega⟩, ⟨by omega, by omega⟩, (fun q => by first | omega | exact absurd q (by decide)), trivial⟩) (cwV 2 hts (ax_gV T_792 T_794 T_795 T_163 T_793) rfl rfl rfl (by decide +kernel) ⟨Nat.le_of_ble_eq_true rfl, Nat.le_of_ble_eq_true rfl⟩) ⟨fun a U g mk q => ⟨q.1, s_pc (U := U) rfl rfl q.2.1, s_pcZ (U := U) rfl rfl q.2.2⟩, s_recv hK hP (hLK _ ha0 (by decide)) (ci := 3) rfl o25, fun U hU hW => ⟨rfl, s_pw hU hW hP hK hD hN, s_pwZ hU hW hS hZ⟩⟩ rfl rfl hl.1 rfl (lv_room (Nat.le_of_ble_eq_true rfl)) dX3_readPiece_336 ⟨Nat.zero_le _, Nat.zero_le _⟩) hS (fun q _ h => h) (fun q h => h) (fun r148 F149 t H1 locs ht hvm hw hB hz1 hk1 hS => ?_)
          obtain ⟨hP, hK1⟩ := hB
          rw [ht] at hP
          generalize H1 = H at hP hS ⊢
          clear hz1 hk1
          obtain ⟨h150, h151, hI, hfr1, h152⟩ := hw
          have hq := s_QGt hIq h12 (fun b hb9 => hfr1 b (by rcases hb9 with q | q | q <;> (rw [q]; decide))) hq
          have hLn : ∀ vs, F qq = .inr (2, vs) → ∃ vs2, F149 qq = .inr (2, vs2) ∧ vs2[3]? = vs[3]? := fun vs q => by obtain ⟨w, h1, h2⟩ := hLn vs q; exact ⟨w, (hfr1 _ (by rw [h12]; decide)).trans h1, h2⟩
          have hfr : ∀ b, K b ∉ [4, 8, 21, 24, 43] → F149 b = F b := fun b hb9 => (hfr1 b (fun q => hb9 (s_sub (by decide) q))).trans (hfr b hb9)
          obtain ⟨z154, z156, z158, z160, z162, z164, z166, z167, z168, z170, z172, z173, z174, z176, z177, o178, h155, h157, h159, h161, h163, h165, h169, h171, h175, -⟩ := s_op4 hI ha0
          obtain ⟨h151, h153⟩ := h151
          have h153 : ((r148.toInt = -1 ∧ ∀ vs z, F149 a0 = .inr (3, vs) → vs[13]? = some (.int z) → ¬ z.toInt = 0) ∨ (24 ≤ r148.toInt ∧ r148.toInt ≤ 24)) := h153
          obtain ⟨z179, z181, z183, z185, z188, z191, z192, z194, z196, z197, z198, z200, z201, o203, h180, h182, h184, h186, h187, h189, h190, h193, h195, h199, h202, -⟩ := h152
          refine lv_pop hx hb dX3_readPiece_339 rfl ?_
          refine lv_goto (tgt := 365) hx hb dX3_readPiece_340 (by decide) ?_
          exact K365 _ _ _ ⟨F149, _, rfl, lv_sub hl [0] rfl, hI, hP, hS, hfr, (fun vs z q q2 q3 => hq), hLn, ⟨z179, z181, z183, z185, z188, z191, z192, z194, z196, z197, z198, z200, z201, o203, h180, h182, h184, h186, h187, ⟨by omega, by omega⟩, h190, ⟨by omega, by omega⟩, ⟨by omega, by omega⟩, ⟨by omega, by omega⟩, (fun q => by first | omega | exact absurd q (by decide)), trivial⟩⟩
        · have c147 := mt (ax_eq (n := 73) (by decide)).mpr c147
          by_cases c204 : x1 = 77
          · refine ax_eqi c204 ?_
            refine lv_tableIn (off := 172) (tgt := 173) hx hb dX3_readPiece_1 (by decide) (by decide) (by decide) (by decide) ?_
            have c204 := (ax_eq (n := 77) (by decide)).mp c204
            refine lv_aload_n hx hb dX3_readPiece_173 rfl (lv_at hl 0 rfl) ?_
            have hq : s_QG cs F qq 0 := hQ.resolve_right (fun q => by omega)
            refine th_get (D := (dC, dI)) (ci := 3) (v := .ref qq) (C := RX3) (T := TX3) (N := 15) hx hb hts inX3 hown hK hP (hLK _ ha0 (by decide)) o25 rfl 6 (by decide) (hts _ T_211) (fun _ h9 => h9) rfl dX3_readPiece_174 ?_
            refine lv_aload_n hx hb dX3_readPiece_177 rfl (lv_at hl 0 rfl) ?_
            refine lv_bipush (v := 19) hx hb dX3_readPiece_178 (by decide) ?_
            refine lv_bipush (v := 20) hx hb dX3_readPiece_180 (by decide) ?_
            have hIq := hI
            refine va_calli (va_runV (As := [.int 19, .int 20]) (rest := [.ref qq]) ⟨hx, hb, hml, hown, hts⟩ (s_X3_readOwn l dC dI H.size hLK D adK adV tf F a0 19 20 ha0 (by decide) (by decide) hI tt qq ⟨z1, z3, z5, z7, z10, z13, z14, z16, z18, z19, z20, z22, z23, o25, h2, h4, h6, h8, h9, ⟨by omega, by omega⟩, h12, ⟨by omega, by omega⟩, ⟨by omega, by omega⟩, ⟨by omega, by omega⟩, (fun q => by first | omega | exact absurd q (by decide)), trivial⟩) (cwV 2 hts (ax_gV T_792 T_794 T_795 T_163 T_793) rfl rfl rfl (by decide +kernel) ⟨Nat.le_of_ble_eq_true rfl, Nat.le_of_ble_eq_true rfl⟩) ⟨fun a U g mk q => ⟨q.1, s_pc (U := U) rfl rfl q.2.1, s_pcZ (U := U) rfl rfl q.2.2⟩, s_recv hK hP (hLK _ ha0 (by decide)) (ci := 3) rfl o25, fun U hU hW => ⟨rfl, s_pw hU hW hP hK hD hN, s_pwZ hU hW hS hZ⟩⟩ rfl rfl hl.1 rfl (lv_room (Nat.le_of_ble_eq_true rfl)) dX3_readPiece_182 ⟨Nat.zero_le _, Nat.zero_le _⟩) hS (fun q _ h => h) (fun q h => h) (fun r205 F206 t H1 locs ht hvm hw hB hz1 hk1 hS => ?_)
            obtain ⟨hP, hK1⟩ := hB
            rw [ht] at hP
            generalize H1 = H at hP hS ⊢
            clear hz1 hk1
            obtain ⟨h207, h208, hI, hfr1, h209⟩ := hw
            have hq := s_QGt hIq h12 (fun b hb9 => hfr1 b (by rcases hb9 with q | q | q <;> (rw [q]; decide))) hq
            have hLn : ∀ vs, F qq = .inr (2, vs) → ∃ vs2, F206 qq = .inr (2, vs2) ∧ vs2[3]? = vs[3]? := fun vs q => by obtain ⟨w, h1, h2⟩ := hLn vs q; exact ⟨w, (hfr1 _ (by rw [h12]; decide)).trans h1, h2⟩
            have hfr : ∀ b, K b ∉ [4, 8, 21, 24, 43] → F206 b = F b := fun b hb9 => (hfr1 b (fun q => hb9 (s_sub (by decide) q))).trans (hfr b hb9)
            obtain ⟨z211, z213, z215, z217, z219, z221, z223, z224, z225, z227, z229, z230, z231, z233, z234, o235, h212, h214, h216, h218, h220, h222, h226, h228, h232, -⟩ := s_op4 hI ha0
            obtain ⟨h208, h210⟩ := h208
            have h210 : ((r205.toInt = -1 ∧ ∀ vs z, F206 a0 = .inr (3, vs) → vs[13]? = some (.int z) → ¬ z.toInt = 0) ∨ (19 ≤ r205.toInt ∧ r205.toInt ≤ 20)) := h210
            obtain ⟨z236, z238, z240, z242, z245, z248, z249, z251, z253, z254, z255, z257, z258, o260, h237, h239, h241, h243, h244, h246, h247, h250, h252, h256, h259, -⟩ := h209
            refine lv_bipush (v := 19) hx hb dX3_readPiece_185 (by decide) ?_
            refine lv_isub hx hb dX3_readPiece_187 ?_
            refine lv_topi (fun v261 ev261 => ?_)
            have qv261 : v261.toInt = r205.toInt - 19 := by rw [ev261]; exact th_sub rfl (by decide) ⟨by omega, by omega⟩
            obtain ⟨z262, z264, z266, z268, z270, z272, z273, o274, h263, h265, h267, h269, h271, -⟩ := s_op8 hI h12
            refine th_putN (D := (dC, dI)) (ci := 2) (v := .int v261) (ty := .int) (C := RX2) (T := TX2) (N := 7) hx hb hts inX2 tyX2 tyX2_ok nmX2 hown hK hP hD hS (hLK _ h12 (by decide)) o274 rfl 5 (by decide) (va_Nw.use rfl (ax_n42 hN)) (fun _ h9 => h9) rfl (by decide +kernel) rfl rfl (Nat.le_of_ble_eq_true rfl) dX3_readPiece_188 (fun H locs hP hS => ?_)
            have hIq := hI
            have hP : va_P (dC, dI) vwCl (va_pl L (va_up F206 qq (.inr (2, [.ref z262, .ref z264, .ref z266, .int z268, .int z270, .int v261, .int z273])))) H := hP
            obtain ⟨F275, hF276⟩ : ∃ G : Nat → va_E, G = va_up F206 qq (.inr (2, [.ref z262, .ref z264, .ref z266, .int z268, .int z270, .int v261, .int z273])) := ⟨_, rfl⟩
            rw [← hF276] at hP
            have hI : s_I K cs D F275 := by rw [hF276]; exact s_cl8 hI h12 ⟨z262, z264, z266, z268, z270, v261, z273, rfl, h263, h265, h267, ⟨by omega, by omega⟩, ⟨by omega, by omega⟩, trivial⟩
            have hfr : ∀ b, K b ∉ [4, 8, 21, 24, 43] → F275 b = F b := by rw [hF276]; exact s_fr hfr h12 (by decide)
            have o277 : F275 a0 = .inr (3, [.ref z236, .ref z238, .ref z240, .ref z242, .ref tt, .int z245, .ref qq, .int z248, .int z249, .int z251, .int z253, .int z254, .int z255, .int z257, .int z258]) := by rw [hF276]; exact th_ne (th_kd ha0 h12 (by decide)) o260
            have hq := s_QGq hIq h247 o274 hF276 rfl rfl hq
            have hLn : ∀ vs, F qq = .inr (2, vs) → ∃ vs2, F275 qq = .inr (2, vs2) ∧ vs2[3]? = vs[3]? := fun vs q => by obtain ⟨w, h1, h2⟩ := hLn vs q; rw [o274] at h1; cases h1; exact ⟨_, by rw [hF276]; exact th_up, h2⟩
            have o278 : F275 qq = .inr (2, [.ref z262, .ref z264, .ref z266, .int z268, .int z270, .int v261, .int z273]) := by rw [hF276]; exact th_up
            refine lv_goto (tgt := 365) hx hb dX3_readPiece_191 (by decide) ?_
            exact K365 _ _ _ ⟨F275, _, rfl, lv_sub hl [0] rfl, hI, hP, hS, hfr, (fun vs z q q2 q3 => hq), hLn, ⟨z236, z238, z240, z242, z245, z248, z249, z251, z253, z254, z255, z257, z258, o277, h237, h239, h241, h243, h244, ⟨by omega, by omega⟩, h247, ⟨by omega, by omega⟩, ⟨by omega, by omega⟩, ⟨by omega, by omega⟩, (fun q => by first | omega | exact absurd q (by decide)), trivial⟩⟩
          · have c204 := mt (ax_eq (n := 77) (by decide)).mpr c204
            by_cases c279 : x1 = 79
            · refine ax_eqi c279 ?_
              refine lv_tableIn (off := 193) (tgt := 194) hx hb dX3_readPiece_1 (by decide) (by decide) (by decide) (by decide) ?_
              have c279 := (ax_eq (n := 79) (by decide)).mp c279
              refine lv_aload_n hx hb dX3_readPiece_194 rfl (lv_at hl 0 rfl) ?_
              have hq : s_QG cs F qq 0 := hQ.resolve_right (fun q => by omega)
              refine th_get (D := (dC, dI)) (ci := 3) (v := .ref qq) (C := RX3) (T := TX3) (N := 15) hx hb hts inX3 hown hK hP (hLK _ ha0 (by decide)) o25 rfl 6 (by decide) (hts _ T_211) (fun _ h9 => h9) rfl dX3_readPiece_195 ?_
              refine lv_aload_n hx hb dX3_readPiece_198 rfl (lv_at hl 0 rfl) ?_
              refine lv_bipush (v := 22) hx hb dX3_readPiece_199 (by decide) ?_
              refine lv_bipush (v := 23) hx hb dX3_readPiece_201 (by decide) ?_
              have hIq := hI
              refine va_calli (va_runV (As := [.int 22, .int 23]) (rest := [.ref qq]) ⟨hx, hb, hml, hown, hts⟩ (s_X3_readOwn l dC dI H.size hLK D adK adV tf F a0 22 23 ha0 (by decide) (by decide) hI tt qq ⟨z1, z3, z5, z7, z10, z13, z14, z16, z18, z19, z20, z22, z23, o25, h2, h4, h6, h8, h9, ⟨by omega, by omega⟩, h12, ⟨by omega, by omega⟩, ⟨by omega, by omega⟩, ⟨by omega, by omega⟩, (fun q => by first | omega | exact absurd q (by decide)), trivial⟩) (cwV 2 hts (ax_gV T_792 T_794 T_795 T_163 T_793) rfl rfl rfl (by decide +kernel) ⟨Nat.le_of_ble_eq_true rfl, Nat.le_of_ble_eq_true rfl⟩) ⟨fun a U g mk q => ⟨q.1, s_pc (U := U) rfl rfl q.2.1, s_pcZ (U := U) rfl rfl q.2.2⟩, s_recv hK hP (hLK _ ha0 (by decide)) (ci := 3) rfl o25, fun U hU hW => ⟨rfl, s_pw hU hW hP hK hD hN, s_pwZ hU hW hS hZ⟩⟩ rfl rfl hl.1 rfl (lv_room (Nat.le_of_ble_eq_true rfl)) dX3_readPiece_203 ⟨Nat.zero_le _, Nat.zero_le _⟩) hS (fun q _ h => h) (fun q h => h) (fun r280 F281 t H1 locs ht hvm hw hB hz1 hk1 hS => ?_)
              obtain ⟨hP, hK1⟩ := hB
              rw [ht] at hP
              generalize H1 = H at hP hS ⊢
              clear hz1 hk1
              obtain ⟨h282, h283, hI, hfr1, h284⟩ := hw
              have hq := s_QGt hIq h12 (fun b hb9 => hfr1 b (by rcases hb9 with q | q | q <;> (rw [q]; decide))) hq
              have hLn : ∀ vs, F qq = .inr (2, vs) → ∃ vs2, F281 qq = .inr (2, vs2) ∧ vs2[3]? = vs[3]? := fun vs q => by obtain ⟨w, h1, h2⟩ := hLn vs q; exact ⟨w, (hfr1 _ (by rw [h12]; decide)).trans h1, h2⟩
              have hfr : ∀ b, K b ∉ [4, 8, 21, 24, 43] → F281 b = F b := fun b hb9 => (hfr1 b (fun q => hb9 (s_sub (by decide) q))).trans (hfr b hb9)
              obtain ⟨z286, z288, z290, z292, z294, z296, z298, z299, z300, z302, z304, z305, z306, z308, z309, o310, h287, h289, h291, h293, h295, h297, h301, h303, h307, -⟩ := s_op4 hI ha0
              obtain ⟨h283, h285⟩ := h283
              have h285 : ((r280.toInt = -1 ∧ ∀ vs z, F281 a0 = .inr (3, vs) → vs[13]? = some (.int z) → ¬ z.toInt = 0) ∨ (22 ≤ r280.toInt ∧ r280.toInt ≤ 23)) := h285
              obtain ⟨z311, z313, z315, z317, z320, z323, z324, z326, z328, z329, z330, z332, z333, o335, h312, h314, h316, h318, h319, h321, h322, h325, h327, h331, h334, -⟩ := h284
              refine lv_bipush (v := 22) hx hb dX3_readPiece_206 (by decide) ?_
              refine lv_isub hx hb dX3_readPiece_208 ?_
              refine lv_topi (fun v336 ev336 => ?_)
              have qv336 : v336.toInt = r280.toInt - 22 := by rw [ev336]; exact th_sub rfl (by decide) ⟨by omega, by omega⟩
              obtain ⟨z337, z339, z341, z343, z345, z347, z348, o349, h338, h340, h342, h344, h346, -⟩ := s_op8 hI h12
              refine th_putN (D := (dC, dI)) (ci := 2) (v := .int v336) (ty := .int) (C := RX2) (T := TX2) (N := 7) hx hb hts inX2 tyX2 tyX2_ok nmX2 hown hK hP hD hS (hLK _ h12 (by decide)) o349 rfl 6 (by decide) (va_Nw.use rfl (ax_n43 hN)) (fun _ h9 => h9) rfl (by decide +kernel) rfl rfl (Nat.le_of_ble_eq_true rfl) dX3_readPiece_209 (fun H locs hP hS => ?_)
              have hIq := hI
              have hP : va_P (dC, dI) vwCl (va_pl L (va_up F281 qq (.inr (2, [.ref z337, .ref z339, .ref z341, .int z343, .int z345, .int z347, .int v336])))) H := hP
              obtain ⟨F350, hF351⟩ : ∃ G : Nat → va_E, G = va_up F281 qq (.inr (2, [.ref z337, .ref z339, .ref z341, .int z343, .int z345, .int z347, .int v336])) := ⟨_, rfl⟩
              rw [← hF351] at hP
              have hI : s_I K cs D F350 := by rw [hF351]; exact s_cl8 hI h12 ⟨z337, z339, z341, z343, z345, z347, v336, rfl, h338, h340, h342, ⟨by omega, by omega⟩, ⟨by omega, by omega⟩, trivial⟩
              have hfr : ∀ b, K b ∉ [4, 8, 21, 24, 43] → F350 b = F b := by rw [hF351]; exact s_fr hfr h12 (by decide)
              have o352 : F350 a0 = .inr (3, [.ref z311, .ref z313, .ref z315, .ref z317, .ref tt, .int z320, .ref qq, .int z323, .int z324, .int z326, .int z328, .int z329, .int z330, .int z332, .int z333]) := by rw [hF351]; exact th_ne (th_kd ha0 h12 (by decide)) o335
              have hq := s_QGq hIq h322 o349 hF351 rfl rfl hq
              have hLn : ∀ vs, F qq = .inr (2, vs) → ∃ vs2, F350 qq = .inr (2, vs2) ∧ vs2[3]? = vs[3]? := fun vs q => by obtain ⟨w, h1, h2⟩ := hLn vs q; rw [o349] at h1; cases h1; exact ⟨_, by rw [hF351]; exact th_up, h2⟩
              have o353 : F350 qq = .inr (2, [.ref z337, .ref z339, .ref z341, .int z343, .int z345, .int z347, .int v336]) := by rw [hF351]; exact th_up
              refine lv_goto (tgt := 365) hx hb dX3_readPiece_212 (by decide) ?_
              exact K365 _ _ _ ⟨F350, _, rfl, lv_sub hl [0] rfl, hI, hP, hS, hfr, (fun vs z q q2 q3 => hq), hLn, ⟨z311, z313, z315, z317, z320, z323, z324, z326, z328, z329, z330, z332, z333, o352, h312, h314, h316, h318, h319, ⟨by omega, by omega⟩, h322, ⟨by omega, by omega⟩, ⟨by omega, by omega⟩, ⟨by omega, by omega⟩, (fun q => by first | omega | exact absurd q (by decide)), trivial⟩⟩
            · have c279 := mt (ax_eq (n := 79) (by decide)).mpr c279
              by_cases c354 : x1 = 82
              · refine ax_eqi c354 ?_
                refine lv_tableIn (off := 214) (tgt := 215) hx hb dX3_readPiece_1 (by decide) (by decide) (by decide) (by decide) ?_
                have c354 := (ax_eq (n := 82) (by decide)).mp c354
                refine lv_aload_n hx hb dX3_readPiece_215 rfl (lv_at hl 0 rfl) ?_
                have hq : s_QG cs F qq 1 := hQ.elim s_QGm (fun w => w.2)
                refine th_get (D := (dC, dI)) (ci := 3) (v := .ref qq) (C := RX3) (T := TX3) (N := 15) hx hb hts inX3 hown hK hP (hLK _ ha0 (by decide)) o25 rfl 6 (by decide) (hts _ T_211) (fun _ h9 => h9) rfl dX3_readPiece_216 ?_
                obtain ⟨z355, z357, z359, z361, z363, z365, z366, o367, h356, h358, h360, h362, h364, -⟩ := s_op8 hI h12
                have hIq := hI
                refine va_callr (va_runV (As := []) (rest := []) ⟨hx, hb, hml, hown, hts⟩ (s_X2_latest l dC dI H.size hLK D F qq h12 hI) (cwV 0 hts (ax_gV T_796 T_798 T_799 T_168 T_797) rfl rfl rfl (by decide +kernel) ⟨Nat.le_of_ble_eq_true rfl, Nat.le_of_ble_eq_true rfl⟩) ⟨fun a U g mk q => ⟨q.1, s_pc (U := U) rfl rfl q.2⟩, s_recv hK hP (hLK _ h12 (by decide)) (ci := 2) rfl o367, fun U hU hW => ⟨rfl, s_pw hU hW hP hK hD hN⟩⟩ rfl rfl hl.1 rfl (lv_room (Nat.le_of_ble_eq_true rfl)) dX3_readPiece_219 ⟨Nat.zero_le _, Nat.zero_le _⟩) hS (fun q _ h => h) (fun q h => h) (fun F369 r368 t H1 locs ht hvm hw hB hz1 hk1 hS => ?_)
                obtain ⟨hk_r368, hxr_r368, hP, hK1⟩ := hB
                rw [ht] at hP
                generalize H1 = H at hP hS ⊢
                clear hz1 hk1
                obtain ⟨h370, h371, hI, hfr1⟩ := hw
                have o372 : F369 a0 = .inr (3, [.ref z1, .ref z3, .ref z5, .ref z7, .ref tt, .int z10, .ref qq, .int z13, .int z14, .int z16, .int z18, .int z19, .int z20, .int z22, .int z23]) := (hfr1 _ (by rw [ha0]; decide)).trans o25
                have o373 : F369 qq = .inr (2, [.ref z355, .ref z357, .ref z359, .int z361, .int z363, .int z365, .int z366]) := (hfr1 _ (by rw [h12]; decide)).trans o367
                have hq := s_QGt hIq h12 (fun b hb9 => hfr1 b (by rcases hb9 with q | q | q <;> (rw [q]; decide))) hq
                have hLn : ∀ vs, F qq = .inr (2, vs) → ∃ vs2, F369 qq = .inr (2, vs2) ∧ vs2[3]? = vs[3]? := fun vs q => by obtain ⟨w, h1, h2⟩ := hLn vs q; exact ⟨w, (hfr1 _ (by rw [h12]; decide)).trans h1, h2⟩
                have hfr : ∀ b, K b ∉ [4, 8, 21, 24, 43] → F369 b = F b := fun b hb9 => (hfr1 b (fun q => hb9 (s_sub (by decide) q))).trans (hfr b hb9)
                have hlt : s_LT cs F369 qq r368 := s_LTt hIq h12 (fun b hb9 => hfr1 b (by rcases hb9 with q | q | q <;> (rw [q]; decide))) hxr_r368
                refine lv_iconst (v := 1) hx hb dX3_readPiece_222 (by decide) ?_
                refine lv_aload_n hx hb dX3_readPiece_223 rfl (lv_at hl 0 rfl) ?_
                refine lv_bipush (v := 25) hx hb dX3_readPiece_224 (by decide) ?_
                refine lv_bipush (v := 28) hx hb dX3_readPiece_226 (by decide) ?_
                have hIq := hI
                refine va_calli (va_runV (As := [.int 25, .int 28]) (rest := [.int 1, .ref r368]) ⟨hx, hb, hml, hown, hts⟩ (s_X3_readOwn l dC dI H.size hLK D adK adV tf F369 a0 25 28 ha0 (by decide) (by decide) hI tt qq ⟨z1, z3, z5, z7, z10, z13, z14, z16, z18, z19, z20, z22, z23, o372, h2, h4, h6, h8, h9, ⟨by omega, by omega⟩, h12, ⟨by omega, by omega⟩, ⟨by omega, by omega⟩, ⟨by omega, by omega⟩, (fun q => by first | omega | exact absurd q (by decide)), trivial⟩) (cwV 2 hts (ax_gV T_792 T_794 T_795 T_163 T_793) rfl rfl rfl (by decide +kernel) ⟨Nat.le_of_ble_eq_true rfl, Nat.le_of_ble_eq_true rfl⟩) ⟨fun a U g mk q => ⟨q.1, s_pc (U := U) rfl rfl q.2.1, s_pcZ (U := U) rfl rfl q.2.2⟩, s_recv hK hP (hLK _ ha0 (by decide)) (ci := 3) rfl o372, fun U hU hW => ⟨rfl, s_pw hU hW hP hK hD hN, s_pwZ hU hW hS hZ⟩⟩ rfl rfl hl.1 rfl (lv_room (Nat.le_of_ble_eq_true rfl)) dX3_readPiece_228 ⟨Nat.zero_le _, Nat.zero_le _⟩) hS (fun q _ h => h) (fun q h => h) (fun r374 F375 t H1 locs ht hvm hw hB hz1 hk1 hS => ?_)
                obtain ⟨hP, hK1⟩ := hB
                rw [ht] at hP
                generalize H1 = H at hP hS ⊢
                clear hz1 hk1
                obtain ⟨h376, h377, hI, hfr1, h378⟩ := hw
                have o379 : F375 qq = .inr (2, [.ref z355, .ref z357, .ref z359, .int z361, .int z363, .int z365, .int z366]) := (hfr1 _ (by rw [h12]; decide)).trans o373
                have hq := s_QGt hIq h12 (fun b hb9 => hfr1 b (by rcases hb9 with q | q | q <;> (rw [q]; decide))) hq
                have hlt := s_LTt hIq h12 (fun b hb9 => hfr1 b (by rcases hb9 with q | q | q <;> (rw [q]; decide))) hlt
                have hLn : ∀ vs, F qq = .inr (2, vs) → ∃ vs2, F375 qq = .inr (2, vs2) ∧ vs2[3]? = vs[3]? := fun vs q => by obtain ⟨w, h1, h2⟩ := hLn vs q; exact ⟨w, (hfr1 _ (by rw [h12]; decide)).trans h1, h2⟩
                have hfr : ∀ b, K b ∉ [4, 8, 21, 24, 43] → F375 b = F b := fun b hb9 => (hfr1 b (fun q => hb9 (s_sub (by decide) q))).trans (hfr b hb9)
                obtain ⟨z381, z383, z385, z387, z389, z391, z393, z394, z395, z397, z399, z400, z401, z403, z404, o405, h382, h384, h386, h388, h390, h392, h396, h398, h402, -⟩ := s_op4 hI ha0
                obtain ⟨h377, h380⟩ := h377
                have h380 : ((r374.toInt = -1 ∧ ∀ vs z, F375 a0 = .inr (3, vs) → vs[13]? = some (.int z) → ¬ z.toInt = 0) ∨ (25 ≤ r374.toInt ∧ r374.toInt ≤ 28)) := h380
                obtain ⟨z406, z408, z410, z412, z415, z418, z419, z421, z423, z424, z425, z427, z428, o430, h407, h409, h411, h413, h414, h416, h417, h420, h422, h426, h429, -⟩ := h378
                have hro2 : ¬ z427.toInt = 0 ∨ 25 ≤ r374.toInt := h380.elim (fun w => Or.inl (w.2 _ _ o430 rfl)) (fun w => Or.inr w.1)
                refine lv_bipush (v := 25) hx hb dX3_readPiece_231 (by decide) ?_
                refine lv_isub hx hb dX3_readPiece_233 ?_
                refine lv_topi (fun v431 ev431 => ?_)
                have qv431 : v431.toInt = r374.toInt - 25 := by rw [ev431]; exact th_sub rfl (by decide) ⟨by omega, by omega⟩
                obtain ⟨f432, o433, h434⟩ := s_op43 hI hk_r368
                refine th_iast hx hb hK hP hD hS (hLK _ hk_r368 (by decide)) 0 o433 rfl (ax_in (by decide)) dX3_readPiece_234 (fun H locs hP hS => ?_)
                have hIq := hI
                have hP : va_P (dC, dI) vwCl (va_pl L (va_up F375 r368 (.inl (cs 0, 7, .inl (upd f432 (1 : Int32).toNatClampNeg v431))))) H := hP
                obtain ⟨F435, hF436⟩ : ∃ G : Nat → va_E, G = va_up F375 r368 (.inl (cs 0, 7, .inl (upd f432 (1 : Int32).toNatClampNeg v431))) := ⟨_, rfl⟩
                rw [← hF436] at hP
                have hI : s_I K cs D F435 := by rw [hF436]; exact s_cl43 hI hk_r368 ⟨_, rfl, th_updJ (P := fun y => y.toInt ≤ 3) h434 (fun _ => by omega)⟩
                have hfr : ∀ b, K b ∉ [4, 8, 21, 24, 43] → F435 b = F b := by rw [hF436]; exact s_fr hfr hk_r368 (by decide)
                have o437 : F435 qq = .inr (2, [.ref z355, .ref z357, .ref z359, .int z361, .int z363, .int z365, .int z366]) := by rw [hF436]; exact th_ne (th_kd h417 hk_r368 (by decide)) o379
                have o438 : F435 a0 = .inr (3, [.ref z406, .ref z408, .ref z410, .ref z412, .ref tt, .int z415, .ref qq, .int z418, .int z419, .int z421, .int z423, .int z424, .int z425, .int z427, .int z428]) := by rw [hF436]; exact th_ne (th_kd ha0 hk_r368 (by decide)) o430
                have hqR : 0 ≤ v431.toInt → s_QG cs F435 qq 0 := fun hv9 => s_QGinto hIq h417 hk_r368 hF436 hv9 hlt hq
                have hLn : ∀ vs, F qq = .inr (2, vs) → ∃ vs2, F435 qq = .inr (2, vs2) ∧ vs2[3]? = vs[3]? := fun vs q => by obtain ⟨w, h1, h2⟩ := hLn vs q; exact ⟨w, by rw [hF436]; exact th_ne (th_kd h417 hk_r368 (by decide)) h1, h2⟩
                refine lv_goto (tgt := 365) hx hb dX3_readPiece_235 (by decide) ?_
                exact K365 _ _ _ ⟨F435, _, rfl, lv_sub hl [0] rfl, hI, hP, hS, hfr, (fun vs z q q2 q3 => by rw [o438] at q; cases q; cases q2; exact hqR (by omega)), hLn, ⟨z406, z408, z410, z412, z415, z418, z419, z421, z423, z424, z425, z427, z428, o438, h407, h409, h411, h413, h414, ⟨by omega, by omega⟩, h417, ⟨by omega, by omega⟩, ⟨by omega, by omega⟩, ⟨by omega, by omega⟩, (fun q => by first | omega | exact absurd q (by decide)), trivial⟩⟩
              · have c354 := mt (ax_eq (n := 82) (by decide)).mpr c354
                by_cases c439 : x1 = 83
                · refine ax_eqi c439 ?_
                  refine lv_tableIn (off := 342) (tgt := 343) hx hb dX3_readPiece_1 (by decide) (by decide) (by decide) (by decide) ?_
                  have c439 := (ax_eq (n := 83) (by decide)).mp c439
                  refine lv_aload_n hx hb dX3_readPiece_343 rfl (lv_at hl 0 rfl) ?_
                  have hq : s_QG cs F qq 0 := hQ.resolve_right (fun q => by omega)
                  refine th_get (D := (dC, dI)) (ci := 3) (v := .ref qq) (C := RX3) (T := TX3) (N := 15) hx hb hts inX3 hown hK hP (hLK _ ha0 (by decide)) o25 rfl 6 (by decide) (hts _ T_211) (fun _ h9 => h9) rfl dX3_readPiece_344 ?_
                  obtain ⟨z440, z442, z444, z446, z448, z450, z451, o452, h441, h443, h445, h447, h449, -⟩ := s_op8 hI h12
                  have hIq := hI
                  refine va_callr (va_runV (As := []) (rest := []) ⟨hx, hb, hml, hown, hts⟩ (s_X2_latest l dC dI H.size hLK D F qq h12 hI) (cwV 0 hts (ax_gV T_796 T_798 T_799 T_168 T_797) rfl rfl rfl (by decide +kernel) ⟨Nat.le_of_ble_eq_true rfl, Nat.le_of_ble_eq_true rfl⟩) ⟨fun a U g mk q => ⟨q.1, s_pc (U := U) rfl rfl q.2⟩, s_recv hK hP (hLK _ h12 (by decide)) (ci := 2) rfl o452, fun U hU hW => ⟨rfl, s_pw hU hW hP hK hD hN⟩⟩ rfl rfl hl.1 rfl (lv_room (Nat.le_of_ble_eq_true rfl)) dX3_readPiece_347 ⟨Nat.zero_le _, Nat.zero_le _⟩) hS (fun q _ h => h) (fun q h => h) (fun F454 r453 t H1 locs ht hvm hw hB hz1 hk1 hS => ?_)
                  obtain ⟨hk_r453, hxr_r453, hP, hK1⟩ := hB
                  rw [ht] at hP
                  generalize H1 = H at hP hS ⊢
                  clear hz1 hk1
                  obtain ⟨h455, h456, hI, hfr1⟩ := hw
                  have o457 : F454 a0 = .inr (3, [.ref z1, .ref z3, .ref z5, .ref z7, .ref tt, .int z10, .ref qq, .int z13, .int z14, .int z16, .int z18, .int z19, .int z20, .int z22, .int z23]) := (hfr1 _ (by rw [ha0]; decide)).trans o25
                  have o458 : F454 qq = .inr (2, [.ref z440, .ref z442, .ref z444, .int z446, .int z448, .int z450, .int z451]) := (hfr1 _ (by rw [h12]; decide)).trans o452
                  have hq := s_QGt hIq h12 (fun b hb9 => hfr1 b (by rcases hb9 with q | q | q <;> (rw [q]; decide))) hq
                  have hLn : ∀ vs, F qq = .inr (2, vs) → ∃ vs2, F454 qq = .inr (2, vs2) ∧ vs2[3]? = vs[3]? := fun vs q => by obtain ⟨w, h1, h2⟩ := hLn vs q; exact ⟨w, (hfr1 _ (by rw [h12]; decide)).trans h1, h2⟩
                  have hfr : ∀ b, K b ∉ [4, 8, 21, 24, 43] → F454 b = F b := fun b hb9 => (hfr1 b (fun q => hb9 (s_sub (by decide) q))).trans (hfr b hb9)
                  refine lv_iconst (v := 5) hx hb dX3_readPiece_350 (by decide) ?_
                  refine lv_aload_n hx hb dX3_readPiece_351 rfl (lv_at hl 0 rfl) ?_
                  have hIq := hI
                  refine va_calli (va_runV (As := []) (rest := [.int 5, .ref r453]) ⟨hx, hb, hml, hown, hts⟩ (s_X3_readComparison l dC dI H.size hLK D adK adV tf F454 a0 ha0 hI tt qq ⟨z1, z3, z5, z7, z10, z13, z14, z16, z18, z19, z20, z22, z23, o457, h2, h4, h6, h8, h9, ⟨by omega, by omega⟩, h12, ⟨by omega, by omega⟩, ⟨by omega, by omega⟩, ⟨by omega, by omega⟩, (fun q => by first | omega | exact absurd q (by decide)), trivial⟩) (cwV 0 hts (ax_gV T_800 T_802 T_803 T_163 T_801) rfl rfl rfl (by decide +kernel) ⟨Nat.le_of_ble_eq_true rfl, Nat.le_of_ble_eq_true rfl⟩) ⟨fun a U g mk q => ⟨q.1, s_pc (U := U) rfl rfl q.2.1, s_pcZ (U := U) rfl rfl q.2.2⟩, s_recv hK hP (hLK _ ha0 (by decide)) (ci := 3) rfl o457, fun U hU hW => ⟨rfl, s_pw hU hW hP hK hD hN, s_pwZ hU hW hS hZ⟩⟩ rfl rfl hl.1 rfl (lv_room (Nat.le_of_ble_eq_true rfl)) dX3_readPiece_352 ⟨Nat.zero_le _, Nat.zero_le _⟩) hS (fun q _ h => h) (fun q h => h) (fun r459 F460 t H1 locs ht hvm hw hB hz1 hk1 hS => ?_)
                  obtain ⟨hP, hK1⟩ := hB
                  rw [ht] at hP
                  generalize H1 = H at hP hS ⊢
                  clear hz1 hk1
                  obtain ⟨h461, h462, hI, hfr1, h463⟩ := hw
                  have o464 : F460 qq = .inr (2, [.ref z440, .ref z442, .ref z444, .int z446, .int z448, .int z450, .int z451]) := (hfr1 _ (by rw [h12]; decide)).trans o458
                  have hq := s_QGt hIq h12 (fun b hb9 => hfr1 b (by rcases hb9 with q | q | q <;> (rw [q]; decide))) hq
                  have hLn : ∀ vs, F qq = .inr (2, vs) → ∃ vs2, F460 qq = .inr (2, vs2) ∧ vs2[3]? = vs[3]? := fun vs q => by obtain ⟨w, h1, h2⟩ := hLn vs q; exact ⟨w, (hfr1 _ (by rw [h12]; decide)).trans h1, h2⟩
                  have hfr : ∀ b, K b ∉ [4, 8, 21, 24, 43] → F460 b = F b := fun b hb9 => (hfr1 b (fun q => hb9 (s_sub (by decide) q))).trans (hfr b hb9)
                  obtain ⟨z465, z467, z469, z471, z474, z477, z478, z480, z482, z483, z484, z486, z487, o489, h466, h468, h470, h472, h473, h475, h476, h479, h481, h485, h488, -⟩ := h463
                  obtain ⟨f490, o491, h492⟩ := s_op43 hI hk_r453
                  refine th_iast hx hb hK hP hD hS (hLK _ hk_r453 (by decide)) 0 o491 rfl (ax_in (by decide)) dX3_readPiece_355 (fun H locs hP hS => ?_)
                  have hIq := hI
                  have hP : va_P (dC, dI) vwCl (va_pl L (va_up F460 r453 (.inl (cs 0, 7, .inl (upd f490 (5 : Int32).toNatClampNeg r459))))) H := hP
                  obtain ⟨F493, hF494⟩ : ∃ G : Nat → va_E, G = va_up F460 r453 (.inl (cs 0, 7, .inl (upd f490 (5 : Int32).toNatClampNeg r459))) := ⟨_, rfl⟩
                  rw [← hF494] at hP
                  have hI : s_I K cs D F493 := by rw [hF494]; exact s_cl43 hI hk_r453 ⟨_, rfl, th_updJ (P := fun y => y.toInt ≤ 3) h492 (fun q => absurd q (by decide))⟩
                  have hfr : ∀ b, K b ∉ [4, 8, 21, 24, 43] → F493 b = F b := by rw [hF494]; exact s_fr hfr hk_r453 (by decide)
                  have o495 : F493 qq = .inr (2, [.ref z440, .ref z442, .ref z444, .int z446, .int z448, .int z450, .int z451]) := by rw [hF494]; exact th_ne (th_kd h476 hk_r453 (by decide)) o464
                  have o496 : F493 a0 = .inr (3, [.ref z465, .ref z467, .ref z469, .ref z471, .ref tt, .int z474, .ref qq, .int z477, .int z478, .int z480, .int z482, .int z483, .int z484, .int z486, .int z487]) := by rw [hF494]; exact th_ne (th_kd ha0 hk_r453 (by decide)) o489
                  have hq := s_QGrow hIq h476 hk_r453 o491 hF494 (by decide) (by decide) hq
                  have hLn : ∀ vs, F qq = .inr (2, vs) → ∃ vs2, F493 qq = .inr (2, vs2) ∧ vs2[3]? = vs[3]? := fun vs q => by obtain ⟨w, h1, h2⟩ := hLn vs q; exact ⟨w, by rw [hF494]; exact th_ne (th_kd h476 hk_r453 (by decide)) h1, h2⟩
                  refine lv_goto (tgt := 365) hx hb dX3_readPiece_356 (by decide) ?_
                  exact K365 _ _ _ ⟨F493, _, rfl, lv_sub hl [0] rfl, hI, hP, hS, hfr, (fun vs z q q2 q3 => hq), hLn, ⟨z465, z467, z469, z471, z474, z477, z478, z480, z482, z483, z484, z486, z487, o496, h466, h468, h470, h472, h473, ⟨by omega, by omega⟩, h476, ⟨by omega, by omega⟩, ⟨by omega, by omega⟩, ⟨by omega, by omega⟩, (fun q => by first | omega | exact absurd q (by decide)), trivial⟩⟩
                · have c439 := mt (ax_eq (n := 83) (by decide)).mpr c439
                  by_cases c497 : x1 = 86
                  · refine ax_eqi c497 ?_
                    refine lv_tableIn (off := 145) (tgt := 146) hx hb dX3_readPiece_1 (by decide) (by decide) (by decide) (by decide) ?_
                    have c497 := (ax_eq (n := 86) (by decide)).mp c497
                    refine lv_aload_n hx hb dX3_readPiece_146 rfl (lv_at hl 0 rfl) ?_
                    have hq : s_QG cs F qq 0 := hQ.resolve_right (fun q => by omega)
                    refine th_get (D := (dC, dI)) (ci := 3) (v := .ref qq) (C := RX3) (T := TX3) (N := 15) hx hb hts inX3 hown hK hP (hLK _ ha0 (by decide)) o25 rfl 6 (by decide) (hts _ T_211) (fun _ h9 => h9) rfl dX3_readPiece_147 ?_
                    obtain ⟨z498, z500, z502, z504, z506, z508, z509, o510, h499, h501, h503, h505, h507, -⟩ := s_op8 hI h12
                    refine th_getN (D := (dC, dI)) (ci := 2) (v := .ref z500) (C := RX2) (T := TX2) (N := 7) hx hb hts inX2 hown hK hP (hLK _ h12 (by decide)) o510 rfl 1 (by decide) (va_Nw.use rfl (ax_n41 hN)) (fun _ h9 => h9) rfl dX3_readPiece_150 ?_
                    refine lv_aload_n hx hb dX3_readPiece_153 rfl (lv_at hl 0 rfl) ?_
                    refine th_get (D := (dC, dI)) (ci := 3) (v := .int z20) (C := RX3) (T := TX3) (N := 15) hx hb hts inX3 hown hK hP (hLK _ ha0 (by decide)) o25 rfl 12 (by decide) (hts _ T_790) (fun _ h9 => h9) rfl dX3_readPiece_154 ?_
                    refine lv_iconst (v := 0) hx hb dX3_readPiece_157 (by decide) ?_
                    refine va_mmax hx hb (by rw [hml]; exact hl.1.symm) hown (hts _ T_791) (hts _ T_609) (hts _ T_237) (hts _ T_610) (Nat.le_of_ble_eq_true rfl) (Nat.le_of_ble_eq_true rfl) (Nat.zero_le _) (Nat.zero_le _) dX3_readPiece_158 ?_
                    refine lv_topi (fun v511 ev511 => ?_)
                    have qv511 := th_mmax (a := z20.toInt) (b := 0) ev511 rfl (by decide)
                    refine lv_aload_n hx hb dX3_readPiece_161 rfl (lv_at hl 0 rfl) ?_
                    refine lv_iconst (v := 0) hx hb dX3_readPiece_162 (by decide) ?_
                    refine lv_sipush (v := 999) hx hb dX3_readPiece_163 (by decide) ?_
                    have hIq := hI
                    refine va_calli (va_runV (As := [.int 0, .int 999]) (rest := [.int v511, .ref z500]) ⟨hx, hb, hml, hown, hts⟩ (s_X3_readNumber l dC dI H.size hLK D adK adV tf F a0 0 999 ha0 (by decide) (by decide) hI tt qq ⟨z1, z3, z5, z7, z10, z13, z14, z16, z18, z19, z20, z22, z23, o25, h2, h4, h6, h8, h9, ⟨by omega, by omega⟩, h12, ⟨by omega, by omega⟩, ⟨by omega, by omega⟩, ⟨by omega, by omega⟩, (fun q => by first | omega | exact absurd q (by decide)), trivial⟩) (cwV 2 hts (ax_gV T_786 T_788 T_789 T_163 T_787) rfl rfl rfl (by decide +kernel) ⟨Nat.le_of_ble_eq_true rfl, Nat.le_of_ble_eq_true rfl⟩) ⟨fun a U g mk q => ⟨q.1, s_pc (U := U) rfl rfl q.2.1, s_pcZ (U := U) rfl rfl q.2.2⟩, s_recv hK hP (hLK _ ha0 (by decide)) (ci := 3) rfl o25, fun U hU hW => ⟨rfl, s_pw hU hW hP hK hD hN, s_pwZ hU hW hS hZ⟩⟩ rfl rfl hl.1 rfl (lv_room (Nat.le_of_ble_eq_true rfl)) dX3_readPiece_166 ⟨Nat.zero_le _, Nat.zero_le _⟩) hS (fun q _ h => h) (fun q h => h) (fun r512 F513 t H1 locs ht hvm hw hB hz1 hk1 hS => ?_)
                    obtain ⟨hP, hK1⟩ := hB
                    rw [ht] at hP
                    generalize H1 = H at hP hS ⊢
                    clear hz1 hk1
                    obtain ⟨h514, h515, hI, hfr1, h516⟩ := hw
                    have o517 : F513 qq = .inr (2, [.ref z498, .ref z500, .ref z502, .int z504, .int z506, .int z508, .int z509]) := (hfr1 _ (by rw [h12]; decide)).trans o510
                    have hq := s_QGt hIq h12 (fun b hb9 => hfr1 b (by rcases hb9 with q | q | q <;> (rw [q]; decide))) hq
                    have hLn : ∀ vs, F qq = .inr (2, vs) → ∃ vs2, F513 qq = .inr (2, vs2) ∧ vs2[3]? = vs[3]? := fun vs q => by obtain ⟨w, h1, h2⟩ := hLn vs q; exact ⟨w, (hfr1 _ (by rw [h12]; decide)).trans h1, h2⟩
                    have hfr : ∀ b, K b ∉ [4, 8, 21, 24, 43] → F513 b = F b := fun b hb9 => (hfr1 b (fun q => hb9 (s_sub (by decide) q))).trans (hfr b hb9)
                    obtain ⟨z519, z521, z523, z525, z527, z529, z531, z532, z533, z535, z537, z538, z539, z541, z542, o543, h520, h522, h524, h526, h528, h530, h534, h536, h540, -⟩ := s_op4 hI ha0
                    obtain ⟨h515, h518⟩ := h515
                    have h518 : (r512.toInt = -1 ∨ (0 ≤ r512.toInt ∧ r512.toInt ≤ 999)) := h518
                    obtain ⟨z544, z546, z548, z550, z553, z556, z557, z559, z561, z562, z563, z565, z566, o568, h545, h547, h549, h551, h552, h554, h555, h558, h560, h564, h567, -⟩ := h516
                    obtain ⟨f569, o570, h571⟩ := s_op24 hI h501
                    refine th_iast hx hb hK hP hD hS (hLK _ h501 (by decide)) 0 o570 rfl (th_in ⟨by omega, by omega⟩) dX3_readPiece_169 (fun H locs hP hS => ?_)
                    have hIq := hI
                    have hP : va_P (dC, dI) vwCl (va_pl L (va_up F513 z500 (.inl (cs 0, 64, .inl (upd f569 (v511 : Int32).toNatClampNeg r512))))) H := hP
                    obtain ⟨F572, hF573⟩ : ∃ G : Nat → va_E, G = va_up F513 z500 (.inl (cs 0, 64, .inl (upd f569 (v511 : Int32).toNatClampNeg r512))) := ⟨_, rfl⟩
                    rw [← hF573] at hP
                    have hI : s_I K cs D F572 := by rw [hF573]; exact s_cl24 hI h501 ⟨_, rfl, trivial⟩
                    have hfr : ∀ b, K b ∉ [4, 8, 21, 24, 43] → F572 b = F b := by rw [hF573]; exact s_fr hfr h501 (by decide)
                    have o574 : F572 qq = .inr (2, [.ref z498, .ref z500, .ref z502, .int z504, .int z506, .int z508, .int z509]) := by rw [hF573]; exact th_ne (th_kd h555 h501 (by decide)) o517
                    have o575 : F572 a0 = .inr (3, [.ref z544, .ref z546, .ref z548, .ref z550, .ref tt, .int z553, .ref qq, .int z556, .int z557, .int z559, .int z561, .int z562, .int z563, .int z565, .int z566]) := by rw [hF573]; exact th_ne (th_kd ha0 h501 (by decide)) o568
                    have hq := s_QGo hIq h555 h501 (by decide) hF573 hq
                    have hLn : ∀ vs, F qq = .inr (2, vs) → ∃ vs2, F572 qq = .inr (2, vs2) ∧ vs2[3]? = vs[3]? := fun vs q => by obtain ⟨w, h1, h2⟩ := hLn vs q; exact ⟨w, by rw [hF573]; exact th_ne (th_kd h555 h501 (by decide)) h1, h2⟩
                    refine lv_goto (tgt := 365) hx hb dX3_readPiece_170 (by decide) ?_
                    exact K365 _ _ _ ⟨F572, _, rfl, lv_sub hl [0] rfl, hI, hP, hS, hfr, (fun vs z q q2 q3 => hq), hLn, ⟨z544, z546, z548, z550, z553, z556, z557, z559, z561, z562, z563, z565, z566, o575, h545, h547, h549, h551, h552, ⟨by omega, by omega⟩, h555, ⟨by omega, by omega⟩, ⟨by omega, by omega⟩, ⟨by omega, by omega⟩, (fun q => by first | omega | exact absurd q (by decide)), trivial⟩⟩
                  · have c497 := mt (ax_eq (n := 86) (by decide)).mpr c497
                    by_cases c576 : x1 = 87
                    · refine ax_eqi c576 ?_
                      refine lv_tableIn (off := 115) (tgt := 116) hx hb dX3_readPiece_1 (by decide) (by decide) (by decide) (by decide) ?_
                      have c576 := (ax_eq (n := 87) (by decide)).mp c576
                      refine lv_aload_n hx hb dX3_readPiece_116 rfl (lv_at hl 0 rfl) ?_
                      have hq : s_QG cs F qq 0 := hQ.resolve_right (fun q => by omega)
                      refine th_get (D := (dC, dI)) (ci := 3) (v := .ref qq) (C := RX3) (T := TX3) (N := 15) hx hb hts inX3 hown hK hP (hLK _ ha0 (by decide)) o25 rfl 6 (by decide) (hts _ T_211) (fun _ h9 => h9) rfl dX3_readPiece_117 ?_
                      refine lv_aload_n hx hb dX3_readPiece_120 rfl (lv_at hl 0 rfl) ?_
                      refine lv_iconst (v := 1) hx hb dX3_readPiece_121 (by decide) ?_
                      refine lv_iconst (v := 4) hx hb dX3_readPiece_122 (by decide) ?_
                      have hIq := hI
                      refine va_calli (va_runV (As := [.int 1, .int 4]) (rest := [.ref qq]) ⟨hx, hb, hml, hown, hts⟩ (s_X3_readNumber l dC dI H.size hLK D adK adV tf F a0 1 4 ha0 (by decide) (by decide) hI tt qq ⟨z1, z3, z5, z7, z10, z13, z14, z16, z18, z19, z20, z22, z23, o25, h2, h4, h6, h8, h9, ⟨by omega, by omega⟩, h12, ⟨by omega, by omega⟩, ⟨by omega, by omega⟩, ⟨by omega, by omega⟩, (fun q => by first | omega | exact absurd q (by decide)), trivial⟩) (cwV 2 hts (ax_gV T_786 T_788 T_789 T_163 T_787) rfl rfl rfl (by decide +kernel) ⟨Nat.le_of_ble_eq_true rfl, Nat.le_of_ble_eq_true rfl⟩) ⟨fun a U g mk q => ⟨q.1, s_pc (U := U) rfl rfl q.2.1, s_pcZ (U := U) rfl rfl q.2.2⟩, s_recv hK hP (hLK _ ha0 (by decide)) (ci := 3) rfl o25, fun U hU hW => ⟨rfl, s_pw hU hW hP hK hD hN, s_pwZ hU hW hS hZ⟩⟩ rfl rfl hl.1 rfl (lv_room (Nat.le_of_ble_eq_true rfl)) dX3_readPiece_123 ⟨Nat.zero_le _, Nat.zero_le _⟩) hS (fun q _ h => h) (fun q h => h) (fun r577 F578 t H1 locs ht hvm hw hB hz1 hk1 hS => ?_)
                      obtain ⟨hP, hK1⟩ := hB
                      rw [ht] at hP
                      generalize H1 = H at hP hS ⊢
                      clear hz1 hk1
                      obtain ⟨h579, h580, hI, hfr1, h581⟩ := hw
                      have hq := s_QGt hIq h12 (fun b hb9 => hfr1 b (by rcases hb9 with q | q | q <;> (rw [q]; decide))) hq
                      have hLn : ∀ vs, F qq = .inr (2, vs) → ∃ vs2, F578 qq = .inr (2, vs2) ∧ vs2[3]? = vs[3]? := fun vs q => by obtain ⟨w, h1, h2⟩ := hLn vs q; exact ⟨w, (hfr1 _ (by rw [h12]; decide)).trans h1, h2⟩
                      have hfr : ∀ b, K b ∉ [4, 8, 21, 24, 43] → F578 b = F b := fun b hb9 => (hfr1 b (fun q => hb9 (s_sub (by decide) q))).trans (hfr b hb9)
                      obtain ⟨z583, z585, z587, z589, z591, z593, z595, z596, z597, z599, z601, z602, z603, z605, z606, o607, h584, h586, h588, h590, h592, h594, h598, h600, h604, -⟩ := s_op4 hI ha0
                      obtain ⟨h580, h582⟩ := h580
                      have h582 : (r577.toInt = -1 ∨ (1 ≤ r577.toInt ∧ r577.toInt ≤ 4)) := h582
                      obtain ⟨z608, z610, z612, z614, z617, z620, z621, z623, z625, z626, z627, z629, z630, o632, h609, h611, h613, h615, h616, h618, h619, h622, h624, h628, h631, -⟩ := h581
                      obtain ⟨z633, z635, z637, z639, z641, z643, z644, o645, h634, h636, h638, h640, h642, -⟩ := s_op8 hI h12
                      refine th_putN (D := (dC, dI)) (ci := 2) (v := .int r577) (ty := .int) (C := RX2) (T := TX2) (N := 7) hx hb hts inX2 tyX2 tyX2_ok nmX2 hown hK hP hD hS (hLK _ h12 (by decide)) o645 rfl 4 (by decide) (va_Nw.use rfl (ax_n40 hN)) (fun _ h9 => h9) rfl (by decide +kernel) rfl rfl (Nat.le_of_ble_eq_true rfl) dX3_readPiece_126 (fun H locs hP hS => ?_)
                      have hIq := hI
                      have hP : va_P (dC, dI) vwCl (va_pl L (va_up F578 qq (.inr (2, [.ref z633, .ref z635, .ref z637, .int z639, .int r577, .int z643, .int z644])))) H := hP
                      obtain ⟨F646, hF647⟩ : ∃ G : Nat → va_E, G = va_up F578 qq (.inr (2, [.ref z633, .ref z635, .ref z637, .int z639, .int r577, .int z643, .int z644])) := ⟨_, rfl⟩
                      rw [← hF647] at hP
                      have hI : s_I K cs D F646 := by rw [hF647]; exact s_cl8 hI h12 ⟨z633, z635, z637, z639, r577, z643, z644, rfl, h634, h636, h638, ⟨by omega, by omega⟩, ⟨by omega, by omega⟩, trivial⟩
                      have hfr : ∀ b, K b ∉ [4, 8, 21, 24, 43] → F646 b = F b := by rw [hF647]; exact s_fr hfr h12 (by decide)
                      have o648 : F646 a0 = .inr (3, [.ref z608, .ref z610, .ref z612, .ref z614, .ref tt, .int z617, .ref qq, .int z620, .int z621, .int z623, .int z625, .int z626, .int z627, .int z629, .int z630]) := by rw [hF647]; exact th_ne (th_kd ha0 h12 (by decide)) o632
                      have hq := s_QGq hIq h619 o645 hF647 rfl rfl hq
                      have hLn : ∀ vs, F qq = .inr (2, vs) → ∃ vs2, F646 qq = .inr (2, vs2) ∧ vs2[3]? = vs[3]? := fun vs q => by obtain ⟨w, h1, h2⟩ := hLn vs q; rw [o645] at h1; cases h1; exact ⟨_, by rw [hF647]; exact th_up, h2⟩
                      have o649 : F646 qq = .inr (2, [.ref z633, .ref z635, .ref z637, .int z639, .int r577, .int z643, .int z644]) := by rw [hF647]; exact th_up
                      refine lv_goto (tgt := 365) hx hb dX3_readPiece_129 (by decide) ?_
                      exact K365 _ _ _ ⟨F646, _, rfl, lv_sub hl [0] rfl, hI, hP, hS, hfr, (fun vs z q q2 q3 => hq), hLn, ⟨z608, z610, z612, z614, z617, z620, z621, z623, z625, z626, z627, z629, z630, o648, h609, h611, h613, h615, h616, ⟨by omega, by omega⟩, h619, ⟨by omega, by omega⟩, ⟨by omega, by omega⟩, ⟨by omega, by omega⟩, (fun q => by first | omega | exact absurd q (by decide)), trivial⟩⟩
                    · have c576 := mt (ax_eq (n := 87) (by decide)).mpr c576
                      by_cases c650 : x1 = 88
                      · refine ax_eqi c650 ?_
                        refine lv_tableIn (off := 237) (tgt := 238) hx hb dX3_readPiece_1 (by decide) (by decide) (by decide) (by decide) ?_
                        have c650 := (ax_eq (n := 88) (by decide)).mp c650
                        refine lv_aload_n hx hb dX3_readPiece_238 rfl (lv_at hl 0 rfl) ?_
                        have hq : s_QG cs F qq 0 := hQ.resolve_right (fun q => by omega)
                        refine th_get (D := (dC, dI)) (ci := 3) (v := .ref qq) (C := RX3) (T := TX3) (N := 15) hx hb hts inX3 hown hK hP (hLK _ ha0 (by decide)) o25 rfl 6 (by decide) (hts _ T_211) (fun _ h9 => h9) rfl dX3_readPiece_239 ?_
                        obtain ⟨z651, z653, z655, z657, z659, z661, z662, o663, h652, h654, h656, h658, h660, -⟩ := s_op8 hI h12
                        have hIq := hI
                        refine va_callr (va_runV (As := []) (rest := []) ⟨hx, hb, hml, hown, hts⟩ (s_X2_latest l dC dI H.size hLK D F qq h12 hI) (cwV 0 hts (ax_gV T_796 T_798 T_799 T_168 T_797) rfl rfl rfl (by decide +kernel) ⟨Nat.le_of_ble_eq_true rfl, Nat.le_of_ble_eq_true rfl⟩) ⟨fun a U g mk q => ⟨q.1, s_pc (U := U) rfl rfl q.2⟩, s_recv hK hP (hLK _ h12 (by decide)) (ci := 2) rfl o663, fun U hU hW => ⟨rfl, s_pw hU hW hP hK hD hN⟩⟩ rfl rfl hl.1 rfl (lv_room (Nat.le_of_ble_eq_true rfl)) dX3_readPiece_242 ⟨Nat.zero_le _, Nat.zero_le _⟩) hS (fun q _ h => h) (fun q h => h) (fun F665 r664 t H1 locs ht hvm hw hB hz1 hk1 hS => ?_)
                        obtain ⟨hk_r664, hxr_r664, hP, hK1⟩ := hB
                        rw [ht] at hP
                        generalize H1 = H at hP hS ⊢
                        clear hz1 hk1
                        obtain ⟨h666, h667, hI, hfr1⟩ := hw
                        have o668 : F665 a0 = .inr (3, [.ref z1, .ref z3, .ref z5, .ref z7, .ref tt, .int z10, .ref qq, .int z13, .int z14, .int z16, .int z18, .int z19, .int z20, .int z22, .int z23]) := (hfr1 _ (by rw [ha0]; decide)).trans o25
                        have o669 : F665 qq = .inr (2, [.ref z651, .ref z653, .ref z655, .int z657, .int z659, .int z661, .int z662]) := (hfr1 _ (by rw [h12]; decide)).trans o663
                        have hq := s_QGt hIq h12 (fun b hb9 => hfr1 b (by rcases hb9 with q | q | q <;> (rw [q]; decide))) hq
                        have hLn : ∀ vs, F qq = .inr (2, vs) → ∃ vs2, F665 qq = .inr (2, vs2) ∧ vs2[3]? = vs[3]? := fun vs q => by obtain ⟨w, h1, h2⟩ := hLn vs q; exact ⟨w, (hfr1 _ (by rw [h12]; decide)).trans h1, h2⟩
                        have hfr : ∀ b, K b ∉ [4, 8, 21, 24, 43] → F665 b = F b := fun b hb9 => (hfr1 b (fun q => hb9 (s_sub (by decide) q))).trans (hfr b hb9)
                        refine lv_iload_n hx hb dX3_readPiece_245 rfl (lv_at hl 1 rfl) ?_
                        refine lv_bipush (v := 88) hx hb dX3_readPiece_246 (by decide) ?_
                        refine lv_icmp_ne (tgt := 255) hx hb dX3_readPiece_248 (by decide) (fun c670 => ?_) (fun c670 => ?_)
                        · have c670 := mt (ax_eq (n := 88) (by decide)).mpr c670
                          exact absurd c670 (by omega)
                        · have c670 := (ax_eq (n := 88) (by decide)).mp c670
                          refine lv_iconst (v := 2) hx hb dX3_readPiece_251 (by decide) ?_
                          refine lv_goto (tgt := 256) hx hb dX3_readPiece_252 (by decide) ?_
                          refine lv_aload_n hx hb dX3_readPiece_256 rfl (lv_at hl 0 rfl) ?_
                          refine th_get (D := (dC, dI)) (ci := 3) (v := .int z13) (C := RX3) (T := TX3) (N := 15) hx hb hts inX3 hown hK hP (hLK _ ha0 (by decide)) o668 rfl 7 (by decide) (hts _ T_204) (fun _ h9 => h9) rfl dX3_readPiece_257 ?_
                          refine lv_iconst (v := 2) hx hb dX3_readPiece_260 (by decide) ?_
                          refine lv_icmp_ne (tgt := 275) hx hb dX3_readPiece_261 (by decide) (fun c671 => ?_) (fun c671 => ?_)
                          · have c671 := mt (ax_eq (n := 2) (by decide)).mpr c671
                            refine lv_bipush (v := 24) hx hb dX3_readPiece_275 (by decide) ?_
                            refine lv_aload_n hx hb dX3_readPiece_277 rfl (lv_at hl 0 rfl) ?_
                            refine lv_bipush (v := 25) hx hb dX3_readPiece_278 (by decide) ?_
                            refine lv_bipush (v := 28) hx hb dX3_readPiece_280 (by decide) ?_
                            have hIq := hI
                            refine va_calli (va_runV (As := [.int 25, .int 28]) (rest := [.int 24, .int 2, .ref r664]) ⟨hx, hb, hml, hown, hts⟩ (s_X3_readOwn l dC dI H.size hLK D adK adV tf F665 a0 25 28 ha0 (by decide) (by decide) hI tt qq ⟨z1, z3, z5, z7, z10, z13, z14, z16, z18, z19, z20, z22, z23, o668, h2, h4, h6, h8, h9, ⟨by omega, by omega⟩, h12, ⟨by omega, by omega⟩, ⟨by omega, by omega⟩, ⟨by omega, by omega⟩, (fun q => by first | omega | exact absurd q (by decide)), trivial⟩) (cwV 2 hts (ax_gV T_792 T_794 T_795 T_163 T_793) rfl rfl rfl (by decide +kernel) ⟨Nat.le_of_ble_eq_true rfl, Nat.le_of_ble_eq_true rfl⟩) ⟨fun a U g mk q => ⟨q.1, s_pc (U := U) rfl rfl q.2.1, s_pcZ (U := U) rfl rfl q.2.2⟩, s_recv hK hP (hLK _ ha0 (by decide)) (ci := 3) rfl o668, fun U hU hW => ⟨rfl, s_pw hU hW hP hK hD hN, s_pwZ hU hW hS hZ⟩⟩ rfl rfl hl.1 rfl (lv_room (Nat.le_of_ble_eq_true rfl)) dX3_readPiece_282 ⟨Nat.zero_le _, Nat.zero_le _⟩) hS (fun q _ h => h) (fun q h => h) (fun r672 F673 t H1 locs ht hvm hw hB hz1 hk1 hS => ?_)
                            obtain ⟨hP, hK1⟩ := hB
                            rw [ht] at hP
                            generalize H1 = H at hP hS ⊢
                            clear hz1 hk1
                            obtain ⟨h674, h675, hI, hfr1, h676⟩ := hw
                            have o677 : F673 qq = .inr (2, [.ref z651, .ref z653, .ref z655, .int z657, .int z659, .int z661, .int z662]) := (hfr1 _ (by rw [h12]; decide)).trans o669
                            have hq := s_QGt hIq h12 (fun b hb9 => hfr1 b (by rcases hb9 with q | q | q <;> (rw [q]; decide))) hq
                            have hLn : ∀ vs, F qq = .inr (2, vs) → ∃ vs2, F673 qq = .inr (2, vs2) ∧ vs2[3]? = vs[3]? := fun vs q => by obtain ⟨w, h1, h2⟩ := hLn vs q; exact ⟨w, (hfr1 _ (by rw [h12]; decide)).trans h1, h2⟩
                            have hfr : ∀ b, K b ∉ [4, 8, 21, 24, 43] → F673 b = F b := fun b hb9 => (hfr1 b (fun q => hb9 (s_sub (by decide) q))).trans (hfr b hb9)
                            obtain ⟨z679, z681, z683, z685, z687, z689, z691, z692, z693, z695, z697, z698, z699, z701, z702, o703, h680, h682, h684, h686, h688, h690, h694, h696, h700, -⟩ := s_op4 hI ha0
                            obtain ⟨h675, h678⟩ := h675
                            have h678 : ((r672.toInt = -1 ∧ ∀ vs z, F673 a0 = .inr (3, vs) → vs[13]? = some (.int z) → ¬ z.toInt = 0) ∨ (25 ≤ r672.toInt ∧ r672.toInt ≤ 28)) := h678
                            obtain ⟨z704, z706, z708, z710, z713, z716, z717, z719, z721, z722, z723, z725, z726, o728, h705, h707, h709, h711, h712, h714, h715, h718, h720, h724, h727, -⟩ := h676
                            refine lv_isub hx hb dX3_readPiece_285 ?_
                            refine lv_topi (fun v729 ev729 => ?_)
                            have qv729 : v729.toInt = 24 - r672.toInt := by rw [ev729]; exact th_sub (by decide) rfl ⟨by omega, by omega⟩
                            obtain ⟨f730, o731, h732⟩ := s_op43 hI hk_r664
                            refine th_iast hx hb hK hP hD hS (hLK _ hk_r664 (by decide)) 0 o731 rfl (ax_in (by decide)) dX3_readPiece_286 (fun H locs hP hS => ?_)
                            have hIq := hI
                            have hP : va_P (dC, dI) vwCl (va_pl L (va_up F673 r664 (.inl (cs 0, 7, .inl (upd f730 (2 : Int32).toNatClampNeg v729))))) H := hP
                            obtain ⟨F733, hF734⟩ : ∃ G : Nat → va_E, G = va_up F673 r664 (.inl (cs 0, 7, .inl (upd f730 (2 : Int32).toNatClampNeg v729))) := ⟨_, rfl⟩
                            rw [← hF734] at hP
                            have hI : s_I K cs D F733 := by rw [hF734]; exact s_cl43 hI hk_r664 ⟨_, rfl, th_updJ (P := fun y => y.toInt ≤ 3) h732 (fun q => absurd q (by decide))⟩
                            have hfr : ∀ b, K b ∉ [4, 8, 21, 24, 43] → F733 b = F b := by rw [hF734]; exact s_fr hfr hk_r664 (by decide)
                            have o735 : F733 qq = .inr (2, [.ref z651, .ref z653, .ref z655, .int z657, .int z659, .int z661, .int z662]) := by rw [hF734]; exact th_ne (th_kd h715 hk_r664 (by decide)) o677
                            have o736 : F733 a0 = .inr (3, [.ref z704, .ref z706, .ref z708, .ref z710, .ref tt, .int z713, .ref qq, .int z716, .int z717, .int z719, .int z721, .int z722, .int z723, .int z725, .int z726]) := by rw [hF734]; exact th_ne (th_kd ha0 hk_r664 (by decide)) o728
                            have hq := s_QGrow hIq h715 hk_r664 o731 hF734 (by decide) (by decide) hq
                            have hLn : ∀ vs, F qq = .inr (2, vs) → ∃ vs2, F733 qq = .inr (2, vs2) ∧ vs2[3]? = vs[3]? := fun vs q => by obtain ⟨w, h1, h2⟩ := hLn vs q; exact ⟨w, by rw [hF734]; exact th_ne (th_kd h715 hk_r664 (by decide)) h1, h2⟩
                            refine lv_goto (tgt := 365) hx hb dX3_readPiece_287 (by decide) ?_
                            exact K365 _ _ _ ⟨F733, _, rfl, lv_sub hl [0] rfl, hI, hP, hS, hfr, (fun vs z q q2 q3 => hq), hLn, ⟨z704, z706, z708, z710, z713, z716, z717, z719, z721, z722, z723, z725, z726, o736, h705, h707, h709, h711, h712, ⟨by omega, by omega⟩, h715, ⟨by omega, by omega⟩, ⟨by omega, by omega⟩, ⟨by omega, by omega⟩, (fun q => by first | omega | exact absurd q (by decide)), trivial⟩⟩
                          · have c671 := (ax_eq (n := 2) (by decide)).mp c671
                            refine lv_aload_n hx hb dX3_readPiece_264 rfl (lv_at hl 0 rfl) ?_
                            refine lv_iconst (v := 0) hx hb dX3_readPiece_265 (by decide) ?_
                            refine lv_sipush (v := 999) hx hb dX3_readPiece_266 (by decide) ?_
                            have hIq := hI
                            refine va_calli (va_runV (As := [.int 0, .int 999]) (rest := [.int 2, .ref r664]) ⟨hx, hb, hml, hown, hts⟩ (s_X3_readNumber l dC dI H.size hLK D adK adV tf F665 a0 0 999 ha0 (by decide) (by decide) hI tt qq ⟨z1, z3, z5, z7, z10, z13, z14, z16, z18, z19, z20, z22, z23, o668, h2, h4, h6, h8, h9, ⟨by omega, by omega⟩, h12, ⟨by omega, by omega⟩, ⟨by omega, by omega⟩, ⟨by omega, by omega⟩, (fun q => by first | omega | exact absurd q (by decide)), trivial⟩) (cwV 2 hts (ax_gV T_786 T_788 T_789 T_163 T_787) rfl rfl rfl (by decide +kernel) ⟨Nat.le_of_ble_eq_true rfl, Nat.le_of_ble_eq_true rfl⟩) ⟨fun a U g mk q => ⟨q.1, s_pc (U := U) rfl rfl q.2.1, s_pcZ (U := U) rfl rfl q.2.2⟩, s_recv hK hP (hLK _ ha0 (by decide)) (ci := 3) rfl o668, fun U hU hW => ⟨rfl, s_pw hU hW hP hK hD hN, s_pwZ hU hW hS hZ⟩⟩ rfl rfl hl.1 rfl (lv_room (Nat.le_of_ble_eq_true rfl)) dX3_readPiece_269 ⟨Nat.zero_le _, Nat.zero_le _⟩) hS (fun q _ h => h) (fun q h => h) (fun r737 F738 t H1 locs ht hvm hw hB hz1 hk1 hS => ?_)
                            obtain ⟨hP, hK1⟩ := hB
                            rw [ht] at hP
                            generalize H1 = H at hP hS ⊢
                            clear hz1 hk1
                            obtain ⟨h739, h740, hI, hfr1, h741⟩ := hw
                            have o742 : F738 qq = .inr (2, [.ref z651, .ref z653, .ref z655, .int z657, .int z659, .int z661, .int z662]) := (hfr1 _ (by rw [h12]; decide)).trans o669
                            have hq := s_QGt hIq h12 (fun b hb9 => hfr1 b (by rcases hb9 with q | q | q <;> (rw [q]; decide))) hq
                            have hLn : ∀ vs, F qq = .inr (2, vs) → ∃ vs2, F738 qq = .inr (2, vs2) ∧ vs2[3]? = vs[3]? := fun vs q => by obtain ⟨w, h1, h2⟩ := hLn vs q; exact ⟨w, (hfr1 _ (by rw [h12]; decide)).trans h1, h2⟩
                            have hfr : ∀ b, K b ∉ [4, 8, 21, 24, 43] → F738 b = F b := fun b hb9 => (hfr1 b (fun q => hb9 (s_sub (by decide) q))).trans (hfr b hb9)
                            obtain ⟨z744, z746, z748, z750, z752, z754, z756, z757, z758, z760, z762, z763, z764, z766, z767, o768, h745, h747, h749, h751, h753, h755, h759, h761, h765, -⟩ := s_op4 hI ha0
                            obtain ⟨h740, h743⟩ := h740
                            have h743 : (r737.toInt = -1 ∨ (0 ≤ r737.toInt ∧ r737.toInt ≤ 999)) := h743
                            obtain ⟨z769, z771, z773, z775, z778, z781, z782, z784, z786, z787, z788, z790, z791, o793, h770, h772, h774, h776, h777, h779, h780, h783, h785, h789, h792, -⟩ := h741
                            refine lv_goto (tgt := 286) hx hb dX3_readPiece_272 (by decide) ?_
                            obtain ⟨f794, o795, h796⟩ := s_op43 hI hk_r664
                            refine th_iast hx hb hK hP hD hS (hLK _ hk_r664 (by decide)) 0 o795 rfl (ax_in (by decide)) dX3_readPiece_286 (fun H locs hP hS => ?_)
                            have hIq := hI
                            have hP : va_P (dC, dI) vwCl (va_pl L (va_up F738 r664 (.inl (cs 0, 7, .inl (upd f794 (2 : Int32).toNatClampNeg r737))))) H := hP
                            obtain ⟨F797, hF798⟩ : ∃ G : Nat → va_E, G = va_up F738 r664 (.inl (cs 0, 7, .inl (upd f794 (2 : Int32).toNatClampNeg r737))) := ⟨_, rfl⟩
                            rw [← hF798] at hP
                            have hI : s_I K cs D F797 := by rw [hF798]; exact s_cl43 hI hk_r664 ⟨_, rfl, th_updJ (P := fun y => y.toInt ≤ 3) h796 (fun q => absurd q (by decide))⟩
                            have hfr : ∀ b, K b ∉ [4, 8, 21, 24, 43] → F797 b = F b := by rw [hF798]; exact s_fr hfr hk_r664 (by decide)
                            have o799 : F797 qq = .inr (2, [.ref z651, .ref z653, .ref z655, .int z657, .int z659, .int z661, .int z662]) := by rw [hF798]; exact th_ne (th_kd h780 hk_r664 (by decide)) o742
                            have o800 : F797 a0 = .inr (3, [.ref z769, .ref z771, .ref z773, .ref z775, .ref tt, .int z778, .ref qq, .int z781, .int z782, .int z784, .int z786, .int z787, .int z788, .int z790, .int z791]) := by rw [hF798]; exact th_ne (th_kd ha0 hk_r664 (by decide)) o793
                            have hq := s_QGrow hIq h780 hk_r664 o795 hF798 (by decide) (by decide) hq
                            have hLn : ∀ vs, F qq = .inr (2, vs) → ∃ vs2, F797 qq = .inr (2, vs2) ∧ vs2[3]? = vs[3]? := fun vs q => by obtain ⟨w, h1, h2⟩ := hLn vs q; exact ⟨w, by rw [hF798]; exact th_ne (th_kd h780 hk_r664 (by decide)) h1, h2⟩
                            refine lv_goto (tgt := 365) hx hb dX3_readPiece_287 (by decide) ?_
                            exact K365 _ _ _ ⟨F797, _, rfl, lv_sub hl [0] rfl, hI, hP, hS, hfr, (fun vs z q q2 q3 => hq), hLn, ⟨z769, z771, z773, z775, z778, z781, z782, z784, z786, z787, z788, z790, z791, o800, h770, h772, h774, h776, h777, ⟨by omega, by omega⟩, h780, ⟨by omega, by omega⟩, ⟨by omega, by omega⟩, ⟨by omega, by omega⟩, (fun q => by first | omega | exact absurd q (by decide)), trivial⟩⟩
                      · have c650 := mt (ax_eq (n := 88) (by decide)).mpr c650
                        by_cases c801 : x1 = 89
                        · refine ax_eqi c801 ?_
                          refine lv_tableIn (off := 237) (tgt := 238) hx hb dX3_readPiece_1 (by decide) (by decide) (by decide) (by decide) ?_
                          have c801 := (ax_eq (n := 89) (by decide)).mp c801
                          refine lv_aload_n hx hb dX3_readPiece_238 rfl (lv_at hl 0 rfl) ?_
                          have hq : s_QG cs F qq 0 := hQ.resolve_right (fun q => by omega)
                          refine th_get (D := (dC, dI)) (ci := 3) (v := .ref qq) (C := RX3) (T := TX3) (N := 15) hx hb hts inX3 hown hK hP (hLK _ ha0 (by decide)) o25 rfl 6 (by decide) (hts _ T_211) (fun _ h9 => h9) rfl dX3_readPiece_239 ?_
                          obtain ⟨z802, z804, z806, z808, z810, z812, z813, o814, h803, h805, h807, h809, h811, -⟩ := s_op8 hI h12
                          have hIq := hI
                          refine va_callr (va_runV (As := []) (rest := []) ⟨hx, hb, hml, hown, hts⟩ (s_X2_latest l dC dI H.size hLK D F qq h12 hI) (cwV 0 hts (ax_gV T_796 T_798 T_799 T_168 T_797) rfl rfl rfl (by decide +kernel) ⟨Nat.le_of_ble_eq_true rfl, Nat.le_of_ble_eq_true rfl⟩) ⟨fun a U g mk q => ⟨q.1, s_pc (U := U) rfl rfl q.2⟩, s_recv hK hP (hLK _ h12 (by decide)) (ci := 2) rfl o814, fun U hU hW => ⟨rfl, s_pw hU hW hP hK hD hN⟩⟩ rfl rfl hl.1 rfl (lv_room (Nat.le_of_ble_eq_true rfl)) dX3_readPiece_242 ⟨Nat.zero_le _, Nat.zero_le _⟩) hS (fun q _ h => h) (fun q h => h) (fun F816 r815 t H1 locs ht hvm hw hB hz1 hk1 hS => ?_)
                          obtain ⟨hk_r815, hxr_r815, hP, hK1⟩ := hB
                          rw [ht] at hP
                          generalize H1 = H at hP hS ⊢
                          clear hz1 hk1
                          obtain ⟨h817, h818, hI, hfr1⟩ := hw
                          have o819 : F816 a0 = .inr (3, [.ref z1, .ref z3, .ref z5, .ref z7, .ref tt, .int z10, .ref qq, .int z13, .int z14, .int z16, .int z18, .int z19, .int z20, .int z22, .int z23]) := (hfr1 _ (by rw [ha0]; decide)).trans o25
                          have o820 : F816 qq = .inr (2, [.ref z802, .ref z804, .ref z806, .int z808, .int z810, .int z812, .int z813]) := (hfr1 _ (by rw [h12]; decide)).trans o814
                          have hq := s_QGt hIq h12 (fun b hb9 => hfr1 b (by rcases hb9 with q | q | q <;> (rw [q]; decide))) hq
                          have hLn : ∀ vs, F qq = .inr (2, vs) → ∃ vs2, F816 qq = .inr (2, vs2) ∧ vs2[3]? = vs[3]? := fun vs q => by obtain ⟨w, h1, h2⟩ := hLn vs q; exact ⟨w, (hfr1 _ (by rw [h12]; decide)).trans h1, h2⟩
                          have hfr : ∀ b, K b ∉ [4, 8, 21, 24, 43] → F816 b = F b := fun b hb9 => (hfr1 b (fun q => hb9 (s_sub (by decide) q))).trans (hfr b hb9)
                          refine lv_iload_n hx hb dX3_readPiece_245 rfl (lv_at hl 1 rfl) ?_
                          refine lv_bipush (v := 88) hx hb dX3_readPiece_246 (by decide) ?_
                          refine lv_icmp_ne (tgt := 255) hx hb dX3_readPiece_248 (by decide) (fun c821 => ?_) (fun c821 => ?_)
                          · have c821 := mt (ax_eq (n := 88) (by decide)).mpr c821
                            refine lv_iconst (v := 3) hx hb dX3_readPiece_255 (by decide) ?_
                            refine lv_aload_n hx hb dX3_readPiece_256 rfl (lv_at hl 0 rfl) ?_
                            refine th_get (D := (dC, dI)) (ci := 3) (v := .int z13) (C := RX3) (T := TX3) (N := 15) hx hb hts inX3 hown hK hP (hLK _ ha0 (by decide)) o819 rfl 7 (by decide) (hts _ T_204) (fun _ h9 => h9) rfl dX3_readPiece_257 ?_
                            refine lv_iconst (v := 2) hx hb dX3_readPiece_260 (by decide) ?_
                            refine lv_icmp_ne (tgt := 275) hx hb dX3_readPiece_261 (by decide) (fun c822 => ?_) (fun c822 => ?_)
                            · have c822 := mt (ax_eq (n := 2) (by decide)).mpr c822
                              refine lv_bipush (v := 24) hx hb dX3_readPiece_275 (by decide) ?_
                              refine lv_aload_n hx hb dX3_readPiece_277 rfl (lv_at hl 0 rfl) ?_
                              refine lv_bipush (v := 25) hx hb dX3_readPiece_278 (by decide) ?_
                              refine lv_bipush (v := 28) hx hb dX3_readPiece_280 (by decide) ?_
                              have hIq := hI
                              refine va_calli (va_runV (As := [.int 25, .int 28]) (rest := [.int 24, .int 3, .ref r815]) ⟨hx, hb, hml, hown, hts⟩ (s_X3_readOwn l dC dI H.size hLK D adK adV tf F816 a0 25 28 ha0 (by decide) (by decide) hI tt qq ⟨z1, z3, z5, z7, z10, z13, z14, z16, z18, z19, z20, z22, z23, o819, h2, h4, h6, h8, h9, ⟨by omega, by omega⟩, h12, ⟨by omega, by omega⟩, ⟨by omega, by omega⟩, ⟨by omega, by omega⟩, (fun q => by first | omega | exact absurd q (by decide)), trivial⟩) (cwV 2 hts (ax_gV T_792 T_794 T_795 T_163 T_793) rfl rfl rfl (by decide +kernel) ⟨Nat.le_of_ble_eq_true rfl, Nat.le_of_ble_eq_true rfl⟩) ⟨fun a U g mk q => ⟨q.1, s_pc (U := U) rfl rfl q.2.1, s_pcZ (U := U) rfl rfl q.2.2⟩, s_recv hK hP (hLK _ ha0 (by decide)) (ci := 3) rfl o819, fun U hU hW => ⟨rfl, s_pw hU hW hP hK hD hN, s_pwZ hU hW hS hZ⟩⟩ rfl rfl hl.1 rfl (lv_room (Nat.le_of_ble_eq_true rfl)) dX3_readPiece_282 ⟨Nat.zero_le _, Nat.zero_le _⟩) hS (fun q _ h => h) (fun q h => h) (fun r823 F824 t H1 locs ht hvm hw hB hz1 hk1 hS => ?_)
                              obtain ⟨hP, hK1⟩ := hB
                              rw [ht] at hP
                              generalize H1 = H at hP hS ⊢
                              clear hz1 hk1
                              obtain ⟨h825, h826, hI, hfr1, h827⟩ := hw
                              have o828 : F824 qq = .inr (2, [.ref z802, .ref z804, .ref z806, .int z808, .int z810, .int z812, .int z813]) := (hfr1 _ (by rw [h12]; decide)).trans o820
                              have hq := s_QGt hIq h12 (fun b hb9 => hfr1 b (by rcases hb9 with q | q | q <;> (rw [q]; decide))) hq
                              have hLn : ∀ vs, F qq = .inr (2, vs) → ∃ vs2, F824 qq = .inr (2, vs2) ∧ vs2[3]? = vs[3]? := fun vs q => by obtain ⟨w, h1, h2⟩ := hLn vs q; exact ⟨w, (hfr1 _ (by rw [h12]; decide)).trans h1, h2⟩
                              have hfr : ∀ b, K b ∉ [4, 8, 21, 24, 43] → F824 b = F b := fun b hb9 => (hfr1 b (fun q => hb9 (s_sub (by decide) q))).trans (hfr b hb9)
                              obtain ⟨z830, z832, z834, z836, z838, z840, z842, z843, z844, z846, z848, z849, z850, z852, z853, o854, h831, h833, h835, h837, h839, h841, h845, h847, h851, -⟩ := s_op4 hI ha0
                              obtain ⟨h826, h829⟩ := h826
                              have h829 : ((r823.toInt = -1 ∧ ∀ vs z, F824 a0 = .inr (3, vs) → vs[13]? = some (.int z) → ¬ z.toInt = 0) ∨ (25 ≤ r823.toInt ∧ r823.toInt ≤ 28)) := h829
                              obtain ⟨z855, z857, z859, z861, z864, z867, z868, z870, z872, z873, z874, z876, z877, o879, h856, h858, h860, h862, h863, h865, h866, h869, h871, h875, h878, -⟩ := h827
                              refine lv_isub hx hb dX3_readPiece_285 ?_
                              refine lv_topi (fun v880 ev880 => ?_)
                              have qv880 : v880.toInt = 24 - r823.toInt := by rw [ev880]; exact th_sub (by decide) rfl ⟨by omega, by omega⟩
                              obtain ⟨f881, o882, h883⟩ := s_op43 hI hk_r815
                              refine th_iast hx hb hK hP hD hS (hLK _ hk_r815 (by decide)) 0 o882 rfl (ax_in (by decide)) dX3_readPiece_286 (fun H locs hP hS => ?_)
                              have hIq := hI
                              have hP : va_P (dC, dI) vwCl (va_pl L (va_up F824 r815 (.inl (cs 0, 7, .inl (upd f881 (3 : Int32).toNatClampNeg v880))))) H := hP
                              obtain ⟨F884, hF885⟩ : ∃ G : Nat → va_E, G = va_up F824 r815 (.inl (cs 0, 7, .inl (upd f881 (3 : Int32).toNatClampNeg v880))) := ⟨_, rfl⟩
                              rw [← hF885] at hP
                              have hI : s_I K cs D F884 := by rw [hF885]; exact s_cl43 hI hk_r815 ⟨_, rfl, th_updJ (P := fun y => y.toInt ≤ 3) h883 (fun q => absurd q (by decide))⟩
                              have hfr : ∀ b, K b ∉ [4, 8, 21, 24, 43] → F884 b = F b := by rw [hF885]; exact s_fr hfr hk_r815 (by decide)
                              have o886 : F884 qq = .inr (2, [.ref z802, .ref z804, .ref z806, .int z808, .int z810, .int z812, .int z813]) := by rw [hF885]; exact th_ne (th_kd h866 hk_r815 (by decide)) o828
                              have o887 : F884 a0 = .inr (3, [.ref z855, .ref z857, .ref z859, .ref z861, .ref tt, .int z864, .ref qq, .int z867, .int z868, .int z870, .int z872, .int z873, .int z874, .int z876, .int z877]) := by rw [hF885]; exact th_ne (th_kd ha0 hk_r815 (by decide)) o879
                              have hq := s_QGrow hIq h866 hk_r815 o882 hF885 (by decide) (by decide) hq
                              have hLn : ∀ vs, F qq = .inr (2, vs) → ∃ vs2, F884 qq = .inr (2, vs2) ∧ vs2[3]? = vs[3]? := fun vs q => by obtain ⟨w, h1, h2⟩ := hLn vs q; exact ⟨w, by rw [hF885]; exact th_ne (th_kd h866 hk_r815 (by decide)) h1, h2⟩
                              refine lv_goto (tgt := 365) hx hb dX3_readPiece_287 (by decide) ?_
                              exact K365 _ _ _ ⟨F884, _, rfl, lv_sub hl [0] rfl, hI, hP, hS, hfr, (fun vs z q q2 q3 => hq), hLn, ⟨z855, z857, z859, z861, z864, z867, z868, z870, z872, z873, z874, z876, z877, o887, h856, h858, h860, h862, h863, ⟨by omega, by omega⟩, h866, ⟨by omega, by omega⟩, ⟨by omega, by omega⟩, ⟨by omega, by omega⟩, (fun q => by first | omega | exact absurd q (by decide)), trivial⟩⟩
                            · have c822 := (ax_eq (n := 2) (by decide)).mp c822
                              refine lv_aload_n hx hb dX3_readPiece_264 rfl (lv_at hl 0 rfl) ?_
                              refine lv_iconst (v := 0) hx hb dX3_readPiece_265 (by decide) ?_
                              refine lv_sipush (v := 999) hx hb dX3_readPiece_266 (by decide) ?_
                              have hIq := hI
                              refine va_calli (va_runV (As := [.int 0, .int 999]) (rest := [.int 3, .ref r815]) ⟨hx, hb, hml, hown, hts⟩ (s_X3_readNumber l dC dI H.size hLK D adK adV tf F816 a0 0 999 ha0 (by decide) (by decide) hI tt qq ⟨z1, z3, z5, z7, z10, z13, z14, z16, z18, z19, z20, z22, z23, o819, h2, h4, h6, h8, h9, ⟨by omega, by omega⟩, h12, ⟨by omega, by omega⟩, ⟨by omega, by omega⟩, ⟨by omega, by omega⟩, (fun q => by first | omega | exact absurd q (by decide)), trivial⟩) (cwV 2 hts (ax_gV T_786 T_788 T_789 T_163 T_787) rfl rfl rfl (by decide +kernel) ⟨Nat.le_of_ble_eq_true rfl, Nat.le_of_ble_eq_true rfl⟩) ⟨fun a U g mk q => ⟨q.1, s_pc (U := U) rfl rfl q.2.1, s_pcZ (U := U) rfl rfl q.2.2⟩, s_recv hK hP (hLK _ ha0 (by decide)) (ci := 3) rfl o819, fun U hU hW => ⟨rfl, s_pw hU hW hP hK hD hN, s_pwZ hU hW hS hZ⟩⟩ rfl rfl hl.1 rfl (lv_room (Nat.le_of_ble_eq_true rfl)) dX3_readPiece_269 ⟨Nat.zero_le _, Nat.zero_le _⟩) hS (fun q _ h => h) (fun q h => h) (fun r888 F889 t H1 locs ht hvm hw hB hz1 hk1 hS => ?_)
                              obtain ⟨hP, hK1⟩ := hB
                              rw [ht] at hP
                              generalize H1 = H at hP hS ⊢
                              clear hz1 hk1
                              obtain ⟨h890, h891, hI, hfr1, h892⟩ := hw
                              have o893 : F889 qq = .inr (2, [.ref z802, .ref z804, .ref z806, .int z808, .int z810, .int z812, .int z813]) := (hfr1 _ (by rw [h12]; decide)).trans o820
                              have hq := s_QGt hIq h12 (fun b hb9 => hfr1 b (by rcases hb9 with q | q | q <;> (rw [q]; decide))) hq
                              have hLn : ∀ vs, F qq = .inr (2, vs) → ∃ vs2, F889 qq = .inr (2, vs2) ∧ vs2[3]? = vs[3]? := fun vs q => by obtain ⟨w, h1, h2⟩ := hLn vs q; exact ⟨w, (hfr1 _ (by rw [h12]; decide)).trans h1, h2⟩
                              have hfr : ∀ b, K b ∉ [4, 8, 21, 24, 43] → F889 b = F b := fun b hb9 => (hfr1 b (fun q => hb9 (s_sub (by decide) q))).trans (hfr b hb9)
                              obtain ⟨z895, z897, z899, z901, z903, z905, z907, z908, z909, z911, z913, z914, z915, z917, z918, o919, h896, h898, h900, h902, h904, h906, h910, h912, h916, -⟩ := s_op4 hI ha0
                              obtain ⟨h891, h894⟩ := h891
                              have h894 : (r888.toInt = -1 ∨ (0 ≤ r888.toInt ∧ r888.toInt ≤ 999)) := h894
                              obtain ⟨z920, z922, z924, z926, z929, z932, z933, z935, z937, z938, z939, z941, z942, o944, h921, h923, h925, h927, h928, h930, h931, h934, h936, h940, h943, -⟩ := h892
                              refine lv_goto (tgt := 286) hx hb dX3_readPiece_272 (by decide) ?_
                              obtain ⟨f945, o946, h947⟩ := s_op43 hI hk_r815
                              refine th_iast hx hb hK hP hD hS (hLK _ hk_r815 (by decide)) 0 o946 rfl (ax_in (by decide)) dX3_readPiece_286 (fun H locs hP hS => ?_)
                              have hIq := hI
                              have hP : va_P (dC, dI) vwCl (va_pl L (va_up F889 r815 (.inl (cs 0, 7, .inl (upd f945 (3 : Int32).toNatClampNeg r888))))) H := hP
                              obtain ⟨F948, hF949⟩ : ∃ G : Nat → va_E, G = va_up F889 r815 (.inl (cs 0, 7, .inl (upd f945 (3 : Int32).toNatClampNeg r888))) := ⟨_, rfl⟩
                              rw [← hF949] at hP
                              have hI : s_I K cs D F948 := by rw [hF949]; exact s_cl43 hI hk_r815 ⟨_, rfl, th_updJ (P := fun y => y.toInt ≤ 3) h947 (fun q => absurd q (by decide))⟩
                              have hfr : ∀ b, K b ∉ [4, 8, 21, 24, 43] → F948 b = F b := by rw [hF949]; exact s_fr hfr hk_r815 (by decide)
                              have o950 : F948 qq = .inr (2, [.ref z802, .ref z804, .ref z806, .int z808, .int z810, .int z812, .int z813]) := by rw [hF949]; exact th_ne (th_kd h931 hk_r815 (by decide)) o893
                              have o951 : F948 a0 = .inr (3, [.ref z920, .ref z922, .ref z924, .ref z926, .ref tt, .int z929, .ref qq, .int z932, .int z933, .int z935, .int z937, .int z938, .int z939, .int z941, .int z942]) := by rw [hF949]; exact th_ne (th_kd ha0 hk_r815 (by decide)) o944
                              have hq := s_QGrow hIq h931 hk_r815 o946 hF949 (by decide) (by decide) hq
                              have hLn : ∀ vs, F qq = .inr (2, vs) → ∃ vs2, F948 qq = .inr (2, vs2) ∧ vs2[3]? = vs[3]? := fun vs q => by obtain ⟨w, h1, h2⟩ := hLn vs q; exact ⟨w, by rw [hF949]; exact th_ne (th_kd h931 hk_r815 (by decide)) h1, h2⟩
                              refine lv_goto (tgt := 365) hx hb dX3_readPiece_287 (by decide) ?_
                              exact K365 _ _ _ ⟨F948, _, rfl, lv_sub hl [0] rfl, hI, hP, hS, hfr, (fun vs z q q2 q3 => hq), hLn, ⟨z920, z922, z924, z926, z929, z932, z933, z935, z937, z938, z939, z941, z942, o951, h921, h923, h925, h927, h928, ⟨by omega, by omega⟩, h931, ⟨by omega, by omega⟩, ⟨by omega, by omega⟩, ⟨by omega, by omega⟩, (fun q => by first | omega | exact absurd q (by decide)), trivial⟩⟩
                          · have c821 := (ax_eq (n := 88) (by decide)).mp c821
                            exact absurd c821 (by omega)
                        · have c801 := mt (ax_eq (n := 89) (by decide)).mpr c801
                          by_cases c952 : x1 = 66
                          · refine ax_eqi c952 ?_
                            refine lv_tableIn (off := 358) (tgt := 359) hx hb dX3_readPiece_1 (by decide) (by decide) (by decide) (by decide) ?_
                            have c952 := (ax_eq (n := 66) (by decide)).mp c952
                            refine lv_aload_n hx hb dX3_readPiece_359 rfl (lv_at hl 0 rfl) ?_
                            have hq : s_QG cs F qq 0 := hQ.resolve_right (fun q => by omega)
                            refine lv_iload_n hx hb dX3_readPiece_360 rfl (lv_at hl 1 rfl) ?_
                            have hIq := hI
                            refine va_calli (va_runV (As := [.int x1]) (rest := []) ⟨hx, hb, hml, hown, hts⟩ (s_X3_readSign l dC dI H.size hLK D adK adV tf F a0 x1 ha0 hI tt qq ⟨z1, z3, z5, z7, z10, z13, z14, z16, z18, z19, z20, z22, z23, o25, h2, h4, h6, h8, h9, ⟨by omega, by omega⟩, h12, ⟨by omega, by omega⟩, ⟨by omega, by omega⟩, ⟨by omega, by omega⟩, (fun q => by first | omega | exact absurd q (by decide)), trivial⟩) (cwV 1 hts (ax_gV T_761 T_763 T_764 T_163 T_762) rfl rfl rfl (by decide +kernel) ⟨Nat.le_of_ble_eq_true rfl, Nat.le_of_ble_eq_true rfl⟩) ⟨fun a U g mk q => ⟨q.1, s_pc (U := U) rfl rfl q.2.1, s_pcZ (U := U) rfl rfl q.2.2⟩, s_recv hK hP (hLK _ ha0 (by decide)) (ci := 3) rfl o25, fun U hU hW => ⟨rfl, s_pw hU hW hP hK hD hN, s_pwZ hU hW hS hZ⟩⟩ rfl rfl hl.1 rfl (lv_room (Nat.le_of_ble_eq_true rfl)) dX3_readPiece_361 ⟨Nat.zero_le _, Nat.zero_le _⟩) hS (fun q _ h => h) (fun q h => h) (fun r953 F954 t H1 locs ht hvm hw hB hz1 hk1 hS => ?_)
                            obtain ⟨hP, hK1⟩ := hB
                            rw [ht] at hP
                            generalize H1 = H at hP hS ⊢
                            clear hz1 hk1
                            obtain ⟨h955, h956, hI, hfr1, h957⟩ := hw
                            have hq := s_QGt hIq h12 (fun b hb9 => hfr1 b (by rcases hb9 with q | q | q <;> (rw [q]; decide))) hq
                            have hLn : ∀ vs, F qq = .inr (2, vs) → ∃ vs2, F954 qq = .inr (2, vs2) ∧ vs2[3]? = vs[3]? := fun vs q => by obtain ⟨w, h1, h2⟩ := hLn vs q; exact ⟨w, (hfr1 _ (by rw [h12]; decide)).trans h1, h2⟩
                            have hfr : ∀ b, K b ∉ [4, 8, 21, 24, 43] → F954 b = F b := fun b hb9 => (hfr1 b (fun q => hb9 (s_sub (by decide) q))).trans (hfr b hb9)
                            obtain ⟨z958, z960, z962, z964, z967, z970, z971, z973, z975, z976, z977, z979, z980, o982, h959, h961, h963, h965, h966, h968, h969, h972, h974, h978, h981, -⟩ := h957
                            exact W.zret (v := r953) (ty := .boolean) hx hb hr (th_nz ⟨by omega, by omega⟩) (fun t ht hW => ⟨⟨r953, F954, rfl, ⟨⟨by omega, by omega⟩, ⟨trivial, ⟨fun _ => hq, hLn⟩⟩, hI, hfr, ⟨z958, z960, z962, z964, z967, z970, z971, z973, z975, z976, z977, z979, z980, o982, h959, h961, h963, h965, h966, ⟨by omega, by omega⟩, h969, ⟨by omega, by omega⟩, ⟨by omega, by omega⟩, ⟨by omega, by omega⟩, (fun q => by first | omega | exact absurd q (by decide)), trivial⟩⟩, by rw [ht]; exact hP, va_K.moved hW.alike hK⟩, hS.F ht⟩) hS.2.2 dX3_readPiece_364
                          · have c952 := mt (ax_eq (n := 66) (by decide)).mpr c952
                            by_cases c983 : x1 = 67
                            · refine ax_eqi c983 ?_
                              refine lv_tableIn (off := 358) (tgt := 359) hx hb dX3_readPiece_1 (by decide) (by decide) (by decide) (by decide) ?_
                              have c983 := (ax_eq (n := 67) (by decide)).mp c983
                              refine lv_aload_n hx hb dX3_readPiece_359 rfl (lv_at hl 0 rfl) ?_
                              have hq : s_QG cs F qq 0 := hQ.resolve_right (fun q => by omega)
                              refine lv_iload_n hx hb dX3_readPiece_360 rfl (lv_at hl 1 rfl) ?_
                              have hIq := hI
                              refine va_calli (va_runV (As := [.int x1]) (rest := []) ⟨hx, hb, hml, hown, hts⟩ (s_X3_readSign l dC dI H.size hLK D adK adV tf F a0 x1 ha0 hI tt qq ⟨z1, z3, z5, z7, z10, z13, z14, z16, z18, z19, z20, z22, z23, o25, h2, h4, h6, h8, h9, ⟨by omega, by omega⟩, h12, ⟨by omega, by omega⟩, ⟨by omega, by omega⟩, ⟨by omega, by omega⟩, (fun q => by first | omega | exact absurd q (by decide)), trivial⟩) (cwV 1 hts (ax_gV T_761 T_763 T_764 T_163 T_762) rfl rfl rfl (by decide +kernel) ⟨Nat.le_of_ble_eq_true rfl, Nat.le_of_ble_eq_true rfl⟩) ⟨fun a U g mk q => ⟨q.1, s_pc (U := U) rfl rfl q.2.1, s_pcZ (U := U) rfl rfl q.2.2⟩, s_recv hK hP (hLK _ ha0 (by decide)) (ci := 3) rfl o25, fun U hU hW => ⟨rfl, s_pw hU hW hP hK hD hN, s_pwZ hU hW hS hZ⟩⟩ rfl rfl hl.1 rfl (lv_room (Nat.le_of_ble_eq_true rfl)) dX3_readPiece_361 ⟨Nat.zero_le _, Nat.zero_le _⟩) hS (fun q _ h => h) (fun q h => h) (fun r984 F985 t H1 locs ht hvm hw hB hz1 hk1 hS => ?_)
                              obtain ⟨hP, hK1⟩ := hB
                              rw [ht] at hP
                              generalize H1 = H at hP hS ⊢
                              clear hz1 hk1
                              obtain ⟨h986, h987, hI, hfr1, h988⟩ := hw
                              have hq := s_QGt hIq h12 (fun b hb9 => hfr1 b (by rcases hb9 with q | q | q <;> (rw [q]; decide))) hq
                              have hLn : ∀ vs, F qq = .inr (2, vs) → ∃ vs2, F985 qq = .inr (2, vs2) ∧ vs2[3]? = vs[3]? := fun vs q => by obtain ⟨w, h1, h2⟩ := hLn vs q; exact ⟨w, (hfr1 _ (by rw [h12]; decide)).trans h1, h2⟩
                              have hfr : ∀ b, K b ∉ [4, 8, 21, 24, 43] → F985 b = F b := fun b hb9 => (hfr1 b (fun q => hb9 (s_sub (by decide) q))).trans (hfr b hb9)
                              obtain ⟨z989, z991, z993, z995, z998, z1001, z1002, z1004, z1006, z1007, z1008, z1010, z1011, o1013, h990, h992, h994, h996, h997, h999, h1000, h1003, h1005, h1009, h1012, -⟩ := h988
                              exact W.zret (v := r984) (ty := .boolean) hx hb hr (th_nz ⟨by omega, by omega⟩) (fun t ht hW => ⟨⟨r984, F985, rfl, ⟨⟨by omega, by omega⟩, ⟨trivial, ⟨fun _ => hq, hLn⟩⟩, hI, hfr, ⟨z989, z991, z993, z995, z998, z1001, z1002, z1004, z1006, z1007, z1008, z1010, z1011, o1013, h990, h992, h994, h996, h997, ⟨by omega, by omega⟩, h1000, ⟨by omega, by omega⟩, ⟨by omega, by omega⟩, ⟨by omega, by omega⟩, (fun q => by first | omega | exact absurd q (by decide)), trivial⟩⟩, by rw [ht]; exact hP, va_K.moved hW.alike hK⟩, hS.F ht⟩) hS.2.2 dX3_readPiece_364
                            · have c983 := mt (ax_eq (n := 67) (by decide)).mpr c983
                              by_cases c1014 : x1 = 68
                              · refine ax_eqi c1014 ?_
                                refine lv_tableIn (off := 358) (tgt := 359) hx hb dX3_readPiece_1 (by decide) (by decide) (by decide) (by decide) ?_
                                have c1014 := (ax_eq (n := 68) (by decide)).mp c1014
                                refine lv_aload_n hx hb dX3_readPiece_359 rfl (lv_at hl 0 rfl) ?_
                                have hq : s_QG cs F qq 0 := hQ.resolve_right (fun q => by omega)
                                refine lv_iload_n hx hb dX3_readPiece_360 rfl (lv_at hl 1 rfl) ?_
                                have hIq := hI
                                refine va_calli (va_runV (As := [.int x1]) (rest := []) ⟨hx, hb, hml, hown, hts⟩ (s_X3_readSign l dC dI H.size hLK D adK adV tf F a0 x1 ha0 hI tt qq ⟨z1, z3, z5, z7, z10, z13, z14, z16, z18, z19, z20, z22, z23, o25, h2, h4, h6, h8, h9, ⟨by omega, by omega⟩, h12, ⟨by omega, by omega⟩, ⟨by omega, by omega⟩, ⟨by omega, by omega⟩, (fun q => by first | omega | exact absurd q (by decide)), trivial⟩) (cwV 1 hts (ax_gV T_761 T_763 T_764 T_163 T_762) rfl rfl rfl (by decide +kernel) ⟨Nat.le_of_ble_eq_true rfl, Nat.le_of_ble_eq_true rfl⟩) ⟨fun a U g mk q => ⟨q.1, s_pc (U := U) rfl rfl q.2.1, s_pcZ (U := U) rfl rfl q.2.2⟩, s_recv hK hP (hLK _ ha0 (by decide)) (ci := 3) rfl o25, fun U hU hW => ⟨rfl, s_pw hU hW hP hK hD hN, s_pwZ hU hW hS hZ⟩⟩ rfl rfl hl.1 rfl (lv_room (Nat.le_of_ble_eq_true rfl)) dX3_readPiece_361 ⟨Nat.zero_le _, Nat.zero_le _⟩) hS (fun q _ h => h) (fun q h => h) (fun r1015 F1016 t H1 locs ht hvm hw hB hz1 hk1 hS => ?_)
                                obtain ⟨hP, hK1⟩ := hB
                                rw [ht] at hP
                                generalize H1 = H at hP hS ⊢
                                clear hz1 hk1
                                obtain ⟨h1017, h1018, hI, hfr1, h1019⟩ := hw
                                have hq := s_QGt hIq h12 (fun b hb9 => hfr1 b (by rcases hb9 with q | q | q <;> (rw [q]; decide))) hq
                                have hLn : ∀ vs, F qq = .inr (2, vs) → ∃ vs2, F1016 qq = .inr (2, vs2) ∧ vs2[3]? = vs[3]? := fun vs q => by obtain ⟨w, h1, h2⟩ := hLn vs q; exact ⟨w, (hfr1 _ (by rw [h12]; decide)).trans h1, h2⟩
                                have hfr : ∀ b, K b ∉ [4, 8, 21, 24, 43] → F1016 b = F b := fun b hb9 => (hfr1 b (fun q => hb9 (s_sub (by decide) q))).trans (hfr b hb9)
                                obtain ⟨z1020, z1022, z1024, z1026, z1029, z1032, z1033, z1035, z1037, z1038, z1039, z1041, z1042, o1044, h1021, h1023, h1025, h1027, h1028, h1030, h1031, h1034, h1036, h1040, h1043, -⟩ := h1019
                                exact W.zret (v := r1015) (ty := .boolean) hx hb hr (th_nz ⟨by omega, by omega⟩) (fun t ht hW => ⟨⟨r1015, F1016, rfl, ⟨⟨by omega, by omega⟩, ⟨trivial, ⟨fun _ => hq, hLn⟩⟩, hI, hfr, ⟨z1020, z1022, z1024, z1026, z1029, z1032, z1033, z1035, z1037, z1038, z1039, z1041, z1042, o1044, h1021, h1023, h1025, h1027, h1028, ⟨by omega, by omega⟩, h1031, ⟨by omega, by omega⟩, ⟨by omega, by omega⟩, ⟨by omega, by omega⟩, (fun q => by first | omega | exact absurd q (by decide)), trivial⟩⟩, by rw [ht]; exact hP, va_K.moved hW.alike hK⟩, hS.F ht⟩) hS.2.2 dX3_readPiece_364
                              · have c1014 := mt (ax_eq (n := 68) (by decide)).mpr c1014
                                by_cases c1045 : x1 = 69
                                · refine ax_eqi c1045 ?_
                                  refine lv_tableIn (off := 358) (tgt := 359) hx hb dX3_readPiece_1 (by decide) (by decide) (by decide) (by decide) ?_
                                  have c1045 := (ax_eq (n := 69) (by decide)).mp c1045
                                  refine lv_aload_n hx hb dX3_readPiece_359 rfl (lv_at hl 0 rfl) ?_
                                  have hq : s_QG cs F qq 0 := hQ.resolve_right (fun q => by omega)
                                  refine lv_iload_n hx hb dX3_readPiece_360 rfl (lv_at hl 1 rfl) ?_
                                  have hIq := hI
                                  refine va_calli (va_runV (As := [.int x1]) (rest := []) ⟨hx, hb, hml, hown, hts⟩ (s_X3_readSign l dC dI H.size hLK D adK adV tf F a0 x1 ha0 hI tt qq ⟨z1, z3, z5, z7, z10, z13, z14, z16, z18, z19, z20, z22, z23, o25, h2, h4, h6, h8, h9, ⟨by omega, by omega⟩, h12, ⟨by omega, by omega⟩, ⟨by omega, by omega⟩, ⟨by omega, by omega⟩, (fun q => by first | omega | exact absurd q (by decide)), trivial⟩) (cwV 1 hts (ax_gV T_761 T_763 T_764 T_163 T_762) rfl rfl rfl (by decide +kernel) ⟨Nat.le_of_ble_eq_true rfl, Nat.le_of_ble_eq_true rfl⟩) ⟨fun a U g mk q => ⟨q.1, s_pc (U := U) rfl rfl q.2.1, s_pcZ (U := U) rfl rfl q.2.2⟩, s_recv hK hP (hLK _ ha0 (by decide)) (ci := 3) rfl o25, fun U hU hW => ⟨rfl, s_pw hU hW hP hK hD hN, s_pwZ hU hW hS hZ⟩⟩ rfl rfl hl.1 rfl (lv_room (Nat.le_of_ble_eq_true rfl)) dX3_readPiece_361 ⟨Nat.zero_le _, Nat.zero_le _⟩) hS (fun q _ h => h) (fun q h => h) (fun r1046 F1047 t H1 locs ht hvm hw hB hz1 hk1 hS => ?_)
                                  obtain ⟨hP, hK1⟩ := hB
                                  rw [ht] at hP
                                  generalize H1 = H at hP hS ⊢
                                  clear hz1 hk1
                                  obtain ⟨h1048, h1049, hI, hfr1, h1050⟩ := hw
                                  have hq := s_QGt hIq h12 (fun b hb9 => hfr1 b (by rcases hb9 with q | q | q <;> (rw [q]; decide))) hq
                                  have hLn : ∀ vs, F qq = .inr (2, vs) → ∃ vs2, F1047 qq = .inr (2, vs2) ∧ vs2[3]? = vs[3]? := fun vs q => by obtain ⟨w, h1, h2⟩ := hLn vs q; exact ⟨w, (hfr1 _ (by rw [h12]; decide)).trans h1, h2⟩
                                  have hfr : ∀ b, K b ∉ [4, 8, 21, 24, 43] → F1047 b = F b := fun b hb9 => (hfr1 b (fun q => hb9 (s_sub (by decide) q))).trans (hfr b hb9)
                                  obtain ⟨z1051, z1053, z1055, z1057, z1060, z1063, z1064, z1066, z1068, z1069, z1070, z1072, z1073, o1075, h1052, h1054, h1056, h1058, h1059, h1061, h1062, h1065, h1067, h1071, h1074, -⟩ := h1050
                                  exact W.zret (v := r1046) (ty := .boolean) hx hb hr (th_nz ⟨by omega, by omega⟩) (fun t ht hW => ⟨⟨r1046, F1047, rfl, ⟨⟨by omega, by omega⟩, ⟨trivial, ⟨fun _ => hq, hLn⟩⟩, hI, hfr, ⟨z1051, z1053, z1055, z1057, z1060, z1063, z1064, z1066, z1068, z1069, z1070, z1072, z1073, o1075, h1052, h1054, h1056, h1058, h1059, ⟨by omega, by omega⟩, h1062, ⟨by omega, by omega⟩, ⟨by omega, by omega⟩, ⟨by omega, by omega⟩, (fun q => by first | omega | exact absurd q (by decide)), trivial⟩⟩, by rw [ht]; exact hP, va_K.moved hW.alike hK⟩, hS.F ht⟩) hS.2.2 dX3_readPiece_364
                                · have c1045 := mt (ax_eq (n := 69) (by decide)).mpr c1045
                                  by_cases c1076 : x1 = 70
                                  · refine ax_eqi c1076 ?_
                                    refine lv_tableIn (off := 358) (tgt := 359) hx hb dX3_readPiece_1 (by decide) (by decide) (by decide) (by decide) ?_
                                    have c1076 := (ax_eq (n := 70) (by decide)).mp c1076
                                    refine lv_aload_n hx hb dX3_readPiece_359 rfl (lv_at hl 0 rfl) ?_
                                    have hq : s_QG cs F qq 0 := hQ.resolve_right (fun q => by omega)
                                    refine lv_iload_n hx hb dX3_readPiece_360 rfl (lv_at hl 1 rfl) ?_
                                    have hIq := hI
                                    refine va_calli (va_runV (As := [.int x1]) (rest := []) ⟨hx, hb, hml, hown, hts⟩ (s_X3_readSign l dC dI H.size hLK D adK adV tf F a0 x1 ha0 hI tt qq ⟨z1, z3, z5, z7, z10, z13, z14, z16, z18, z19, z20, z22, z23, o25, h2, h4, h6, h8, h9, ⟨by omega, by omega⟩, h12, ⟨by omega, by omega⟩, ⟨by omega, by omega⟩, ⟨by omega, by omega⟩, (fun q => by first | omega | exact absurd q (by decide)), trivial⟩) (cwV 1 hts (ax_gV T_761 T_763 T_764 T_163 T_762) rfl rfl rfl (by decide +kernel) ⟨Nat.le_of_ble_eq_true rfl, Nat.le_of_ble_eq_true rfl⟩) ⟨fun a U g mk q => ⟨q.1, s_pc (U := U) rfl rfl q.2.1, s_pcZ (U := U) rfl rfl q.2.2⟩, s_recv hK hP (hLK _ ha0 (by decide)) (ci := 3) rfl o25, fun U hU hW => ⟨rfl, s_pw hU hW hP hK hD hN, s_pwZ hU hW hS hZ⟩⟩ rfl rfl hl.1 rfl (lv_room (Nat.le_of_ble_eq_true rfl)) dX3_readPiece_361 ⟨Nat.zero_le _, Nat.zero_le _⟩) hS (fun q _ h => h) (fun q h => h) (fun r1077 F1078 t H1 locs ht hvm hw hB hz1 hk1 hS => ?_)
                                    obtain ⟨hP, hK1⟩ := hB
                                    rw [ht] at hP
                                    generalize H1 = H at hP hS ⊢
                                    clear hz1 hk1
                                    obtain ⟨h1079, h1080, hI, hfr1, h1081⟩ := hw
                                    have hq := s_QGt hIq h12 (fun b hb9 => hfr1 b (by rcases hb9 with q | q | q <;> (rw [q]; decide))) hq
                                    have hLn : ∀ vs, F qq = .inr (2, vs) → ∃ vs2, F1078 qq = .inr (2, vs2) ∧ vs2[3]? = vs[3]? := fun vs q => by obtain ⟨w, h1, h2⟩ := hLn vs q; exact ⟨w, (hfr1 _ (by rw [h12]; decide)).trans h1, h2⟩
                                    have hfr : ∀ b, K b ∉ [4, 8, 21, 24, 43] → F1078 b = F b := fun b hb9 => (hfr1 b (fun q => hb9 (s_sub (by decide) q))).trans (hfr b hb9)
                                    obtain ⟨z1082, z1084, z1086, z1088, z1091, z1094, z1095, z1097, z1099, z1100, z1101, z1103, z1104, o1106, h1083, h1085, h1087, h1089, h1090, h1092, h1093, h1096, h1098, h1102, h1105, -⟩ := h1081
                                    exact W.zret (v := r1077) (ty := .boolean) hx hb hr (th_nz ⟨by omega, by omega⟩) (fun t ht hW => ⟨⟨r1077, F1078, rfl, ⟨⟨by omega, by omega⟩, ⟨trivial, ⟨fun _ => hq, hLn⟩⟩, hI, hfr, ⟨z1082, z1084, z1086, z1088, z1091, z1094, z1095, z1097, z1099, z1100, z1101, z1103, z1104, o1106, h1083, h1085, h1087, h1089, h1090, ⟨by omega, by omega⟩, h1093, ⟨by omega, by omega⟩, ⟨by omega, by omega⟩, ⟨by omega, by omega⟩, (fun q => by first | omega | exact absurd q (by decide)), trivial⟩⟩, by rw [ht]; exact hP, va_K.moved hW.alike hK⟩, hS.F ht⟩) hS.2.2 dX3_readPiece_364
                                  · have c1076 := mt (ax_eq (n := 70) (by decide)).mpr c1076
                                    by_cases c1107 : x1 = 72
                                    · refine ax_eqi c1107 ?_
                                      refine lv_tableIn (off := 358) (tgt := 359) hx hb dX3_readPiece_1 (by decide) (by decide) (by decide) (by decide) ?_
                                      have c1107 := (ax_eq (n := 72) (by decide)).mp c1107
                                      refine lv_aload_n hx hb dX3_readPiece_359 rfl (lv_at hl 0 rfl) ?_
                                      have hq : s_QG cs F qq 0 := hQ.resolve_right (fun q => by omega)
                                      refine lv_iload_n hx hb dX3_readPiece_360 rfl (lv_at hl 1 rfl) ?_
                                      have hIq := hI
                                      refine va_calli (va_runV (As := [.int x1]) (rest := []) ⟨hx, hb, hml, hown, hts⟩ (s_X3_readSign l dC dI H.size hLK D adK adV tf F a0 x1 ha0 hI tt qq ⟨z1, z3, z5, z7, z10, z13, z14, z16, z18, z19, z20, z22, z23, o25, h2, h4, h6, h8, h9, ⟨by omega, by omega⟩, h12, ⟨by omega, by omega⟩, ⟨by omega, by omega⟩, ⟨by omega, by omega⟩, (fun q => by first | omega | exact absurd q (by decide)), trivial⟩) (cwV 1 hts (ax_gV T_761 T_763 T_764 T_163 T_762) rfl rfl rfl (by decide +kernel) ⟨Nat.le_of_ble_eq_true rfl, Nat.le_of_ble_eq_true rfl⟩) ⟨fun a U g mk q => ⟨q.1, s_pc (U := U) rfl rfl q.2.1, s_pcZ (U := U) rfl rfl q.2.2⟩, s_recv hK hP (hLK _ ha0 (by decide)) (ci := 3) rfl o25, fun U hU hW => ⟨rfl, s_pw hU hW hP hK hD hN, s_pwZ hU hW hS hZ⟩⟩ rfl rfl hl.1 rfl (lv_room (Nat.le_of_ble_eq_true rfl)) dX3_readPiece_361 ⟨Nat.zero_le _, Nat.zero_le _⟩) hS (fun q _ h => h) (fun q h => h) (fun r1108 F1109 t H1 locs ht hvm hw hB hz1 hk1 hS => ?_)
                                      obtain ⟨hP, hK1⟩ := hB
                                      rw [ht] at hP
                                      generalize H1 = H at hP hS ⊢
                                      clear hz1 hk1
                                      obtain ⟨h1110, h1111, hI, hfr1, h1112⟩ := hw
                                      have hq := s_QGt hIq h12 (fun b hb9 => hfr1 b (by rcases hb9 with q | q | q <;> (rw [q]; decide))) hq
                                      have hLn : ∀ vs, F qq = .inr (2, vs) → ∃ vs2, F1109 qq = .inr (2, vs2) ∧ vs2[3]? = vs[3]? := fun vs q => by obtain ⟨w, h1, h2⟩ := hLn vs q; exact ⟨w, (hfr1 _ (by rw [h12]; decide)).trans h1, h2⟩
                                      have hfr : ∀ b, K b ∉ [4, 8, 21, 24, 43] → F1109 b = F b := fun b hb9 => (hfr1 b (fun q => hb9 (s_sub (by decide) q))).trans (hfr b hb9)
                                      obtain ⟨z1113, z1115, z1117, z1119, z1122, z1125, z1126, z1128, z1130, z1131, z1132, z1134, z1135, o1137, h1114, h1116, h1118, h1120, h1121, h1123, h1124, h1127, h1129, h1133, h1136, -⟩ := h1112
                                      exact W.zret (v := r1108) (ty := .boolean) hx hb hr (th_nz ⟨by omega, by omega⟩) (fun t ht hW => ⟨⟨r1108, F1109, rfl, ⟨⟨by omega, by omega⟩, ⟨trivial, ⟨fun _ => hq, hLn⟩⟩, hI, hfr, ⟨z1113, z1115, z1117, z1119, z1122, z1125, z1126, z1128, z1130, z1131, z1132, z1134, z1135, o1137, h1114, h1116, h1118, h1120, h1121, ⟨by omega, by omega⟩, h1124, ⟨by omega, by omega⟩, ⟨by omega, by omega⟩, ⟨by omega, by omega⟩, (fun q => by first | omega | exact absurd q (by decide)), trivial⟩⟩, by rw [ht]; exact hP, va_K.moved hW.alike hK⟩, hS.F ht⟩) hS.2.2 dX3_readPiece_364
                                    · have c1107 := mt (ax_eq (n := 72) (by decide)).mpr c1107
                                      by_cases c1138 : x1 = 74
                                      · refine ax_eqi c1138 ?_
                                        refine lv_tableIn (off := 358) (tgt := 359) hx hb dX3_readPiece_1 (by decide) (by decide) (by decide) (by decide) ?_
                                        have c1138 := (ax_eq (n := 74) (by decide)).mp c1138
                                        refine lv_aload_n hx hb dX3_readPiece_359 rfl (lv_at hl 0 rfl) ?_
                                        have hq : s_QG cs F qq 0 := hQ.resolve_right (fun q => by omega)
                                        refine lv_iload_n hx hb dX3_readPiece_360 rfl (lv_at hl 1 rfl) ?_
                                        have hIq := hI
                                        refine va_calli (va_runV (As := [.int x1]) (rest := []) ⟨hx, hb, hml, hown, hts⟩ (s_X3_readSign l dC dI H.size hLK D adK adV tf F a0 x1 ha0 hI tt qq ⟨z1, z3, z5, z7, z10, z13, z14, z16, z18, z19, z20, z22, z23, o25, h2, h4, h6, h8, h9, ⟨by omega, by omega⟩, h12, ⟨by omega, by omega⟩, ⟨by omega, by omega⟩, ⟨by omega, by omega⟩, (fun q => by first | omega | exact absurd q (by decide)), trivial⟩) (cwV 1 hts (ax_gV T_761 T_763 T_764 T_163 T_762) rfl rfl rfl (by decide +kernel) ⟨Nat.le_of_ble_eq_true rfl, Nat.le_of_ble_eq_true rfl⟩) ⟨fun a U g mk q => ⟨q.1, s_pc (U := U) rfl rfl q.2.1, s_pcZ (U := U) rfl rfl q.2.2⟩, s_recv hK hP (hLK _ ha0 (by decide)) (ci := 3) rfl o25, fun U hU hW => ⟨rfl, s_pw hU hW hP hK hD hN, s_pwZ hU hW hS hZ⟩⟩ rfl rfl hl.1 rfl (lv_room (Nat.le_of_ble_eq_true rfl)) dX3_readPiece_361 ⟨Nat.zero_le _, Nat.zero_le _⟩) hS (fun q _ h => h) (fun q h => h) (fun r1139 F1140 t H1 locs ht hvm hw hB hz1 hk1 hS => ?_)
                                        obtain ⟨hP, hK1⟩ := hB
                                        rw [ht] at hP
                                        generalize H1 = H at hP hS ⊢
                                        clear hz1 hk1
                                        obtain ⟨h1141, h1142, hI, hfr1, h1143⟩ := hw
                                        have hq := s_QGt hIq h12 (fun b hb9 => hfr1 b (by rcases hb9 with q | q | q <;> (rw [q]; decide))) hq
                                        have hLn : ∀ vs, F qq = .inr (2, vs) → ∃ vs2, F1140 qq = .inr (2, vs2) ∧ vs2[3]? = vs[3]? := fun vs q => by obtain ⟨w, h1, h2⟩ := hLn vs q; exact ⟨w, (hfr1 _ (by rw [h12]; decide)).trans h1, h2⟩
                                        have hfr : ∀ b, K b ∉ [4, 8, 21, 24, 43] → F1140 b = F b := fun b hb9 => (hfr1 b (fun q => hb9 (s_sub (by decide) q))).trans (hfr b hb9)
                                        obtain ⟨z1144, z1146, z1148, z1150, z1153, z1156, z1157, z1159, z1161, z1162, z1163, z1165, z1166, o1168, h1145, h1147, h1149, h1151, h1152, h1154, h1155, h1158, h1160, h1164, h1167, -⟩ := h1143
                                        exact W.zret (v := r1139) (ty := .boolean) hx hb hr (th_nz ⟨by omega, by omega⟩) (fun t ht hW => ⟨⟨r1139, F1140, rfl, ⟨⟨by omega, by omega⟩, ⟨trivial, ⟨fun _ => hq, hLn⟩⟩, hI, hfr, ⟨z1144, z1146, z1148, z1150, z1153, z1156, z1157, z1159, z1161, z1162, z1163, z1165, z1166, o1168, h1145, h1147, h1149, h1151, h1152, ⟨by omega, by omega⟩, h1155, ⟨by omega, by omega⟩, ⟨by omega, by omega⟩, ⟨by omega, by omega⟩, (fun q => by first | omega | exact absurd q (by decide)), trivial⟩⟩, by rw [ht]; exact hP, va_K.moved hW.alike hK⟩, hS.F ht⟩) hS.2.2 dX3_readPiece_364
                                      · have c1138 := mt (ax_eq (n := 74) (by decide)).mpr c1138
                                        by_cases c1169 : x1 = 75
                                        · refine ax_eqi c1169 ?_
                                          refine lv_tableIn (off := 358) (tgt := 359) hx hb dX3_readPiece_1 (by decide) (by decide) (by decide) (by decide) ?_
                                          have c1169 := (ax_eq (n := 75) (by decide)).mp c1169
                                          refine lv_aload_n hx hb dX3_readPiece_359 rfl (lv_at hl 0 rfl) ?_
                                          have hq : s_QG cs F qq 0 := hQ.resolve_right (fun q => by omega)
                                          refine lv_iload_n hx hb dX3_readPiece_360 rfl (lv_at hl 1 rfl) ?_
                                          have hIq := hI
                                          refine va_calli (va_runV (As := [.int x1]) (rest := []) ⟨hx, hb, hml, hown, hts⟩ (s_X3_readSign l dC dI H.size hLK D adK adV tf F a0 x1 ha0 hI tt qq ⟨z1, z3, z5, z7, z10, z13, z14, z16, z18, z19, z20, z22, z23, o25, h2, h4, h6, h8, h9, ⟨by omega, by omega⟩, h12, ⟨by omega, by omega⟩, ⟨by omega, by omega⟩, ⟨by omega, by omega⟩, (fun q => by first | omega | exact absurd q (by decide)), trivial⟩) (cwV 1 hts (ax_gV T_761 T_763 T_764 T_163 T_762) rfl rfl rfl (by decide +kernel) ⟨Nat.le_of_ble_eq_true rfl, Nat.le_of_ble_eq_true rfl⟩) ⟨fun a U g mk q => ⟨q.1, s_pc (U := U) rfl rfl q.2.1, s_pcZ (U := U) rfl rfl q.2.2⟩, s_recv hK hP (hLK _ ha0 (by decide)) (ci := 3) rfl o25, fun U hU hW => ⟨rfl, s_pw hU hW hP hK hD hN, s_pwZ hU hW hS hZ⟩⟩ rfl rfl hl.1 rfl (lv_room (Nat.le_of_ble_eq_true rfl)) dX3_readPiece_361 ⟨Nat.zero_le _, Nat.zero_le _⟩) hS (fun q _ h => h) (fun q h => h) (fun r1170 F1171 t H1 locs ht hvm hw hB hz1 hk1 hS => ?_)
                                          obtain ⟨hP, hK1⟩ := hB
                                          rw [ht] at hP
                                          generalize H1 = H at hP hS ⊢
                                          clear hz1 hk1
                                          obtain ⟨h1172, h1173, hI, hfr1, h1174⟩ := hw
                                          have hq := s_QGt hIq h12 (fun b hb9 => hfr1 b (by rcases hb9 with q | q | q <;> (rw [q]; decide))) hq
                                          have hLn : ∀ vs, F qq = .inr (2, vs) → ∃ vs2, F1171 qq = .inr (2, vs2) ∧ vs2[3]? = vs[3]? := fun vs q => by obtain ⟨w, h1, h2⟩ := hLn vs q; exact ⟨w, (hfr1 _ (by rw [h12]; decide)).trans h1, h2⟩
                                          have hfr : ∀ b, K b ∉ [4, 8, 21, 24, 43] → F1171 b = F b := fun b hb9 => (hfr1 b (fun q => hb9 (s_sub (by decide) q))).trans (hfr b hb9)
                                          obtain ⟨z1175, z1177, z1179, z1181, z1184, z1187, z1188, z1190, z1192, z1193, z1194, z1196, z1197, o1199, h1176, h1178, h1180, h1182, h1183, h1185, h1186, h1189, h1191, h1195, h1198, -⟩ := h1174
                                          exact W.zret (v := r1170) (ty := .boolean) hx hb hr (th_nz ⟨by omega, by omega⟩) (fun t ht hW => ⟨⟨r1170, F1171, rfl, ⟨⟨by omega, by omega⟩, ⟨trivial, ⟨fun _ => hq, hLn⟩⟩, hI, hfr, ⟨z1175, z1177, z1179, z1181, z1184, z1187, z1188, z1190, z1192, z1193, z1194, z1196, z1197, o1199, h1176, h1178, h1180, h1182, h1183, ⟨by omega, by omega⟩, h1186, ⟨by omega, by omega⟩, ⟨by omega, by omega⟩, ⟨by omega, by omega⟩, (fun q => by first | omega | exact absurd q (by decide)), trivial⟩⟩, by rw [ht]; exact hP, va_K.moved hW.alike hK⟩, hS.F ht⟩) hS.2.2 dX3_readPiece_364
                                        · have c1169 := mt (ax_eq (n := 75) (by decide)).mpr c1169
                                          by_cases c1200 : x1 = 76
                                          · refine ax_eqi c1200 ?_
                                            refine lv_tableIn (off := 358) (tgt := 359) hx hb dX3_readPiece_1 (by decide) (by decide) (by decide) (by decide) ?_
                                            have c1200 := (ax_eq (n := 76) (by decide)).mp c1200
                                            refine lv_aload_n hx hb dX3_readPiece_359 rfl (lv_at hl 0 rfl) ?_
                                            have hq : s_QG cs F qq 0 := hQ.resolve_right (fun q => by omega)
                                            refine lv_iload_n hx hb dX3_readPiece_360 rfl (lv_at hl 1 rfl) ?_
                                            have hIq := hI
                                            refine va_calli (va_runV (As := [.int x1]) (rest := []) ⟨hx, hb, hml, hown, hts⟩ (s_X3_readSign l dC dI H.size hLK D adK adV tf F a0 x1 ha0 hI tt qq ⟨z1, z3, z5, z7, z10, z13, z14, z16, z18, z19, z20, z22, z23, o25, h2, h4, h6, h8, h9, ⟨by omega, by omega⟩, h12, ⟨by omega, by omega⟩, ⟨by omega, by omega⟩, ⟨by omega, by omega⟩, (fun q => by first | omega | exact absurd q (by decide)), trivial⟩) (cwV 1 hts (ax_gV T_761 T_763 T_764 T_163 T_762) rfl rfl rfl (by decide +kernel) ⟨Nat.le_of_ble_eq_true rfl, Nat.le_of_ble_eq_true rfl⟩) ⟨fun a U g mk q => ⟨q.1, s_pc (U := U) rfl rfl q.2.1, s_pcZ (U := U) rfl rfl q.2.2⟩, s_recv hK hP (hLK _ ha0 (by decide)) (ci := 3) rfl o25, fun U hU hW => ⟨rfl, s_pw hU hW hP hK hD hN, s_pwZ hU hW hS hZ⟩⟩ rfl rfl hl.1 rfl (lv_room (Nat.le_of_ble_eq_true rfl)) dX3_readPiece_361 ⟨Nat.zero_le _, Nat.zero_le _⟩) hS (fun q _ h => h) (fun q h => h) (fun r1201 F1202 t H1 locs ht hvm hw hB hz1 hk1 hS => ?_)
                                            obtain ⟨hP, hK1⟩ := hB
                                            rw [ht] at hP
                                            generalize H1 = H at hP hS ⊢
                                            clear hz1 hk1
                                            obtain ⟨h1203, h1204, hI, hfr1, h1205⟩ := hw
                                            have hq := s_QGt hIq h12 (fun b hb9 => hfr1 b (by rcases hb9 with q | q | q <;> (rw [q]; decide))) hq
                                            have hLn : ∀ vs, F qq = .inr (2, vs) → ∃ vs2, F1202 qq = .inr (2, vs2) ∧ vs2[3]? = vs[3]? := fun vs q => by obtain ⟨w, h1, h2⟩ := hLn vs q; exact ⟨w, (hfr1 _ (by rw [h12]; decide)).trans h1, h2⟩
                                            have hfr : ∀ b, K b ∉ [4, 8, 21, 24, 43] → F1202 b = F b := fun b hb9 => (hfr1 b (fun q => hb9 (s_sub (by decide) q))).trans (hfr b hb9)
                                            obtain ⟨z1206, z1208, z1210, z1212, z1215, z1218, z1219, z1221, z1223, z1224, z1225, z1227, z1228, o1230, h1207, h1209, h1211, h1213, h1214, h1216, h1217, h1220, h1222, h1226, h1229, -⟩ := h1205
                                            exact W.zret (v := r1201) (ty := .boolean) hx hb hr (th_nz ⟨by omega, by omega⟩) (fun t ht hW => ⟨⟨r1201, F1202, rfl, ⟨⟨by omega, by omega⟩, ⟨trivial, ⟨fun _ => hq, hLn⟩⟩, hI, hfr, ⟨z1206, z1208, z1210, z1212, z1215, z1218, z1219, z1221, z1223, z1224, z1225, z1227, z1228, o1230, h1207, h1209, h1211, h1213, h1214, ⟨by omega, by omega⟩, h1217, ⟨by omega, by omega⟩, ⟨by omega, by omega⟩, ⟨by omega, by omega⟩, (fun q => by first | omega | exact absurd q (by decide)), trivial⟩⟩, by rw [ht]; exact hP, va_K.moved hW.alike hK⟩, hS.F ht⟩) hS.2.2 dX3_readPiece_364
                                          · have c1200 := mt (ax_eq (n := 76) (by decide)).mpr c1200
                                            by_cases c1231 : x1 = 78
                                            · refine ax_eqi c1231 ?_
                                              refine lv_tableIn (off := 358) (tgt := 359) hx hb dX3_readPiece_1 (by decide) (by decide) (by decide) (by decide) ?_
                                              have c1231 := (ax_eq (n := 78) (by decide)).mp c1231
                                              refine lv_aload_n hx hb dX3_readPiece_359 rfl (lv_at hl 0 rfl) ?_
                                              have hq : s_QG cs F qq 0 := hQ.resolve_right (fun q => by omega)
                                              refine lv_iload_n hx hb dX3_readPiece_360 rfl (lv_at hl 1 rfl) ?_
                                              have hIq := hI
                                              refine va_calli (va_runV (As := [.int x1]) (rest := []) ⟨hx, hb, hml, hown, hts⟩ (s_X3_readSign l dC dI H.size hLK D adK adV tf F a0 x1 ha0 hI tt qq ⟨z1, z3, z5, z7, z10, z13, z14, z16, z18, z19, z20, z22, z23, o25, h2, h4, h6, h8, h9, ⟨by omega, by omega⟩, h12, ⟨by omega, by omega⟩, ⟨by omega, by omega⟩, ⟨by omega, by omega⟩, (fun q => by first | omega | exact absurd q (by decide)), trivial⟩) (cwV 1 hts (ax_gV T_761 T_763 T_764 T_163 T_762) rfl rfl rfl (by decide +kernel) ⟨Nat.le_of_ble_eq_true rfl, Nat.le_of_ble_eq_true rfl⟩) ⟨fun a U g mk q => ⟨q.1, s_pc (U := U) rfl rfl q.2.1, s_pcZ (U := U) rfl rfl q.2.2⟩, s_recv hK hP (hLK _ ha0 (by decide)) (ci := 3) rfl o25, fun U hU hW => ⟨rfl, s_pw hU hW hP hK hD hN, s_pwZ hU hW hS hZ⟩⟩ rfl rfl hl.1 rfl (lv_room (Nat.le_of_ble_eq_true rfl)) dX3_readPiece_361 ⟨Nat.zero_le _, Nat.zero_le _⟩) hS (fun q _ h => h) (fun q h => h) (fun r1232 F1233 t H1 locs ht hvm hw hB hz1 hk1 hS => ?_)
                                              obtain ⟨hP, hK1⟩ := hB
                                              rw [ht] at hP
                                              generalize H1 = H at hP hS ⊢
                                              clear hz1 hk1
                                              obtain ⟨h1234, h1235, hI, hfr1, h1236⟩ := hw
                                              have hq := s_QGt hIq h12 (fun b hb9 => hfr1 b (by rcases hb9 with q | q | q <;> (rw [q]; decide))) hq
                                              have hLn : ∀ vs, F qq = .inr (2, vs) → ∃ vs2, F1233 qq = .inr (2, vs2) ∧ vs2[3]? = vs[3]? := fun vs q => by obtain ⟨w, h1, h2⟩ := hLn vs q; exact ⟨w, (hfr1 _ (by rw [h12]; decide)).trans h1, h2⟩
                                              have hfr : ∀ b, K b ∉ [4, 8, 21, 24, 43] → F1233 b = F b := fun b hb9 => (hfr1 b (fun q => hb9 (s_sub (by decide) q))).trans (hfr b hb9)
                                              obtain ⟨z1237, z1239, z1241, z1243, z1246, z1249, z1250, z1252, z1254, z1255, z1256, z1258, z1259, o1261, h1238, h1240, h1242, h1244, h1245, h1247, h1248, h1251, h1253, h1257, h1260, -⟩ := h1236
                                              exact W.zret (v := r1232) (ty := .boolean) hx hb hr (th_nz ⟨by omega, by omega⟩) (fun t ht hW => ⟨⟨r1232, F1233, rfl, ⟨⟨by omega, by omega⟩, ⟨trivial, ⟨fun _ => hq, hLn⟩⟩, hI, hfr, ⟨z1237, z1239, z1241, z1243, z1246, z1249, z1250, z1252, z1254, z1255, z1256, z1258, z1259, o1261, h1238, h1240, h1242, h1244, h1245, ⟨by omega, by omega⟩, h1248, ⟨by omega, by omega⟩, ⟨by omega, by omega⟩, ⟨by omega, by omega⟩, (fun q => by first | omega | exact absurd q (by decide)), trivial⟩⟩, by rw [ht]; exact hP, va_K.moved hW.alike hK⟩, hS.F ht⟩) hS.2.2 dX3_readPiece_364
                                            · have c1231 := mt (ax_eq (n := 78) (by decide)).mpr c1231
                                              by_cases c1262 : x1 = 80
                                              · refine ax_eqi c1262 ?_
                                                refine lv_tableIn (off := 358) (tgt := 359) hx hb dX3_readPiece_1 (by decide) (by decide) (by decide) (by decide) ?_
                                                have c1262 := (ax_eq (n := 80) (by decide)).mp c1262
                                                refine lv_aload_n hx hb dX3_readPiece_359 rfl (lv_at hl 0 rfl) ?_
                                                have hq : s_QG cs F qq 0 := hQ.resolve_right (fun q => by omega)
                                                refine lv_iload_n hx hb dX3_readPiece_360 rfl (lv_at hl 1 rfl) ?_
                                                have hIq := hI
                                                refine va_calli (va_runV (As := [.int x1]) (rest := []) ⟨hx, hb, hml, hown, hts⟩ (s_X3_readSign l dC dI H.size hLK D adK adV tf F a0 x1 ha0 hI tt qq ⟨z1, z3, z5, z7, z10, z13, z14, z16, z18, z19, z20, z22, z23, o25, h2, h4, h6, h8, h9, ⟨by omega, by omega⟩, h12, ⟨by omega, by omega⟩, ⟨by omega, by omega⟩, ⟨by omega, by omega⟩, (fun q => by first | omega | exact absurd q (by decide)), trivial⟩) (cwV 1 hts (ax_gV T_761 T_763 T_764 T_163 T_762) rfl rfl rfl (by decide +kernel) ⟨Nat.le_of_ble_eq_true rfl, Nat.le_of_ble_eq_true rfl⟩) ⟨fun a U g mk q => ⟨q.1, s_pc (U := U) rfl rfl q.2.1, s_pcZ (U := U) rfl rfl q.2.2⟩, s_recv hK hP (hLK _ ha0 (by decide)) (ci := 3) rfl o25, fun U hU hW => ⟨rfl, s_pw hU hW hP hK hD hN, s_pwZ hU hW hS hZ⟩⟩ rfl rfl hl.1 rfl (lv_room (Nat.le_of_ble_eq_true rfl)) dX3_readPiece_361 ⟨Nat.zero_le _, Nat.zero_le _⟩) hS (fun q _ h => h) (fun q h => h) (fun r1263 F1264 t H1 locs ht hvm hw hB hz1 hk1 hS => ?_)
                                                obtain ⟨hP, hK1⟩ := hB
                                                rw [ht] at hP
                                                generalize H1 = H at hP hS ⊢
                                                clear hz1 hk1
                                                obtain ⟨h1265, h1266, hI, hfr1, h1267⟩ := hw
                                                have hq := s_QGt hIq h12 (fun b hb9 => hfr1 b (by rcases hb9 with q | q | q <;> (rw [q]; decide))) hq
                                                have hLn : ∀ vs, F qq = .inr (2, vs) → ∃ vs2, F1264 qq = .inr (2, vs2) ∧ vs2[3]? = vs[3]? := fun vs q => by obtain ⟨w, h1, h2⟩ := hLn vs q; exact ⟨w, (hfr1 _ (by rw [h12]; decide)).trans h1, h2⟩
                                                have hfr : ∀ b, K b ∉ [4, 8, 21, 24, 43] → F1264 b = F b := fun b hb9 => (hfr1 b (fun q => hb9 (s_sub (by decide) q))).trans (hfr b hb9)
                                                obtain ⟨z1268, z1270, z1272, z1274, z1277, z1280, z1281, z1283, z1285, z1286, z1287, z1289, z1290, o1292, h1269, h1271, h1273, h1275, h1276, h1278, h1279, h1282, h1284, h1288, h1291, -⟩ := h1267
                                                exact W.zret (v := r1263) (ty := .boolean) hx hb hr (th_nz ⟨by omega, by omega⟩) (fun t ht hW => ⟨⟨r1263, F1264, rfl, ⟨⟨by omega, by omega⟩, ⟨trivial, ⟨fun _ => hq, hLn⟩⟩, hI, hfr, ⟨z1268, z1270, z1272, z1274, z1277, z1280, z1281, z1283, z1285, z1286, z1287, z1289, z1290, o1292, h1269, h1271, h1273, h1275, h1276, ⟨by omega, by omega⟩, h1279, ⟨by omega, by omega⟩, ⟨by omega, by omega⟩, ⟨by omega, by omega⟩, (fun q => by first | omega | exact absurd q (by decide)), trivial⟩⟩, by rw [ht]; exact hP, va_K.moved hW.alike hK⟩, hS.F ht⟩) hS.2.2 dX3_readPiece_364
                                              · have c1262 := mt (ax_eq (n := 80) (by decide)).mpr c1262
                                                by_cases c1293 : x1 = 81
                                                · refine ax_eqi c1293 ?_
                                                  refine lv_tableIn (off := 358) (tgt := 359) hx hb dX3_readPiece_1 (by decide) (by decide) (by decide) (by decide) ?_
                                                  have c1293 := (ax_eq (n := 81) (by decide)).mp c1293
                                                  refine lv_aload_n hx hb dX3_readPiece_359 rfl (lv_at hl 0 rfl) ?_
                                                  have hq : s_QG cs F qq 0 := hQ.resolve_right (fun q => by omega)
                                                  refine lv_iload_n hx hb dX3_readPiece_360 rfl (lv_at hl 1 rfl) ?_
                                                  have hIq := hI
                                                  refine va_calli (va_runV (As := [.int x1]) (rest := []) ⟨hx, hb, hml, hown, hts⟩ (s_X3_readSign l dC dI H.size hLK D adK adV tf F a0 x1 ha0 hI tt qq ⟨z1, z3, z5, z7, z10, z13, z14, z16, z18, z19, z20, z22, z23, o25, h2, h4, h6, h8, h9, ⟨by omega, by omega⟩, h12, ⟨by omega, by omega⟩, ⟨by omega, by omega⟩, ⟨by omega, by omega⟩, (fun q => by first | omega | exact absurd q (by decide)), trivial⟩) (cwV 1 hts (ax_gV T_761 T_763 T_764 T_163 T_762) rfl rfl rfl (by decide +kernel) ⟨Nat.le_of_ble_eq_true rfl, Nat.le_of_ble_eq_true rfl⟩) ⟨fun a U g mk q => ⟨q.1, s_pc (U := U) rfl rfl q.2.1, s_pcZ (U := U) rfl rfl q.2.2⟩, s_recv hK hP (hLK _ ha0 (by decide)) (ci := 3) rfl o25, fun U hU hW => ⟨rfl, s_pw hU hW hP hK hD hN, s_pwZ hU hW hS hZ⟩⟩ rfl rfl hl.1 rfl (lv_room (Nat.le_of_ble_eq_true rfl)) dX3_readPiece_361 ⟨Nat.zero_le _, Nat.zero_le _⟩) hS (fun q _ h => h) (fun q h => h) (fun r1294 F1295 t H1 locs ht hvm hw hB hz1 hk1 hS => ?_)
                                                  obtain ⟨hP, hK1⟩ := hB
                                                  rw [ht] at hP
                                                  generalize H1 = H at hP hS ⊢
                                                  clear hz1 hk1
                                                  obtain ⟨h1296, h1297, hI, hfr1, h1298⟩ := hw
                                                  have hq := s_QGt hIq h12 (fun b hb9 => hfr1 b (by rcases hb9 with q | q | q <;> (rw [q]; decide))) hq
                                                  have hLn : ∀ vs, F qq = .inr (2, vs) → ∃ vs2, F1295 qq = .inr (2, vs2) ∧ vs2[3]? = vs[3]? := fun vs q => by obtain ⟨w, h1, h2⟩ := hLn vs q; exact ⟨w, (hfr1 _ (by rw [h12]; decide)).trans h1, h2⟩
                                                  have hfr : ∀ b, K b ∉ [4, 8, 21, 24, 43] → F1295 b = F b := fun b hb9 => (hfr1 b (fun q => hb9 (s_sub (by decide) q))).trans (hfr b hb9)
                                                  obtain ⟨z1299, z1301, z1303, z1305, z1308, z1311, z1312, z1314, z1316, z1317, z1318, z1320, z1321, o1323, h1300, h1302, h1304, h1306, h1307, h1309, h1310, h1313, h1315, h1319, h1322, -⟩ := h1298
                                                  exact W.zret (v := r1294) (ty := .boolean) hx hb hr (th_nz ⟨by omega, by omega⟩) (fun t ht hW => ⟨⟨r1294, F1295, rfl, ⟨⟨by omega, by omega⟩, ⟨trivial, ⟨fun _ => hq, hLn⟩⟩, hI, hfr, ⟨z1299, z1301, z1303, z1305, z1308, z1311, z1312, z1314, z1316, z1317, z1318, z1320, z1321, o1323, h1300, h1302, h1304, h1306, h1307, ⟨by omega, by omega⟩, h1310, ⟨by omega, by omega⟩, ⟨by omega, by omega⟩, ⟨by omega, by omega⟩, (fun q => by first | omega | exact absurd q (by decide)), trivial⟩⟩, by rw [ht]; exact hP, va_K.moved hW.alike hK⟩, hS.F ht⟩) hS.2.2 dX3_readPiece_364
                                                · have c1293 := mt (ax_eq (n := 81) (by decide)).mpr c1293
                                                  by_cases c1324 : x1 = 84
                                                  · refine ax_eqi c1324 ?_
                                                    refine lv_tableIn (off := 358) (tgt := 359) hx hb dX3_readPiece_1 (by decide) (by decide) (by decide) (by decide) ?_
                                                    have c1324 := (ax_eq (n := 84) (by decide)).mp c1324
                                                    refine lv_aload_n hx hb dX3_readPiece_359 rfl (lv_at hl 0 rfl) ?_
                                                    have hq : s_QG cs F qq 0 := hQ.resolve_right (fun q => by omega)
                                                    refine lv_iload_n hx hb dX3_readPiece_360 rfl (lv_at hl 1 rfl) ?_
                                                    have hIq := hI
                                                    refine va_calli (va_runV (As := [.int x1]) (rest := []) ⟨hx, hb, hml, hown, hts⟩ (s_X3_readSign l dC dI H.size hLK D adK adV tf F a0 x1 ha0 hI tt qq ⟨z1, z3, z5, z7, z10, z13, z14, z16, z18, z19, z20, z22, z23, o25, h2, h4, h6, h8, h9, ⟨by omega, by omega⟩, h12, ⟨by omega, by omega⟩, ⟨by omega, by omega⟩, ⟨by omega, by omega⟩, (fun q => by first | omega | exact absurd q (by decide)), trivial⟩) (cwV 1 hts (ax_gV T_761 T_763 T_764 T_163 T_762) rfl rfl rfl (by decide +kernel) ⟨Nat.le_of_ble_eq_true rfl, Nat.le_of_ble_eq_true rfl⟩) ⟨fun a U g mk q => ⟨q.1, s_pc (U := U) rfl rfl q.2.1, s_pcZ (U := U) rfl rfl q.2.2⟩, s_recv hK hP (hLK _ ha0 (by decide)) (ci := 3) rfl o25, fun U hU hW => ⟨rfl, s_pw hU hW hP hK hD hN, s_pwZ hU hW hS hZ⟩⟩ rfl rfl hl.1 rfl (lv_room (Nat.le_of_ble_eq_true rfl)) dX3_readPiece_361 ⟨Nat.zero_le _, Nat.zero_le _⟩) hS (fun q _ h => h) (fun q h => h) (fun r1325 F1326 t H1 locs ht hvm hw hB hz1 hk1 hS => ?_)
                                                    obtain ⟨hP, hK1⟩ := hB
                                                    rw [ht] at hP
                                                    generalize H1 = H at hP hS ⊢
                                                    clear hz1 hk1
                                                    obtain ⟨h1327, h1328, hI, hfr1, h1329⟩ := hw
                                                    have hq := s_QGt hIq h12 (fun b hb9 => hfr1 b (by rcases hb9 with q | q | q <;> (rw [q]; decide))) hq
                                                    have hLn : ∀ vs, F qq = .inr (2, vs) → ∃ vs2, F1326 qq = .inr (2, vs2) ∧ vs2[3]? = vs[3]? := fun vs q => by obtain ⟨w, h1, h2⟩ := hLn vs q; exact ⟨w, (hfr1 _ (by rw [h12]; decide)).trans h1, h2⟩
                                                    have hfr : ∀ b, K b ∉ [4, 8, 21, 24, 43] → F1326 b = F b := fun b hb9 => (hfr1 b (fun q => hb9 (s_sub (by decide) q))).trans (hfr b hb9)
                                                    obtain ⟨z1330, z1332, z1334, z1336, z1339, z1342, z1343, z1345, z1347, z1348, z1349, z1351, z1352, o1354, h1331, h1333, h1335, h1337, h1338, h1340, h1341, h1344, h1346, h1350, h1353, -⟩ := h1329
                                                    exact W.zret (v := r1325) (ty := .boolean) hx hb hr (th_nz ⟨by omega, by omega⟩) (fun t ht hW => ⟨⟨r1325, F1326, rfl, ⟨⟨by omega, by omega⟩, ⟨trivial, ⟨fun _ => hq, hLn⟩⟩, hI, hfr, ⟨z1330, z1332, z1334, z1336, z1339, z1342, z1343, z1345, z1347, z1348, z1349, z1351, z1352, o1354, h1331, h1333, h1335, h1337, h1338, ⟨by omega, by omega⟩, h1341, ⟨by omega, by omega⟩, ⟨by omega, by omega⟩, ⟨by omega, by omega⟩, (fun q => by first | omega | exact absurd q (by decide)), trivial⟩⟩, by rw [ht]; exact hP, va_K.moved hW.alike hK⟩, hS.F ht⟩) hS.2.2 dX3_readPiece_364
                                                  · have c1324 := mt (ax_eq (n := 84) (by decide)).mpr c1324
                                                    by_cases c1355 : x1 = 85
                                                    · refine ax_eqi c1355 ?_
                                                      refine lv_tableIn (off := 358) (tgt := 359) hx hb dX3_readPiece_1 (by decide) (by decide) (by decide) (by decide) ?_
                                                      have c1355 := (ax_eq (n := 85) (by decide)).mp c1355
                                                      refine lv_aload_n hx hb dX3_readPiece_359 rfl (lv_at hl 0 rfl) ?_
                                                      have hq : s_QG cs F qq 0 := hQ.resolve_right (fun q => by omega)
                                                      refine lv_iload_n hx hb dX3_readPiece_360 rfl (lv_at hl 1 rfl) ?_
                                                      have hIq := hI
                                                      refine va_calli (va_runV (As := [.int x1]) (rest := []) ⟨hx, hb, hml, hown, hts⟩ (s_X3_readSign l dC dI H.size hLK D adK adV tf F a0 x1 ha0 hI tt qq ⟨z1, z3, z5, z7, z10, z13, z14, z16, z18, z19, z20, z22, z23, o25, h2, h4, h6, h8, h9, ⟨by omega, by omega⟩, h12, ⟨by omega, by omega⟩, ⟨by omega, by omega⟩, ⟨by omega, by omega⟩, (fun q => by first | omega | exact absurd q (by decide)), trivial⟩) (cwV 1 hts (ax_gV T_761 T_763 T_764 T_163 T_762) rfl rfl rfl (by decide +kernel) ⟨Nat.le_of_ble_eq_true rfl, Nat.le_of_ble_eq_true rfl⟩) ⟨fun a U g mk q => ⟨q.1, s_pc (U := U) rfl rfl q.2.1, s_pcZ (U := U) rfl rfl q.2.2⟩, s_recv hK hP (hLK _ ha0 (by decide)) (ci := 3) rfl o25, fun U hU hW => ⟨rfl, s_pw hU hW hP hK hD hN, s_pwZ hU hW hS hZ⟩⟩ rfl rfl hl.1 rfl (lv_room (Nat.le_of_ble_eq_true rfl)) dX3_readPiece_361 ⟨Nat.zero_le _, Nat.zero_le _⟩) hS (fun q _ h => h) (fun q h => h) (fun r1356 F1357 t H1 locs ht hvm hw hB hz1 hk1 hS => ?_)
                                                      obtain ⟨hP, hK1⟩ := hB
                                                      rw [ht] at hP
                                                      generalize H1 = H at hP hS ⊢
                                                      clear hz1 hk1
                                                      obtain ⟨h1358, h1359, hI, hfr1, h1360⟩ := hw
                                                      have hq := s_QGt hIq h12 (fun b hb9 => hfr1 b (by rcases hb9 with q | q | q <;> (rw [q]; decide))) hq
                                                      have hLn : ∀ vs, F qq = .inr (2, vs) → ∃ vs2, F1357 qq = .inr (2, vs2) ∧ vs2[3]? = vs[3]? := fun vs q => by obtain ⟨w, h1, h2⟩ := hLn vs q; exact ⟨w, (hfr1 _ (by rw [h12]; decide)).trans h1, h2⟩
                                                      have hfr : ∀ b, K b ∉ [4, 8, 21, 24, 43] → F1357 b = F b := fun b hb9 => (hfr1 b (fun q => hb9 (s_sub (by decide) q))).trans (hfr b hb9)
                                                      obtain ⟨z1361, z1363, z1365, z1367, z1370, z1373, z1374, z1376, z1378, z1379, z1380, z1382, z1383, o1385, h1362, h1364, h1366, h1368, h1369, h1371, h1372, h1375, h1377, h1381, h1384, -⟩ := h1360
                                                      exact W.zret (v := r1356) (ty := .boolean) hx hb hr (th_nz ⟨by omega, by omega⟩) (fun t ht hW => ⟨⟨r1356, F1357, rfl, ⟨⟨by omega, by omega⟩, ⟨trivial, ⟨fun _ => hq, hLn⟩⟩, hI, hfr, ⟨z1361, z1363, z1365, z1367, z1370, z1373, z1374, z1376, z1378, z1379, z1380, z1382, z1383, o1385, h1362, h1364, h1366, h1368, h1369, ⟨by omega, by omega⟩, h1372, ⟨by omega, by omega⟩, ⟨by omega, by omega⟩, ⟨by omega, by omega⟩, (fun q => by first | omega | exact absurd q (by decide)), trivial⟩⟩, by rw [ht]; exact hP, va_K.moved hW.alike hK⟩, hS.F ht⟩) hS.2.2 dX3_readPiece_364
                                                    · have c1355 := mt (ax_eq (n := 85) (by decide)).mpr c1355
                                                      refine lv_tableOut (tgt := 359) hx hb dX3_readPiece_1 (by omega) (by decide) ?_
                                                      refine lv_aload_n hx hb dX3_readPiece_359 rfl (lv_at hl 0 rfl) ?_
                                                      have hq : s_QG cs F qq 0 := hQ.resolve_right (fun q => by omega)
                                                      refine lv_iload_n hx hb dX3_readPiece_360 rfl (lv_at hl 1 rfl) ?_
                                                      have hIq := hI
                                                      refine va_calli (va_runV (As := [.int x1]) (rest := []) ⟨hx, hb, hml, hown, hts⟩ (s_X3_readSign l dC dI H.size hLK D adK adV tf F a0 x1 ha0 hI tt qq ⟨z1, z3, z5, z7, z10, z13, z14, z16, z18, z19, z20, z22, z23, o25, h2, h4, h6, h8, h9, ⟨by omega, by omega⟩, h12, ⟨by omega, by omega⟩, ⟨by omega, by omega⟩, ⟨by omega, by omega⟩, (fun q => by first | omega | exact absurd q (by decide)), trivial⟩) (cwV 1 hts (ax_gV T_761 T_763 T_764 T_163 T_762) rfl rfl rfl (by decide +kernel) ⟨Nat.le_of_ble_eq_true rfl, Nat.le_of_ble_eq_true rfl⟩) ⟨fun a U g mk q => ⟨q.1, s_pc (U := U) rfl rfl q.2.1, s_pcZ (U := U) rfl rfl q.2.2⟩, s_recv hK hP (hLK _ ha0 (by decide)) (ci := 3) rfl o25, fun U hU hW => ⟨rfl, s_pw hU hW hP hK hD hN, s_pwZ hU hW hS hZ⟩⟩ rfl rfl hl.1 rfl (lv_room (Nat.le_of_ble_eq_true rfl)) dX3_readPiece_361 ⟨Nat.zero_le _, Nat.zero_le _⟩) hS (fun q _ h => h) (fun q h => h) (fun r1386 F1387 t H1 locs ht hvm hw hB hz1 hk1 hS => ?_)
                                                      obtain ⟨hP, hK1⟩ := hB
                                                      rw [ht] at hP
                                                      generalize H1 = H at hP hS ⊢
                                                      clear hz1 hk1
                                                      obtain ⟨h1388, h1389, hI, hfr1, h1390⟩ := hw
                                                      have hq := s_QGt hIq h12 (fun b hb9 => hfr1 b (by rcases hb9 with q | q | q <;> (rw [q]; decide))) hq
                                                      have hLn : ∀ vs, F qq = .inr (2, vs) → ∃ vs2, F1387 qq = .inr (2, vs2) ∧ vs2[3]? = vs[3]? := fun vs q => by obtain ⟨w, h1, h2⟩ := hLn vs q; exact ⟨w, (hfr1 _ (by rw [h12]; decide)).trans h1, h2⟩
                                                      have hfr : ∀ b, K b ∉ [4, 8, 21, 24, 43] → F1387 b = F b := fun b hb9 => (hfr1 b (fun q => hb9 (s_sub (by decide) q))).trans (hfr b hb9)
                                                      obtain ⟨z1391, z1393, z1395, z1397, z1400, z1403, z1404, z1406, z1408, z1409, z1410, z1412, z1413, o1415, h1392, h1394, h1396, h1398, h1399, h1401, h1402, h1405, h1407, h1411, h1414, -⟩ := h1390
                                                      exact W.zret (v := r1386) (ty := .boolean) hx hb hr (th_nz ⟨by omega, by omega⟩) (fun t ht hW => ⟨⟨r1386, F1387, rfl, ⟨⟨by omega, by omega⟩, ⟨trivial, ⟨fun _ => hq, hLn⟩⟩, hI, hfr, ⟨z1391, z1393, z1395, z1397, z1400, z1403, z1404, z1406, z1408, z1409, z1410, z1412, z1413, o1415, h1392, h1394, h1396, h1398, h1399, ⟨by omega, by omega⟩, h1402, ⟨by omega, by omega⟩, ⟨by omega, by omega⟩, ⟨by omega, by omega⟩, (fun q => by first | omega | exact absurd q (by decide)), trivial⟩⟩, by rw [ht]; exact hP, va_K.moved hW.alike hK⟩, hS.F ht⟩) hS.2.2 dX3_readPiece_364
  · intro g H locs hq
    obtain ⟨F9, ls, rfl, hl, hI, hP, hS, hfr, h1416, h1417, h1418⟩ := hq
    obtain ⟨z1419, z1421, z1423, z1425, z1428, z1431, z1432, z1434, z1436, z1437, z1438, z1440, z1441, o1443, h1420, h1422, h1424, h1426, h1427, h1429, h1430, h1433, h1435, h1439, h1442, -⟩ := h1418
    have hLn := h1417
    have hqz := h1416 _ _ o1443 rfl
    refine lv_aload_n hx hb dX3_readPiece_365 rfl (lv_at hl 0 rfl) ?_
    refine th_get (D := (dC, dI)) (ci := 3) (v := .int z1440) (C := RX3) (T := TX3) (N := 15) hx hb hts inX3 hown hK hP (hLK _ ha0 (by decide)) o1443 rfl 13 (by decide) (hts _ T_209) (fun _ h9 => h9) rfl dX3_readPiece_366 ?_
    refine lv_if_ne (tgt := 376) hx hb dX3_readPiece_369 (by decide) (fun c1444 => ?_) (fun c1444 => ?_)
    · have c1444 := mt (ax_eq (n := 0) (by decide)).mpr c1444
      refine lv_iconst (v := 0) hx hb dX3_readPiece_376 (by decide) ?_
      exact W.zret (v := 0) (ty := .boolean) hx hb hr (by decide) (fun t ht hW => ⟨⟨0, F9, rfl, ⟨(by decide), ⟨trivial, ⟨(fun q => absurd rfl q), hLn⟩⟩, hI, hfr, ⟨z1419, z1421, z1423, z1425, z1428, z1431, z1432, z1434, z1436, z1437, z1438, z1440, z1441, o1443, h1420, h1422, h1424, h1426, h1427, ⟨by omega, by omega⟩, h1430, ⟨by omega, by omega⟩, ⟨by omega, by omega⟩, ⟨by omega, by omega⟩, (fun q => by first | omega | exact absurd q (by decide)), trivial⟩⟩, by rw [ht]; exact hP, va_K.moved hW.alike hK⟩, hS.F ht⟩) hS.2.2 dX3_readPiece_377
    · have c1444 := (ax_eq (n := 0) (by decide)).mp c1444
      refine lv_iconst (v := 1) hx hb dX3_readPiece_372 (by decide) ?_
      refine lv_goto (tgt := 377) hx hb dX3_readPiece_373 (by decide) ?_
      exact W.zret (v := 1) (ty := .boolean) hx hb hr (by decide) (fun t ht hW => ⟨⟨1, F9, rfl, ⟨(by decide), ⟨trivial, ⟨(fun _ => hqz (by omega)), hLn⟩⟩, hI, hfr, ⟨z1419, z1421, z1423, z1425, z1428, z1431, z1432, z1434, z1436, z1437, z1438, z1440, z1441, o1443, h1420, h1422, h1424, h1426, h1427, ⟨by omega, by omega⟩, h1430, ⟨by omega, by omega⟩, ⟨by omega, by omega⟩, ⟨by omega, by omega⟩, (fun q => by first | omega | exact absurd q (by decide)), trivial⟩⟩, by rw [ht]; exact hP, va_K.moved hW.alike hK⟩, hS.F ht⟩) hS.2.2 dX3_readPiece_377
