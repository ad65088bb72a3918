set_option maxHeartbeats 4000000 in
set_option maxRecDepth 100000 in
theorem s_X3_readPiece (l : Launch) (dC : Nat → ClassId) (dI : Nat → Nat → Nat) (sz : Nat) {L : List Nat} {K : Nat → Nat} {cs : Nat → ClassId} (hLK : ∀ a {k : Nat}, K a = k → k ≠ 0 → a ∈ L) (D : Nat) (adK adV : Nat → Nat) (tf : Option Nat) (F : Nat → va_E) (a0 : Nat) (x1 : Int32) (ha0 : K a0 = 4) (hI : s_I K cs D F) (tt qq : Nat) (hR : s_rd4 K F a0 tt qq) (hQ : s_QG cs F qq 0 ∨ (x1.toInt = 82 ∧ s_QG cs F qq 1)) (hG1 : x1.toInt = 71 → s_L1 F qq) : Met l yX3_readPiece (Cond.code yX3_readPiece cX3_readPiece 2 (some .boolean) :: T0) ({ frames := 7, cells := 0, slots := 0, locals := 155 }) (va_Pc [.ref a0, .int x1] (s_WZ dC dI sz L F [(cs 0, .int), (cs 1, .byte), (cs 2, .long), (cs 3, .object RX5), (cs 4, .object RX4), (cs 5, .array .int), (cs 6, .char), (cs 7, .boolean)] adK adV tf)) (va_Qi (fun (r : Int32) (G : Nat → va_E) => (0 ≤ r.toInt ∧ r.toInt ≤ 1) ∧ (True ∧ ((¬ r = 0 → s_QG cs G qq 0) ∧ (∀ vs, F qq = .inr (2, vs) → ∃ vs2, G qq = .inr (2, vs2) ∧ vs2[3]? = vs[3]?))) ∧ s_I K cs D G ∧ (∀ b, K b ∉ [4, 8, 21, 24, 43] → G b = F b) ∧ s_rd4 K G a0 tt qq) (fun (G : Nat → va_E) (t : State) => va_P (dC, dI) vwCl (va_pl L G) t.heap ∧ va_K (dC, dI) vwCl [(cs 0, .int), (cs 1, .byte), (cs 2, .long), (cs 3, .object RX5), (cs 4, .object RX4), (cs 5, .array .int), (cs 6, .char), (cs 7, .boolean)] t) (fun q => q ∈ L)) 0 0 (fun q => q ∈ L) := by
  refine Met.ofW (cc := cX3_readPiece) (maxL := 2) (ret := (some .boolean)) (by decide) rfl ?_
  intro p e s m args below meth c s₁ B hml hv
  obtain ⟨rfl, ⟨hsz, hP, hK, hD, hN⟩, hZ⟩ := hv
  have hx := B.exec
  have hb := B.bytes
  have hr := B.returns
  have hts : ∀ w ∈ T0, w.before _ s = true := fun w h => atoms_spec (ws := Cond.code yX3_readPiece cX3_readPiece 2 (some .boolean) :: T0) B.pre w (List.mem_cons_of_mem _ h)
  have hown : s.vm.findClass RX3 = some m.cls := findClass_of_methodNamed B.named
  have hlocks := B.notSynchronized
  have hS : va_S (fun q => q ∈ L) s.heap s.heap [] := va_S.rf
  have hfr : ∀ b, K b ∉ [4, 8, 21, 24, 43] → F b = F b := fun _ _ => rfl
  have hl := lv_entry ([.ref a0, .int x1]) (n := 2) (Nat.le_of_ble_eq_true rfl)
  rw [lg_entry_eq]
  generalize (lg_sl ([.ref a0, .int x1]) ++ List.replicate (2 - (lg_sl ([.ref a0, .int x1])).length) Slot.unset).toArray = ls at hl ⊢
  have hl : lv_has ls 2 [(0, .ref a0), (1, .int x1)] := hl
  refine s_gen hP hS (fun H locs hP hS => ?_)
  obtain ⟨z1, z3, z5, z7, z10, z13, z14, z16, z18, z19, z20, z22, z23, o25, h2, h4, h6, h8, h9, h11, h12, h15, h17, h21, h24, -⟩ := hR
  have hLn : ∀ vs, F qq = .inr (2, vs) → ∃ vs2, F qq = .inr (2, vs2) ∧ vs2[3]? = vs[3]? := fun vs q => ⟨vs, q, rfl⟩
  refine th_join (fun g H locs => ∃ (G : Nat → va_E) (ls : Array Slot), g = F0 m 365 ls [] ∧ lv_has ls 2 [(0, .ref a0)] ∧ s_I K cs D G ∧ va_P (dC, dI) vwCl (va_pl L G) H ∧ va_S (fun q => q ∈ L) s.heap H locs ∧ (∀ b, K b ∉ [4, 8, 21, 24, 43] → G b = F b) ∧ (∀ vs z, G a0 = .inr (3, vs) → vs[13]? = some (.int z) → z.toInt = 0 → s_QG cs G qq 0) ∧ (∀ vs, F qq = .inr (2, vs) → ∃ vs2, G qq = .inr (2, vs2) ∧ vs2[3]? = vs[3]?) ∧ s_rd4 K G a0 tt qq) (fun K365 => ?_) ?_
  · refine lv_iload_n hx hb dX3_readPiece_0 rfl (lv_at hl 1 rfl) ?_
    by_cases c26 : x1 = 65
    · refine ax_eqi c26 ?_
      refine lv_tableIn (off := 131) (tgt := 132) hx hb dX3_readPiece_1 (by decide) (by decide) (by decide) (by decide) ?_
      have c26 := (ax_eq (n := 65) (by decide)).mp c26
      refine lv_aload_n hx hb dX3_readPiece_132 rfl (lv_at hl 0 rfl) ?_
      have hq : s_QG cs F qq 0 := hQ.resolve_right (fun q => by omega)
      refine lv_aload_n hx hb dX3_readPiece_133 rfl (lv_at hl 0 rfl) ?_
      refine lv_iconst (v := 0) hx hb dX3_readPiece_134 (by decide) ?_
      refine lv_bipush (v := 63) hx hb dX3_readPiece_135 (by decide) ?_
      have hIq := hI
      refine va_calli (va_runV (As := [.int 0, .int 63]) (rest := [.ref a0]) ⟨hx, hb, hml, hown, hts⟩ (s_X3_readNumber l dC dI H.size hLK D adK adV tf F a0 0 63 ha0 (by decide) (by decide) hI tt qq ⟨z1, z3, z5, z7, z10, z13, z14, z16, z18, z19, z20, z22, z23, o25, h2, h4, h6, h8, h9, ⟨by omega, by omega⟩, h12, ⟨by omega, by omega⟩, ⟨by omega, by omega⟩, ⟨by omega, by omega⟩, (fun q => by first | omega | exact absurd q (by decide)), trivial⟩) (cwV 2 hts (ax_gV T_786 T_788 T_789 T_163 T_787) rfl rfl rfl (by decide +kernel) ⟨Nat.le_of_ble_eq_true rfl, Nat.le_of_ble_eq_true rfl⟩) ⟨fun a U g mk q => ⟨q.1, s_pc (U := U) rfl rfl q.2.1, s_pcZ (U := U) rfl rfl q.2.2⟩, s_recv hK hP (hLK _ ha0 (by decide)) (ci := 3) rfl o25, fun U hU hW => ⟨rfl, s_pw hU hW hP hK hD hN, s_pwZ hU hW hS hZ⟩⟩ rfl rfl hl.1 rfl (lv_room (Nat.le_of_ble_eq_true rfl)) dX3_readPiece_137 ⟨Nat.zero_le _, Nat.zero_le _⟩) hS (fun q _ h => h) (fun q h => h) (fun r27 F28 t H1 locs ht hvm hw hB hz1 hk1 hS => ?_)
      obtain ⟨hP, hK1⟩ := hB
      rw [ht] at hP
      generalize H1 = H at hP hS ⊢
      clear hz1 hk1
      obtain ⟨h29, h30, hI, hfr1, h31⟩ := hw
      have hq := s_QGt hIq h12 (fun b hb9 => hfr1 b (by rcases hb9 with q | q | q <;> (rw [q]; decide))) hq
      have hLn : ∀ vs, F qq = .inr (2, vs) → ∃ vs2, F28 qq = .inr (2, vs2) ∧ vs2[3]? = vs[3]? := fun vs q => by obtain ⟨w, h1, h2⟩ := hLn vs q; exact ⟨w, (hfr1 _ (by rw [h12]; decide)).trans h1, h2⟩
      have hfr : ∀ b, K b ∉ [4, 8, 21, 24, 43] → F28 b = F b := fun b hb9 => (hfr1 b (fun q => hb9 (s_sub (by decide) q))).trans (hfr b hb9)
      obtain ⟨h30, h32⟩ := h30
      have h32 : (r27.toInt = -1 ∨ (0 ≤ r27.toInt ∧ r27.toInt ≤ 63)) := h32
      obtain ⟨z33, z35, z37, z39, z42, z45, z46, z48, z50, z51, z52, z54, z55, o57, h34, h36, h38, h40, h41, h43, h44, h47, h49, h53, h56, -⟩ := h31
      refine th_put (D := (dC, dI)) (ci := 3) (v := .int r27) (ty := .int) (C := RX3) (T := TX3) (N := 15) hx hb hts inX3 tyX3 tyX3_ok nmX3 hown hK hP hD hS (hLK _ ha0 (by decide)) o57 rfl 12 (by decide) (hts _ T_790) (fun _ h9 => h9) rfl (by decide +kernel) rfl rfl (Nat.le_of_ble_eq_true rfl) dX3_readPiece_140 (fun H locs hP hS => ?_)
      have hIq := hI
      have hP : va_P (dC, dI) vwCl (va_pl L (va_up F28 a0 (.inr (3, [.ref z33, .ref z35, .ref z37, .ref z39, .ref tt, .int z42, .ref qq, .int z45, .int z46, .int z48, .int z50, .int z51, .int r27, .int z54, .int z55])))) H := hP
      obtain ⟨F58, hF59⟩ : ∃ G : Nat → va_E, G = va_up F28 a0 (.inr (3, [.ref z33, .ref z35, .ref z37, .ref z39, .ref tt, .int z42, .ref qq, .int z45, .int z46, .int z48, .int z50, .int z51, .int r27, .int z54, .int z55])) := ⟨_, rfl⟩
      rw [← hF59] at hP
      have hI : s_I K cs D F58 := by rw [hF59]; exact s_cl4 hI ha0 ⟨z33, z35, z37, z39, some tt, z42, some qq, z45, z46, z48, z50, z51, r27, z54, z55, rfl, h34, h36, h38, h40, (fun q e => by cases e; exact h41), ⟨by omega, by omega⟩, ⟨by omega, by omega⟩, ⟨by omega, by omega⟩, ⟨by omega, by omega⟩, trivial⟩
      have hfr : ∀ b, K b ∉ [4, 8, 21, 24, 43] → F58 b = F b := by rw [hF59]; exact s_fr hfr ha0 (by decide)
      have hq := s_QGo hIq h44 ha0 (by decide) hF59 hq
      have hLn : ∀ vs, F qq = .inr (2, vs) → ∃ vs2, F58 qq = .inr (2, vs2) ∧ vs2[3]? = vs[3]? := fun vs q => by obtain ⟨w, h1, h2⟩ := hLn vs q; exact ⟨w, by rw [hF59]; exact th_ne (th_kd h44 ha0 (by decide)) h1, h2⟩
      have o60 : F58 a0 = .inr (3, [.ref z33, .ref z35, .ref z37, .ref z39, .ref tt, .int z42, .ref qq, .int z45, .int z46, .int z48, .int z50, .int z51, .int r27, .int z54, .int z55]) := by rw [hF59]; exact th_up
      refine lv_goto (tgt := 365) hx hb dX3_readPiece_143 (by decide) ?_
      exact K365 _ _ _ ⟨F58, _, rfl, lv_sub hl [0] rfl, hI, hP, hS, hfr, (fun vs z q q2 q3 => hq), hLn, ⟨z33, z35, z37, z39, z42, z45, z46, z48, z50, z51, r27, z54, z55, o60, h34, h36, h38, h40, h41, ⟨by omega, by omega⟩, h44, ⟨by omega, by omega⟩, ⟨by omega, by omega⟩, ⟨by omega, by omega⟩, (fun q => by first | omega | exact absurd q (by decide)), trivial⟩⟩
    · have c26 := mt (ax_eq (n := 65) (by decide)).mpr c26
      by_cases c61 : x1 = 71
      · refine ax_eqi c61 ?_
        refine lv_tableIn (off := 289) (tgt := 290) hx hb dX3_readPiece_1 (by decide) (by decide) (by decide) (by decide) ?_
        have c61 := (ax_eq (n := 71) (by decide)).mp c61
        refine lv_aload_n hx hb dX3_readPiece_290 rfl (lv_at hl 0 rfl) ?_
        have hq : s_QG cs F qq 0 := hQ.resolve_right (fun q => by omega)
        obtain ⟨z62, z64, z66, z68, z70, z72, z73, o74, h63, h65, h67, h69, h71, -⟩ := s_op8 hI h12
        have hl9 := hG1 (by omega) _ _ o74 rfl
        refine th_get (D := (dC, dI)) (ci := 3) (v := .ref z5) (C := RX3) (T := TX3) (N := 15) hx hb hts inX3 hown hK hP (hLK _ ha0 (by decide)) o25 rfl 2 (by decide) (hts _ T_131) (fun _ h9 => h9) rfl dX3_readPiece_291 ?_
        refine lv_aload_n hx hb dX3_readPiece_294 rfl (lv_at hl 0 rfl) ?_
        refine th_get (D := (dC, dI)) (ci := 3) (v := .ref qq) (C := RX3) (T := TX3) (N := 15) hx hb hts inX3 hown hK hP (hLK _ ha0 (by decide)) o25 rfl 6 (by decide) (hts _ T_211) (fun _ h9 => h9) rfl dX3_readPiece_295 ?_
        refine th_getN (D := (dC, dI)) (ci := 2) (v := .int z68) (C := RX2) (T := TX2) (N := 7) hx hb hts inX2 hown hK hP (hLK _ h12 (by decide)) o74 rfl 3 (by decide) (va_Nw.use rfl (ax_n9 hN)) (fun _ h9 => h9) rfl dX3_readPiece_298 ?_
        refine lv_iconst (v := 1) hx hb dX3_readPiece_301 (by decide) ?_
        refine lv_isub hx hb dX3_readPiece_302 ?_
        refine lv_topi (fun v75 ev75 => ?_)
        have qv75 : v75.toInt = z68.toInt - 1 := by rw [ev75]; exact th_sub rfl (by decide) ⟨by omega, by omega⟩
        refine lv_aload_n hx hb dX3_readPiece_303 rfl (lv_at hl 0 rfl) ?_
        refine th_get (D := (dC, dI)) (ci := 3) (v := .int z14) (C := RX3) (T := TX3) (N := 15) hx hb hts inX3 hown hK hP (hLK _ ha0 (by decide)) o25 rfl 8 (by decide) (hts _ T_206) (fun _ h9 => h9) rfl dX3_readPiece_304 ?_
        obtain ⟨f76, o77, h78⟩ := s_op21 hI h6
        refine th_iast hx hb hK hP hD hS (hLK _ h6 (by decide)) 0 o77 rfl (th_in ⟨by omega, by omega⟩) dX3_readPiece_307 (fun H locs hP hS => ?_)
        have hIq := hI
        have hP : va_P (dC, dI) vwCl (va_pl L (va_up F z5 (.inl (cs 0, 40, .inl (upd f76 (v75 : Int32).toNatClampNeg z14))))) H := hP
        obtain ⟨F79, hF80⟩ : ∃ G : Nat → va_E, G = va_up F z5 (.inl (cs 0, 40, .inl (upd f76 (v75 : Int32).toNatClampNeg z14))) := ⟨_, rfl⟩
        rw [← hF80] at hP
        have hI : s_I K cs D F79 := by rw [hF80]; exact s_cl21 hI h6 ⟨_, rfl, (th_updB h78 ⟨by omega, by omega⟩)⟩
        have hfr : ∀ b, K b ∉ [4, 8, 21, 24, 43] → F79 b = F b := by rw [hF80]; exact s_fr hfr h6 (by decide)
        have o81 : F79 a0 = .inr (3, [.ref z1, .ref z3, .ref z5, .ref z7, .ref tt, .int z10, .ref qq, .int z13, .int z14, .int z16, .int z18, .int z19, .int z20, .int z22, .int z23]) := by rw [hF80]; exact th_ne (th_kd ha0 h6 (by decide)) o25
        have o82 : F79 qq = .inr (2, [.ref z62, .ref z64, .ref z66, .int z68, .int z70, .int z72, .int z73]) := by rw [hF80]; exact th_ne (th_kd h12 h6 (by decide)) o74
        have hq := s_QGo hIq h12 h6 (by decide) hF80 hq
        have hLn : ∀ vs, F qq = .inr (2, vs) → ∃ vs2, F79 qq = .inr (2, vs2) ∧ vs2[3]? = vs[3]? := fun vs q => by obtain ⟨w, h1, h2⟩ := hLn vs q; exact ⟨w, by rw [hF80]; exact th_ne (th_kd h12 h6 (by decide)) h1, h2⟩
        refine lv_aload_n hx hb dX3_readPiece_308 rfl (lv_at hl 0 rfl) ?_
        refine th_get (D := (dC, dI)) (ci := 3) (v := .ref z7) (C := RX3) (T := TX3) (N := 15) hx hb hts inX3 hown hK hP (hLK _ ha0 (by decide)) o81 rfl 3 (by decide) (hts _ T_132) (fun _ h9 => h9) rfl dX3_readPiece_309 ?_
        refine lv_aload_n hx hb dX3_readPiece_312 rfl (lv_at hl 0 rfl) ?_
        refine th_get (D := (dC, dI)) (ci := 3) (v := .ref qq) (C := RX3) (T := TX3) (N := 15) hx hb hts inX3 hown hK hP (hLK _ ha0 (by decide)) o81 rfl 6 (by decide) (hts _ T_211) (fun _ h9 => h9) rfl dX3_readPiece_313 ?_
        refine th_getN (D := (dC, dI)) (ci := 2) (v := .int z68) (C := RX2) (T := TX2) (N := 7) hx hb hts inX2 hown hK hP (hLK _ h12 (by decide)) o82 rfl 3 (by decide) (va_Nw.use rfl (ax_n9 hN)) (fun _ h9 => h9) rfl dX3_readPiece_316 ?_
        refine lv_iconst (v := 1) hx hb dX3_readPiece_319 (by decide) ?_
        refine lv_isub hx hb dX3_readPiece_320 ?_
        refine lv_topi (fun v83 ev83 => ?_)
        have qv83 : v83.toInt = z68.toInt - 1 := by rw [ev83]; exact th_sub rfl (by decide) ⟨by omega, by omega⟩
        refine lv_aload_n hx hb dX3_readPiece_321 rfl (lv_at hl 0 rfl) ?_
        refine th_get (D := (dC, dI)) (ci := 3) (v := .int z16) (C := RX3) (T := TX3) (N := 15) hx hb hts inX3 hown hK hP (hLK _ ha0 (by decide)) o81 rfl 9 (by decide) (hts _ T_205) (fun _ h9 => h9) rfl dX3_readPiece_322 ?_
        obtain ⟨f84, o85, h86⟩ := s_op21 hI h8
        refine th_iast hx hb hK hP hD hS (hLK _ h8 (by decide)) 0 o85 rfl (th_in ⟨by omega, by omega⟩) dX3_readPiece_325 (fun H locs hP hS => ?_)
        have hIq := hI
        have hP : va_P (dC, dI) vwCl (va_pl L (va_up F79 z7 (.inl (cs 0, 40, .inl (upd f84 (v83 : Int32).toNatClampNeg z16))))) H := hP
        obtain ⟨F87, hF88⟩ : ∃ G : Nat → va_E, G = va_up F79 z7 (.inl (cs 0, 40, .inl (upd f84 (v83 : Int32).toNatClampNeg z16))) := ⟨_, rfl⟩
        rw [← hF88] at hP
        have hI : s_I K cs D F87 := by rw [hF88]; exact s_cl21 hI h8 ⟨_, rfl, (th_updB h86 ⟨by omega, by omega⟩)⟩
        have hfr : ∀ b, K b ∉ [4, 8, 21, 24, 43] → F87 b = F b := by rw [hF88]; exact s_fr hfr h8 (by decide)
        have o89 : F87 a0 = .inr (3, [.ref z1, .ref z3, .ref z5, .ref z7, .ref tt, .int z10, .ref qq, .int z13, .int z14, .int z16, .int z18, .int z19, .int z20, .int z22, .int z23]) := by rw [hF88]; exact th_ne (th_kd ha0 h8 (by decide)) o81
        have o90 : F87 qq = .inr (2, [.ref z62, .ref z64, .ref z66, .int z68, .int z70, .int z72, .int z73]) := by rw [hF88]; exact th_ne (th_kd h12 h8 (by decide)) o82
        have hq := s_QGo hIq h12 h8 (by decide) hF88 hq
        have hLn : ∀ vs, F qq = .inr (2, vs) → ∃ vs2, F87 qq = .inr (2, vs2) ∧ vs2[3]? = vs[3]? := fun vs q => by obtain ⟨w, h1, h2⟩ := hLn vs q; exact ⟨w, by rw [hF88]; exact th_ne (th_kd h12 h8 (by decide)) h1, h2⟩
        refine lv_aload_n hx hb dX3_readPiece_326 rfl (lv_at hl 0 rfl) ?_
        have hIq := hI
        refine va_calli (va_runV (As := []) (rest := []) ⟨hx, hb, hml, hown, hts⟩ (s_X3_readName l dC dI H.size hLK D adK adV tf F87 a0 ha0 hI tt qq ⟨z1, z3, z5, z7, z10, z13, z14, z16, z18, z19, z20, z22, z23, o89, h2, h4, h6, h8, h9, ⟨by omega, by omega⟩, h12, ⟨by omega, by omega⟩, ⟨by omega, by omega⟩, ⟨by omega, by omega⟩, (fun q => by first | omega | exact absurd q (by decide)), trivial⟩) (cwV 0 hts (ax_gV T_757 T_759 T_760 T_163 T_758) rfl rfl rfl (by decide +kernel) ⟨Nat.le_of_ble_eq_true rfl, Nat.le_of_ble_eq_true rfl⟩) ⟨fun a U g mk q => ⟨q.1, s_pc (U := U) rfl rfl q.2.1, s_pcZ (U := U) rfl rfl q.2.2⟩, s_recv hK hP (hLK _ ha0 (by decide)) (ci := 3) rfl o89, fun U hU hW => ⟨rfl, s_pw hU hW hP hK hD hN, s_pwZ hU hW hS hZ⟩⟩ rfl rfl hl.1 rfl (lv_room (Nat.le_of_ble_eq_true rfl)) dX3_readPiece_327 ⟨Nat.zero_le _, Nat.zero_le _⟩) hS (fun q _ h => h) (fun q h => h) (fun r91 F92 t H1 locs ht hvm hw hB hz1 hk1 hS => ?_)
        obtain ⟨hP, hK1⟩ := hB
        rw [ht] at hP
        generalize H1 = H at hP hS ⊢
        clear hz1 hk1
        obtain ⟨h93, h94, hI, hfr1, h95⟩ := hw
        have o96 : F92 qq = .inr (2, [.ref z62, .ref z64, .ref z66, .int z68, .int z70, .int z72, .int z73]) := (hfr1 _ (by rw [h12]; decide)).trans o90
        have hq := s_QGt hIq h12 (fun b hb9 => hfr1 b (by rcases hb9 with q | q | q <;> (rw [q]; decide))) hq
        have hLn : ∀ vs, F qq = .inr (2, vs) → ∃ vs2, F92 qq = .inr (2, vs2) ∧ vs2[3]? = vs[3]? := fun vs q => by obtain ⟨w, h1, h2⟩ := hLn vs q; exact ⟨w, (hfr1 _ (by rw [h12]; decide)).trans h1, h2⟩
        have hfr : ∀ b, K b ∉ [4, 8, 21, 24, 43] → F92 b = F b := fun b hb9 => (hfr1 b (fun q => hb9 (s_sub (by decide) q))).trans (hfr b hb9)
        obtain ⟨z97, z99, z101, z103, z106, z109, z110, z112, z114, z115, z116, z118, z119, o121, h98, h100, h102, h104, h105, h107, h108, h111, h113, h117, h120, -⟩ := h95
        exact W.zret (v := r91) (ty := .boolean) hx hb hr (th_nz ⟨by omega, by omega⟩) (fun t ht hW => ⟨⟨r91, F92, rfl, ⟨⟨by omega, by omega⟩, ⟨trivial, ⟨fun _ => hq, hLn⟩⟩, hI, hfr, ⟨z97, z99, z101, z103, z106, z109, z110, z112, z114, z115, z116, z118, z119, o121, h98, h100, h102, h104, h105, ⟨by omega, by omega⟩, h108, ⟨by omega, by omega⟩, ⟨by omega, by omega⟩, ⟨by omega, by omega⟩, (fun q => by first | omega | exact absurd q (by decide)), trivial⟩⟩, by rw [ht]; exact hP, va_K.moved hW.alike hK⟩, hS.F ht⟩) hS.2.2 dX3_readPiece_330
      · have c61 := mt (ax_eq (n := 71) (by decide)).mpr c61
        by_cases c122 : x1 = 73
        · refine ax_eqi c122 ?_
          refine lv_tableIn (off := 330) (tgt := 331) hx hb dX3_readPiece_1 (by decide) (by decide) (by decide) (by decide) ?_
          have c122 := (ax_eq (n := 73) (by decide)).mp c122
          refine lv_aload_n hx hb dX3_readPiece_331 rfl (lv_at hl 0 rfl) ?_
          have hq : s_QG cs F qq 0 := hQ.resolve_right (fun q => by omega)
          refine lv_bipush (v := 24) hx hb dX3_readPiece_332 (by decide) ?_
          refine lv_bipush (v := 24) hx hb dX3_readPiece_334 (by decide) ?_
          have hIq := hI
          refine va_calli (va_runV (As := [.int 24, .int 24]) (rest := []) ⟨hx, hb, hml, hown, hts⟩ (s_X3_readOwn l dC dI H.size hLK D adK adV tf F a0 24 24 ha0 (by decide) (by decide) hI tt qq ⟨z1, z3, z5, z7, z10, z13, z14, z16, z18, z19, z20, z22, z23, o25, h2, h4, h6, h8, h9, ⟨by omega, by omega⟩, h12, ⟨by omega, by omega⟩, ⟨by omega, by omega⟩, ⟨by omega, by omega⟩, (fun q => by first | omega | exact absurd q (by decide)), trivial⟩) (cwV 2 hts (ax_gV T_792 T_794 T_795 T_163 T_793) rfl rfl rfl (by decide +kernel) ⟨Nat.le_of_ble_eq_true rfl, Nat.le_of_ble_eq_true rfl⟩) ⟨fun a U g mk q => ⟨q.1, s_pc (U := U) rfl rfl q.2.1, s_pcZ (U := U) rfl rfl q.2.2⟩, s_recv hK hP (hLK _ ha0 (by decide)) (ci := 3) rfl o25, fun U hU hW => ⟨rfl, s_pw hU hW hP hK hD hN, s_pwZ hU hW hS hZ⟩⟩ rfl rfl hl.1 rfl (lv_room (Nat.le_of_ble_eq_true rfl)) dX3_readPiece_336 ⟨Nat.zero_le _, Nat.zero_le _⟩) hS (fun q _ h => h) (fun q h => h) (fun r123 F124 t H1 locs ht hvm hw hB hz1 hk1 hS => ?_)
          obtain ⟨hP, hK1⟩ := hB
          rw [ht] at hP
          generalize H1 = H at hP hS ⊢
          clear hz1 hk1
          obtain ⟨h125, h126, hI, hfr1, h127⟩ := hw
          have hq := s_QGt hIq h12 (fun b hb9 => hfr1 b (by rcases hb9 with q | q | q <;> (rw [q]; decide))) hq
          have hLn : ∀ vs, F qq = .inr (2, vs) → ∃ vs2, F124 qq = .inr (2, vs2) ∧ vs2[3]? = vs[3]? := fun vs q => by obtain ⟨w, h1, h2⟩ := hLn vs q; exact ⟨w, (hfr1 _ (by rw [h12]; decide)).trans h1, h2⟩
          have hfr : ∀ b, K b ∉ [4, 8, 21, 24, 43] → F124 b = F b := fun b hb9 => (hfr1 b (fun q => hb9 (s_sub (by decide) q))).trans (hfr b hb9)
          obtain ⟨h126, h128⟩ := h126
          have h128 : ((r123.toInt = -1 ∧ ∀ vs z, F124 a0 = .inr (3, vs) → vs[13]? = some (.int z) → ¬ z.toInt = 0) ∨ (24 ≤ r123.toInt ∧ r123.toInt ≤ 24)) := h128
          obtain ⟨z129, z131, z133, z135, z138, z141, z142, z144, z146, z147, z148, z150, z151, o153, h130, h132, h134, h136, h137, h139, h140, h143, h145, h149, h152, -⟩ := h127
          refine lv_pop hx hb dX3_readPiece_339 rfl ?_
          refine lv_goto (tgt := 365) hx hb dX3_readPiece_340 (by decide) ?_
          exact K365 _ _ _ ⟨F124, _, rfl, lv_sub hl [0] rfl, hI, hP, hS, hfr, (fun vs z q q2 q3 => hq), hLn, ⟨z129, z131, z133, z135, z138, z141, z142, z144, z146, z147, z148, z150, z151, o153, h130, h132, h134, h136, h137, ⟨by omega, by omega⟩, h140, ⟨by omega, by omega⟩, ⟨by omega, by omega⟩, ⟨by omega, by omega⟩, (fun q => by first | omega | exact absurd q (by decide)), trivial⟩⟩
        · have c122 := mt (ax_eq (n := 73) (by decide)).mpr c122
          by_cases c154 : x1 = 77
          · refine ax_eqi c154 ?_
            refine lv_tableIn (off := 172) (tgt := 173) hx hb dX3_readPiece_1 (by decide) (by decide) (by decide) (by decide) ?_
            have c154 := (ax_eq (n := 77) (by decide)).mp c154
            refine lv_aload_n hx hb dX3_readPiece_173 rfl (lv_at hl 0 rfl) ?_
            have hq : s_QG cs F qq 0 := hQ.resolve_right (fun q => by omega)
            refine th_get (D := (dC, dI)) (ci := 3) (v := .ref qq) (C := RX3) (T := TX3) (N := 15) hx hb hts inX3 hown hK hP (hLK _ ha0 (by decide)) o25 rfl 6 (by decide) (hts _ T_211) (fun _ h9 => h9) rfl dX3_readPiece_174 ?_
            refine lv_aload_n hx hb dX3_readPiece_177 rfl (lv_at hl 0 rfl) ?_
            refine lv_bipush (v := 19) hx hb dX3_readPiece_178 (by decide) ?_
            refine lv_bipush (v := 20) hx hb dX3_readPiece_180 (by decide) ?_
            have hIq := hI
            refine va_calli (va_runV (As := [.int 19, .int 20]) (rest := [.ref qq]) ⟨hx, hb, hml, hown, hts⟩ (s_X3_readOwn l dC dI H.size hLK D adK adV tf F a0 19 20 ha0 (by decide) (by decide) hI tt qq ⟨z1, z3, z5, z7, z10, z13, z14, z16, z18, z19, z20, z22, z23, o25, h2, h4, h6, h8, h9, ⟨by omega, by omega⟩, h12, ⟨by omega, by omega⟩, ⟨by omega, by omega⟩, ⟨by omega, by omega⟩, (fun q => by first | omega | exact absurd q (by decide)), trivial⟩) (cwV 2 hts (ax_gV T_792 T_794 T_795 T_163 T_793) rfl rfl rfl (by decide +kernel) ⟨Nat.le_of_ble_eq_true rfl, Nat.le_of_ble_eq_true rfl⟩) ⟨fun a U g mk q => ⟨q.1, s_pc (U := U) rfl rfl q.2.1, s_pcZ (U := U) rfl rfl q.2.2⟩, s_recv hK hP (hLK _ ha0 (by decide)) (ci := 3) rfl o25, fun U hU hW => ⟨rfl, s_pw hU hW hP hK hD hN, s_pwZ hU hW hS hZ⟩⟩ rfl rfl hl.1 rfl (lv_room (Nat.le_of_ble_eq_true rfl)) dX3_readPiece_182 ⟨Nat.zero_le _, Nat.zero_le _⟩) hS (fun q _ h => h) (fun q h => h) (fun r155 F156 t H1 locs ht hvm hw hB hz1 hk1 hS => ?_)
            obtain ⟨hP, hK1⟩ := hB
            rw [ht] at hP
            generalize H1 = H at hP hS ⊢
            clear hz1 hk1
            obtain ⟨h157, h158, hI, hfr1, h159⟩ := hw
            have hq := s_QGt hIq h12 (fun b hb9 => hfr1 b (by rcases hb9 with q | q | q <;> (rw [q]; decide))) hq
            have hLn : ∀ vs, F qq = .inr (2, vs) → ∃ vs2, F156 qq = .inr (2, vs2) ∧ vs2[3]? = vs[3]? := fun vs q => by obtain ⟨w, h1, h2⟩ := hLn vs q; exact ⟨w, (hfr1 _ (by rw [h12]; decide)).trans h1, h2⟩
            have hfr : ∀ b, K b ∉ [4, 8, 21, 24, 43] → F156 b = F b := fun b hb9 => (hfr1 b (fun q => hb9 (s_sub (by decide) q))).trans (hfr b hb9)
            obtain ⟨h158, h160⟩ := h158
            have h160 : ((r155.toInt = -1 ∧ ∀ vs z, F156 a0 = .inr (3, vs) → vs[13]? = some (.int z) → ¬ z.toInt = 0) ∨ (19 ≤ r155.toInt ∧ r155.toInt ≤ 20)) := h160
            obtain ⟨z161, z163, z165, z167, z170, z173, z174, z176, z178, z179, z180, z182, z183, o185, h162, h164, h166, h168, h169, h171, h172, h175, h177, h181, h184, -⟩ := h159
            have hro2 : ¬ z182.toInt = 0 ∨ (19 ≤ r155.toInt ∧ r155.toInt ≤ 20) := h160.elim (fun w => Or.inl (w.2 _ _ o185 rfl)) (fun w => Or.inr w)
            refine lv_bipush (v := 19) hx hb dX3_readPiece_185 (by decide) ?_
            refine lv_isub hx hb dX3_readPiece_187 ?_
            refine lv_topi (fun v186 ev186 => ?_)
            have qv186 : v186.toInt = r155.toInt - 19 := by rw [ev186]; exact th_sub rfl (by decide) ⟨by omega, by omega⟩
            obtain ⟨z187, z189, z191, z193, z195, z197, z198, o199, h188, h190, h192, h194, h196, -⟩ := s_op8 hI h12
            refine th_putN (D := (dC, dI)) (ci := 2) (v := .int v186) (ty := .int) (C := RX2) (T := TX2) (N := 7) hx hb hts inX2 tyX2 tyX2_ok nmX2 hown hK hP hD hS (hLK _ h12 (by decide)) o199 rfl 5 (by decide) (va_Nw.use rfl (ax_n42 hN)) (fun _ h9 => h9) rfl (by decide +kernel) rfl rfl (Nat.le_of_ble_eq_true rfl) dX3_readPiece_188 (fun H locs hP hS => ?_)
            have hIq := hI
            have hP : va_P (dC, dI) vwCl (va_pl L (va_up F156 qq (.inr (2, [.ref z187, .ref z189, .ref z191, .int z193, .int z195, .int v186, .int z198])))) H := hP
            obtain ⟨F200, hF201⟩ : ∃ G : Nat → va_E, G = va_up F156 qq (.inr (2, [.ref z187, .ref z189, .ref z191, .int z193, .int z195, .int v186, .int z198])) := ⟨_, rfl⟩
            rw [← hF201] at hP
            have hI : s_I K cs D F200 := by rw [hF201]; exact s_cl8 hI h12 ⟨z187, z189, z191, z193, z195, v186, z198, rfl, h188, h190, h192, ⟨by omega, by omega⟩, ⟨by omega, by omega⟩, trivial⟩
            have hfr : ∀ b, K b ∉ [4, 8, 21, 24, 43] → F200 b = F b := by rw [hF201]; exact s_fr hfr h12 (by decide)
            have o202 : F200 a0 = .inr (3, [.ref z161, .ref z163, .ref z165, .ref z167, .ref tt, .int z170, .ref qq, .int z173, .int z174, .int z176, .int z178, .int z179, .int z180, .int z182, .int z183]) := by rw [hF201]; exact th_ne (th_kd ha0 h12 (by decide)) o185
            have hqR : (0 ≤ v186.toInt ∧ v186.toInt ≤ 1) → s_QG cs F200 qq 0 := fun hv9 => s_QGq hIq h172 o199 hF201 rfl rfl (fun z9 h9 => h9.elim (fun e9 => Or.inr (by have e8 : some (Value.int v186) = some (.int z9) := e9; cases e8; exact hv9)) (fun e9 => Or.inl (Or.inr e9))) hq
            have hLn : ∀ vs, F qq = .inr (2, vs) → ∃ vs2, F200 qq = .inr (2, vs2) ∧ vs2[3]? = vs[3]? := fun vs q => by obtain ⟨w, h1, h2⟩ := hLn vs q; rw [o199] at h1; cases h1; exact ⟨_, (congrFun hF201 _).trans th_up, h2⟩
            have o203 : F200 qq = .inr (2, [.ref z187, .ref z189, .ref z191, .int z193, .int z195, .int v186, .int z198]) := by rw [hF201]; exact th_up
            refine lv_goto (tgt := 365) hx hb dX3_readPiece_191 (by decide) ?_
            exact K365 _ _ _ ⟨F200, _, rfl, lv_sub hl [0] rfl, hI, hP, hS, hfr, (fun vs z q q2 q3 => by rw [o202] at q; cases q; cases q2; exact hqR (by omega)), hLn, ⟨z161, z163, z165, z167, z170, z173, z174, z176, z178, z179, z180, z182, z183, o202, h162, h164, h166, h168, h169, ⟨by omega, by omega⟩, h172, ⟨by omega, by omega⟩, ⟨by omega, by omega⟩, ⟨by omega, by omega⟩, (fun q => by first | omega | exact absurd q (by decide)), trivial⟩⟩
          · have c154 := mt (ax_eq (n := 77) (by decide)).mpr c154
            by_cases c204 : x1 = 79
            · refine ax_eqi c204 ?_
              refine lv_tableIn (off := 193) (tgt := 194) hx hb dX3_readPiece_1 (by decide) (by decide) (by decide) (by decide) ?_
              have c204 := (ax_eq (n := 79) (by decide)).mp c204
              refine lv_aload_n hx hb dX3_readPiece_194 rfl (lv_at hl 0 rfl) ?_
              have hq : s_QG cs F qq 0 := hQ.resolve_right (fun q => by omega)
              refine th_get (D := (dC, dI)) (ci := 3) (v := .ref qq) (C := RX3) (T := TX3) (N := 15) hx hb hts inX3 hown hK hP (hLK _ ha0 (by decide)) o25 rfl 6 (by decide) (hts _ T_211) (fun _ h9 => h9) rfl dX3_readPiece_195 ?_
              refine lv_aload_n hx hb dX3_readPiece_198 rfl (lv_at hl 0 rfl) ?_
              refine lv_bipush (v := 22) hx hb dX3_readPiece_199 (by decide) ?_
              refine lv_bipush (v := 23) hx hb dX3_readPiece_201 (by decide) ?_
              have hIq := hI
              refine va_calli (va_runV (As := [.int 22, .int 23]) (rest := [.ref qq]) ⟨hx, hb, hml, hown, hts⟩ (s_X3_readOwn l dC dI H.size hLK D adK adV tf F a0 22 23 ha0 (by decide) (by decide) hI tt qq ⟨z1, z3, z5, z7, z10, z13, z14, z16, z18, z19, z20, z22, z23, o25, h2, h4, h6, h8, h9, ⟨by omega, by omega⟩, h12, ⟨by omega, by omega⟩, ⟨by omega, by omega⟩, ⟨by omega, by omega⟩, (fun q => by first | omega | exact absurd q (by decide)), trivial⟩) (cwV 2 hts (ax_gV T_792 T_794 T_795 T_163 T_793) rfl rfl rfl (by decide +kernel) ⟨Nat.le_of_ble_eq_true rfl, Nat.le_of_ble_eq_true rfl⟩) ⟨fun a U g mk q => ⟨q.1, s_pc (U := U) rfl rfl q.2.1, s_pcZ (U := U) rfl rfl q.2.2⟩, s_recv hK hP (hLK _ ha0 (by decide)) (ci := 3) rfl o25, fun U hU hW => ⟨rfl, s_pw hU hW hP hK hD hN, s_pwZ hU hW hS hZ⟩⟩ rfl rfl hl.1 rfl (lv_room (Nat.le_of_ble_eq_true rfl)) dX3_readPiece_203 ⟨Nat.zero_le _, Nat.zero_le _⟩) hS (fun q _ h => h) (fun q h => h) (fun r205 F206 t H1 locs ht hvm hw hB hz1 hk1 hS => ?_)
              obtain ⟨hP, hK1⟩ := hB
              rw [ht] at hP
              generalize H1 = H at hP hS ⊢
              clear hz1 hk1
              obtain ⟨h207, h208, hI, hfr1, h209⟩ := hw
              have hq := s_QGt hIq h12 (fun b hb9 => hfr1 b (by rcases hb9 with q | q | q <;> (rw [q]; decide))) hq
              have hLn : ∀ vs, F qq = .inr (2, vs) → ∃ vs2, F206 qq = .inr (2, vs2) ∧ vs2[3]? = vs[3]? := fun vs q => by obtain ⟨w, h1, h2⟩ := hLn vs q; exact ⟨w, (hfr1 _ (by rw [h12]; decide)).trans h1, h2⟩
              have hfr : ∀ b, K b ∉ [4, 8, 21, 24, 43] → F206 b = F b := fun b hb9 => (hfr1 b (fun q => hb9 (s_sub (by decide) q))).trans (hfr b hb9)
              obtain ⟨h208, h210⟩ := h208
              have h210 : ((r205.toInt = -1 ∧ ∀ vs z, F206 a0 = .inr (3, vs) → vs[13]? = some (.int z) → ¬ z.toInt = 0) ∨ (22 ≤ r205.toInt ∧ r205.toInt ≤ 23)) := h210
              obtain ⟨z211, z213, z215, z217, z220, z223, z224, z226, z228, z229, z230, z232, z233, o235, h212, h214, h216, h218, h219, h221, h222, h225, h227, h231, h234, -⟩ := h209
              have hro2 : ¬ z232.toInt = 0 ∨ (22 ≤ r205.toInt ∧ r205.toInt ≤ 23) := h210.elim (fun w => Or.inl (w.2 _ _ o235 rfl)) (fun w => Or.inr w)
              refine lv_bipush (v := 22) hx hb dX3_readPiece_206 (by decide) ?_
              refine lv_isub hx hb dX3_readPiece_208 ?_
              refine lv_topi (fun v236 ev236 => ?_)
              have qv236 : v236.toInt = r205.toInt - 22 := by rw [ev236]; exact th_sub rfl (by decide) ⟨by omega, by omega⟩
              obtain ⟨z237, z239, z241, z243, z245, z247, z248, o249, h238, h240, h242, h244, h246, -⟩ := s_op8 hI h12
              refine th_putN (D := (dC, dI)) (ci := 2) (v := .int v236) (ty := .int) (C := RX2) (T := TX2) (N := 7) hx hb hts inX2 tyX2 tyX2_ok nmX2 hown hK hP hD hS (hLK _ h12 (by decide)) o249 rfl 6 (by decide) (va_Nw.use rfl (ax_n43 hN)) (fun _ h9 => h9) rfl (by decide +kernel) rfl rfl (Nat.le_of_ble_eq_true rfl) dX3_readPiece_209 (fun H locs hP hS => ?_)
              have hIq := hI
              have hP : va_P (dC, dI) vwCl (va_pl L (va_up F206 qq (.inr (2, [.ref z237, .ref z239, .ref z241, .int z243, .int z245, .int z247, .int v236])))) H := hP
              obtain ⟨F250, hF251⟩ : ∃ G : Nat → va_E, G = va_up F206 qq (.inr (2, [.ref z237, .ref z239, .ref z241, .int z243, .int z245, .int z247, .int v236])) := ⟨_, rfl⟩
              rw [← hF251] at hP
              have hI : s_I K cs D F250 := by rw [hF251]; exact s_cl8 hI h12 ⟨z237, z239, z241, z243, z245, z247, v236, rfl, h238, h240, h242, ⟨by omega, by omega⟩, ⟨by omega, by omega⟩, trivial⟩
              have hfr : ∀ b, K b ∉ [4, 8, 21, 24, 43] → F250 b = F b := by rw [hF251]; exact s_fr hfr h12 (by decide)
              have o252 : F250 a0 = .inr (3, [.ref z211, .ref z213, .ref z215, .ref z217, .ref tt, .int z220, .ref qq, .int z223, .int z224, .int z226, .int z228, .int z229, .int z230, .int z232, .int z233]) := by rw [hF251]; exact th_ne (th_kd ha0 h12 (by decide)) o235
              have hqR : (0 ≤ v236.toInt ∧ v236.toInt ≤ 1) → s_QG cs F250 qq 0 := fun hv9 => s_QGq hIq h222 o249 hF251 rfl rfl (fun z9 h9 => h9.elim (fun e9 => Or.inl (Or.inl e9)) (fun e9 => Or.inr (by have e8 : some (Value.int v236) = some (.int z9) := e9; cases e8; exact hv9))) hq
              have hLn : ∀ vs, F qq = .inr (2, vs) → ∃ vs2, F250 qq = .inr (2, vs2) ∧ vs2[3]? = vs[3]? := fun vs q => by obtain ⟨w, h1, h2⟩ := hLn vs q; rw [o249] at h1; cases h1; exact ⟨_, (congrFun hF251 _).trans th_up, h2⟩
              have o253 : F250 qq = .inr (2, [.ref z237, .ref z239, .ref z241, .int z243, .int z245, .int z247, .int v236]) := by rw [hF251]; exact th_up
              refine lv_goto (tgt := 365) hx hb dX3_readPiece_212 (by decide) ?_
              exact K365 _ _ _ ⟨F250, _, rfl, lv_sub hl [0] rfl, hI, hP, hS, hfr, (fun vs z q q2 q3 => by rw [o252] at q; cases q; cases q2; exact hqR (by omega)), hLn, ⟨z211, z213, z215, z217, z220, z223, z224, z226, z228, z229, z230, z232, z233, o252, h212, h214, h216, h218, h219, ⟨by omega, by omega⟩, h222, ⟨by omega, by omega⟩, ⟨by omega, by omega⟩, ⟨by omega, by omega⟩, (fun q => by first | omega | exact absurd q (by decide)), trivial⟩⟩
            · have c204 := mt (ax_eq (n := 79) (by decide)).mpr c204
              by_cases c254 : x1 = 82
              · refine ax_eqi c254 ?_
                refine lv_tableIn (off := 214) (tgt := 215) hx hb dX3_readPiece_1 (by decide) (by decide) (by decide) (by decide) ?_
                have c254 := (ax_eq (n := 82) (by decide)).mp c254
                refine lv_aload_n hx hb dX3_readPiece_215 rfl (lv_at hl 0 rfl) ?_
                have hq : s_QG cs F qq 1 := hQ.elim s_QGm (fun w => w.2)
                refine th_get (D := (dC, dI)) (ci := 3) (v := .ref qq) (C := RX3) (T := TX3) (N := 15) hx hb hts inX3 hown hK hP (hLK _ ha0 (by decide)) o25 rfl 6 (by decide) (hts _ T_211) (fun _ h9 => h9) rfl dX3_readPiece_216 ?_
                obtain ⟨z255, z257, z259, z261, z263, z265, z266, o267, h256, h258, h260, h262, h264, -⟩ := s_op8 hI h12
                have hIq := hI
                refine va_callr (va_runV (As := []) (rest := []) ⟨hx, hb, hml, hown, hts⟩ (s_X2_latest l dC dI H.size hLK D F qq h12 hI) (cwV 0 hts (ax_gV T_796 T_798 T_799 T_168 T_797) rfl rfl rfl (by decide +kernel) ⟨Nat.le_of_ble_eq_true rfl, Nat.le_of_ble_eq_true rfl⟩) ⟨fun a U g mk q => ⟨q.1, s_pc (U := U) rfl rfl q.2⟩, s_recv hK hP (hLK _ h12 (by decide)) (ci := 2) rfl o267, fun U hU hW => ⟨rfl, s_pw hU hW hP hK hD hN⟩⟩ rfl rfl hl.1 rfl (lv_room (Nat.le_of_ble_eq_true rfl)) dX3_readPiece_219 ⟨Nat.zero_le _, Nat.zero_le _⟩) hS (fun q _ h => h) (fun q h => h) (fun F269 r268 t H1 locs ht hvm hw hB hz1 hk1 hS => ?_)
                obtain ⟨hk_r268, hxr_r268, hP, hK1⟩ := hB
                rw [ht] at hP
                generalize H1 = H at hP hS ⊢
                clear hz1 hk1
                obtain ⟨h270, h271, hI, hfr1⟩ := hw
                have o272 : F269 a0 = .inr (3, [.ref z1, .ref z3, .ref z5, .ref z7, .ref tt, .int z10, .ref qq, .int z13, .int z14, .int z16, .int z18, .int z19, .int z20, .int z22, .int z23]) := (hfr1 _ (by rw [ha0]; decide)).trans o25
                have o273 : F269 qq = .inr (2, [.ref z255, .ref z257, .ref z259, .int z261, .int z263, .int z265, .int z266]) := (hfr1 _ (by rw [h12]; decide)).trans o267
                have hq := s_QGt hIq h12 (fun b hb9 => hfr1 b (by rcases hb9 with q | q | q <;> (rw [q]; decide))) hq
                have hLn : ∀ vs, F qq = .inr (2, vs) → ∃ vs2, F269 qq = .inr (2, vs2) ∧ vs2[3]? = vs[3]? := fun vs q => by obtain ⟨w, h1, h2⟩ := hLn vs q; exact ⟨w, (hfr1 _ (by rw [h12]; decide)).trans h1, h2⟩
                have hfr : ∀ b, K b ∉ [4, 8, 21, 24, 43] → F269 b = F b := fun b hb9 => (hfr1 b (fun q => hb9 (s_sub (by decide) q))).trans (hfr b hb9)
                have hlt : s_LT cs F269 qq r268 := s_LTt hIq h12 (fun b hb9 => hfr1 b (by rcases hb9 with q | q | q <;> (rw [q]; decide))) hxr_r268
                refine lv_iconst (v := 1) hx hb dX3_readPiece_222 (by decide) ?_
                refine lv_aload_n hx hb dX3_readPiece_223 rfl (lv_at hl 0 rfl) ?_
                refine lv_bipush (v := 25) hx hb dX3_readPiece_224 (by decide) ?_
                refine lv_bipush (v := 28) hx hb dX3_readPiece_226 (by decide) ?_
                have hIq := hI
                refine va_calli (va_runV (As := [.int 25, .int 28]) (rest := [.int 1, .ref r268]) ⟨hx, hb, hml, hown, hts⟩ (s_X3_readOwn l dC dI H.size hLK D adK adV tf F269 a0 25 28 ha0 (by decide) (by decide) hI tt qq ⟨z1, z3, z5, z7, z10, z13, z14, z16, z18, z19, z20, z22, z23, o272, h2, h4, h6, h8, h9, ⟨by omega, by omega⟩, h12, ⟨by omega, by omega⟩, ⟨by omega, by omega⟩, ⟨by omega, by omega⟩, (fun q => by first | omega | exact absurd q (by decide)), trivial⟩) (cwV 2 hts (ax_gV T_792 T_794 T_795 T_163 T_793) rfl rfl rfl (by decide +kernel) ⟨Nat.le_of_ble_eq_true rfl, Nat.le_of_ble_eq_true rfl⟩) ⟨fun a U g mk q => ⟨q.1, s_pc (U := U) rfl rfl q.2.1, s_pcZ (U := U) rfl rfl q.2.2⟩, s_recv hK hP (hLK _ ha0 (by decide)) (ci := 3) rfl o272, fun U hU hW => ⟨rfl, s_pw hU hW hP hK hD hN, s_pwZ hU hW hS hZ⟩⟩ rfl rfl hl.1 rfl (lv_room (Nat.le_of_ble_eq_true rfl)) dX3_readPiece_228 ⟨Nat.zero_le _, Nat.zero_le _⟩) hS (fun q _ h => h) (fun q h => h) (fun r274 F275 t H1 locs ht hvm hw hB hz1 hk1 hS => ?_)
                obtain ⟨hP, hK1⟩ := hB
                rw [ht] at hP
                generalize H1 = H at hP hS ⊢
                clear hz1 hk1
                obtain ⟨h276, h277, hI, hfr1, h278⟩ := hw
                have o279 : F275 qq = .inr (2, [.ref z255, .ref z257, .ref z259, .int z261, .int z263, .int z265, .int z266]) := (hfr1 _ (by rw [h12]; decide)).trans o273
                have hq := s_QGt hIq h12 (fun b hb9 => hfr1 b (by rcases hb9 with q | q | q <;> (rw [q]; decide))) hq
                have hlt := s_LTt hIq h12 (fun b hb9 => hfr1 b (by rcases hb9 with q | q | q <;> (rw [q]; decide))) hlt
                have hLn : ∀ vs, F qq = .inr (2, vs) → ∃ vs2, F275 qq = .inr (2, vs2) ∧ vs2[3]? = vs[3]? := fun vs q => by obtain ⟨w, h1, h2⟩ := hLn vs q; exact ⟨w, (hfr1 _ (by rw [h12]; decide)).trans h1, h2⟩
                have hfr : ∀ b, K b ∉ [4, 8, 21, 24, 43] → F275 b = F b := fun b hb9 => (hfr1 b (fun q => hb9 (s_sub (by decide) q))).trans (hfr b hb9)
                obtain ⟨h277, h280⟩ := h277
                have h280 : ((r274.toInt = -1 ∧ ∀ vs z, F275 a0 = .inr (3, vs) → vs[13]? = some (.int z) → ¬ z.toInt = 0) ∨ (25 ≤ r274.toInt ∧ r274.toInt ≤ 28)) := h280
                obtain ⟨z281, z283, z285, z287, z290, z293, z294, z296, z298, z299, z300, z302, z303, o305, h282, h284, h286, h288, h289, h291, h292, h295, h297, h301, h304, -⟩ := h278
                have hro2 : ¬ z302.toInt = 0 ∨ 25 ≤ r274.toInt := h280.elim (fun w => Or.inl (w.2 _ _ o305 rfl)) (fun w => Or.inr w.1)
                refine lv_bipush (v := 25) hx hb dX3_readPiece_231 (by decide) ?_
                refine lv_isub hx hb dX3_readPiece_233 ?_
                refine lv_topi (fun v306 ev306 => ?_)
                have qv306 : v306.toInt = r274.toInt - 25 := by rw [ev306]; exact th_sub rfl (by decide) ⟨by omega, by omega⟩
                obtain ⟨f307, o308, h309⟩ := s_op43 hI hk_r268
                refine th_iast hx hb hK hP hD hS (hLK _ hk_r268 (by decide)) 0 o308 rfl (ax_in (by decide)) dX3_readPiece_234 (fun H locs hP hS => ?_)
                have hIq := hI
                have hP : va_P (dC, dI) vwCl (va_pl L (va_up F275 r268 (.inl (cs 0, 7, .inl (upd f307 (1 : Int32).toNatClampNeg v306))))) H := hP
                obtain ⟨F310, hF311⟩ : ∃ G : Nat → va_E, G = va_up F275 r268 (.inl (cs 0, 7, .inl (upd f307 (1 : Int32).toNatClampNeg v306))) := ⟨_, rfl⟩
                rw [← hF311] at hP
                have hI : s_I K cs D F310 := by rw [hF311]; exact s_cl43 hI hk_r268 ⟨_, rfl, th_updJ (P := fun y => y.toInt ≤ 3) h309 (fun _ => by omega)⟩
                have hfr : ∀ b, K b ∉ [4, 8, 21, 24, 43] → F310 b = F b := by rw [hF311]; exact s_fr hfr hk_r268 (by decide)
                have o312 : F310 qq = .inr (2, [.ref z255, .ref z257, .ref z259, .int z261, .int z263, .int z265, .int z266]) := by rw [hF311]; exact th_ne (th_kd h292 hk_r268 (by decide)) o279
                have o313 : F310 a0 = .inr (3, [.ref z281, .ref z283, .ref z285, .ref z287, .ref tt, .int z290, .ref qq, .int z293, .int z294, .int z296, .int z298, .int z299, .int z300, .int z302, .int z303]) := by rw [hF311]; exact th_ne (th_kd ha0 hk_r268 (by decide)) o305
                have hqR : 0 ≤ v306.toInt → s_QG cs F310 qq 0 := fun hv9 => s_QGinto hIq h292 hk_r268 hF311 hv9 hlt hq
                have hLn : ∀ vs, F qq = .inr (2, vs) → ∃ vs2, F310 qq = .inr (2, vs2) ∧ vs2[3]? = vs[3]? := fun vs q => by obtain ⟨w, h1, h2⟩ := hLn vs q; exact ⟨w, by rw [hF311]; exact th_ne (th_kd h292 hk_r268 (by decide)) h1, h2⟩
                refine lv_goto (tgt := 365) hx hb dX3_readPiece_235 (by decide) ?_
                exact K365 _ _ _ ⟨F310, _, rfl, lv_sub hl [0] rfl, hI, hP, hS, hfr, (fun vs z q q2 q3 => by rw [o313] at q; cases q; cases q2; exact hqR (by omega)), hLn, ⟨z281, z283, z285, z287, z290, z293, z294, z296, z298, z299, z300, z302, z303, o313, h282, h284, h286, h288, h289, ⟨by omega, by omega⟩, h292, ⟨by omega, by omega⟩, ⟨by omega, by omega⟩, ⟨by omega, by omega⟩, (fun q => by first | omega | exact absurd q (by decide)), trivial⟩⟩
              · have c254 := mt (ax_eq (n := 82) (by decide)).mpr c254
                by_cases c314 : x1 = 83
                · refine ax_eqi c314 ?_
                  refine lv_tableIn (off := 342) (tgt := 343) hx hb dX3_readPiece_1 (by decide) (by decide) (by decide) (by decide) ?_
                  have c314 := (ax_eq (n := 83) (by decide)).mp c314
                  refine lv_aload_n hx hb dX3_readPiece_343 rfl (lv_at hl 0 rfl) ?_
                  have hq : s_QG cs F qq 0 := hQ.resolve_right (fun q => by omega)
                  refine th_get (D := (dC, dI)) (ci := 3) (v := .ref qq) (C := RX3) (T := TX3) (N := 15) hx hb hts inX3 hown hK hP (hLK _ ha0 (by decide)) o25 rfl 6 (by decide) (hts _ T_211) (fun _ h9 => h9) rfl dX3_readPiece_344 ?_
                  obtain ⟨z315, z317, z319, z321, z323, z325, z326, o327, h316, h318, h320, h322, h324, -⟩ := s_op8 hI h12
                  have hIq := hI
                  refine va_callr (va_runV (As := []) (rest := []) ⟨hx, hb, hml, hown, hts⟩ (s_X2_latest l dC dI H.size hLK D F qq h12 hI) (cwV 0 hts (ax_gV T_796 T_798 T_799 T_168 T_797) rfl rfl rfl (by decide +kernel) ⟨Nat.le_of_ble_eq_true rfl, Nat.le_of_ble_eq_true rfl⟩) ⟨fun a U g mk q => ⟨q.1, s_pc (U := U) rfl rfl q.2⟩, s_recv hK hP (hLK _ h12 (by decide)) (ci := 2) rfl o327, fun U hU hW => ⟨rfl, s_pw hU hW hP hK hD hN⟩⟩ rfl rfl hl.1 rfl (lv_room (Nat.le_of_ble_eq_true rfl)) dX3_readPiece_347 ⟨Nat.zero_le _, Nat.zero_le _⟩) hS (fun q _ h => h) (fun q h => h) (fun F329 r328 t H1 locs ht hvm hw hB hz1 hk1 hS => ?_)
                  obtain ⟨hk_r328, hxr_r328, hP, hK1⟩ := hB
                  rw [ht] at hP
                  generalize H1 = H at hP hS ⊢
                  clear hz1 hk1
                  obtain ⟨h330, h331, hI, hfr1⟩ := hw
                  have o332 : F329 a0 = .inr (3, [.ref z1, .ref z3, .ref z5, .ref z7, .ref tt, .int z10, .ref qq, .int z13, .int z14, .int z16, .int z18, .int z19, .int z20, .int z22, .int z23]) := (hfr1 _ (by rw [ha0]; decide)).trans o25
                  have o333 : F329 qq = .inr (2, [.ref z315, .ref z317, .ref z319, .int z321, .int z323, .int z325, .int z326]) := (hfr1 _ (by rw [h12]; decide)).trans o327
                  have hq := s_QGt hIq h12 (fun b hb9 => hfr1 b (by rcases hb9 with q | q | q <;> (rw [q]; decide))) hq
                  have hLn : ∀ vs, F qq = .inr (2, vs) → ∃ vs2, F329 qq = .inr (2, vs2) ∧ vs2[3]? = vs[3]? := fun vs q => by obtain ⟨w, h1, h2⟩ := hLn vs q; exact ⟨w, (hfr1 _ (by rw [h12]; decide)).trans h1, h2⟩
                  have hfr : ∀ b, K b ∉ [4, 8, 21, 24, 43] → F329 b = F b := fun b hb9 => (hfr1 b (fun q => hb9 (s_sub (by decide) q))).trans (hfr b hb9)
                  refine lv_iconst (v := 5) hx hb dX3_readPiece_350 (by decide) ?_
                  refine lv_aload_n hx hb dX3_readPiece_351 rfl (lv_at hl 0 rfl) ?_
                  have hIq := hI
                  refine va_calli (va_runV (As := []) (rest := [.int 5, .ref r328]) ⟨hx, hb, hml, hown, hts⟩ (s_X3_readComparison l dC dI H.size hLK D adK adV tf F329 a0 ha0 hI tt qq ⟨z1, z3, z5, z7, z10, z13, z14, z16, z18, z19, z20, z22, z23, o332, h2, h4, h6, h8, h9, ⟨by omega, by omega⟩, h12, ⟨by omega, by omega⟩, ⟨by omega, by omega⟩, ⟨by omega, by omega⟩, (fun q => by first | omega | exact absurd q (by decide)), trivial⟩) (cwV 0 hts (ax_gV T_800 T_802 T_803 T_163 T_801) rfl rfl rfl (by decide +kernel) ⟨Nat.le_of_ble_eq_true rfl, Nat.le_of_ble_eq_true rfl⟩) ⟨fun a U g mk q => ⟨q.1, s_pc (U := U) rfl rfl q.2.1, s_pcZ (U := U) rfl rfl q.2.2⟩, s_recv hK hP (hLK _ ha0 (by decide)) (ci := 3) rfl o332, fun U hU hW => ⟨rfl, s_pw hU hW hP hK hD hN, s_pwZ hU hW hS hZ⟩⟩ rfl rfl hl.1 rfl (lv_room (Nat.le_of_ble_eq_true rfl)) dX3_readPiece_352 ⟨Nat.zero_le _, Nat.zero_le _⟩) hS (fun q _ h => h) (fun q h => h) (fun r334 F335 t H1 locs ht hvm hw hB hz1 hk1 hS => ?_)
                  obtain ⟨hP, hK1⟩ := hB
                  rw [ht] at hP
                  generalize H1 = H at hP hS ⊢
                  clear hz1 hk1
                  obtain ⟨h336, h337, hI, hfr1, h338⟩ := hw
                  have o339 : F335 qq = .inr (2, [.ref z315, .ref z317, .ref z319, .int z321, .int z323, .int z325, .int z326]) := (hfr1 _ (by rw [h12]; decide)).trans o333
                  have hq := s_QGt hIq h12 (fun b hb9 => hfr1 b (by rcases hb9 with q | q | q <;> (rw [q]; decide))) hq
                  have hLn : ∀ vs, F qq = .inr (2, vs) → ∃ vs2, F335 qq = .inr (2, vs2) ∧ vs2[3]? = vs[3]? := fun vs q => by obtain ⟨w, h1, h2⟩ := hLn vs q; exact ⟨w, (hfr1 _ (by rw [h12]; decide)).trans h1, h2⟩
                  have hfr : ∀ b, K b ∉ [4, 8, 21, 24, 43] → F335 b = F b := fun b hb9 => (hfr1 b (fun q => hb9 (s_sub (by decide) q))).trans (hfr b hb9)
                  obtain ⟨z340, z342, z344, z346, z349, z352, z353, z355, z357, z358, z359, z361, z362, o364, h341, h343, h345, h347, h348, h350, h351, h354, h356, h360, h363, -⟩ := h338
                  obtain ⟨f365, o366, h367⟩ := s_op43 hI hk_r328
                  refine th_iast hx hb hK hP hD hS (hLK _ hk_r328 (by decide)) 0 o366 rfl (ax_in (by decide)) dX3_readPiece_355 (fun H locs hP hS => ?_)
                  have hIq := hI
                  have hP : va_P (dC, dI) vwCl (va_pl L (va_up F335 r328 (.inl (cs 0, 7, .inl (upd f365 (5 : Int32).toNatClampNeg r334))))) H := hP
                  obtain ⟨F368, hF369⟩ : ∃ G : Nat → va_E, G = va_up F335 r328 (.inl (cs 0, 7, .inl (upd f365 (5 : Int32).toNatClampNeg r334))) := ⟨_, rfl⟩
                  rw [← hF369] at hP
                  have hI : s_I K cs D F368 := by rw [hF369]; exact s_cl43 hI hk_r328 ⟨_, rfl, th_updJ (P := fun y => y.toInt ≤ 3) h367 (fun q => absurd q (by decide))⟩
                  have hfr : ∀ b, K b ∉ [4, 8, 21, 24, 43] → F368 b = F b := by rw [hF369]; exact s_fr hfr hk_r328 (by decide)
                  have o370 : F368 qq = .inr (2, [.ref z315, .ref z317, .ref z319, .int z321, .int z323, .int z325, .int z326]) := by rw [hF369]; exact th_ne (th_kd h351 hk_r328 (by decide)) o339
                  have o371 : F368 a0 = .inr (3, [.ref z340, .ref z342, .ref z344, .ref z346, .ref tt, .int z349, .ref qq, .int z352, .int z353, .int z355, .int z357, .int z358, .int z359, .int z361, .int z362]) := by rw [hF369]; exact th_ne (th_kd ha0 hk_r328 (by decide)) o364
                  have hq := s_QGrow hIq h351 hk_r328 o366 hF369 (by decide) (by decide) hq
                  have hLn : ∀ vs, F qq = .inr (2, vs) → ∃ vs2, F368 qq = .inr (2, vs2) ∧ vs2[3]? = vs[3]? := fun vs q => by obtain ⟨w, h1, h2⟩ := hLn vs q; exact ⟨w, by rw [hF369]; exact th_ne (th_kd h351 hk_r328 (by decide)) h1, h2⟩
                  refine lv_goto (tgt := 365) hx hb dX3_readPiece_356 (by decide) ?_
                  exact K365 _ _ _ ⟨F368, _, rfl, lv_sub hl [0] rfl, hI, hP, hS, hfr, (fun vs z q q2 q3 => hq), hLn, ⟨z340, z342, z344, z346, z349, z352, z353, z355, z357, z358, z359, z361, z362, o371, h341, h343, h345, h347, h348, ⟨by omega, by omega⟩, h351, ⟨by omega, by omega⟩, ⟨by omega, by omega⟩, ⟨by omega, by omega⟩, (fun q => by first | omega | exact absurd q (by decide)), trivial⟩⟩
                · have c314 := mt (ax_eq (n := 83) (by decide)).mpr c314
                  by_cases c372 : x1 = 86
                  · refine ax_eqi c372 ?_
                    refine lv_tableIn (off := 145) (tgt := 146) hx hb dX3_readPiece_1 (by decide) (by decide) (by decide) (by decide) ?_
                    have c372 := (ax_eq (n := 86) (by decide)).mp c372
                    refine lv_aload_n hx hb dX3_readPiece_146 rfl (lv_at hl 0 rfl) ?_
                    have hq : s_QG cs F qq 0 := hQ.resolve_right (fun q => by omega)
                    refine th_get (D := (dC, dI)) (ci := 3) (v := .ref qq) (C := RX3) (T := TX3) (N := 15) hx hb hts inX3 hown hK hP (hLK _ ha0 (by decide)) o25 rfl 6 (by decide) (hts _ T_211) (fun _ h9 => h9) rfl dX3_readPiece_147 ?_
                    obtain ⟨z373, z375, z377, z379, z381, z383, z384, o385, h374, h376, h378, h380, h382, -⟩ := s_op8 hI h12
                    refine th_getN (D := (dC, dI)) (ci := 2) (v := .ref z375) (C := RX2) (T := TX2) (N := 7) hx hb hts inX2 hown hK hP (hLK _ h12 (by decide)) o385 rfl 1 (by decide) (va_Nw.use rfl (ax_n41 hN)) (fun _ h9 => h9) rfl dX3_readPiece_150 ?_
                    refine lv_aload_n hx hb dX3_readPiece_153 rfl (lv_at hl 0 rfl) ?_
                    refine th_get (D := (dC, dI)) (ci := 3) (v := .int z20) (C := RX3) (T := TX3) (N := 15) hx hb hts inX3 hown hK hP (hLK _ ha0 (by decide)) o25 rfl 12 (by decide) (hts _ T_790) (fun _ h9 => h9) rfl dX3_readPiece_154 ?_
                    refine lv_iconst (v := 0) hx hb dX3_readPiece_157 (by decide) ?_
                    refine va_mmax hx hb (by rw [hml]; exact hl.1.symm) hown (hts _ T_791) (hts _ T_609) (hts _ T_237) (hts _ T_610) (Nat.le_of_ble_eq_true rfl) (Nat.le_of_ble_eq_true rfl) (Nat.zero_le _) (Nat.zero_le _) dX3_readPiece_158 ?_
                    refine lv_topi (fun v386 ev386 => ?_)
                    have qv386 := th_mmax (a := z20.toInt) (b := 0) ev386 rfl (by decide)
                    refine lv_aload_n hx hb dX3_readPiece_161 rfl (lv_at hl 0 rfl) ?_
                    refine lv_iconst (v := 0) hx hb dX3_readPiece_162 (by decide) ?_
                    refine lv_sipush (v := 999) hx hb dX3_readPiece_163 (by decide) ?_
                    have hIq := hI
                    refine va_calli (va_runV (As := [.int 0, .int 999]) (rest := [.int v386, .ref z375]) ⟨hx, hb, hml, hown, hts⟩ (s_X3_readNumber l dC dI H.size hLK D adK adV tf F a0 0 999 ha0 (by decide) (by decide) hI tt qq ⟨z1, z3, z5, z7, z10, z13, z14, z16, z18, z19, z20, z22, z23, o25, h2, h4, h6, h8, h9, ⟨by omega, by omega⟩, h12, ⟨by omega, by omega⟩, ⟨by omega, by omega⟩, ⟨by omega, by omega⟩, (fun q => by first | omega | exact absurd q (by decide)), trivial⟩) (cwV 2 hts (ax_gV T_786 T_788 T_789 T_163 T_787) rfl rfl rfl (by decide +kernel) ⟨Nat.le_of_ble_eq_true rfl, Nat.le_of_ble_eq_true rfl⟩) ⟨fun a U g mk q => ⟨q.1, s_pc (U := U) rfl rfl q.2.1, s_pcZ (U := U) rfl rfl q.2.2⟩, s_recv hK hP (hLK _ ha0 (by decide)) (ci := 3) rfl o25, fun U hU hW => ⟨rfl, s_pw hU hW hP hK hD hN, s_pwZ hU hW hS hZ⟩⟩ rfl rfl hl.1 rfl (lv_room (Nat.le_of_ble_eq_true rfl)) dX3_readPiece_166 ⟨Nat.zero_le _, Nat.zero_le _⟩) hS (fun q _ h => h) (fun q h => h) (fun r387 F388 t H1 locs ht hvm hw hB hz1 hk1 hS => ?_)
                    obtain ⟨hP, hK1⟩ := hB
                    rw [ht] at hP
                    generalize H1 = H at hP hS ⊢
                    clear hz1 hk1
                    obtain ⟨h389, h390, hI, hfr1, h391⟩ := hw
                    have o392 : F388 qq = .inr (2, [.ref z373, .ref z375, .ref z377, .int z379, .int z381, .int z383, .int z384]) := (hfr1 _ (by rw [h12]; decide)).trans o385
                    have hq := s_QGt hIq h12 (fun b hb9 => hfr1 b (by rcases hb9 with q | q | q <;> (rw [q]; decide))) hq
                    have hLn : ∀ vs, F qq = .inr (2, vs) → ∃ vs2, F388 qq = .inr (2, vs2) ∧ vs2[3]? = vs[3]? := fun vs q => by obtain ⟨w, h1, h2⟩ := hLn vs q; exact ⟨w, (hfr1 _ (by rw [h12]; decide)).trans h1, h2⟩
                    have hfr : ∀ b, K b ∉ [4, 8, 21, 24, 43] → F388 b = F b := fun b hb9 => (hfr1 b (fun q => hb9 (s_sub (by decide) q))).trans (hfr b hb9)
                    obtain ⟨h390, h393⟩ := h390
                    have h393 : (r387.toInt = -1 ∨ (0 ≤ r387.toInt ∧ r387.toInt ≤ 999)) := h393
                    obtain ⟨z394, z396, z398, z400, z403, z406, z407, z409, z411, z412, z413, z415, z416, o418, h395, h397, h399, h401, h402, h404, h405, h408, h410, h414, h417, -⟩ := h391
                    obtain ⟨f419, o420, h421⟩ := s_op24 hI h376
                    refine th_iast hx hb hK hP hD hS (hLK _ h376 (by decide)) 0 o420 rfl (th_in ⟨by omega, by omega⟩) dX3_readPiece_169 (fun H locs hP hS => ?_)
                    have hIq := hI
                    have hP : va_P (dC, dI) vwCl (va_pl L (va_up F388 z375 (.inl (cs 0, 64, .inl (upd f419 (v386 : Int32).toNatClampNeg r387))))) H := hP
                    obtain ⟨F422, hF423⟩ : ∃ G : Nat → va_E, G = va_up F388 z375 (.inl (cs 0, 64, .inl (upd f419 (v386 : Int32).toNatClampNeg r387))) := ⟨_, rfl⟩
                    rw [← hF423] at hP
                    have hI : s_I K cs D F422 := by rw [hF423]; exact s_cl24 hI h376 ⟨_, rfl, trivial⟩
                    have hfr : ∀ b, K b ∉ [4, 8, 21, 24, 43] → F422 b = F b := by rw [hF423]; exact s_fr hfr h376 (by decide)
                    have o424 : F422 qq = .inr (2, [.ref z373, .ref z375, .ref z377, .int z379, .int z381, .int z383, .int z384]) := by rw [hF423]; exact th_ne (th_kd h405 h376 (by decide)) o392
                    have o425 : F422 a0 = .inr (3, [.ref z394, .ref z396, .ref z398, .ref z400, .ref tt, .int z403, .ref qq, .int z406, .int z407, .int z409, .int z411, .int z412, .int z413, .int z415, .int z416]) := by rw [hF423]; exact th_ne (th_kd ha0 h376 (by decide)) o418
                    have hq := s_QGo hIq h405 h376 (by decide) hF423 hq
                    have hLn : ∀ vs, F qq = .inr (2, vs) → ∃ vs2, F422 qq = .inr (2, vs2) ∧ vs2[3]? = vs[3]? := fun vs q => by obtain ⟨w, h1, h2⟩ := hLn vs q; exact ⟨w, by rw [hF423]; exact th_ne (th_kd h405 h376 (by decide)) h1, h2⟩
                    refine lv_goto (tgt := 365) hx hb dX3_readPiece_170 (by decide) ?_
                    exact K365 _ _ _ ⟨F422, _, rfl, lv_sub hl [0] rfl, hI, hP, hS, hfr, (fun vs z q q2 q3 => hq), hLn, ⟨z394, z396, z398, z400, z403, z406, z407, z409, z411, z412, z413, z415, z416, o425, h395, h397, h399, h401, h402, ⟨by omega, by omega⟩, h405, ⟨by omega, by omega⟩, ⟨by omega, by omega⟩, ⟨by omega, by omega⟩, (fun q => by first | omega | exact absurd q (by decide)), trivial⟩⟩
                  · have c372 := mt (ax_eq (n := 86) (by decide)).mpr c372
                    by_cases c426 : x1 = 87
                    · refine ax_eqi c426 ?_
                      refine lv_tableIn (off := 115) (tgt := 116) hx hb dX3_readPiece_1 (by decide) (by decide) (by decide) (by decide) ?_
                      have c426 := (ax_eq (n := 87) (by decide)).mp c426
                      refine lv_aload_n hx hb dX3_readPiece_116 rfl (lv_at hl 0 rfl) ?_
                      have hq : s_QG cs F qq 0 := hQ.resolve_right (fun q => by omega)
                      refine th_get (D := (dC, dI)) (ci := 3) (v := .ref qq) (C := RX3) (T := TX3) (N := 15) hx hb hts inX3 hown hK hP (hLK _ ha0 (by decide)) o25 rfl 6 (by decide) (hts _ T_211) (fun _ h9 => h9) rfl dX3_readPiece_117 ?_
                      refine lv_aload_n hx hb dX3_readPiece_120 rfl (lv_at hl 0 rfl) ?_
                      refine lv_iconst (v := 1) hx hb dX3_readPiece_121 (by decide) ?_
                      refine lv_iconst (v := 4) hx hb dX3_readPiece_122 (by decide) ?_
                      have hIq := hI
                      refine va_calli (va_runV (As := [.int 1, .int 4]) (rest := [.ref qq]) ⟨hx, hb, hml, hown, hts⟩ (s_X3_readNumber l dC dI H.size hLK D adK adV tf F a0 1 4 ha0 (by decide) (by decide) hI tt qq ⟨z1, z3, z5, z7, z10, z13, z14, z16, z18, z19, z20, z22, z23, o25, h2, h4, h6, h8, h9, ⟨by omega, by omega⟩, h12, ⟨by omega, by omega⟩, ⟨by omega, by omega⟩, ⟨by omega, by omega⟩, (fun q => by first | omega | exact absurd q (by decide)), trivial⟩) (cwV 2 hts (ax_gV T_786 T_788 T_789 T_163 T_787) rfl rfl rfl (by decide +kernel) ⟨Nat.le_of_ble_eq_true rfl, Nat.le_of_ble_eq_true rfl⟩) ⟨fun a U g mk q => ⟨q.1, s_pc (U := U) rfl rfl q.2.1, s_pcZ (U := U) rfl rfl q.2.2⟩, s_recv hK hP (hLK _ ha0 (by decide)) (ci := 3) rfl o25, fun U hU hW => ⟨rfl, s_pw hU hW hP hK hD hN, s_pwZ hU hW hS hZ⟩⟩ rfl rfl hl.1 rfl (lv_room (Nat.le_of_ble_eq_true rfl)) dX3_readPiece_123 ⟨Nat.zero_le _, Nat.zero_le _⟩) hS (fun q _ h => h) (fun q h => h) (fun r427 F428 t H1 locs ht hvm hw hB hz1 hk1 hS => ?_)
                      obtain ⟨hP, hK1⟩ := hB
                      rw [ht] at hP
                      generalize H1 = H at hP hS ⊢
                      clear hz1 hk1
                      obtain ⟨h429, h430, hI, hfr1, h431⟩ := hw
                      have hq := s_QGt hIq h12 (fun b hb9 => hfr1 b (by rcases hb9 with q | q | q <;> (rw [q]; decide))) hq
                      have hLn : ∀ vs, F qq = .inr (2, vs) → ∃ vs2, F428 qq = .inr (2, vs2) ∧ vs2[3]? = vs[3]? := fun vs q => by obtain ⟨w, h1, h2⟩ := hLn vs q; exact ⟨w, (hfr1 _ (by rw [h12]; decide)).trans h1, h2⟩
                      have hfr : ∀ b, K b ∉ [4, 8, 21, 24, 43] → F428 b = F b := fun b hb9 => (hfr1 b (fun q => hb9 (s_sub (by decide) q))).trans (hfr b hb9)
                      obtain ⟨h430, h432⟩ := h430
                      have h432 : (r427.toInt = -1 ∨ (1 ≤ r427.toInt ∧ r427.toInt ≤ 4)) := h432
                      obtain ⟨z433, z435, z437, z439, z442, z445, z446, z448, z450, z451, z452, z454, z455, o457, h434, h436, h438, h440, h441, h443, h444, h447, h449, h453, h456, -⟩ := h431
                      obtain ⟨z458, z460, z462, z464, z466, z468, z469, o470, h459, h461, h463, h465, h467, -⟩ := s_op8 hI h12
                      refine th_putN (D := (dC, dI)) (ci := 2) (v := .int r427) (ty := .int) (C := RX2) (T := TX2) (N := 7) hx hb hts inX2 tyX2 tyX2_ok nmX2 hown hK hP hD hS (hLK _ h12 (by decide)) o470 rfl 4 (by decide) (va_Nw.use rfl (ax_n40 hN)) (fun _ h9 => h9) rfl (by decide +kernel) rfl rfl (Nat.le_of_ble_eq_true rfl) dX3_readPiece_126 (fun H locs hP hS => ?_)
                      have hIq := hI
                      have hP : va_P (dC, dI) vwCl (va_pl L (va_up F428 qq (.inr (2, [.ref z458, .ref z460, .ref z462, .int z464, .int r427, .int z468, .int z469])))) H := hP
                      obtain ⟨F471, hF472⟩ : ∃ G : Nat → va_E, G = va_up F428 qq (.inr (2, [.ref z458, .ref z460, .ref z462, .int z464, .int r427, .int z468, .int z469])) := ⟨_, rfl⟩
                      rw [← hF472] at hP
                      have hI : s_I K cs D F471 := by rw [hF472]; exact s_cl8 hI h12 ⟨z458, z460, z462, z464, r427, z468, z469, rfl, h459, h461, h463, ⟨by omega, by omega⟩, ⟨by omega, by omega⟩, trivial⟩
                      have hfr : ∀ b, K b ∉ [4, 8, 21, 24, 43] → F471 b = F b := by rw [hF472]; exact s_fr hfr h12 (by decide)
                      have o473 : F471 a0 = .inr (3, [.ref z433, .ref z435, .ref z437, .ref z439, .ref tt, .int z442, .ref qq, .int z445, .int z446, .int z448, .int z450, .int z451, .int z452, .int z454, .int z455]) := by rw [hF472]; exact th_ne (th_kd ha0 h12 (by decide)) o457
                      have hq := s_QGq hIq h444 o470 hF472 rfl rfl (fun _ h9 => Or.inl h9) hq
                      have hLn : ∀ vs, F qq = .inr (2, vs) → ∃ vs2, F471 qq = .inr (2, vs2) ∧ vs2[3]? = vs[3]? := fun vs q => by obtain ⟨w, h1, h2⟩ := hLn vs q; rw [o470] at h1; cases h1; exact ⟨_, (congrFun hF472 _).trans th_up, h2⟩
                      have o474 : F471 qq = .inr (2, [.ref z458, .ref z460, .ref z462, .int z464, .int r427, .int z468, .int z469]) := by rw [hF472]; exact th_up
                      refine lv_goto (tgt := 365) hx hb dX3_readPiece_129 (by decide) ?_
                      exact K365 _ _ _ ⟨F471, _, rfl, lv_sub hl [0] rfl, hI, hP, hS, hfr, (fun vs z q q2 q3 => hq), hLn, ⟨z433, z435, z437, z439, z442, z445, z446, z448, z450, z451, z452, z454, z455, o473, h434, h436, h438, h440, h441, ⟨by omega, by omega⟩, h444, ⟨by omega, by omega⟩, ⟨by omega, by omega⟩, ⟨by omega, by omega⟩, (fun q => by first | omega | exact absurd q (by decide)), trivial⟩⟩
                    · have c426 := mt (ax_eq (n := 87) (by decide)).mpr c426
                      by_cases c475 : x1 = 88
                      · refine ax_eqi c475 ?_
                        refine lv_tableIn (off := 237) (tgt := 238) hx hb dX3_readPiece_1 (by decide) (by decide) (by decide) (by decide) ?_
                        have c475 := (ax_eq (n := 88) (by decide)).mp c475
                        refine lv_aload_n hx hb dX3_readPiece_238 rfl (lv_at hl 0 rfl) ?_
                        have hq : s_QG cs F qq 0 := hQ.resolve_right (fun q => by omega)
                        refine th_get (D := (dC, dI)) (ci := 3) (v := .ref qq) (C := RX3) (T := TX3) (N := 15) hx hb hts inX3 hown hK hP (hLK _ ha0 (by decide)) o25 rfl 6 (by decide) (hts _ T_211) (fun _ h9 => h9) rfl dX3_readPiece_239 ?_
                        obtain ⟨z476, z478, z480, z482, z484, z486, z487, o488, h477, h479, h481, h483, h485, -⟩ := s_op8 hI h12
                        have hIq := hI
                        refine va_callr (va_runV (As := []) (rest := []) ⟨hx, hb, hml, hown, hts⟩ (s_X2_latest l dC dI H.size hLK D F qq h12 hI) (cwV 0 hts (ax_gV T_796 T_798 T_799 T_168 T_797) rfl rfl rfl (by decide +kernel) ⟨Nat.le_of_ble_eq_true rfl, Nat.le_of_ble_eq_true rfl⟩) ⟨fun a U g mk q => ⟨q.1, s_pc (U := U) rfl rfl q.2⟩, s_recv hK hP (hLK _ h12 (by decide)) (ci := 2) rfl o488, fun U hU hW => ⟨rfl, s_pw hU hW hP hK hD hN⟩⟩ rfl rfl hl.1 rfl (lv_room (Nat.le_of_ble_eq_true rfl)) dX3_readPiece_242 ⟨Nat.zero_le _, Nat.zero_le _⟩) hS (fun q _ h => h) (fun q h => h) (fun F490 r489 t H1 locs ht hvm hw hB hz1 hk1 hS => ?_)
                        obtain ⟨hk_r489, hxr_r489, hP, hK1⟩ := hB
                        rw [ht] at hP
                        generalize H1 = H at hP hS ⊢
                        clear hz1 hk1
                        obtain ⟨h491, h492, hI, hfr1⟩ := hw
                        have o493 : F490 a0 = .inr (3, [.ref z1, .ref z3, .ref z5, .ref z7, .ref tt, .int z10, .ref qq, .int z13, .int z14, .int z16, .int z18, .int z19, .int z20, .int z22, .int z23]) := (hfr1 _ (by rw [ha0]; decide)).trans o25
                        have o494 : F490 qq = .inr (2, [.ref z476, .ref z478, .ref z480, .int z482, .int z484, .int z486, .int z487]) := (hfr1 _ (by rw [h12]; decide)).trans o488
                        have hq := s_QGt hIq h12 (fun b hb9 => hfr1 b (by rcases hb9 with q | q | q <;> (rw [q]; decide))) hq
                        have hLn : ∀ vs, F qq = .inr (2, vs) → ∃ vs2, F490 qq = .inr (2, vs2) ∧ vs2[3]? = vs[3]? := fun vs q => by obtain ⟨w, h1, h2⟩ := hLn vs q; exact ⟨w, (hfr1 _ (by rw [h12]; decide)).trans h1, h2⟩
                        have hfr : ∀ b, K b ∉ [4, 8, 21, 24, 43] → F490 b = F b := fun b hb9 => (hfr1 b (fun q => hb9 (s_sub (by decide) q))).trans (hfr b hb9)
                        refine lv_iload_n hx hb dX3_readPiece_245 rfl (lv_at hl 1 rfl) ?_
                        refine lv_bipush (v := 88) hx hb dX3_readPiece_246 (by decide) ?_
                        refine lv_icmp_ne (tgt := 255) hx hb dX3_readPiece_248 (by decide) (fun c495 => ?_) (fun c495 => ?_)
                        · have c495 := mt (ax_eq (n := 88) (by decide)).mpr c495
                          exact absurd c495 (by omega)
                        · have c495 := (ax_eq (n := 88) (by decide)).mp c495
                          refine lv_iconst (v := 2) hx hb dX3_readPiece_251 (by decide) ?_
                          refine lv_goto (tgt := 256) hx hb dX3_readPiece_252 (by decide) ?_
                          refine lv_aload_n hx hb dX3_readPiece_256 rfl (lv_at hl 0 rfl) ?_
                          refine th_get (D := (dC, dI)) (ci := 3) (v := .int z13) (C := RX3) (T := TX3) (N := 15) hx hb hts inX3 hown hK hP (hLK _ ha0 (by decide)) o493 rfl 7 (by decide) (hts _ T_204) (fun _ h9 => h9) rfl dX3_readPiece_257 ?_
                          refine lv_iconst (v := 2) hx hb dX3_readPiece_260 (by decide) ?_
                          refine lv_icmp_ne (tgt := 275) hx hb dX3_readPiece_261 (by decide) (fun c496 => ?_) (fun c496 => ?_)
                          · have c496 := mt (ax_eq (n := 2) (by decide)).mpr c496
                            refine lv_bipush (v := 24) hx hb dX3_readPiece_275 (by decide) ?_
                            refine lv_aload_n hx hb dX3_readPiece_277 rfl (lv_at hl 0 rfl) ?_
                            refine lv_bipush (v := 25) hx hb dX3_readPiece_278 (by decide) ?_
                            refine lv_bipush (v := 28) hx hb dX3_readPiece_280 (by decide) ?_
                            have hIq := hI
                            refine va_calli (va_runV (As := [.int 25, .int 28]) (rest := [.int 24, .int 2, .ref r489]) ⟨hx, hb, hml, hown, hts⟩ (s_X3_readOwn l dC dI H.size hLK D adK adV tf F490 a0 25 28 ha0 (by decide) (by decide) hI tt qq ⟨z1, z3, z5, z7, z10, z13, z14, z16, z18, z19, z20, z22, z23, o493, h2, h4, h6, h8, h9, ⟨by omega, by omega⟩, h12, ⟨by omega, by omega⟩, ⟨by omega, by omega⟩, ⟨by omega, by omega⟩, (fun q => by first | omega | exact absurd q (by decide)), trivial⟩) (cwV 2 hts (ax_gV T_792 T_794 T_795 T_163 T_793) rfl rfl rfl (by decide +kernel) ⟨Nat.le_of_ble_eq_true rfl, Nat.le_of_ble_eq_true rfl⟩) ⟨fun a U g mk q => ⟨q.1, s_pc (U := U) rfl rfl q.2.1, s_pcZ (U := U) rfl rfl q.2.2⟩, s_recv hK hP (hLK _ ha0 (by decide)) (ci := 3) rfl o493, fun U hU hW => ⟨rfl, s_pw hU hW hP hK hD hN, s_pwZ hU hW hS hZ⟩⟩ rfl rfl hl.1 rfl (lv_room (Nat.le_of_ble_eq_true rfl)) dX3_readPiece_282 ⟨Nat.zero_le _, Nat.zero_le _⟩) hS (fun q _ h => h) (fun q h => h) (fun r497 F498 t H1 locs ht hvm hw hB hz1 hk1 hS => ?_)
                            obtain ⟨hP, hK1⟩ := hB
                            rw [ht] at hP
                            generalize H1 = H at hP hS ⊢
                            clear hz1 hk1
                            obtain ⟨h499, h500, hI, hfr1, h501⟩ := hw
                            have o502 : F498 qq = .inr (2, [.ref z476, .ref z478, .ref z480, .int z482, .int z484, .int z486, .int z487]) := (hfr1 _ (by rw [h12]; decide)).trans o494
                            have hq := s_QGt hIq h12 (fun b hb9 => hfr1 b (by rcases hb9 with q | q | q <;> (rw [q]; decide))) hq
                            have hLn : ∀ vs, F qq = .inr (2, vs) → ∃ vs2, F498 qq = .inr (2, vs2) ∧ vs2[3]? = vs[3]? := fun vs q => by obtain ⟨w, h1, h2⟩ := hLn vs q; exact ⟨w, (hfr1 _ (by rw [h12]; decide)).trans h1, h2⟩
                            have hfr : ∀ b, K b ∉ [4, 8, 21, 24, 43] → F498 b = F b := fun b hb9 => (hfr1 b (fun q => hb9 (s_sub (by decide) q))).trans (hfr b hb9)
                            obtain ⟨h500, h503⟩ := h500
                            have h503 : ((r497.toInt = -1 ∧ ∀ vs z, F498 a0 = .inr (3, vs) → vs[13]? = some (.int z) → ¬ z.toInt = 0) ∨ (25 ≤ r497.toInt ∧ r497.toInt ≤ 28)) := h503
                            obtain ⟨z504, z506, z508, z510, z513, z516, z517, z519, z521, z522, z523, z525, z526, o528, h505, h507, h509, h511, h512, h514, h515, h518, h520, h524, h527, -⟩ := h501
                            refine lv_isub hx hb dX3_readPiece_285 ?_
                            refine lv_topi (fun v529 ev529 => ?_)
                            have qv529 : v529.toInt = 24 - r497.toInt := by rw [ev529]; exact th_sub (by decide) rfl ⟨by omega, by omega⟩
                            obtain ⟨f530, o531, h532⟩ := s_op43 hI hk_r489
                            refine th_iast hx hb hK hP hD hS (hLK _ hk_r489 (by decide)) 0 o531 rfl (ax_in (by decide)) dX3_readPiece_286 (fun H locs hP hS => ?_)
                            have hIq := hI
                            have hP : va_P (dC, dI) vwCl (va_pl L (va_up F498 r489 (.inl (cs 0, 7, .inl (upd f530 (2 : Int32).toNatClampNeg v529))))) H := hP
                            obtain ⟨F533, hF534⟩ : ∃ G : Nat → va_E, G = va_up F498 r489 (.inl (cs 0, 7, .inl (upd f530 (2 : Int32).toNatClampNeg v529))) := ⟨_, rfl⟩
                            rw [← hF534] at hP
                            have hI : s_I K cs D F533 := by rw [hF534]; exact s_cl43 hI hk_r489 ⟨_, rfl, th_updJ (P := fun y => y.toInt ≤ 3) h532 (fun q => absurd q (by decide))⟩
                            have hfr : ∀ b, K b ∉ [4, 8, 21, 24, 43] → F533 b = F b := by rw [hF534]; exact s_fr hfr hk_r489 (by decide)
                            have o535 : F533 qq = .inr (2, [.ref z476, .ref z478, .ref z480, .int z482, .int z484, .int z486, .int z487]) := by rw [hF534]; exact th_ne (th_kd h515 hk_r489 (by decide)) o502
                            have o536 : F533 a0 = .inr (3, [.ref z504, .ref z506, .ref z508, .ref z510, .ref tt, .int z513, .ref qq, .int z516, .int z517, .int z519, .int z521, .int z522, .int z523, .int z525, .int z526]) := by rw [hF534]; exact th_ne (th_kd ha0 hk_r489 (by decide)) o528
                            have hq := s_QGrow hIq h515 hk_r489 o531 hF534 (by decide) (by decide) hq
                            have hLn : ∀ vs, F qq = .inr (2, vs) → ∃ vs2, F533 qq = .inr (2, vs2) ∧ vs2[3]? = vs[3]? := fun vs q => by obtain ⟨w, h1, h2⟩ := hLn vs q; exact ⟨w, by rw [hF534]; exact th_ne (th_kd h515 hk_r489 (by decide)) h1, h2⟩
                            refine lv_goto (tgt := 365) hx hb dX3_readPiece_287 (by decide) ?_
                            exact K365 _ _ _ ⟨F533, _, rfl, lv_sub hl [0] rfl, hI, hP, hS, hfr, (fun vs z q q2 q3 => hq), hLn, ⟨z504, z506, z508, z510, z513, z516, z517, z519, z521, z522, z523, z525, z526, o536, h505, h507, h509, h511, h512, ⟨by omega, by omega⟩, h515, ⟨by omega, by omega⟩, ⟨by omega, by omega⟩, ⟨by omega, by omega⟩, (fun q => by first | omega | exact absurd q (by decide)), trivial⟩⟩
                          · have c496 := (ax_eq (n := 2) (by decide)).mp c496
                            refine lv_aload_n hx hb dX3_readPiece_264 rfl (lv_at hl 0 rfl) ?_
                            refine lv_iconst (v := 0) hx hb dX3_readPiece_265 (by decide) ?_
                            refine lv_sipush (v := 999) hx hb dX3_readPiece_266 (by decide) ?_
                            have hIq := hI
                            refine va_calli (va_runV (As := [.int 0, .int 999]) (rest := [.int 2, .ref r489]) ⟨hx, hb, hml, hown, hts⟩ (s_X3_readNumber l dC dI H.size hLK D adK adV tf F490 a0 0 999 ha0 (by decide) (by decide) hI tt qq ⟨z1, z3, z5, z7, z10, z13, z14, z16, z18, z19, z20, z22, z23, o493, h2, h4, h6, h8, h9, ⟨by omega, by omega⟩, h12, ⟨by omega, by omega⟩, ⟨by omega, by omega⟩, ⟨by omega, by omega⟩, (fun q => by first | omega | exact absurd q (by decide)), trivial⟩) (cwV 2 hts (ax_gV T_786 T_788 T_789 T_163 T_787) rfl rfl rfl (by decide +kernel) ⟨Nat.le_of_ble_eq_true rfl, Nat.le_of_ble_eq_true rfl⟩) ⟨fun a U g mk q => ⟨q.1, s_pc (U := U) rfl rfl q.2.1, s_pcZ (U := U) rfl rfl q.2.2⟩, s_recv hK hP (hLK _ ha0 (by decide)) (ci := 3) rfl o493, fun U hU hW => ⟨rfl, s_pw hU hW hP hK hD hN, s_pwZ hU hW hS hZ⟩⟩ rfl rfl hl.1 rfl (lv_room (Nat.le_of_ble_eq_true rfl)) dX3_readPiece_269 ⟨Nat.zero_le _, Nat.zero_le _⟩) hS (fun q _ h => h) (fun q h => h) (fun r537 F538 t H1 locs ht hvm hw hB hz1 hk1 hS => ?_)
                            obtain ⟨hP, hK1⟩ := hB
                            rw [ht] at hP
                            generalize H1 = H at hP hS ⊢
                            clear hz1 hk1
                            obtain ⟨h539, h540, hI, hfr1, h541⟩ := hw
                            have o542 : F538 qq = .inr (2, [.ref z476, .ref z478, .ref z480, .int z482, .int z484, .int z486, .int z487]) := (hfr1 _ (by rw [h12]; decide)).trans o494
                            have hq := s_QGt hIq h12 (fun b hb9 => hfr1 b (by rcases hb9 with q | q | q <;> (rw [q]; decide))) hq
                            have hLn : ∀ vs, F qq = .inr (2, vs) → ∃ vs2, F538 qq = .inr (2, vs2) ∧ vs2[3]? = vs[3]? := fun vs q => by obtain ⟨w, h1, h2⟩ := hLn vs q; exact ⟨w, (hfr1 _ (by rw [h12]; decide)).trans h1, h2⟩
                            have hfr : ∀ b, K b ∉ [4, 8, 21, 24, 43] → F538 b = F b := fun b hb9 => (hfr1 b (fun q => hb9 (s_sub (by decide) q))).trans (hfr b hb9)
                            obtain ⟨h540, h543⟩ := h540
                            have h543 : (r537.toInt = -1 ∨ (0 ≤ r537.toInt ∧ r537.toInt ≤ 999)) := h543
                            obtain ⟨z544, z546, z548, z550, z553, z556, z557, z559, z561, z562, z563, z565, z566, o568, h545, h547, h549, h551, h552, h554, h555, h558, h560, h564, h567, -⟩ := h541
                            refine lv_goto (tgt := 286) hx hb dX3_readPiece_272 (by decide) ?_
                            obtain ⟨f569, o570, h571⟩ := s_op43 hI hk_r489
                            refine th_iast hx hb hK hP hD hS (hLK _ hk_r489 (by decide)) 0 o570 rfl (ax_in (by decide)) dX3_readPiece_286 (fun H locs hP hS => ?_)
                            have hIq := hI
                            have hP : va_P (dC, dI) vwCl (va_pl L (va_up F538 r489 (.inl (cs 0, 7, .inl (upd f569 (2 : Int32).toNatClampNeg r537))))) H := hP
                            obtain ⟨F572, hF573⟩ : ∃ G : Nat → va_E, G = va_up F538 r489 (.inl (cs 0, 7, .inl (upd f569 (2 : Int32).toNatClampNeg r537))) := ⟨_, rfl⟩
                            rw [← hF573] at hP
                            have hI : s_I K cs D F572 := by rw [hF573]; exact s_cl43 hI hk_r489 ⟨_, rfl, th_updJ (P := fun y => y.toInt ≤ 3) h571 (fun q => absurd q (by decide))⟩
                            have hfr : ∀ b, K b ∉ [4, 8, 21, 24, 43] → F572 b = F b := by rw [hF573]; exact s_fr hfr hk_r489 (by decide)
                            have o574 : F572 qq = .inr (2, [.ref z476, .ref z478, .ref z480, .int z482, .int z484, .int z486, .int z487]) := by rw [hF573]; exact th_ne (th_kd h555 hk_r489 (by decide)) o542
                            have o575 : F572 a0 = .inr (3, [.ref z544, .ref z546, .ref z548, .ref z550, .ref tt, .int z553, .ref qq, .int z556, .int z557, .int z559, .int z561, .int z562, .int z563, .int z565, .int z566]) := by rw [hF573]; exact th_ne (th_kd ha0 hk_r489 (by decide)) o568
                            have hq := s_QGrow hIq h555 hk_r489 o570 hF573 (by decide) (by decide) hq
                            have hLn : ∀ vs, F qq = .inr (2, vs) → ∃ vs2, F572 qq = .inr (2, vs2) ∧ vs2[3]? = vs[3]? := fun vs q => by obtain ⟨w, h1, h2⟩ := hLn vs q; exact ⟨w, by rw [hF573]; exact th_ne (th_kd h555 hk_r489 (by decide)) h1, h2⟩
                            refine lv_goto (tgt := 365) hx hb dX3_readPiece_287 (by decide) ?_
                            exact K365 _ _ _ ⟨F572, _, rfl, lv_sub hl [0] rfl, hI, hP, hS, hfr, (fun vs z q q2 q3 => hq), hLn, ⟨z544, z546, z548, z550, z553, z556, z557, z559, z561, z562, z563, z565, z566, o575, h545, h547, h549, h551, h552, ⟨by omega, by omega⟩, h555, ⟨by omega, by omega⟩, ⟨by omega, by omega⟩, ⟨by omega, by omega⟩, (fun q => by first | omega | exact absurd q (by decide)), trivial⟩⟩
                      · have c475 := mt (ax_eq (n := 88) (by decide)).mpr c475
                        by_cases c576 : x1 = 89
                        · refine ax_eqi c576 ?_
                          refine lv_tableIn (off := 237) (tgt := 238) hx hb dX3_readPiece_1 (by decide) (by decide) (by decide) (by decide) ?_
                          have c576 := (ax_eq (n := 89) (by decide)).mp c576
                          refine lv_aload_n hx hb dX3_readPiece_238 rfl (lv_at hl 0 rfl) ?_
                          have hq : s_QG cs F qq 0 := hQ.resolve_right (fun q => by omega)
                          refine th_get (D := (dC, dI)) (ci := 3) (v := .ref qq) (C := RX3) (T := TX3) (N := 15) hx hb hts inX3 hown hK hP (hLK _ ha0 (by decide)) o25 rfl 6 (by decide) (hts _ T_211) (fun _ h9 => h9) rfl dX3_readPiece_239 ?_
                          obtain ⟨z577, z579, z581, z583, z585, z587, z588, o589, h578, h580, h582, h584, h586, -⟩ := s_op8 hI h12
                          have hIq := hI
                          refine va_callr (va_runV (As := []) (rest := []) ⟨hx, hb, hml, hown, hts⟩ (s_X2_latest l dC dI H.size hLK D F qq h12 hI) (cwV 0 hts (ax_gV T_796 T_798 T_799 T_168 T_797) rfl rfl rfl (by decide +kernel) ⟨Nat.le_of_ble_eq_true rfl, Nat.le_of_ble_eq_true rfl⟩) ⟨fun a U g mk q => ⟨q.1, s_pc (U := U) rfl rfl q.2⟩, s_recv hK hP (hLK _ h12 (by decide)) (ci := 2) rfl o589, fun U hU hW => ⟨rfl, s_pw hU hW hP hK hD hN⟩⟩ rfl rfl hl.1 rfl (lv_room (Nat.le_of_ble_eq_true rfl)) dX3_readPiece_242 ⟨Nat.zero_le _, Nat.zero_le _⟩) hS (fun q _ h => h) (fun q h => h) (fun F591 r590 t H1 locs ht hvm hw hB hz1 hk1 hS => ?_)
                          obtain ⟨hk_r590, hxr_r590, hP, hK1⟩ := hB
                          rw [ht] at hP
                          generalize H1 = H at hP hS ⊢
                          clear hz1 hk1
                          obtain ⟨h592, h593, hI, hfr1⟩ := hw
                          have o594 : F591 a0 = .inr (3, [.ref z1, .ref z3, .ref z5, .ref z7, .ref tt, .int z10, .ref qq, .int z13, .int z14, .int z16, .int z18, .int z19, .int z20, .int z22, .int z23]) := (hfr1 _ (by rw [ha0]; decide)).trans o25
                          have o595 : F591 qq = .inr (2, [.ref z577, .ref z579, .ref z581, .int z583, .int z585, .int z587, .int z588]) := (hfr1 _ (by rw [h12]; decide)).trans o589
                          have hq := s_QGt hIq h12 (fun b hb9 => hfr1 b (by rcases hb9 with q | q | q <;> (rw [q]; decide))) hq
                          have hLn : ∀ vs, F qq = .inr (2, vs) → ∃ vs2, F591 qq = .inr (2, vs2) ∧ vs2[3]? = vs[3]? := fun vs q => by obtain ⟨w, h1, h2⟩ := hLn vs q; exact ⟨w, (hfr1 _ (by rw [h12]; decide)).trans h1, h2⟩
                          have hfr : ∀ b, K b ∉ [4, 8, 21, 24, 43] → F591 b = F b := fun b hb9 => (hfr1 b (fun q => hb9 (s_sub (by decide) q))).trans (hfr b hb9)
                          refine lv_iload_n hx hb dX3_readPiece_245 rfl (lv_at hl 1 rfl) ?_
                          refine lv_bipush (v := 88) hx hb dX3_readPiece_246 (by decide) ?_
                          refine lv_icmp_ne (tgt := 255) hx hb dX3_readPiece_248 (by decide) (fun c596 => ?_) (fun c596 => ?_)
                          · have c596 := mt (ax_eq (n := 88) (by decide)).mpr c596
                            refine lv_iconst (v := 3) hx hb dX3_readPiece_255 (by decide) ?_
                            refine lv_aload_n hx hb dX3_readPiece_256 rfl (lv_at hl 0 rfl) ?_
                            refine th_get (D := (dC, dI)) (ci := 3) (v := .int z13) (C := RX3) (T := TX3) (N := 15) hx hb hts inX3 hown hK hP (hLK _ ha0 (by decide)) o594 rfl 7 (by decide) (hts _ T_204) (fun _ h9 => h9) rfl dX3_readPiece_257 ?_
                            refine lv_iconst (v := 2) hx hb dX3_readPiece_260 (by decide) ?_
                            refine lv_icmp_ne (tgt := 275) hx hb dX3_readPiece_261 (by decide) (fun c597 => ?_) (fun c597 => ?_)
                            · have c597 := mt (ax_eq (n := 2) (by decide)).mpr c597
                              refine lv_bipush (v := 24) hx hb dX3_readPiece_275 (by decide) ?_
                              refine lv_aload_n hx hb dX3_readPiece_277 rfl (lv_at hl 0 rfl) ?_
                              refine lv_bipush (v := 25) hx hb dX3_readPiece_278 (by decide) ?_
                              refine lv_bipush (v := 28) hx hb dX3_readPiece_280 (by decide) ?_
                              have hIq := hI
                              refine va_calli (va_runV (As := [.int 25, .int 28]) (rest := [.int 24, .int 3, .ref r590]) ⟨hx, hb, hml, hown, hts⟩ (s_X3_readOwn l dC dI H.size hLK D adK adV tf F591 a0 25 28 ha0 (by decide) (by decide) hI tt qq ⟨z1, z3, z5, z7, z10, z13, z14, z16, z18, z19, z20, z22, z23, o594, h2, h4, h6, h8, h9, ⟨by omega, by omega⟩, h12, ⟨by omega, by omega⟩, ⟨by omega, by omega⟩, ⟨by omega, by omega⟩, (fun q => by first | omega | exact absurd q (by decide)), trivial⟩) (cwV 2 hts (ax_gV T_792 T_794 T_795 T_163 T_793) rfl rfl rfl (by decide +kernel) ⟨Nat.le_of_ble_eq_true rfl, Nat.le_of_ble_eq_true rfl⟩) ⟨fun a U g mk q => ⟨q.1, s_pc (U := U) rfl rfl q.2.1, s_pcZ (U := U) rfl rfl q.2.2⟩, s_recv hK hP (hLK _ ha0 (by decide)) (ci := 3) rfl o594, fun U hU hW => ⟨rfl, s_pw hU hW hP hK hD hN, s_pwZ hU hW hS hZ⟩⟩ rfl rfl hl.1 rfl (lv_room (Nat.le_of_ble_eq_true rfl)) dX3_readPiece_282 ⟨Nat.zero_le _, Nat.zero_le _⟩) hS (fun q _ h => h) (fun q h => h) (fun r598 F599 t H1 locs ht hvm hw hB hz1 hk1 hS => ?_)
                              obtain ⟨hP, hK1⟩ := hB
                              rw [ht] at hP
                              generalize H1 = H at hP hS ⊢
                              clear hz1 hk1
                              obtain ⟨h600, h601, hI, hfr1, h602⟩ := hw
                              have o603 : F599 qq = .inr (2, [.ref z577, .ref z579, .ref z581, .int z583, .int z585, .int z587, .int z588]) := (hfr1 _ (by rw [h12]; decide)).trans o595
                              have hq := s_QGt hIq h12 (fun b hb9 => hfr1 b (by rcases hb9 with q | q | q <;> (rw [q]; decide))) hq
                              have hLn : ∀ vs, F qq = .inr (2, vs) → ∃ vs2, F599 qq = .inr (2, vs2) ∧ vs2[3]? = vs[3]? := fun vs q => by obtain ⟨w, h1, h2⟩ := hLn vs q; exact ⟨w, (hfr1 _ (by rw [h12]; decide)).trans h1, h2⟩
                              have hfr : ∀ b, K b ∉ [4, 8, 21, 24, 43] → F599 b = F b := fun b hb9 => (hfr1 b (fun q => hb9 (s_sub (by decide) q))).trans (hfr b hb9)
                              obtain ⟨h601, h604⟩ := h601
                              have h604 : ((r598.toInt = -1 ∧ ∀ vs z, F599 a0 = .inr (3, vs) → vs[13]? = some (.int z) → ¬ z.toInt = 0) ∨ (25 ≤ r598.toInt ∧ r598.toInt ≤ 28)) := h604
                              obtain ⟨z605, z607, z609, z611, z614, z617, z618, z620, z622, z623, z624, z626, z627, o629, h606, h608, h610, h612, h613, h615, h616, h619, h621, h625, h628, -⟩ := h602
                              refine lv_isub hx hb dX3_readPiece_285 ?_
                              refine lv_topi (fun v630 ev630 => ?_)
                              have qv630 : v630.toInt = 24 - r598.toInt := by rw [ev630]; exact th_sub (by decide) rfl ⟨by omega, by omega⟩
                              obtain ⟨f631, o632, h633⟩ := s_op43 hI hk_r590
                              refine th_iast hx hb hK hP hD hS (hLK _ hk_r590 (by decide)) 0 o632 rfl (ax_in (by decide)) dX3_readPiece_286 (fun H locs hP hS => ?_)
                              have hIq := hI
                              have hP : va_P (dC, dI) vwCl (va_pl L (va_up F599 r590 (.inl (cs 0, 7, .inl (upd f631 (3 : Int32).toNatClampNeg v630))))) H := hP
                              obtain ⟨F634, hF635⟩ : ∃ G : Nat → va_E, G = va_up F599 r590 (.inl (cs 0, 7, .inl (upd f631 (3 : Int32).toNatClampNeg v630))) := ⟨_, rfl⟩
                              rw [← hF635] at hP
                              have hI : s_I K cs D F634 := by rw [hF635]; exact s_cl43 hI hk_r590 ⟨_, rfl, th_updJ (P := fun y => y.toInt ≤ 3) h633 (fun q => absurd q (by decide))⟩
                              have hfr : ∀ b, K b ∉ [4, 8, 21, 24, 43] → F634 b = F b := by rw [hF635]; exact s_fr hfr hk_r590 (by decide)
                              have o636 : F634 qq = .inr (2, [.ref z577, .ref z579, .ref z581, .int z583, .int z585, .int z587, .int z588]) := by rw [hF635]; exact th_ne (th_kd h616 hk_r590 (by decide)) o603
                              have o637 : F634 a0 = .inr (3, [.ref z605, .ref z607, .ref z609, .ref z611, .ref tt, .int z614, .ref qq, .int z617, .int z618, .int z620, .int z622, .int z623, .int z624, .int z626, .int z627]) := by rw [hF635]; exact th_ne (th_kd ha0 hk_r590 (by decide)) o629
                              have hq := s_QGrow hIq h616 hk_r590 o632 hF635 (by decide) (by decide) hq
                              have hLn : ∀ vs, F qq = .inr (2, vs) → ∃ vs2, F634 qq = .inr (2, vs2) ∧ vs2[3]? = vs[3]? := fun vs q => by obtain ⟨w, h1, h2⟩ := hLn vs q; exact ⟨w, by rw [hF635]; exact th_ne (th_kd h616 hk_r590 (by decide)) h1, h2⟩
                              refine lv_goto (tgt := 365) hx hb dX3_readPiece_287 (by decide) ?_
                              exact K365 _ _ _ ⟨F634, _, rfl, lv_sub hl [0] rfl, hI, hP, hS, hfr, (fun vs z q q2 q3 => hq), hLn, ⟨z605, z607, z609, z611, z614, z617, z618, z620, z622, z623, z624, z626, z627, o637, h606, h608, h610, h612, h613, ⟨by omega, by omega⟩, h616, ⟨by omega, by omega⟩, ⟨by omega, by omega⟩, ⟨by omega, by omega⟩, (fun q => by first | omega | exact absurd q (by decide)), trivial⟩⟩
                            · have c597 := (ax_eq (n := 2) (by decide)).mp c597
                              refine lv_aload_n hx hb dX3_readPiece_264 rfl (lv_at hl 0 rfl) ?_
                              refine lv_iconst (v := 0) hx hb dX3_readPiece_265 (by decide) ?_
                              refine lv_sipush (v := 999) hx hb dX3_readPiece_266 (by decide) ?_
                              have hIq := hI
                              refine va_calli (va_runV (As := [.int 0, .int 999]) (rest := [.int 3, .ref r590]) ⟨hx, hb, hml, hown, hts⟩ (s_X3_readNumber l dC dI H.size hLK D adK adV tf F591 a0 0 999 ha0 (by decide) (by decide) hI tt qq ⟨z1, z3, z5, z7, z10, z13, z14, z16, z18, z19, z20, z22, z23, o594, h2, h4, h6, h8, h9, ⟨by omega, by omega⟩, h12, ⟨by omega, by omega⟩, ⟨by omega, by omega⟩, ⟨by omega, by omega⟩, (fun q => by first | omega | exact absurd q (by decide)), trivial⟩) (cwV 2 hts (ax_gV T_786 T_788 T_789 T_163 T_787) rfl rfl rfl (by decide +kernel) ⟨Nat.le_of_ble_eq_true rfl, Nat.le_of_ble_eq_true rfl⟩) ⟨fun a U g mk q => ⟨q.1, s_pc (U := U) rfl rfl q.2.1, s_pcZ (U := U) rfl rfl q.2.2⟩, s_recv hK hP (hLK _ ha0 (by decide)) (ci := 3) rfl o594, fun U hU hW => ⟨rfl, s_pw hU hW hP hK hD hN, s_pwZ hU hW hS hZ⟩⟩ rfl rfl hl.1 rfl (lv_room (Nat.le_of_ble_eq_true rfl)) dX3_readPiece_269 ⟨Nat.zero_le _, Nat.zero_le _⟩) hS (fun q _ h => h) (fun q h => h) (fun r638 F639 t H1 locs ht hvm hw hB hz1 hk1 hS => ?_)
                              obtain ⟨hP, hK1⟩ := hB
                              rw [ht] at hP
                              generalize H1 = H at hP hS ⊢
                              clear hz1 hk1
                              obtain ⟨h640, h641, hI, hfr1, h642⟩ := hw
                              have o643 : F639 qq = .inr (2, [.ref z577, .ref z579, .ref z581, .int z583, .int z585, .int z587, .int z588]) := (hfr1 _ (by rw [h12]; decide)).trans o595
                              have hq := s_QGt hIq h12 (fun b hb9 => hfr1 b (by rcases hb9 with q | q | q <;> (rw [q]; decide))) hq
                              have hLn : ∀ vs, F qq = .inr (2, vs) → ∃ vs2, F639 qq = .inr (2, vs2) ∧ vs2[3]? = vs[3]? := fun vs q => by obtain ⟨w, h1, h2⟩ := hLn vs q; exact ⟨w, (hfr1 _ (by rw [h12]; decide)).trans h1, h2⟩
                              have hfr : ∀ b, K b ∉ [4, 8, 21, 24, 43] → F639 b = F b := fun b hb9 => (hfr1 b (fun q => hb9 (s_sub (by decide) q))).trans (hfr b hb9)
                              obtain ⟨h641, h644⟩ := h641
                              have h644 : (r638.toInt = -1 ∨ (0 ≤ r638.toInt ∧ r638.toInt ≤ 999)) := h644
                              obtain ⟨z645, z647, z649, z651, z654, z657, z658, z660, z662, z663, z664, z666, z667, o669, h646, h648, h650, h652, h653, h655, h656, h659, h661, h665, h668, -⟩ := h642
                              refine lv_goto (tgt := 286) hx hb dX3_readPiece_272 (by decide) ?_
                              obtain ⟨f670, o671, h672⟩ := s_op43 hI hk_r590
                              refine th_iast hx hb hK hP hD hS (hLK _ hk_r590 (by decide)) 0 o671 rfl (ax_in (by decide)) dX3_readPiece_286 (fun H locs hP hS => ?_)
                              have hIq := hI
                              have hP : va_P (dC, dI) vwCl (va_pl L (va_up F639 r590 (.inl (cs 0, 7, .inl (upd f670 (3 : Int32).toNatClampNeg r638))))) H := hP
                              obtain ⟨F673, hF674⟩ : ∃ G : Nat → va_E, G = va_up F639 r590 (.inl (cs 0, 7, .inl (upd f670 (3 : Int32).toNatClampNeg r638))) := ⟨_, rfl⟩
                              rw [← hF674] at hP
                              have hI : s_I K cs D F673 := by rw [hF674]; exact s_cl43 hI hk_r590 ⟨_, rfl, th_updJ (P := fun y => y.toInt ≤ 3) h672 (fun q => absurd q (by decide))⟩
                              have hfr : ∀ b, K b ∉ [4, 8, 21, 24, 43] → F673 b = F b := by rw [hF674]; exact s_fr hfr hk_r590 (by decide)
                              have o675 : F673 qq = .inr (2, [.ref z577, .ref z579, .ref z581, .int z583, .int z585, .int z587, .int z588]) := by rw [hF674]; exact th_ne (th_kd h656 hk_r590 (by decide)) o643
                              have o676 : F673 a0 = .inr (3, [.ref z645, .ref z647, .ref z649, .ref z651, .ref tt, .int z654, .ref qq, .int z657, .int z658, .int z660, .int z662, .int z663, .int z664, .int z666, .int z667]) := by rw [hF674]; exact th_ne (th_kd ha0 hk_r590 (by decide)) o669
                              have hq := s_QGrow hIq h656 hk_r590 o671 hF674 (by decide) (by decide) hq
                              have hLn : ∀ vs, F qq = .inr (2, vs) → ∃ vs2, F673 qq = .inr (2, vs2) ∧ vs2[3]? = vs[3]? := fun vs q => by obtain ⟨w, h1, h2⟩ := hLn vs q; exact ⟨w, by rw [hF674]; exact th_ne (th_kd h656 hk_r590 (by decide)) h1, h2⟩
                              refine lv_goto (tgt := 365) hx hb dX3_readPiece_287 (by decide) ?_
                              exact K365 _ _ _ ⟨F673, _, rfl, lv_sub hl [0] rfl, hI, hP, hS, hfr, (fun vs z q q2 q3 => hq), hLn, ⟨z645, z647, z649, z651, z654, z657, z658, z660, z662, z663, z664, z666, z667, o676, h646, h648, h650, h652, h653, ⟨by omega, by omega⟩, h656, ⟨by omega, by omega⟩, ⟨by omega, by omega⟩, ⟨by omega, by omega⟩, (fun q => by first | omega | exact absurd q (by decide)), trivial⟩⟩
                          · have c596 := (ax_eq (n := 88) (by decide)).mp c596
                            exact absurd c596 (by omega)
                        · have c576 := mt (ax_eq (n := 89) (by decide)).mpr c576
                          by_cases c677 : x1 = 66
                          · refine ax_eqi c677 ?_
                            refine lv_tableIn (off := 358) (tgt := 359) hx hb dX3_readPiece_1 (by decide) (by decide) (by decide) (by decide) ?_
                            have c677 := (ax_eq (n := 66) (by decide)).mp c677
                            refine lv_aload_n hx hb dX3_readPiece_359 rfl (lv_at hl 0 rfl) ?_
                            have hq : s_QG cs F qq 0 := hQ.resolve_right (fun q => by omega)
                            refine lv_iload_n hx hb dX3_readPiece_360 rfl (lv_at hl 1 rfl) ?_
                            have hIq := hI
                            refine va_calli (va_runV (As := [.int x1]) (rest := []) ⟨hx, hb, hml, hown, hts⟩ (s_X3_readSign l dC dI H.size hLK D adK adV tf F a0 x1 ha0 hI tt qq ⟨z1, z3, z5, z7, z10, z13, z14, z16, z18, z19, z20, z22, z23, o25, h2, h4, h6, h8, h9, ⟨by omega, by omega⟩, h12, ⟨by omega, by omega⟩, ⟨by omega, by omega⟩, ⟨by omega, by omega⟩, (fun q => by first | omega | exact absurd q (by decide)), trivial⟩) (cwV 1 hts (ax_gV T_761 T_763 T_764 T_163 T_762) rfl rfl rfl (by decide +kernel) ⟨Nat.le_of_ble_eq_true rfl, Nat.le_of_ble_eq_true rfl⟩) ⟨fun a U g mk q => ⟨q.1, s_pc (U := U) rfl rfl q.2.1, s_pcZ (U := U) rfl rfl q.2.2⟩, s_recv hK hP (hLK _ ha0 (by decide)) (ci := 3) rfl o25, fun U hU hW => ⟨rfl, s_pw hU hW hP hK hD hN, s_pwZ hU hW hS hZ⟩⟩ rfl rfl hl.1 rfl (lv_room (Nat.le_of_ble_eq_true rfl)) dX3_readPiece_361 ⟨Nat.zero_le _, Nat.zero_le _⟩) hS (fun q _ h => h) (fun q h => h) (fun r678 F679 t H1 locs ht hvm hw hB hz1 hk1 hS => ?_)
                            obtain ⟨hP, hK1⟩ := hB
                            rw [ht] at hP
                            generalize H1 = H at hP hS ⊢
                            clear hz1 hk1
                            obtain ⟨h680, h681, hI, hfr1, h682⟩ := hw
                            have hq := s_QGt hIq h12 (fun b hb9 => hfr1 b (by rcases hb9 with q | q | q <;> (rw [q]; decide))) hq
                            have hLn : ∀ vs, F qq = .inr (2, vs) → ∃ vs2, F679 qq = .inr (2, vs2) ∧ vs2[3]? = vs[3]? := fun vs q => by obtain ⟨w, h1, h2⟩ := hLn vs q; exact ⟨w, (hfr1 _ (by rw [h12]; decide)).trans h1, h2⟩
                            have hfr : ∀ b, K b ∉ [4, 8, 21, 24, 43] → F679 b = F b := fun b hb9 => (hfr1 b (fun q => hb9 (s_sub (by decide) q))).trans (hfr b hb9)
                            obtain ⟨z683, z685, z687, z689, z692, z695, z696, z698, z700, z701, z702, z704, z705, o707, h684, h686, h688, h690, h691, h693, h694, h697, h699, h703, h706, -⟩ := h682
                            exact W.zret (v := r678) (ty := .boolean) hx hb hr (th_nz ⟨by omega, by omega⟩) (fun t ht hW => ⟨⟨r678, F679, rfl, ⟨⟨by omega, by omega⟩, ⟨trivial, ⟨fun _ => hq, hLn⟩⟩, hI, hfr, ⟨z683, z685, z687, z689, z692, z695, z696, z698, z700, z701, z702, z704, z705, o707, h684, h686, h688, h690, h691, ⟨by omega, by omega⟩, h694, ⟨by omega, by omega⟩, ⟨by omega, by omega⟩, ⟨by omega, by omega⟩, (fun q => by first | omega | exact absurd q (by decide)), trivial⟩⟩, by rw [ht]; exact hP, va_K.moved hW.alike hK⟩, hS.F ht⟩) hS.2.2 dX3_readPiece_364
                          · have c677 := mt (ax_eq (n := 66) (by decide)).mpr c677
                            by_cases c708 : x1 = 67
                            · refine ax_eqi c708 ?_
                              refine lv_tableIn (off := 358) (tgt := 359) hx hb dX3_readPiece_1 (by decide) (by decide) (by decide) (by decide) ?_
                              have c708 := (ax_eq (n := 67) (by decide)).mp c708
                              refine lv_aload_n hx hb dX3_readPiece_359 rfl (lv_at hl 0 rfl) ?_
                              have hq : s_QG cs F qq 0 := hQ.resolve_right (fun q => by omega)
                              refine lv_iload_n hx hb dX3_readPiece_360 rfl (lv_at hl 1 rfl) ?_
                              have hIq := hI
                              refine va_calli (va_runV (As := [.int x1]) (rest := []) ⟨hx, hb, hml, hown, hts⟩ (s_X3_readSign l dC dI H.size hLK D adK adV tf F a0 x1 ha0 hI tt qq ⟨z1, z3, z5, z7, z10, z13, z14, z16, z18, z19, z20, z22, z23, o25, h2, h4, h6, h8, h9, ⟨by omega, by omega⟩, h12, ⟨by omega, by omega⟩, ⟨by omega, by omega⟩, ⟨by omega, by omega⟩, (fun q => by first | omega | exact absurd q (by decide)), trivial⟩) (cwV 1 hts (ax_gV T_761 T_763 T_764 T_163 T_762) rfl rfl rfl (by decide +kernel) ⟨Nat.le_of_ble_eq_true rfl, Nat.le_of_ble_eq_true rfl⟩) ⟨fun a U g mk q => ⟨q.1, s_pc (U := U) rfl rfl q.2.1, s_pcZ (U := U) rfl rfl q.2.2⟩, s_recv hK hP (hLK _ ha0 (by decide)) (ci := 3) rfl o25, fun U hU hW => ⟨rfl, s_pw hU hW hP hK hD hN, s_pwZ hU hW hS hZ⟩⟩ rfl rfl hl.1 rfl (lv_room (Nat.le_of_ble_eq_true rfl)) dX3_readPiece_361 ⟨Nat.zero_le _, Nat.zero_le _⟩) hS (fun q _ h => h) (fun q h => h) (fun r709 F710 t H1 locs ht hvm hw hB hz1 hk1 hS => ?_)
                              obtain ⟨hP, hK1⟩ := hB
                              rw [ht] at hP
                              generalize H1 = H at hP hS ⊢
                              clear hz1 hk1
                              obtain ⟨h711, h712, hI, hfr1, h713⟩ := hw
                              have hq := s_QGt hIq h12 (fun b hb9 => hfr1 b (by rcases hb9 with q | q | q <;> (rw [q]; decide))) hq
                              have hLn : ∀ vs, F qq = .inr (2, vs) → ∃ vs2, F710 qq = .inr (2, vs2) ∧ vs2[3]? = vs[3]? := fun vs q => by obtain ⟨w, h1, h2⟩ := hLn vs q; exact ⟨w, (hfr1 _ (by rw [h12]; decide)).trans h1, h2⟩
                              have hfr : ∀ b, K b ∉ [4, 8, 21, 24, 43] → F710 b = F b := fun b hb9 => (hfr1 b (fun q => hb9 (s_sub (by decide) q))).trans (hfr b hb9)
                              obtain ⟨z714, z716, z718, z720, z723, z726, z727, z729, z731, z732, z733, z735, z736, o738, h715, h717, h719, h721, h722, h724, h725, h728, h730, h734, h737, -⟩ := h713
                              exact W.zret (v := r709) (ty := .boolean) hx hb hr (th_nz ⟨by omega, by omega⟩) (fun t ht hW => ⟨⟨r709, F710, rfl, ⟨⟨by omega, by omega⟩, ⟨trivial, ⟨fun _ => hq, hLn⟩⟩, hI, hfr, ⟨z714, z716, z718, z720, z723, z726, z727, z729, z731, z732, z733, z735, z736, o738, h715, h717, h719, h721, h722, ⟨by omega, by omega⟩, h725, ⟨by omega, by omega⟩, ⟨by omega, by omega⟩, ⟨by omega, by omega⟩, (fun q => by first | omega | exact absurd q (by decide)), trivial⟩⟩, by rw [ht]; exact hP, va_K.moved hW.alike hK⟩, hS.F ht⟩) hS.2.2 dX3_readPiece_364
                            · have c708 := mt (ax_eq (n := 67) (by decide)).mpr c708
                              by_cases c739 : x1 = 68
                              · refine ax_eqi c739 ?_
                                refine lv_tableIn (off := 358) (tgt := 359) hx hb dX3_readPiece_1 (by decide) (by decide) (by decide) (by decide) ?_
                                have c739 := (ax_eq (n := 68) (by decide)).mp c739
                                refine lv_aload_n hx hb dX3_readPiece_359 rfl (lv_at hl 0 rfl) ?_
                                have hq : s_QG cs F qq 0 := hQ.resolve_right (fun q => by omega)
                                refine lv_iload_n hx hb dX3_readPiece_360 rfl (lv_at hl 1 rfl) ?_
                                have hIq := hI
                                refine va_calli (va_runV (As := [.int x1]) (rest := []) ⟨hx, hb, hml, hown, hts⟩ (s_X3_readSign l dC dI H.size hLK D adK adV tf F a0 x1 ha0 hI tt qq ⟨z1, z3, z5, z7, z10, z13, z14, z16, z18, z19, z20, z22, z23, o25, h2, h4, h6, h8, h9, ⟨by omega, by omega⟩, h12, ⟨by omega, by omega⟩, ⟨by omega, by omega⟩, ⟨by omega, by omega⟩, (fun q => by first | omega | exact absurd q (by decide)), trivial⟩) (cwV 1 hts (ax_gV T_761 T_763 T_764 T_163 T_762) rfl rfl rfl (by decide +kernel) ⟨Nat.le_of_ble_eq_true rfl, Nat.le_of_ble_eq_true rfl⟩) ⟨fun a U g mk q => ⟨q.1, s_pc (U := U) rfl rfl q.2.1, s_pcZ (U := U) rfl rfl q.2.2⟩, s_recv hK hP (hLK _ ha0 (by decide)) (ci := 3) rfl o25, fun U hU hW => ⟨rfl, s_pw hU hW hP hK hD hN, s_pwZ hU hW hS hZ⟩⟩ rfl rfl hl.1 rfl (lv_room (Nat.le_of_ble_eq_true rfl)) dX3_readPiece_361 ⟨Nat.zero_le _, Nat.zero_le _⟩) hS (fun q _ h => h) (fun q h => h) (fun r740 F741 t H1 locs ht hvm hw hB hz1 hk1 hS => ?_)
                                obtain ⟨hP, hK1⟩ := hB
                                rw [ht] at hP
                                generalize H1 = H at hP hS ⊢
                                clear hz1 hk1
                                obtain ⟨h742, h743, hI, hfr1, h744⟩ := hw
                                have hq := s_QGt hIq h12 (fun b hb9 => hfr1 b (by rcases hb9 with q | q | q <;> (rw [q]; decide))) hq
                                have hLn : ∀ vs, F qq = .inr (2, vs) → ∃ vs2, F741 qq = .inr (2, vs2) ∧ vs2[3]? = vs[3]? := fun vs q => by obtain ⟨w, h1, h2⟩ := hLn vs q; exact ⟨w, (hfr1 _ (by rw [h12]; decide)).trans h1, h2⟩
                                have hfr : ∀ b, K b ∉ [4, 8, 21, 24, 43] → F741 b = F b := fun b hb9 => (hfr1 b (fun q => hb9 (s_sub (by decide) q))).trans (hfr b hb9)
                                obtain ⟨z745, z747, z749, z751, z754, z757, z758, z760, z762, z763, z764, z766, z767, o769, h746, h748, h750, h752, h753, h755, h756, h759, h761, h765, h768, -⟩ := h744
                                exact W.zret (v := r740) (ty := .boolean) hx hb hr (th_nz ⟨by omega, by omega⟩) (fun t ht hW => ⟨⟨r740, F741, rfl, ⟨⟨by omega, by omega⟩, ⟨trivial, ⟨fun _ => hq, hLn⟩⟩, hI, hfr, ⟨z745, z747, z749, z751, z754, z757, z758, z760, z762, z763, z764, z766, z767, o769, h746, h748, h750, h752, h753, ⟨by omega, by omega⟩, h756, ⟨by omega, by omega⟩, ⟨by omega, by omega⟩, ⟨by omega, by omega⟩, (fun q => by first | omega | exact absurd q (by decide)), trivial⟩⟩, by rw [ht]; exact hP, va_K.moved hW.alike hK⟩, hS.F ht⟩) hS.2.2 dX3_readPiece_364
                              · have c739 := mt (ax_eq (n := 68) (by decide)).mpr c739
                                by_cases c770 : x1 = 69
                                · refine ax_eqi c770 ?_
                                  refine lv_tableIn (off := 358) (tgt := 359) hx hb dX3_readPiece_1 (by decide) (by decide) (by decide) (by decide) ?_
                                  have c770 := (ax_eq (n := 69) (by decide)).mp c770
                                  refine lv_aload_n hx hb dX3_readPiece_359 rfl (lv_at hl 0 rfl) ?_
                                  have hq : s_QG cs F qq 0 := hQ.resolve_right (fun q => by omega)
                                  refine lv_iload_n hx hb dX3_readPiece_360 rfl (lv_at hl 1 rfl) ?_
                                  have hIq := hI
                                  refine va_calli (va_runV (As := [.int x1]) (rest := []) ⟨hx, hb, hml, hown, hts⟩ (s_X3_readSign l dC dI H.size hLK D adK adV tf F a0 x1 ha0 hI tt qq ⟨z1, z3, z5, z7, z10, z13, z14, z16, z18, z19, z20, z22, z23, o25, h2, h4, h6, h8, h9, ⟨by omega, by omega⟩, h12, ⟨by omega, by omega⟩, ⟨by omega, by omega⟩, ⟨by omega, by omega⟩, (fun q => by first | omega | exact absurd q (by decide)), trivial⟩) (cwV 1 hts (ax_gV T_761 T_763 T_764 T_163 T_762) rfl rfl rfl (by decide +kernel) ⟨Nat.le_of_ble_eq_true rfl, Nat.le_of_ble_eq_true rfl⟩) ⟨fun a U g mk q => ⟨q.1, s_pc (U := U) rfl rfl q.2.1, s_pcZ (U := U) rfl rfl q.2.2⟩, s_recv hK hP (hLK _ ha0 (by decide)) (ci := 3) rfl o25, fun U hU hW => ⟨rfl, s_pw hU hW hP hK hD hN, s_pwZ hU hW hS hZ⟩⟩ rfl rfl hl.1 rfl (lv_room (Nat.le_of_ble_eq_true rfl)) dX3_readPiece_361 ⟨Nat.zero_le _, Nat.zero_le _⟩) hS (fun q _ h => h) (fun q h => h) (fun r771 F772 t H1 locs ht hvm hw hB hz1 hk1 hS => ?_)
                                  obtain ⟨hP, hK1⟩ := hB
                                  rw [ht] at hP
                                  generalize H1 = H at hP hS ⊢
                                  clear hz1 hk1
                                  obtain ⟨h773, h774, hI, hfr1, h775⟩ := hw
                                  have hq := s_QGt hIq h12 (fun b hb9 => hfr1 b (by rcases hb9 with q | q | q <;> (rw [q]; decide))) hq
                                  have hLn : ∀ vs, F qq = .inr (2, vs) → ∃ vs2, F772 qq = .inr (2, vs2) ∧ vs2[3]? = vs[3]? := fun vs q => by obtain ⟨w, h1, h2⟩ := hLn vs q; exact ⟨w, (hfr1 _ (by rw [h12]; decide)).trans h1, h2⟩
                                  have hfr : ∀ b, K b ∉ [4, 8, 21, 24, 43] → F772 b = F b := fun b hb9 => (hfr1 b (fun q => hb9 (s_sub (by decide) q))).trans (hfr b hb9)
                                  obtain ⟨z776, z778, z780, z782, z785, z788, z789, z791, z793, z794, z795, z797, z798, o800, h777, h779, h781, h783, h784, h786, h787, h790, h792, h796, h799, -⟩ := h775
                                  exact W.zret (v := r771) (ty := .boolean) hx hb hr (th_nz ⟨by omega, by omega⟩) (fun t ht hW => ⟨⟨r771, F772, rfl, ⟨⟨by omega, by omega⟩, ⟨trivial, ⟨fun _ => hq, hLn⟩⟩, hI, hfr, ⟨z776, z778, z780, z782, z785, z788, z789, z791, z793, z794, z795, z797, z798, o800, h777, h779, h781, h783, h784, ⟨by omega, by omega⟩, h787, ⟨by omega, by omega⟩, ⟨by omega, by omega⟩, ⟨by omega, by omega⟩, (fun q => by first | omega | exact absurd q (by decide)), trivial⟩⟩, by rw [ht]; exact hP, va_K.moved hW.alike hK⟩, hS.F ht⟩) hS.2.2 dX3_readPiece_364
                                · have c770 := mt (ax_eq (n := 69) (by decide)).mpr c770
                                  by_cases c801 : x1 = 70
                                  · refine ax_eqi c801 ?_
                                    refine lv_tableIn (off := 358) (tgt := 359) hx hb dX3_readPiece_1 (by decide) (by decide) (by decide) (by decide) ?_
                                    have c801 := (ax_eq (n := 70) (by decide)).mp c801
                                    refine lv_aload_n hx hb dX3_readPiece_359 rfl (lv_at hl 0 rfl) ?_
                                    have hq : s_QG cs F qq 0 := hQ.resolve_right (fun q => by omega)
                                    refine lv_iload_n hx hb dX3_readPiece_360 rfl (lv_at hl 1 rfl) ?_
                                    have hIq := hI
                                    refine va_calli (va_runV (As := [.int x1]) (rest := []) ⟨hx, hb, hml, hown, hts⟩ (s_X3_readSign l dC dI H.size hLK D adK adV tf F a0 x1 ha0 hI tt qq ⟨z1, z3, z5, z7, z10, z13, z14, z16, z18, z19, z20, z22, z23, o25, h2, h4, h6, h8, h9, ⟨by omega, by omega⟩, h12, ⟨by omega, by omega⟩, ⟨by omega, by omega⟩, ⟨by omega, by omega⟩, (fun q => by first | omega | exact absurd q (by decide)), trivial⟩) (cwV 1 hts (ax_gV T_761 T_763 T_764 T_163 T_762) rfl rfl rfl (by decide +kernel) ⟨Nat.le_of_ble_eq_true rfl, Nat.le_of_ble_eq_true rfl⟩) ⟨fun a U g mk q => ⟨q.1, s_pc (U := U) rfl rfl q.2.1, s_pcZ (U := U) rfl rfl q.2.2⟩, s_recv hK hP (hLK _ ha0 (by decide)) (ci := 3) rfl o25, fun U hU hW => ⟨rfl, s_pw hU hW hP hK hD hN, s_pwZ hU hW hS hZ⟩⟩ rfl rfl hl.1 rfl (lv_room (Nat.le_of_ble_eq_true rfl)) dX3_readPiece_361 ⟨Nat.zero_le _, Nat.zero_le _⟩) hS (fun q _ h => h) (fun q h => h) (fun r802 F803 t H1 locs ht hvm hw hB hz1 hk1 hS => ?_)
                                    obtain ⟨hP, hK1⟩ := hB
                                    rw [ht] at hP
                                    generalize H1 = H at hP hS ⊢
                                    clear hz1 hk1
                                    obtain ⟨h804, h805, hI, hfr1, h806⟩ := hw
                                    have hq := s_QGt hIq h12 (fun b hb9 => hfr1 b (by rcases hb9 with q | q | q <;> (rw [q]; decide))) hq
                                    have hLn : ∀ vs, F qq = .inr (2, vs) → ∃ vs2, F803 qq = .inr (2, vs2) ∧ vs2[3]? = vs[3]? := fun vs q => by obtain ⟨w, h1, h2⟩ := hLn vs q; exact ⟨w, (hfr1 _ (by rw [h12]; decide)).trans h1, h2⟩
                                    have hfr : ∀ b, K b ∉ [4, 8, 21, 24, 43] → F803 b = F b := fun b hb9 => (hfr1 b (fun q => hb9 (s_sub (by decide) q))).trans (hfr b hb9)
                                    obtain ⟨z807, z809, z811, z813, z816, z819, z820, z822, z824, z825, z826, z828, z829, o831, h808, h810, h812, h814, h815, h817, h818, h821, h823, h827, h830, -⟩ := h806
                                    exact W.zret (v := r802) (ty := .boolean) hx hb hr (th_nz ⟨by omega, by omega⟩) (fun t ht hW => ⟨⟨r802, F803, rfl, ⟨⟨by omega, by omega⟩, ⟨trivial, ⟨fun _ => hq, hLn⟩⟩, hI, hfr, ⟨z807, z809, z811, z813, z816, z819, z820, z822, z824, z825, z826, z828, z829, o831, h808, h810, h812, h814, h815, ⟨by omega, by omega⟩, h818, ⟨by omega, by omega⟩, ⟨by omega, by omega⟩, ⟨by omega, by omega⟩, (fun q => by first | omega | exact absurd q (by decide)), trivial⟩⟩, by rw [ht]; exact hP, va_K.moved hW.alike hK⟩, hS.F ht⟩) hS.2.2 dX3_readPiece_364
                                  · have c801 := mt (ax_eq (n := 70) (by decide)).mpr c801
                                    by_cases c832 : x1 = 72
                                    · refine ax_eqi c832 ?_
                                      refine lv_tableIn (off := 358) (tgt := 359) hx hb dX3_readPiece_1 (by decide) (by decide) (by decide) (by decide) ?_
                                      have c832 := (ax_eq (n := 72) (by decide)).mp c832
                                      refine lv_aload_n hx hb dX3_readPiece_359 rfl (lv_at hl 0 rfl) ?_
                                      have hq : s_QG cs F qq 0 := hQ.resolve_right (fun q => by omega)
                                      refine lv_iload_n hx hb dX3_readPiece_360 rfl (lv_at hl 1 rfl) ?_
                                      have hIq := hI
                                      refine va_calli (va_runV (As := [.int x1]) (rest := []) ⟨hx, hb, hml, hown, hts⟩ (s_X3_readSign l dC dI H.size hLK D adK adV tf F a0 x1 ha0 hI tt qq ⟨z1, z3, z5, z7, z10, z13, z14, z16, z18, z19, z20, z22, z23, o25, h2, h4, h6, h8, h9, ⟨by omega, by omega⟩, h12, ⟨by omega, by omega⟩, ⟨by omega, by omega⟩, ⟨by omega, by omega⟩, (fun q => by first | omega | exact absurd q (by decide)), trivial⟩) (cwV 1 hts (ax_gV T_761 T_763 T_764 T_163 T_762) rfl rfl rfl (by decide +kernel) ⟨Nat.le_of_ble_eq_true rfl, Nat.le_of_ble_eq_true rfl⟩) ⟨fun a U g mk q => ⟨q.1, s_pc (U := U) rfl rfl q.2.1, s_pcZ (U := U) rfl rfl q.2.2⟩, s_recv hK hP (hLK _ ha0 (by decide)) (ci := 3) rfl o25, fun U hU hW => ⟨rfl, s_pw hU hW hP hK hD hN, s_pwZ hU hW hS hZ⟩⟩ rfl rfl hl.1 rfl (lv_room (Nat.le_of_ble_eq_true rfl)) dX3_readPiece_361 ⟨Nat.zero_le _, Nat.zero_le _⟩) hS (fun q _ h => h) (fun q h => h) (fun r833 F834 t H1 locs ht hvm hw hB hz1 hk1 hS => ?_)
                                      obtain ⟨hP, hK1⟩ := hB
                                      rw [ht] at hP
                                      generalize H1 = H at hP hS ⊢
                                      clear hz1 hk1
                                      obtain ⟨h835, h836, hI, hfr1, h837⟩ := hw
                                      have hq := s_QGt hIq h12 (fun b hb9 => hfr1 b (by rcases hb9 with q | q | q <;> (rw [q]; decide))) hq
                                      have hLn : ∀ vs, F qq = .inr (2, vs) → ∃ vs2, F834 qq = .inr (2, vs2) ∧ vs2[3]? = vs[3]? := fun vs q => by obtain ⟨w, h1, h2⟩ := hLn vs q; exact ⟨w, (hfr1 _ (by rw [h12]; decide)).trans h1, h2⟩
                                      have hfr : ∀ b, K b ∉ [4, 8, 21, 24, 43] → F834 b = F b := fun b hb9 => (hfr1 b (fun q => hb9 (s_sub (by decide) q))).trans (hfr b hb9)
                                      obtain ⟨z838, z840, z842, z844, z847, z850, z851, z853, z855, z856, z857, z859, z860, o862, h839, h841, h843, h845, h846, h848, h849, h852, h854, h858, h861, -⟩ := h837
                                      exact W.zret (v := r833) (ty := .boolean) hx hb hr (th_nz ⟨by omega, by omega⟩) (fun t ht hW => ⟨⟨r833, F834, rfl, ⟨⟨by omega, by omega⟩, ⟨trivial, ⟨fun _ => hq, hLn⟩⟩, hI, hfr, ⟨z838, z840, z842, z844, z847, z850, z851, z853, z855, z856, z857, z859, z860, o862, h839, h841, h843, h845, h846, ⟨by omega, by omega⟩, h849, ⟨by omega, by omega⟩, ⟨by omega, by omega⟩, ⟨by omega, by omega⟩, (fun q => by first | omega | exact absurd q (by decide)), trivial⟩⟩, by rw [ht]; exact hP, va_K.moved hW.alike hK⟩, hS.F ht⟩) hS.2.2 dX3_readPiece_364
                                    · have c832 := mt (ax_eq (n := 72) (by decide)).mpr c832
                                      by_cases c863 : x1 = 74
                                      · refine ax_eqi c863 ?_
                                        refine lv_tableIn (off := 358) (tgt := 359) hx hb dX3_readPiece_1 (by decide) (by decide) (by decide) (by decide) ?_
                                        have c863 := (ax_eq (n := 74) (by decide)).mp c863
                                        refine lv_aload_n hx hb dX3_readPiece_359 rfl (lv_at hl 0 rfl) ?_
                                        have hq : s_QG cs F qq 0 := hQ.resolve_right (fun q => by omega)
                                        refine lv_iload_n hx hb dX3_readPiece_360 rfl (lv_at hl 1 rfl) ?_
                                        have hIq := hI
                                        refine va_calli (va_runV (As := [.int x1]) (rest := []) ⟨hx, hb, hml, hown, hts⟩ (s_X3_readSign l dC dI H.size hLK D adK adV tf F a0 x1 ha0 hI tt qq ⟨z1, z3, z5, z7, z10, z13, z14, z16, z18, z19, z20, z22, z23, o25, h2, h4, h6, h8, h9, ⟨by omega, by omega⟩, h12, ⟨by omega, by omega⟩, ⟨by omega, by omega⟩, ⟨by omega, by omega⟩, (fun q => by first | omega | exact absurd q (by decide)), trivial⟩) (cwV 1 hts (ax_gV T_761 T_763 T_764 T_163 T_762) rfl rfl rfl (by decide +kernel) ⟨Nat.le_of_ble_eq_true rfl, Nat.le_of_ble_eq_true rfl⟩) ⟨fun a U g mk q => ⟨q.1, s_pc (U := U) rfl rfl q.2.1, s_pcZ (U := U) rfl rfl q.2.2⟩, s_recv hK hP (hLK _ ha0 (by decide)) (ci := 3) rfl o25, fun U hU hW => ⟨rfl, s_pw hU hW hP hK hD hN, s_pwZ hU hW hS hZ⟩⟩ rfl rfl hl.1 rfl (lv_room (Nat.le_of_ble_eq_true rfl)) dX3_readPiece_361 ⟨Nat.zero_le _, Nat.zero_le _⟩) hS (fun q _ h => h) (fun q h => h) (fun r864 F865 t H1 locs ht hvm hw hB hz1 hk1 hS => ?_)
                                        obtain ⟨hP, hK1⟩ := hB
                                        rw [ht] at hP
                                        generalize H1 = H at hP hS ⊢
                                        clear hz1 hk1
                                        obtain ⟨h866, h867, hI, hfr1, h868⟩ := hw
                                        have hq := s_QGt hIq h12 (fun b hb9 => hfr1 b (by rcases hb9 with q | q | q <;> (rw [q]; decide))) hq
                                        have hLn : ∀ vs, F qq = .inr (2, vs) → ∃ vs2, F865 qq = .inr (2, vs2) ∧ vs2[3]? = vs[3]? := fun vs q => by obtain ⟨w, h1, h2⟩ := hLn vs q; exact ⟨w, (hfr1 _ (by rw [h12]; decide)).trans h1, h2⟩
                                        have hfr : ∀ b, K b ∉ [4, 8, 21, 24, 43] → F865 b = F b := fun b hb9 => (hfr1 b (fun q => hb9 (s_sub (by decide) q))).trans (hfr b hb9)
                                        obtain ⟨z869, z871, z873, z875, z878, z881, z882, z884, z886, z887, z888, z890, z891, o893, h870, h872, h874, h876, h877, h879, h880, h883, h885, h889, h892, -⟩ := h868
                                        exact W.zret (v := r864) (ty := .boolean) hx hb hr (th_nz ⟨by omega, by omega⟩) (fun t ht hW => ⟨⟨r864, F865, rfl, ⟨⟨by omega, by omega⟩, ⟨trivial, ⟨fun _ => hq, hLn⟩⟩, hI, hfr, ⟨z869, z871, z873, z875, z878, z881, z882, z884, z886, z887, z888, z890, z891, o893, h870, h872, h874, h876, h877, ⟨by omega, by omega⟩, h880, ⟨by omega, by omega⟩, ⟨by omega, by omega⟩, ⟨by omega, by omega⟩, (fun q => by first | omega | exact absurd q (by decide)), trivial⟩⟩, by rw [ht]; exact hP, va_K.moved hW.alike hK⟩, hS.F ht⟩) hS.2.2 dX3_readPiece_364
                                      · have c863 := mt (ax_eq (n := 74) (by decide)).mpr c863
                                        by_cases c894 : x1 = 75
                                        · refine ax_eqi c894 ?_
                                          refine lv_tableIn (off := 358) (tgt := 359) hx hb dX3_readPiece_1 (by decide) (by decide) (by decide) (by decide) ?_
                                          have c894 := (ax_eq (n := 75) (by decide)).mp c894
                                          refine lv_aload_n hx hb dX3_readPiece_359 rfl (lv_at hl 0 rfl) ?_
                                          have hq : s_QG cs F qq 0 := hQ.resolve_right (fun q => by omega)
                                          refine lv_iload_n hx hb dX3_readPiece_360 rfl (lv_at hl 1 rfl) ?_
                                          have hIq := hI
                                          refine va_calli (va_runV (As := [.int x1]) (rest := []) ⟨hx, hb, hml, hown, hts⟩ (s_X3_readSign l dC dI H.size hLK D adK adV tf F a0 x1 ha0 hI tt qq ⟨z1, z3, z5, z7, z10, z13, z14, z16, z18, z19, z20, z22, z23, o25, h2, h4, h6, h8, h9, ⟨by omega, by omega⟩, h12, ⟨by omega, by omega⟩, ⟨by omega, by omega⟩, ⟨by omega, by omega⟩, (fun q => by first | omega | exact absurd q (by decide)), trivial⟩) (cwV 1 hts (ax_gV T_761 T_763 T_764 T_163 T_762) rfl rfl rfl (by decide +kernel) ⟨Nat.le_of_ble_eq_true rfl, Nat.le_of_ble_eq_true rfl⟩) ⟨fun a U g mk q => ⟨q.1, s_pc (U := U) rfl rfl q.2.1, s_pcZ (U := U) rfl rfl q.2.2⟩, s_recv hK hP (hLK _ ha0 (by decide)) (ci := 3) rfl o25, fun U hU hW => ⟨rfl, s_pw hU hW hP hK hD hN, s_pwZ hU hW hS hZ⟩⟩ rfl rfl hl.1 rfl (lv_room (Nat.le_of_ble_eq_true rfl)) dX3_readPiece_361 ⟨Nat.zero_le _, Nat.zero_le _⟩) hS (fun q _ h => h) (fun q h => h) (fun r895 F896 t H1 locs ht hvm hw hB hz1 hk1 hS => ?_)
                                          obtain ⟨hP, hK1⟩ := hB
                                          rw [ht] at hP
                                          generalize H1 = H at hP hS ⊢
                                          clear hz1 hk1
                                          obtain ⟨h897, h898, hI, hfr1, h899⟩ := hw
                                          have hq := s_QGt hIq h12 (fun b hb9 => hfr1 b (by rcases hb9 with q | q | q <;> (rw [q]; decide))) hq
                                          have hLn : ∀ vs, F qq = .inr (2, vs) → ∃ vs2, F896 qq = .inr (2, vs2) ∧ vs2[3]? = vs[3]? := fun vs q => by obtain ⟨w, h1, h2⟩ := hLn vs q; exact ⟨w, (hfr1 _ (by rw [h12]; decide)).trans h1, h2⟩
                                          have hfr : ∀ b, K b ∉ [4, 8, 21, 24, 43] → F896 b = F b := fun b hb9 => (hfr1 b (fun q => hb9 (s_sub (by decide) q))).trans (hfr b hb9)
                                          obtain ⟨z900, z902, z904, z906, z909, z912, z913, z915, z917, z918, z919, z921, z922, o924, h901, h903, h905, h907, h908, h910, h911, h914, h916, h920, h923, -⟩ := h899
                                          exact W.zret (v := r895) (ty := .boolean) hx hb hr (th_nz ⟨by omega, by omega⟩) (fun t ht hW => ⟨⟨r895, F896, rfl, ⟨⟨by omega, by omega⟩, ⟨trivial, ⟨fun _ => hq, hLn⟩⟩, hI, hfr, ⟨z900, z902, z904, z906, z909, z912, z913, z915, z917, z918, z919, z921, z922, o924, h901, h903, h905, h907, h908, ⟨by omega, by omega⟩, h911, ⟨by omega, by omega⟩, ⟨by omega, by omega⟩, ⟨by omega, by omega⟩, (fun q => by first | omega | exact absurd q (by decide)), trivial⟩⟩, by rw [ht]; exact hP, va_K.moved hW.alike hK⟩, hS.F ht⟩) hS.2.2 dX3_readPiece_364
                                        · have c894 := mt (ax_eq (n := 75) (by decide)).mpr c894
                                          by_cases c925 : x1 = 76
                                          · refine ax_eqi c925 ?_
                                            refine lv_tableIn (off := 358) (tgt := 359) hx hb dX3_readPiece_1 (by decide) (by decide) (by decide) (by decide) ?_
                                            have c925 := (ax_eq (n := 76) (by decide)).mp c925
                                            refine lv_aload_n hx hb dX3_readPiece_359 rfl (lv_at hl 0 rfl) ?_
                                            have hq : s_QG cs F qq 0 := hQ.resolve_right (fun q => by omega)
                                            refine lv_iload_n hx hb dX3_readPiece_360 rfl (lv_at hl 1 rfl) ?_
                                            have hIq := hI
                                            refine va_calli (va_runV (As := [.int x1]) (rest := []) ⟨hx, hb, hml, hown, hts⟩ (s_X3_readSign l dC dI H.size hLK D adK adV tf F a0 x1 ha0 hI tt qq ⟨z1, z3, z5, z7, z10, z13, z14, z16, z18, z19, z20, z22, z23, o25, h2, h4, h6, h8, h9, ⟨by omega, by omega⟩, h12, ⟨by omega, by omega⟩, ⟨by omega, by omega⟩, ⟨by omega, by omega⟩, (fun q => by first | omega | exact absurd q (by decide)), trivial⟩) (cwV 1 hts (ax_gV T_761 T_763 T_764 T_163 T_762) rfl rfl rfl (by decide +kernel) ⟨Nat.le_of_ble_eq_true rfl, Nat.le_of_ble_eq_true rfl⟩) ⟨fun a U g mk q => ⟨q.1, s_pc (U := U) rfl rfl q.2.1, s_pcZ (U := U) rfl rfl q.2.2⟩, s_recv hK hP (hLK _ ha0 (by decide)) (ci := 3) rfl o25, fun U hU hW => ⟨rfl, s_pw hU hW hP hK hD hN, s_pwZ hU hW hS hZ⟩⟩ rfl rfl hl.1 rfl (lv_room (Nat.le_of_ble_eq_true rfl)) dX3_readPiece_361 ⟨Nat.zero_le _, Nat.zero_le _⟩) hS (fun q _ h => h) (fun q h => h) (fun r926 F927 t H1 locs ht hvm hw hB hz1 hk1 hS => ?_)
                                            obtain ⟨hP, hK1⟩ := hB
                                            rw [ht] at hP
                                            generalize H1 = H at hP hS ⊢
                                            clear hz1 hk1
                                            obtain ⟨h928, h929, hI, hfr1, h930⟩ := hw
                                            have hq := s_QGt hIq h12 (fun b hb9 => hfr1 b (by rcases hb9 with q | q | q <;> (rw [q]; decide))) hq
                                            have hLn : ∀ vs, F qq = .inr (2, vs) → ∃ vs2, F927 qq = .inr (2, vs2) ∧ vs2[3]? = vs[3]? := fun vs q => by obtain ⟨w, h1, h2⟩ := hLn vs q; exact ⟨w, (hfr1 _ (by rw [h12]; decide)).trans h1, h2⟩
                                            have hfr : ∀ b, K b ∉ [4, 8, 21, 24, 43] → F927 b = F b := fun b hb9 => (hfr1 b (fun q => hb9 (s_sub (by decide) q))).trans (hfr b hb9)
                                            obtain ⟨z931, z933, z935, z937, z940, z943, z944, z946, z948, z949, z950, z952, z953, o955, h932, h934, h936, h938, h939, h941, h942, h945, h947, h951, h954, -⟩ := h930
                                            exact W.zret (v := r926) (ty := .boolean) hx hb hr (th_nz ⟨by omega, by omega⟩) (fun t ht hW => ⟨⟨r926, F927, rfl, ⟨⟨by omega, by omega⟩, ⟨trivial, ⟨fun _ => hq, hLn⟩⟩, hI, hfr, ⟨z931, z933, z935, z937, z940, z943, z944, z946, z948, z949, z950, z952, z953, o955, h932, h934, h936, h938, h939, ⟨by omega, by omega⟩, h942, ⟨by omega, by omega⟩, ⟨by omega, by omega⟩, ⟨by omega, by omega⟩, (fun q => by first | omega | exact absurd q (by decide)), trivial⟩⟩, by rw [ht]; exact hP, va_K.moved hW.alike hK⟩, hS.F ht⟩) hS.2.2 dX3_readPiece_364
                                          · have c925 := mt (ax_eq (n := 76) (by decide)).mpr c925
                                            by_cases c956 : x1 = 78
                                            · refine ax_eqi c956 ?_
                                              refine lv_tableIn (off := 358) (tgt := 359) hx hb dX3_readPiece_1 (by decide) (by decide) (by decide) (by decide) ?_
                                              have c956 := (ax_eq (n := 78) (by decide)).mp c956
                                              refine lv_aload_n hx hb dX3_readPiece_359 rfl (lv_at hl 0 rfl) ?_
                                              have hq : s_QG cs F qq 0 := hQ.resolve_right (fun q => by omega)
                                              refine lv_iload_n hx hb dX3_readPiece_360 rfl (lv_at hl 1 rfl) ?_
                                              have hIq := hI
                                              refine va_calli (va_runV (As := [.int x1]) (rest := []) ⟨hx, hb, hml, hown, hts⟩ (s_X3_readSign l dC dI H.size hLK D adK adV tf F a0 x1 ha0 hI tt qq ⟨z1, z3, z5, z7, z10, z13, z14, z16, z18, z19, z20, z22, z23, o25, h2, h4, h6, h8, h9, ⟨by omega, by omega⟩, h12, ⟨by omega, by omega⟩, ⟨by omega, by omega⟩, ⟨by omega, by omega⟩, (fun q => by first | omega | exact absurd q (by decide)), trivial⟩) (cwV 1 hts (ax_gV T_761 T_763 T_764 T_163 T_762) rfl rfl rfl (by decide +kernel) ⟨Nat.le_of_ble_eq_true rfl, Nat.le_of_ble_eq_true rfl⟩) ⟨fun a U g mk q => ⟨q.1, s_pc (U := U) rfl rfl q.2.1, s_pcZ (U := U) rfl rfl q.2.2⟩, s_recv hK hP (hLK _ ha0 (by decide)) (ci := 3) rfl o25, fun U hU hW => ⟨rfl, s_pw hU hW hP hK hD hN, s_pwZ hU hW hS hZ⟩⟩ rfl rfl hl.1 rfl (lv_room (Nat.le_of_ble_eq_true rfl)) dX3_readPiece_361 ⟨Nat.zero_le _, Nat.zero_le _⟩) hS (fun q _ h => h) (fun q h => h) (fun r957 F958 t H1 locs ht hvm hw hB hz1 hk1 hS => ?_)
                                              obtain ⟨hP, hK1⟩ := hB
                                              rw [ht] at hP
                                              generalize H1 = H at hP hS ⊢
                                              clear hz1 hk1
                                              obtain ⟨h959, h960, hI, hfr1, h961⟩ := hw
                                              have hq := s_QGt hIq h12 (fun b hb9 => hfr1 b (by rcases hb9 with q | q | q <;> (rw [q]; decide))) hq
                                              have hLn : ∀ vs, F qq = .inr (2, vs) → ∃ vs2, F958 qq = .inr (2, vs2) ∧ vs2[3]? = vs[3]? := fun vs q => by obtain ⟨w, h1, h2⟩ := hLn vs q; exact ⟨w, (hfr1 _ (by rw [h12]; decide)).trans h1, h2⟩
                                              have hfr : ∀ b, K b ∉ [4, 8, 21, 24, 43] → F958 b = F b := fun b hb9 => (hfr1 b (fun q => hb9 (s_sub (by decide) q))).trans (hfr b hb9)
                                              obtain ⟨z962, z964, z966, z968, z971, z974, z975, z977, z979, z980, z981, z983, z984, o986, h963, h965, h967, h969, h970, h972, h973, h976, h978, h982, h985, -⟩ := h961
                                              exact W.zret (v := r957) (ty := .boolean) hx hb hr (th_nz ⟨by omega, by omega⟩) (fun t ht hW => ⟨⟨r957, F958, rfl, ⟨⟨by omega, by omega⟩, ⟨trivial, ⟨fun _ => hq, hLn⟩⟩, hI, hfr, ⟨z962, z964, z966, z968, z971, z974, z975, z977, z979, z980, z981, z983, z984, o986, h963, h965, h967, h969, h970, ⟨by omega, by omega⟩, h973, ⟨by omega, by omega⟩, ⟨by omega, by omega⟩, ⟨by omega, by omega⟩, (fun q => by first | omega | exact absurd q (by decide)), trivial⟩⟩, by rw [ht]; exact hP, va_K.moved hW.alike hK⟩, hS.F ht⟩) hS.2.2 dX3_readPiece_364
                                            · have c956 := mt (ax_eq (n := 78) (by decide)).mpr c956
                                              by_cases c987 : x1 = 80
                                              · refine ax_eqi c987 ?_
                                                refine lv_tableIn (off := 358) (tgt := 359) hx hb dX3_readPiece_1 (by decide) (by decide) (by decide) (by decide) ?_
                                                have c987 := (ax_eq (n := 80) (by decide)).mp c987
                                                refine lv_aload_n hx hb dX3_readPiece_359 rfl (lv_at hl 0 rfl) ?_
                                                have hq : s_QG cs F qq 0 := hQ.resolve_right (fun q => by omega)
                                                refine lv_iload_n hx hb dX3_readPiece_360 rfl (lv_at hl 1 rfl) ?_
                                                have hIq := hI
                                                refine va_calli (va_runV (As := [.int x1]) (rest := []) ⟨hx, hb, hml, hown, hts⟩ (s_X3_readSign l dC dI H.size hLK D adK adV tf F a0 x1 ha0 hI tt qq ⟨z1, z3, z5, z7, z10, z13, z14, z16, z18, z19, z20, z22, z23, o25, h2, h4, h6, h8, h9, ⟨by omega, by omega⟩, h12, ⟨by omega, by omega⟩, ⟨by omega, by omega⟩, ⟨by omega, by omega⟩, (fun q => by first | omega | exact absurd q (by decide)), trivial⟩) (cwV 1 hts (ax_gV T_761 T_763 T_764 T_163 T_762) rfl rfl rfl (by decide +kernel) ⟨Nat.le_of_ble_eq_true rfl, Nat.le_of_ble_eq_true rfl⟩) ⟨fun a U g mk q => ⟨q.1, s_pc (U := U) rfl rfl q.2.1, s_pcZ (U := U) rfl rfl q.2.2⟩, s_recv hK hP (hLK _ ha0 (by decide)) (ci := 3) rfl o25, fun U hU hW => ⟨rfl, s_pw hU hW hP hK hD hN, s_pwZ hU hW hS hZ⟩⟩ rfl rfl hl.1 rfl (lv_room (Nat.le_of_ble_eq_true rfl)) dX3_readPiece_361 ⟨Nat.zero_le _, Nat.zero_le _⟩) hS (fun q _ h => h) (fun q h => h) (fun r988 F989 t H1 locs ht hvm hw hB hz1 hk1 hS => ?_)
                                                obtain ⟨hP, hK1⟩ := hB
                                                rw [ht] at hP
                                                generalize H1 = H at hP hS ⊢
                                                clear hz1 hk1
                                                obtain ⟨h990, h991, hI, hfr1, h992⟩ := hw
                                                have hq := s_QGt hIq h12 (fun b hb9 => hfr1 b (by rcases hb9 with q | q | q <;> (rw [q]; decide))) hq
                                                have hLn : ∀ vs, F qq = .inr (2, vs) → ∃ vs2, F989 qq = .inr (2, vs2) ∧ vs2[3]? = vs[3]? := fun vs q => by obtain ⟨w, h1, h2⟩ := hLn vs q; exact ⟨w, (hfr1 _ (by rw [h12]; decide)).trans h1, h2⟩
                                                have hfr : ∀ b, K b ∉ [4, 8, 21, 24, 43] → F989 b = F b := fun b hb9 => (hfr1 b (fun q => hb9 (s_sub (by decide) q))).trans (hfr b hb9)
                                                obtain ⟨z993, z995, z997, z999, z1002, z1005, z1006, z1008, z1010, z1011, z1012, z1014, z1015, o1017, h994, h996, h998, h1000, h1001, h1003, h1004, h1007, h1009, h1013, h1016, -⟩ := h992
                                                exact W.zret (v := r988) (ty := .boolean) hx hb hr (th_nz ⟨by omega, by omega⟩) (fun t ht hW => ⟨⟨r988, F989, rfl, ⟨⟨by omega, by omega⟩, ⟨trivial, ⟨fun _ => hq, hLn⟩⟩, hI, hfr, ⟨z993, z995, z997, z999, z1002, z1005, z1006, z1008, z1010, z1011, z1012, z1014, z1015, o1017, h994, h996, h998, h1000, h1001, ⟨by omega, by omega⟩, h1004, ⟨by omega, by omega⟩, ⟨by omega, by omega⟩, ⟨by omega, by omega⟩, (fun q => by first | omega | exact absurd q (by decide)), trivial⟩⟩, by rw [ht]; exact hP, va_K.moved hW.alike hK⟩, hS.F ht⟩) hS.2.2 dX3_readPiece_364
                                              · have c987 := mt (ax_eq (n := 80) (by decide)).mpr c987
                                                by_cases c1018 : x1 = 81
                                                · refine ax_eqi c1018 ?_
                                                  refine lv_tableIn (off := 358) (tgt := 359) hx hb dX3_readPiece_1 (by decide) (by decide) (by decide) (by decide) ?_
                                                  have c1018 := (ax_eq (n := 81) (by decide)).mp c1018
                                                  refine lv_aload_n hx hb dX3_readPiece_359 rfl (lv_at hl 0 rfl) ?_
                                                  have hq : s_QG cs F qq 0 := hQ.resolve_right (fun q => by omega)
                                                  refine lv_iload_n hx hb dX3_readPiece_360 rfl (lv_at hl 1 rfl) ?_
                                                  have hIq := hI
                                                  refine va_calli (va_runV (As := [.int x1]) (rest := []) ⟨hx, hb, hml, hown, hts⟩ (s_X3_readSign l dC dI H.size hLK D adK adV tf F a0 x1 ha0 hI tt qq ⟨z1, z3, z5, z7, z10, z13, z14, z16, z18, z19, z20, z22, z23, o25, h2, h4, h6, h8, h9, ⟨by omega, by omega⟩, h12, ⟨by omega, by omega⟩, ⟨by omega, by omega⟩, ⟨by omega, by omega⟩, (fun q => by first | omega | exact absurd q (by decide)), trivial⟩) (cwV 1 hts (ax_gV T_761 T_763 T_764 T_163 T_762) rfl rfl rfl (by decide +kernel) ⟨Nat.le_of_ble_eq_true rfl, Nat.le_of_ble_eq_true rfl⟩) ⟨fun a U g mk q => ⟨q.1, s_pc (U := U) rfl rfl q.2.1, s_pcZ (U := U) rfl rfl q.2.2⟩, s_recv hK hP (hLK _ ha0 (by decide)) (ci := 3) rfl o25, fun U hU hW => ⟨rfl, s_pw hU hW hP hK hD hN, s_pwZ hU hW hS hZ⟩⟩ rfl rfl hl.1 rfl (lv_room (Nat.le_of_ble_eq_true rfl)) dX3_readPiece_361 ⟨Nat.zero_le _, Nat.zero_le _⟩) hS (fun q _ h => h) (fun q h => h) (fun r1019 F1020 t H1 locs ht hvm hw hB hz1 hk1 hS => ?_)
                                                  obtain ⟨hP, hK1⟩ := hB
                                                  rw [ht] at hP
                                                  generalize H1 = H at hP hS ⊢
                                                  clear hz1 hk1
                                                  obtain ⟨h1021, h1022, hI, hfr1, h1023⟩ := hw
                                                  have hq := s_QGt hIq h12 (fun b hb9 => hfr1 b (by rcases hb9 with q | q | q <;> (rw [q]; decide))) hq
                                                  have hLn : ∀ vs, F qq = .inr (2, vs) → ∃ vs2, F1020 qq = .inr (2, vs2) ∧ vs2[3]? = vs[3]? := fun vs q => by obtain ⟨w, h1, h2⟩ := hLn vs q; exact ⟨w, (hfr1 _ (by rw [h12]; decide)).trans h1, h2⟩
                                                  have hfr : ∀ b, K b ∉ [4, 8, 21, 24, 43] → F1020 b = F b := fun b hb9 => (hfr1 b (fun q => hb9 (s_sub (by decide) q))).trans (hfr b hb9)
                                                  obtain ⟨z1024, z1026, z1028, z1030, z1033, z1036, z1037, z1039, z1041, z1042, z1043, z1045, z1046, o1048, h1025, h1027, h1029, h1031, h1032, h1034, h1035, h1038, h1040, h1044, h1047, -⟩ := h1023
                                                  exact W.zret (v := r1019) (ty := .boolean) hx hb hr (th_nz ⟨by omega, by omega⟩) (fun t ht hW => ⟨⟨r1019, F1020, rfl, ⟨⟨by omega, by omega⟩, ⟨trivial, ⟨fun _ => hq, hLn⟩⟩, hI, hfr, ⟨z1024, z1026, z1028, z1030, z1033, z1036, z1037, z1039, z1041, z1042, z1043, z1045, z1046, o1048, h1025, h1027, h1029, h1031, h1032, ⟨by omega, by omega⟩, h1035, ⟨by omega, by omega⟩, ⟨by omega, by omega⟩, ⟨by omega, by omega⟩, (fun q => by first | omega | exact absurd q (by decide)), trivial⟩⟩, by rw [ht]; exact hP, va_K.moved hW.alike hK⟩, hS.F ht⟩) hS.2.2 dX3_readPiece_364
                                                · have c1018 := mt (ax_eq (n := 81) (by decide)).mpr c1018
                                                  by_cases c1049 : x1 = 84
                                                  · refine ax_eqi c1049 ?_
                                                    refine lv_tableIn (off := 358) (tgt := 359) hx hb dX3_readPiece_1 (by decide) (by decide) (by decide) (by decide) ?_
                                                    have c1049 := (ax_eq (n := 84) (by decide)).mp c1049
                                                    refine lv_aload_n hx hb dX3_readPiece_359 rfl (lv_at hl 0 rfl) ?_
                                                    have hq : s_QG cs F qq 0 := hQ.resolve_right (fun q => by omega)
                                                    refine lv_iload_n hx hb dX3_readPiece_360 rfl (lv_at hl 1 rfl) ?_
                                                    have hIq := hI
                                                    refine va_calli (va_runV (As := [.int x1]) (rest := []) ⟨hx, hb, hml, hown, hts⟩ (s_X3_readSign l dC dI H.size hLK D adK adV tf F a0 x1 ha0 hI tt qq ⟨z1, z3, z5, z7, z10, z13, z14, z16, z18, z19, z20, z22, z23, o25, h2, h4, h6, h8, h9, ⟨by omega, by omega⟩, h12, ⟨by omega, by omega⟩, ⟨by omega, by omega⟩, ⟨by omega, by omega⟩, (fun q => by first | omega | exact absurd q (by decide)), trivial⟩) (cwV 1 hts (ax_gV T_761 T_763 T_764 T_163 T_762) rfl rfl rfl (by decide +kernel) ⟨Nat.le_of_ble_eq_true rfl, Nat.le_of_ble_eq_true rfl⟩) ⟨fun a U g mk q => ⟨q.1, s_pc (U := U) rfl rfl q.2.1, s_pcZ (U := U) rfl rfl q.2.2⟩, s_recv hK hP (hLK _ ha0 (by decide)) (ci := 3) rfl o25, fun U hU hW => ⟨rfl, s_pw hU hW hP hK hD hN, s_pwZ hU hW hS hZ⟩⟩ rfl rfl hl.1 rfl (lv_room (Nat.le_of_ble_eq_true rfl)) dX3_readPiece_361 ⟨Nat.zero_le _, Nat.zero_le _⟩) hS (fun q _ h => h) (fun q h => h) (fun r1050 F1051 t H1 locs ht hvm hw hB hz1 hk1 hS => ?_)
                                                    obtain ⟨hP, hK1⟩ := hB
                                                    rw [ht] at hP
                                                    generalize H1 = H at hP hS ⊢
                                                    clear hz1 hk1
                                                    obtain ⟨h1052, h1053, hI, hfr1, h1054⟩ := hw
                                                    have hq := s_QGt hIq h12 (fun b hb9 => hfr1 b (by rcases hb9 with q | q | q <;> (rw [q]; decide))) hq
                                                    have hLn : ∀ vs, F qq = .inr (2, vs) → ∃ vs2, F1051 qq = .inr (2, vs2) ∧ vs2[3]? = vs[3]? := fun vs q => by obtain ⟨w, h1, h2⟩ := hLn vs q; exact ⟨w, (hfr1 _ (by rw [h12]; decide)).trans h1, h2⟩
                                                    have hfr : ∀ b, K b ∉ [4, 8, 21, 24, 43] → F1051 b = F b := fun b hb9 => (hfr1 b (fun q => hb9 (s_sub (by decide) q))).trans (hfr b hb9)
                                                    obtain ⟨z1055, z1057, z1059, z1061, z1064, z1067, z1068, z1070, z1072, z1073, z1074, z1076, z1077, o1079, h1056, h1058, h1060, h1062, h1063, h1065, h1066, h1069, h1071, h1075, h1078, -⟩ := h1054
                                                    exact W.zret (v := r1050) (ty := .boolean) hx hb hr (th_nz ⟨by omega, by omega⟩) (fun t ht hW => ⟨⟨r1050, F1051, rfl, ⟨⟨by omega, by omega⟩, ⟨trivial, ⟨fun _ => hq, hLn⟩⟩, hI, hfr, ⟨z1055, z1057, z1059, z1061, z1064, z1067, z1068, z1070, z1072, z1073, z1074, z1076, z1077, o1079, h1056, h1058, h1060, h1062, h1063, ⟨by omega, by omega⟩, h1066, ⟨by omega, by omega⟩, ⟨by omega, by omega⟩, ⟨by omega, by omega⟩, (fun q => by first | omega | exact absurd q (by decide)), trivial⟩⟩, by rw [ht]; exact hP, va_K.moved hW.alike hK⟩, hS.F ht⟩) hS.2.2 dX3_readPiece_364
                                                  · have c1049 := mt (ax_eq (n := 84) (by decide)).mpr c1049
                                                    by_cases c1080 : x1 = 85
                                                    · refine ax_eqi c1080 ?_
                                                      refine lv_tableIn (off := 358) (tgt := 359) hx hb dX3_readPiece_1 (by decide) (by decide) (by decide) (by decide) ?_
                                                      have c1080 := (ax_eq (n := 85) (by decide)).mp c1080
                                                      refine lv_aload_n hx hb dX3_readPiece_359 rfl (lv_at hl 0 rfl) ?_
                                                      have hq : s_QG cs F qq 0 := hQ.resolve_right (fun q => by omega)
                                                      refine lv_iload_n hx hb dX3_readPiece_360 rfl (lv_at hl 1 rfl) ?_
                                                      have hIq := hI
                                                      refine va_calli (va_runV (As := [.int x1]) (rest := []) ⟨hx, hb, hml, hown, hts⟩ (s_X3_readSign l dC dI H.size hLK D adK adV tf F a0 x1 ha0 hI tt qq ⟨z1, z3, z5, z7, z10, z13, z14, z16, z18, z19, z20, z22, z23, o25, h2, h4, h6, h8, h9, ⟨by omega, by omega⟩, h12, ⟨by omega, by omega⟩, ⟨by omega, by omega⟩, ⟨by omega, by omega⟩, (fun q => by first | omega | exact absurd q (by decide)), trivial⟩) (cwV 1 hts (ax_gV T_761 T_763 T_764 T_163 T_762) rfl rfl rfl (by decide +kernel) ⟨Nat.le_of_ble_eq_true rfl, Nat.le_of_ble_eq_true rfl⟩) ⟨fun a U g mk q => ⟨q.1, s_pc (U := U) rfl rfl q.2.1, s_pcZ (U := U) rfl rfl q.2.2⟩, s_recv hK hP (hLK _ ha0 (by decide)) (ci := 3) rfl o25, fun U hU hW => ⟨rfl, s_pw hU hW hP hK hD hN, s_pwZ hU hW hS hZ⟩⟩ rfl rfl hl.1 rfl (lv_room (Nat.le_of_ble_eq_true rfl)) dX3_readPiece_361 ⟨Nat.zero_le _, Nat.zero_le _⟩) hS (fun q _ h => h) (fun q h => h) (fun r1081 F1082 t H1 locs ht hvm hw hB hz1 hk1 hS => ?_)
                                                      obtain ⟨hP, hK1⟩ := hB
                                                      rw [ht] at hP
                                                      generalize H1 = H at hP hS ⊢
                                                      clear hz1 hk1
                                                      obtain ⟨h1083, h1084, hI, hfr1, h1085⟩ := hw
                                                      have hq := s_QGt hIq h12 (fun b hb9 => hfr1 b (by rcases hb9 with q | q | q <;> (rw [q]; decide))) hq
                                                      have hLn : ∀ vs, F qq = .inr (2, vs) → ∃ vs2, F1082 qq = .inr (2, vs2) ∧ vs2[3]? = vs[3]? := fun vs q => by obtain ⟨w, h1, h2⟩ := hLn vs q; exact ⟨w, (hfr1 _ (by rw [h12]; decide)).trans h1, h2⟩
                                                      have hfr : ∀ b, K b ∉ [4, 8, 21, 24, 43] → F1082 b = F b := fun b hb9 => (hfr1 b (fun q => hb9 (s_sub (by decide) q))).trans (hfr b hb9)
                                                      obtain ⟨z1086, z1088, z1090, z1092, z1095, z1098, z1099, z1101, z1103, z1104, z1105, z1107, z1108, o1110, h1087, h1089, h1091, h1093, h1094, h1096, h1097, h1100, h1102, h1106, h1109, -⟩ := h1085
                                                      exact W.zret (v := r1081) (ty := .boolean) hx hb hr (th_nz ⟨by omega, by omega⟩) (fun t ht hW => ⟨⟨r1081, F1082, rfl, ⟨⟨by omega, by omega⟩, ⟨trivial, ⟨fun _ => hq, hLn⟩⟩, hI, hfr, ⟨z1086, z1088, z1090, z1092, z1095, z1098, z1099, z1101, z1103, z1104, z1105, z1107, z1108, o1110, h1087, h1089, h1091, h1093, h1094, ⟨by omega, by omega⟩, h1097, ⟨by omega, by omega⟩, ⟨by omega, by omega⟩, ⟨by omega, by omega⟩, (fun q => by first | omega | exact absurd q (by decide)), trivial⟩⟩, by rw [ht]; exact hP, va_K.moved hW.alike hK⟩, hS.F ht⟩) hS.2.2 dX3_readPiece_364
                                                    · have c1080 := mt (ax_eq (n := 85) (by decide)).mpr c1080
                                                      refine lv_tableOut (tgt := 359) hx hb dX3_readPiece_1 (by omega) (by decide) ?_
                                                      refine lv_aload_n hx hb dX3_readPiece_359 rfl (lv_at hl 0 rfl) ?_
                                                      have hq : s_QG cs F qq 0 := hQ.resolve_right (fun q => by omega)
                                                      refine lv_iload_n hx hb dX3_readPiece_360 rfl (lv_at hl 1 rfl) ?_
                                                      have hIq := hI
                                                      refine va_calli (va_runV (As := [.int x1]) (rest := []) ⟨hx, hb, hml, hown, hts⟩ (s_X3_readSign l dC dI H.size hLK D adK adV tf F a0 x1 ha0 hI tt qq ⟨z1, z3, z5, z7, z10, z13, z14, z16, z18, z19, z20, z22, z23, o25, h2, h4, h6, h8, h9, ⟨by omega, by omega⟩, h12, ⟨by omega, by omega⟩, ⟨by omega, by omega⟩, ⟨by omega, by omega⟩, (fun q => by first | omega | exact absurd q (by decide)), trivial⟩) (cwV 1 hts (ax_gV T_761 T_763 T_764 T_163 T_762) rfl rfl rfl (by decide +kernel) ⟨Nat.le_of_ble_eq_true rfl, Nat.le_of_ble_eq_true rfl⟩) ⟨fun a U g mk q => ⟨q.1, s_pc (U := U) rfl rfl q.2.1, s_pcZ (U := U) rfl rfl q.2.2⟩, s_recv hK hP (hLK _ ha0 (by decide)) (ci := 3) rfl o25, fun U hU hW => ⟨rfl, s_pw hU hW hP hK hD hN, s_pwZ hU hW hS hZ⟩⟩ rfl rfl hl.1 rfl (lv_room (Nat.le_of_ble_eq_true rfl)) dX3_readPiece_361 ⟨Nat.zero_le _, Nat.zero_le _⟩) hS (fun q _ h => h) (fun q h => h) (fun r1111 F1112 t H1 locs ht hvm hw hB hz1 hk1 hS => ?_)
                                                      obtain ⟨hP, hK1⟩ := hB
                                                      rw [ht] at hP
                                                      generalize H1 = H at hP hS ⊢
                                                      clear hz1 hk1
                                                      obtain ⟨h1113, h1114, hI, hfr1, h1115⟩ := hw
                                                      have hq := s_QGt hIq h12 (fun b hb9 => hfr1 b (by rcases hb9 with q | q | q <;> (rw [q]; decide))) hq
                                                      have hLn : ∀ vs, F qq = .inr (2, vs) → ∃ vs2, F1112 qq = .inr (2, vs2) ∧ vs2[3]? = vs[3]? := fun vs q => by obtain ⟨w, h1, h2⟩ := hLn vs q; exact ⟨w, (hfr1 _ (by rw [h12]; decide)).trans h1, h2⟩
                                                      have hfr : ∀ b, K b ∉ [4, 8, 21, 24, 43] → F1112 b = F b := fun b hb9 => (hfr1 b (fun q => hb9 (s_sub (by decide) q))).trans (hfr b hb9)
                                                      obtain ⟨z1116, z1118, z1120, z1122, z1125, z1128, z1129, z1131, z1133, z1134, z1135, z1137, z1138, o1140, h1117, h1119, h1121, h1123, h1124, h1126, h1127, h1130, h1132, h1136, h1139, -⟩ := h1115
                                                      exact W.zret (v := r1111) (ty := .boolean) hx hb hr (th_nz ⟨by omega, by omega⟩) (fun t ht hW => ⟨⟨r1111, F1112, rfl, ⟨⟨by omega, by omega⟩, ⟨trivial, ⟨fun _ => hq, hLn⟩⟩, hI, hfr, ⟨z1116, z1118, z1120, z1122, z1125, z1128, z1129, z1131, z1133, z1134, z1135, z1137, z1138, o1140, h1117, h1119, h1121, h1123, h1124, ⟨by omega, by omega⟩, h1127, ⟨by omega, by omega⟩, ⟨by omega, by omega⟩, ⟨by omega, by omega⟩, (fun q => by first | omega | exact absurd q (by decide)), trivial⟩⟩, by rw [ht]; exact hP, va_K.moved hW.alike hK⟩, hS.F ht⟩) hS.2.2 dX3_readPiece_364
  · intro g H locs hq
    obtain ⟨F9, ls, rfl, hl, hI, hP, hS, hfr, h1141, h1142, h1143⟩ := hq
    obtain ⟨z1144, z1146, z1148, z1150, z1153, z1156, z1157, z1159, z1161, z1162, z1163, z1165, z1166, o1168, h1145, h1147, h1149, h1151, h1152, h1154, h1155, h1158, h1160, h1164, h1167, -⟩ := h1143
    have hLn := h1142
    have hqz := h1141 _ _ o1168 rfl
    refine lv_aload_n hx hb dX3_readPiece_365 rfl (lv_at hl 0 rfl) ?_
    refine th_get (D := (dC, dI)) (ci := 3) (v := .int z1165) (C := RX3) (T := TX3) (N := 15) hx hb hts inX3 hown hK hP (hLK _ ha0 (by decide)) o1168 rfl 13 (by decide) (hts _ T_209) (fun _ h9 => h9) rfl dX3_readPiece_366 ?_
    refine lv_if_ne (tgt := 376) hx hb dX3_readPiece_369 (by decide) (fun c1169 => ?_) (fun c1169 => ?_)
    · have c1169 := mt (ax_eq (n := 0) (by decide)).mpr c1169
      refine lv_iconst (v := 0) hx hb dX3_readPiece_376 (by decide) ?_
      exact W.zret (v := 0) (ty := .boolean) hx hb hr (by decide) (fun t ht hW => ⟨⟨0, F9, rfl, ⟨(by decide), ⟨trivial, ⟨(fun q => absurd rfl q), hLn⟩⟩, hI, hfr, ⟨z1144, z1146, z1148, z1150, z1153, z1156, z1157, z1159, z1161, z1162, z1163, z1165, z1166, o1168, h1145, h1147, h1149, h1151, h1152, ⟨by omega, by omega⟩, h1155, ⟨by omega, by omega⟩, ⟨by omega, by omega⟩, ⟨by omega, by omega⟩, (fun q => by first | omega | exact absurd q (by decide)), trivial⟩⟩, by rw [ht]; exact hP, va_K.moved hW.alike hK⟩, hS.F ht⟩) hS.2.2 dX3_readPiece_377
    · have c1169 := (ax_eq (n := 0) (by decide)).mp c1169
      refine lv_iconst (v := 1) hx hb dX3_readPiece_372 (by decide) ?_
      refine lv_goto (tgt := 377) hx hb dX3_readPiece_373 (by decide) ?_
      exact W.zret (v := 1) (ty := .boolean) hx hb hr (by decide) (fun t ht hW => ⟨⟨1, F9, rfl, ⟨(by decide), ⟨trivial, ⟨(fun _ => hqz (by omega)), hLn⟩⟩, hI, hfr, ⟨z1144, z1146, z1148, z1150, z1153, z1156, z1157, z1159, z1161, z1162, z1163, z1165, z1166, o1168, h1145, h1147, h1149, h1151, h1152, ⟨by omega, by omega⟩, h1155, ⟨by omega, by omega⟩, ⟨by omega, by omega⟩, ⟨by omega, by omega⟩, (fun q => by first | omega | exact absurd q (by decide)), trivial⟩⟩, by rw [ht]; exact hP, va_K.moved hW.alike hK⟩, hS.F ht⟩) hS.2.2 dX3_readPiece_377

