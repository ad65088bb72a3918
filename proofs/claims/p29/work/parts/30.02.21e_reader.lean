set_option maxHeartbeats 4000000 in
set_option maxRecDepth 100000 in
theorem st_X3_read (l : Launch) (dC : Nat → ClassId) (dI : Nat → Nat → Nat) (sz : Nat) {L : List Nat} {K : Nat → Nat} {cs : Nat → ClassId} (hLK : ∀ a {k : Nat}, K a = k → k ≠ 0 → a ∈ L) (D : Nat) (adK adV : Nat → Nat) (tf : Option Nat) (F : Nat → va_E) (a0 : Nat) (a1 : Nat) (x2 : Int32) (a3 : Nat) (ha0 : K a0 = 4) (ha1 : K a1 = 20) (hx2 : 0 ≤ x2.toInt ∧ x2.toInt ≤ 1600) (ha3 : K a3 = 8) (hI : s_I K cs D F) (hRI : s_RI K cs F) : Met l yX3_read (Cond.code yX3_read cX3_read 6 (some .boolean) :: T0) ({ frames := 9, cells := 0, slots := 0, locals := 200 }) (va_Pc [.ref a0, .ref a1, .int x2, .ref a3] (s_WZ dC dI sz L F [(cs 0, .int), (cs 1, .byte), (cs 2, .long), (cs 3, .object RX5), (cs 4, .object RX4), (cs 5, .array .int), (cs 6, .char), (cs 7, .boolean)] adK adV tf)) (va_Qi (fun (r : Int32) (G : Nat → va_E) => (0 ≤ r.toInt ∧ r.toInt ≤ 1) ∧ (True ∧ (¬ r = 0 → s_QG cs G a3 0 ∧ (∀ vs z, G a3 = .inr (2, vs) → vs[3]? = some (.int z) → s_AQ cs G a3 z.toInt))) ∧ s_I K cs D G ∧ ∀ b, K b ∉ [4, 8, 21, 24, 43] → G b = F b) (fun (G : Nat → va_E) (t : State) => va_P (dC, dI) vwCl (va_pl L G) t.heap ∧ va_K (dC, dI) vwCl [(cs 0, .int), (cs 1, .byte), (cs 2, .long), (cs 3, .object RX5), (cs 4, .object RX4), (cs 5, .array .int), (cs 6, .char), (cs 7, .boolean)] t) (fun q => q ∈ L)) 0 0 (fun q => q ∈ L) := by
  refine Met.ofW (cc := cX3_read) (maxL := 6) (ret := (some .boolean)) (by decide) rfl ?_
  intro p e s m args below meth c s₁ B hml hv
  obtain ⟨rfl, ⟨hsz, hP, hK, hD, hN⟩, hZ⟩ := hv
  have hx := B.exec
  have hb := B.bytes
  have hr := B.returns
  have hts : ∀ w ∈ T0, w.before _ s = true := fun w h => atoms_spec (ws := Cond.code yX3_read cX3_read 6 (some .boolean) :: T0) B.pre w (List.mem_cons_of_mem _ h)
  have hown : s.vm.findClass RX3 = some m.cls := findClass_of_methodNamed B.named
  have hlocks := B.notSynchronized
  have hS : va_S (fun q => q ∈ L) s.heap s.heap [] := va_S.rf
  have hfr : ∀ b, K b ∉ [4, 8, 21, 24, 43] → F b = F b := fun _ _ => rfl
  have hl := lv_entry ([.ref a0, .ref a1, .int x2, .ref a3]) (n := 6) (Nat.le_of_ble_eq_true rfl)
  rw [lg_entry_eq]
  generalize (lg_sl ([.ref a0, .ref a1, .int x2, .ref a3]) ++ List.replicate (6 - (lg_sl ([.ref a0, .ref a1, .int x2, .ref a3])).length) Slot.unset).toArray = ls at hl ⊢
  have hl : lv_has ls 6 [(0, .ref a0), (1, .ref a1), (2, .int x2), (3, .ref a3)] := hl
  refine s_gen hP hS (fun H locs hP hS => ?_)
  refine th_join (fun g H locs => ∃ (G : Nat → va_E) (ls : Array Slot) (w1 : Int32), g = F0 m 110 ls [] ∧ lv_has ls 6 [(0, .ref a0), (4, .int w1)] ∧ s_I K cs D G ∧ va_P (dC, dI) vwCl (va_pl L G) H ∧ va_S (fun q => q ∈ L) s.heap H locs ∧ (∀ b, K b ∉ [4, 8, 21, 24, 43] → G b = F b) ∧ (0 ≤ w1.toInt ∧ w1.toInt ≤ 1) ∧ (w1.toInt = 0 ∨ s_QG cs G a3 0) ∧ s_rd4 K G a0 a1 a3) (fun K110 => ?_) ?_
  refine th_join (fun g H locs => ∃ (G : Nat → va_E) (ls : Array Slot) (w2 : Int32), g = F0 m 85 ls [] ∧ lv_has ls 6 [(0, .ref a0), (4, .int w2)] ∧ s_I K cs D G ∧ va_P (dC, dI) vwCl (va_pl L G) H ∧ va_S (fun q => q ∈ L) s.heap H locs ∧ (∀ b, K b ∉ [4, 8, 21, 24, 43] → G b = F b) ∧ (0 ≤ w2.toInt ∧ w2.toInt ≤ 1) ∧ (w2.toInt = 0 ∨ s_QG cs G a3 0) ∧ s_rd4 K G a0 a1 a3) (fun K85 => ?_) ?_
  · refine lv_aload_n hx hb dX3_read_0 rfl (lv_at hl 0 rfl) ?_
    refine lv_aload_n hx hb dX3_read_1 rfl (lv_at hl 1 rfl) ?_
    obtain ⟨z3, z5, z7, z9, z11, z13, z15, z16, z17, z19, z21, z22, z23, z25, z26, o27, h4, h6, h8, h10, h12, h14, h18, h20, h24, -⟩ := s_op4 hI ha0
    refine th_put (D := (dC, dI)) (ci := 3) (v := .ref a1) (ty := .array .byte) (C := RX3) (T := TX3) (N := 15) hx hb hts inX3 tyX3 tyX3_ok nmX3 hown hK hP hD hS (hLK _ ha0 (by decide)) o27 rfl 4 (by decide) (hts _ T_210) (fun _ h9 => h9) rfl (by decide +kernel) rfl rfl (Nat.le_of_ble_eq_true rfl) dX3_read_2 (fun H locs hP hS => ?_)
    have hP : va_P (dC, dI) vwCl (va_pl L (va_up F a0 (.inr (3, [.ref z3, .ref z5, .ref z7, .ref z9, .ref a1, .int z13, va_rf z15, .int z16, .int z17, .int z19, .int z21, .int z22, .int z23, .int z25, .int z26])))) H := hP
    obtain ⟨F28, hF29⟩ : ∃ G : Nat → va_E, G = va_up F a0 (.inr (3, [.ref z3, .ref z5, .ref z7, .ref z9, .ref a1, .int z13, va_rf z15, .int z16, .int z17, .int z19, .int z21, .int z22, .int z23, .int z25, .int z26])) := ⟨_, rfl⟩
    rw [← hF29] at hP
    have hI : s_I K cs D F28 := by rw [hF29]; exact s_cl4 hI ha0 ⟨z3, z5, z7, z9, some a1, z13, z15, z16, z17, z19, z21, z22, z23, z25, z26, rfl, h4, h6, h8, h10, (fun q e => by cases e; exact ha1), ⟨by omega, by omega⟩, ⟨by omega, by omega⟩, ⟨by omega, by omega⟩, ⟨by omega, by omega⟩, trivial⟩
    have hfr : ∀ b, K b ∉ [4, 8, 21, 24, 43] → F28 b = F b := by rw [hF29]; exact s_fr hfr ha0 (by decide)
    have o30 : F28 a0 = .inr (3, [.ref z3, .ref z5, .ref z7, .ref z9, .ref a1, .int z13, va_rf z15, .int z16, .int z17, .int z19, .int z21, .int z22, .int z23, .int z25, .int z26]) := by rw [hF29]; exact th_up
    refine lv_aload_n hx hb dX3_read_5 rfl (lv_at hl 0 rfl) ?_
    refine lv_iload_n hx hb dX3_read_6 rfl (lv_at hl 2 rfl) ?_
    refine th_put (D := (dC, dI)) (ci := 3) (v := .int x2) (ty := .int) (C := RX3) (T := TX3) (N := 15) hx hb hts inX3 tyX3 tyX3_ok nmX3 hown hK hP hD hS (hLK _ ha0 (by decide)) o30 rfl 5 (by decide) (hts _ T_207) (fun _ h9 => h9) rfl (by decide +kernel) rfl rfl (Nat.le_of_ble_eq_true rfl) dX3_read_7 (fun H locs hP hS => ?_)
    have hP : va_P (dC, dI) vwCl (va_pl L (va_up F28 a0 (.inr (3, [.ref z3, .ref z5, .ref z7, .ref z9, .ref a1, .int x2, va_rf z15, .int z16, .int z17, .int z19, .int z21, .int z22, .int z23, .int z25, .int z26])))) H := hP
    obtain ⟨F31, hF32⟩ : ∃ G : Nat → va_E, G = va_up F28 a0 (.inr (3, [.ref z3, .ref z5, .ref z7, .ref z9, .ref a1, .int x2, va_rf z15, .int z16, .int z17, .int z19, .int z21, .int z22, .int z23, .int z25, .int z26])) := ⟨_, rfl⟩
    rw [← hF32] at hP
    have hI : s_I K cs D F31 := by rw [hF32]; exact s_cl4 hI ha0 ⟨z3, z5, z7, z9, some a1, x2, z15, z16, z17, z19, z21, z22, z23, z25, z26, rfl, h4, h6, h8, h10, (fun q e => by cases e; exact ha1), ⟨by omega, by omega⟩, ⟨by omega, by omega⟩, ⟨by omega, by omega⟩, ⟨by omega, by omega⟩, trivial⟩
    have hfr : ∀ b, K b ∉ [4, 8, 21, 24, 43] → F31 b = F b := by rw [hF32]; exact s_fr hfr ha0 (by decide)
    have o33 : F31 a0 = .inr (3, [.ref z3, .ref z5, .ref z7, .ref z9, .ref a1, .int x2, va_rf z15, .int z16, .int z17, .int z19, .int z21, .int z22, .int z23, .int z25, .int z26]) := by rw [hF32]; exact th_up
    refine lv_aload_n hx hb dX3_read_10 rfl (lv_at hl 0 rfl) ?_
    refine lv_aload_n hx hb dX3_read_11 rfl (lv_at hl 3 rfl) ?_
    refine th_put (D := (dC, dI)) (ci := 3) (v := .ref a3) (ty := .object "LaneWarps$Program") (C := RX3) (T := TX3) (N := 15) hx hb hts inX3 tyX3 tyX3_ok nmX3 hown hK hP hD hS (hLK _ ha0 (by decide)) o33 rfl 6 (by decide) (hts _ T_211) (fun _ h9 => h9) rfl (by decide +kernel) rfl rfl (Nat.le_of_ble_eq_true rfl) dX3_read_12 (fun H locs hP hS => ?_)
    have hP : va_P (dC, dI) vwCl (va_pl L (va_up F31 a0 (.inr (3, [.ref z3, .ref z5, .ref z7, .ref z9, .ref a1, .int x2, .ref a3, .int z16, .int z17, .int z19, .int z21, .int z22, .int z23, .int z25, .int z26])))) H := hP
    obtain ⟨F34, hF35⟩ : ∃ G : Nat → va_E, G = va_up F31 a0 (.inr (3, [.ref z3, .ref z5, .ref z7, .ref z9, .ref a1, .int x2, .ref a3, .int z16, .int z17, .int z19, .int z21, .int z22, .int z23, .int z25, .int z26])) := ⟨_, rfl⟩
    rw [← hF35] at hP
    have hI : s_I K cs D F34 := by rw [hF35]; exact s_cl4 hI ha0 ⟨z3, z5, z7, z9, some a1, x2, some a3, z16, z17, z19, z21, z22, z23, z25, z26, rfl, h4, h6, h8, h10, (fun q e => by cases e; exact ha1), ⟨by omega, by omega⟩, ⟨by omega, by omega⟩, ⟨by omega, by omega⟩, ⟨by omega, by omega⟩, trivial⟩
    have hfr : ∀ b, K b ∉ [4, 8, 21, 24, 43] → F34 b = F b := by rw [hF35]; exact s_fr hfr ha0 (by decide)
    have o36 : F34 a0 = .inr (3, [.ref z3, .ref z5, .ref z7, .ref z9, .ref a1, .int x2, .ref a3, .int z16, .int z17, .int z19, .int z21, .int z22, .int z23, .int z25, .int z26]) := by rw [hF35]; exact th_up
    refine lv_aload_n hx hb dX3_read_15 rfl (lv_at hl 0 rfl) ?_
    refine th_get (D := (dC, dI)) (ci := 3) (v := .ref a3) (C := RX3) (T := TX3) (N := 15) hx hb hts inX3 hown hK hP (hLK _ ha0 (by decide)) o36 rfl 6 (by decide) (hts _ T_211) (fun _ h9 => h9) rfl dX3_read_16 ?_
    obtain ⟨z37, z39, z41, z43, z45, z47, z48, o49, h38, h40, h42, h44, h46, -⟩ := s_op8 hI ha3
    have hIq := hI
    refine va_callv (va_runV (As := []) (rest := []) ⟨hx, hb, hml, hown, hts⟩ (s_X2_clear l dC dI H.size hLK D F34 a3 ha3 hI) (cwV 0 hts (ax_gV T_212 T_213 T_214 T_168 T_12) rfl rfl rfl (by decide +kernel) ⟨Nat.le_of_ble_eq_true rfl, Nat.le_of_ble_eq_true rfl⟩) ⟨fun a U g mk q => ⟨q.1, s_pc (U := U) rfl rfl q.2⟩, s_recv hK hP (hLK _ ha3 (by decide)) (ci := 2) rfl o49, fun U hU hW => ⟨rfl, s_pw hU hW hP hK hD hN⟩⟩ rfl rfl hl.1 rfl (lv_room (Nat.le_of_ble_eq_true rfl)) dX3_read_19 ⟨Nat.zero_le _, Nat.zero_le _⟩) hS (fun q _ h => h) (fun q h => h) (fun F50 t H1 locs ht hvm hw hB hz1 hk1 hS => ?_)
    obtain ⟨hP, hK1⟩ := hB
    rw [ht] at hP
    generalize H1 = H at hP hS ⊢
    clear hz1 hk1
    obtain ⟨h51, h52, hI, hfr1⟩ := hw
    have o53 : F50 a0 = .inr (3, [.ref z3, .ref z5, .ref z7, .ref z9, .ref a1, .int x2, .ref a3, .int z16, .int z17, .int z19, .int z21, .int z22, .int z23, .int z25, .int z26]) := (hfr1 _ (by rw [ha0]; decide)).trans o36
    have hfr : ∀ b, K b ∉ [4, 8, 21, 24, 43] → F50 b = F b := fun b hb9 => (hfr1 b (fun q => hb9 (s_sub (by decide) q))).trans (hfr b hb9)
    obtain ⟨h52, h54⟩ := h52
    have h54 : (∀ vs z, F50 a3 = .inr (2, vs) → vs[3]? = some (.int z) → z = 0) := h54
    have hq : s_QG cs F50 a3 0 := fun w0 vs ln fr i r f q1 q2 q3 hi => by have q8 := h54 _ ln q1 q2; have q9 : (0 : Int32).toInt = 0 := (by decide); rw [q8] at hi; omega
    refine lv_aload_n hx hb dX3_read_22 rfl (lv_at hl 0 rfl) ?_
    refine lv_iconst (v := 0) hx hb dX3_read_23 (by decide) ?_
    refine th_put (D := (dC, dI)) (ci := 3) (v := .int 0) (ty := .int) (C := RX3) (T := TX3) (N := 15) hx hb hts inX3 tyX3 tyX3_ok nmX3 hown hK hP hD hS (hLK _ ha0 (by decide)) o53 rfl 7 (by decide) (hts _ T_204) (fun _ h9 => h9) rfl (by decide +kernel) rfl rfl (Nat.le_of_ble_eq_true rfl) dX3_read_24 (fun H locs hP hS => ?_)
    have hIq := hI
    have hP : va_P (dC, dI) vwCl (va_pl L (va_up F50 a0 (.inr (3, [.ref z3, .ref z5, .ref z7, .ref z9, .ref a1, .int x2, .ref a3, .int 0, .int z17, .int z19, .int z21, .int z22, .int z23, .int z25, .int z26])))) H := hP
    obtain ⟨F55, hF56⟩ : ∃ G : Nat → va_E, G = va_up F50 a0 (.inr (3, [.ref z3, .ref z5, .ref z7, .ref z9, .ref a1, .int x2, .ref a3, .int 0, .int z17, .int z19, .int z21, .int z22, .int z23, .int z25, .int z26])) := ⟨_, rfl⟩
    rw [← hF56] at hP
    have hI : s_I K cs D F55 := by rw [hF56]; exact s_cl4 hI ha0 ⟨z3, z5, z7, z9, some a1, x2, some a3, 0, z17, z19, z21, z22, z23, z25, z26, rfl, h4, h6, h8, h10, (fun q e => by cases e; exact ha1), ⟨by omega, by omega⟩, ⟨by omega, by omega⟩, ⟨by omega, by omega⟩, ⟨by omega, by omega⟩, trivial⟩
    have hfr : ∀ b, K b ∉ [4, 8, 21, 24, 43] → F55 b = F b := by rw [hF56]; exact s_fr hfr ha0 (by decide)
    have hq := s_QGo hIq ha3 ha0 (by decide) hF56 hq
    have o57 : F55 a0 = .inr (3, [.ref z3, .ref z5, .ref z7, .ref z9, .ref a1, .int x2, .ref a3, .int 0, .int z17, .int z19, .int z21, .int z22, .int z23, .int z25, .int z26]) := by rw [hF56]; exact th_up
    refine lv_aload_n hx hb dX3_read_27 rfl (lv_at hl 0 rfl) ?_
    refine lv_iconst (v := 0) hx hb dX3_read_28 (by decide) ?_
    refine th_put (D := (dC, dI)) (ci := 3) (v := .int 0) (ty := .int) (C := RX3) (T := TX3) (N := 15) hx hb hts inX3 tyX3 tyX3_ok nmX3 hown hK hP hD hS (hLK _ ha0 (by decide)) o57 rfl 9 (by decide) (hts _ T_205) (fun _ h9 => h9) rfl (by decide +kernel) rfl rfl (Nat.le_of_ble_eq_true rfl) dX3_read_29 (fun H locs hP hS => ?_)
    have hIq := hI
    have hP : va_P (dC, dI) vwCl (va_pl L (va_up F55 a0 (.inr (3, [.ref z3, .ref z5, .ref z7, .ref z9, .ref a1, .int x2, .ref a3, .int 0, .int z17, .int 0, .int z21, .int z22, .int z23, .int z25, .int z26])))) H := hP
    obtain ⟨F58, hF59⟩ : ∃ G : Nat → va_E, G = va_up F55 a0 (.inr (3, [.ref z3, .ref z5, .ref z7, .ref z9, .ref a1, .int x2, .ref a3, .int 0, .int z17, .int 0, .int z21, .int z22, .int z23, .int z25, .int z26])) := ⟨_, rfl⟩
    rw [← hF59] at hP
    have hI : s_I K cs D F58 := by rw [hF59]; exact s_cl4 hI ha0 ⟨z3, z5, z7, z9, some a1, x2, some a3, 0, z17, 0, z21, z22, z23, z25, z26, rfl, h4, h6, h8, h10, (fun q e => by cases e; exact ha1), ⟨by omega, by omega⟩, ⟨by omega, by omega⟩, (by decide), ⟨by omega, by omega⟩, trivial⟩
    have hfr : ∀ b, K b ∉ [4, 8, 21, 24, 43] → F58 b = F b := by rw [hF59]; exact s_fr hfr ha0 (by decide)
    have hq := s_QGo hIq ha3 ha0 (by decide) hF59 hq
    have o60 : F58 a0 = .inr (3, [.ref z3, .ref z5, .ref z7, .ref z9, .ref a1, .int x2, .ref a3, .int 0, .int z17, .int 0, .int z21, .int z22, .int z23, .int z25, .int z26]) := by rw [hF59]; exact th_up
    refine lv_aload_n hx hb dX3_read_32 rfl (lv_at hl 0 rfl) ?_
    refine lv_iconst (v := 0) hx hb dX3_read_33 (by decide) ?_
    refine th_put (D := (dC, dI)) (ci := 3) (v := .int 0) (ty := .int) (C := RX3) (T := TX3) (N := 15) hx hb hts inX3 tyX3 tyX3_ok nmX3 hown hK hP hD hS (hLK _ ha0 (by decide)) o60 rfl 13 (by decide) (hts _ T_209) (fun _ h9 => h9) rfl (by decide +kernel) rfl rfl (Nat.le_of_ble_eq_true rfl) dX3_read_34 (fun H locs hP hS => ?_)
    have hIq := hI
    have hP : va_P (dC, dI) vwCl (va_pl L (va_up F58 a0 (.inr (3, [.ref z3, .ref z5, .ref z7, .ref z9, .ref a1, .int x2, .ref a3, .int 0, .int z17, .int 0, .int z21, .int z22, .int z23, .int 0, .int z26])))) H := hP
    obtain ⟨F61, hF62⟩ : ∃ G : Nat → va_E, G = va_up F58 a0 (.inr (3, [.ref z3, .ref z5, .ref z7, .ref z9, .ref a1, .int x2, .ref a3, .int 0, .int z17, .int 0, .int z21, .int z22, .int z23, .int 0, .int z26])) := ⟨_, rfl⟩
    rw [← hF62] at hP
    have hI : s_I K cs D F61 := by rw [hF62]; exact s_cl4 hI ha0 ⟨z3, z5, z7, z9, some a1, x2, some a3, 0, z17, 0, z21, z22, z23, 0, z26, rfl, h4, h6, h8, h10, (fun q e => by cases e; exact ha1), ⟨by omega, by omega⟩, ⟨by omega, by omega⟩, (by decide), ⟨by omega, by omega⟩, trivial⟩
    have hfr : ∀ b, K b ∉ [4, 8, 21, 24, 43] → F61 b = F b := by rw [hF62]; exact s_fr hfr ha0 (by decide)
    have hq := s_QGo hIq ha3 ha0 (by decide) hF62 hq
    have o63 : F61 a0 = .inr (3, [.ref z3, .ref z5, .ref z7, .ref z9, .ref a1, .int x2, .ref a3, .int 0, .int z17, .int 0, .int z21, .int z22, .int z23, .int 0, .int z26]) := by rw [hF62]; exact th_up
    refine lv_aload_n hx hb dX3_read_37 rfl (lv_at hl 0 rfl) ?_
    refine lv_iconst (v := (-1)) hx hb dX3_read_38 (by decide) ?_
    refine th_put (D := (dC, dI)) (ci := 3) (v := .int (-1)) (ty := .int) (C := RX3) (T := TX3) (N := 15) hx hb hts inX3 tyX3 tyX3_ok nmX3 hown hK hP hD hS (hLK _ ha0 (by decide)) o63 rfl 14 (by decide) (hts _ T_133) (fun _ h9 => h9) rfl (by decide +kernel) rfl rfl (Nat.le_of_ble_eq_true rfl) dX3_read_39 (fun H locs hP hS => ?_)
    have hIq := hI
    have hP : va_P (dC, dI) vwCl (va_pl L (va_up F61 a0 (.inr (3, [.ref z3, .ref z5, .ref z7, .ref z9, .ref a1, .int x2, .ref a3, .int 0, .int z17, .int 0, .int z21, .int z22, .int z23, .int 0, .int (-1)])))) H := hP
    obtain ⟨F64, hF65⟩ : ∃ G : Nat → va_E, G = va_up F61 a0 (.inr (3, [.ref z3, .ref z5, .ref z7, .ref z9, .ref a1, .int x2, .ref a3, .int 0, .int z17, .int 0, .int z21, .int z22, .int z23, .int 0, .int (-1)])) := ⟨_, rfl⟩
    rw [← hF65] at hP
    have hI : s_I K cs D F64 := by rw [hF65]; exact s_cl4 hI ha0 ⟨z3, z5, z7, z9, some a1, x2, some a3, 0, z17, 0, z21, z22, z23, 0, (-1), rfl, h4, h6, h8, h10, (fun q e => by cases e; exact ha1), ⟨by omega, by omega⟩, ⟨by omega, by omega⟩, (by decide), ⟨by omega, by omega⟩, trivial⟩
    have hfr : ∀ b, K b ∉ [4, 8, 21, 24, 43] → F64 b = F b := by rw [hF65]; exact s_fr hfr ha0 (by decide)
    have hq := s_QGo hIq ha3 ha0 (by decide) hF65 hq
    have o66 : F64 a0 = .inr (3, [.ref z3, .ref z5, .ref z7, .ref z9, .ref a1, .int x2, .ref a3, .int 0, .int z17, .int 0, .int z21, .int z22, .int z23, .int 0, .int (-1)]) := by rw [hF65]; exact th_up
    refine lv_iconst (v := 1) hx hb dX3_read_42 (by decide) ?_
    refine lv_istore (lv' := [(4, .int 1), (0, .ref a0), (1, .ref a1), (2, .int x2), (3, .ref a3)]) hx hb dX3_read_43 hl (by decide) rfl (fun ls hl => ?_)
    refine lv_aload_n hx hb dX3_read_45 rfl (lv_at hl 1 rfl) ?_
    have hIq := hI
    refine va_callv (va_runV (As := []) (rest := []) ⟨hx, hb, hml, hown, hts⟩ (s_X3_scan l dC dI H.size hLK D adK adV tf F64 a0 ha0 hI a1 a3 ⟨z3, z5, z7, z9, x2, 0, z17, 0, z21, z22, z23, 0, (-1), o66, h4, h6, h8, h10, ha1, ⟨by omega, by omega⟩, ha3, ⟨by omega, by omega⟩, (by decide), ⟨by omega, by omega⟩, trivial⟩) (cwV 0 hts (ax_gV T_215 T_216 T_217 T_163 T_13) rfl rfl rfl (by decide +kernel) ⟨Nat.le_of_ble_eq_true rfl, Nat.le_of_ble_eq_true rfl⟩) ⟨fun a U g mk q => ⟨q.1, s_pc (U := U) rfl rfl q.2.1, s_pcZ (U := U) rfl rfl q.2.2⟩, s_recv hK hP (hLK _ ha0 (by decide)) (ci := 3) rfl o66, fun U hU hW => ⟨rfl, s_pw hU hW hP hK hD hN, s_pwZ hU hW hS hZ⟩⟩ rfl rfl hl.1 rfl (lv_room (Nat.le_of_ble_eq_true rfl)) dX3_read_46 ⟨Nat.zero_le _, Nat.zero_le _⟩) hS (fun q _ h => h) (fun q h => h) (fun F67 t H1 locs ht hvm hw hB hz1 hk1 hS => ?_)
    obtain ⟨hP, hK1⟩ := hB
    rw [ht] at hP
    generalize H1 = H at hP hS ⊢
    clear hz1 hk1
    obtain ⟨h68, h69, hI, hfr1, h70⟩ := hw
    have hq := s_QGt hIq ha3 (fun b hb9 => hfr1 b (by rcases hb9 with q | q | q <;> (rw [q]; decide))) hq
    have hfr : ∀ b, K b ∉ [4, 8, 21, 24, 43] → F67 b = F b := fun b hb9 => (hfr1 b (fun q => hb9 (s_sub (by decide) q))).trans (hfr b hb9)
    obtain ⟨z71, z73, z75, z77, z80, z83, z84, z86, z88, z89, z90, z92, z93, o95, h72, h74, h76, h78, h79, h81, h82, h85, h87, h91, h94, -⟩ := h70
    refine lv_iconst (v := 0) hx hb dX3_read_49 (by decide) ?_
    refine lv_istore (lv' := [(5, .int 0), (4, .int 1), (0, .ref a0), (1, .ref a1), (2, .int x2), (3, .ref a3)]) hx hb dX3_read_50 hl (by decide) rfl (fun ls hl => ?_)
    refine th_loop (fun n g H locs => ∃ (G : Nat → va_E) (ls : Array Slot) (w96 : Int32) (w97 : Int32), g = F0 m 52 ls [] ∧ lv_has ls 6 [(0, .ref a0), (4, .int w96), (5, .int w97)] ∧ s_I K cs D G ∧ va_P (dC, dI) vwCl (va_pl L G) H ∧ va_S (fun q => q ∈ L) s.heap H locs ∧ (∀ b, K b ∉ [4, 8, 21, 24, 43] → G b = F b) ∧ (0 ≤ w96.toInt ∧ w96.toInt ≤ 1) ∧ (0 ≤ w97.toInt ∧ w97.toInt ≤ 81) ∧ (w96.toInt = 0 ∨ s_QG cs G a3 0) ∧ s_rd4 K G a0 a1 a3 ∧ n = (82 - w97.toInt).toNat) _ ⟨F67, _, 1, 0, rfl, lv_sub hl [2, 1, 0] rfl, hI, hP, hS, hfr, (by decide), (by decide), (Or.inr hq), ⟨z71, z73, z75, z77, z80, z83, z84, z86, z88, z89, z90, z92, z93, o95, h72, h74, h76, h78, h79, ⟨by omega, by omega⟩, h82, ⟨by omega, by omega⟩, ⟨by omega, by omega⟩, ⟨by omega, by omega⟩, (fun q => by first | omega | exact absurd q (by decide)), trivial⟩, rfl⟩ (fun n ih52 g H locs hq => ?_)
    obtain ⟨F9, ls, w96, w97, rfl, hl, hI, hP, hS, hfr, h98, h99, h100, h101, hn⟩ := hq
    obtain ⟨z102, z104, z106, z108, z111, z114, z115, z117, z119, z120, z121, z123, z124, o126, h103, h105, h107, h109, h110, h112, h113, h116, h118, h122, h125, -⟩ := h101
    have hn_52 := hn
    obtain ⟨n_52, hn9_52⟩ : ∃ q, q = n := ⟨_, rfl⟩
    refine lv_iload hx hb dX3_read_52 (lv_at hl 1 rfl) ?_
    refine lv_if_eq (tgt := 85) hx hb dX3_read_54 (by decide) (fun c127 => ?_) (fun c127 => ?_)
    · have c127 := (ax_eq (n := 0) (by decide)).mp c127
      exact K85 _ _ _ ⟨F9, _, w96, rfl, lv_sub hl [0, 1] rfl, hI, hP, hS, hfr, ⟨by omega, by omega⟩, h100, ⟨z102, z104, z106, z108, z111, z114, z115, z117, z119, z120, z121, z123, z124, o126, h103, h105, h107, h109, h110, ⟨by omega, by omega⟩, h113, ⟨by omega, by omega⟩, ⟨by omega, by omega⟩, ⟨by omega, by omega⟩, (fun q => by first | omega | exact absurd q (by decide)), trivial⟩⟩
    · have c127 := mt (ax_eq (n := 0) (by decide)).mpr c127
      have hq := h100.resolve_left c127
      refine lv_aload_n hx hb dX3_read_57 rfl (lv_at hl 0 rfl) ?_
      refine th_get (D := (dC, dI)) (ci := 3) (v := .int z114) (C := RX3) (T := TX3) (N := 15) hx hb hts inX3 hown hK hP (hLK _ ha0 (by decide)) o126 rfl 7 (by decide) (hts _ T_204) (fun _ h9 => h9) rfl dX3_read_58 ?_
      refine lv_if_eq (tgt := 85) hx hb dX3_read_61 (by decide) (fun c128 => ?_) (fun c128 => ?_)
      · have c128 := (ax_eq (n := 0) (by decide)).mp c128
        exact K85 _ _ _ ⟨F9, _, w96, rfl, lv_sub hl [0, 1] rfl, hI, hP, hS, hfr, ⟨by omega, by omega⟩, (Or.inr hq), ⟨z102, z104, z106, z108, z111, z114, z115, z117, z119, z120, z121, z123, z124, o126, h103, h105, h107, h109, h110, ⟨by omega, by omega⟩, h113, ⟨by omega, by omega⟩, ⟨by omega, by omega⟩, ⟨by omega, by omega⟩, (fun q => by first | omega | exact absurd q (by decide)), trivial⟩⟩
      · have c128 := mt (ax_eq (n := 0) (by decide)).mpr c128
        refine lv_iload hx hb dX3_read_64 (lv_at hl 2 rfl) ?_
        refine lv_bipush (v := 80) hx hb dX3_read_66 (by decide) ?_
        refine lv_icmp_gt (tgt := 85) hx hb dX3_read_68 (by decide) (fun c129 => ?_) (fun c129 => ?_)
        · have c129 := (ax_gt (n := 80) (by decide)).mp c129
          exact K85 _ _ _ ⟨F9, _, w96, rfl, lv_sub hl [0, 1] rfl, hI, hP, hS, hfr, ⟨by omega, by omega⟩, (Or.inr hq), ⟨z102, z104, z106, z108, z111, z114, z115, z117, z119, z120, z121, z123, z124, o126, h103, h105, h107, h109, h110, ⟨by omega, by omega⟩, h113, ⟨by omega, by omega⟩, ⟨by omega, by omega⟩, ⟨by omega, by omega⟩, (fun q => by first | omega | exact absurd q (by decide)), trivial⟩⟩
        · have c129 := mt (ax_gt (n := 80) (by decide)).mpr c129
          refine lv_aload_n hx hb dX3_read_71 rfl (lv_at hl 0 rfl) ?_
          refine lv_iload hx hb dX3_read_72 (lv_at hl 2 rfl) ?_
          have hIq := hI
          refine va_calli (va_runV (As := [.int w97]) (rest := []) ⟨hx, hb, hml, hown, hts⟩ (s_X3_readStatement l dC dI H.size hLK D adK adV tf F9 a0 w97 ha0 (⟨by omega, by omega⟩) hI a1 a3 ⟨z102, z104, z106, z108, z111, z114, z115, z117, z119, z120, z121, z123, z124, o126, h103, h105, h107, h109, h110, ⟨by omega, by omega⟩, h113, ⟨by omega, by omega⟩, ⟨by omega, by omega⟩, ⟨by omega, by omega⟩, (fun q => by first | omega | exact absurd q (by decide)), trivial⟩ (s_RIt hfr (by decide) hRI) hq) (cwV 1 hts (ax_gV T_777 T_779 T_780 T_163 T_778) rfl rfl rfl (by decide +kernel) ⟨Nat.le_of_ble_eq_true rfl, Nat.le_of_ble_eq_true rfl⟩) ⟨fun a U g mk q => ⟨q.1, s_pc (U := U) rfl rfl q.2.1, s_pcZ (U := U) rfl rfl q.2.2⟩, s_recv hK hP (hLK _ ha0 (by decide)) (ci := 3) rfl o126, fun U hU hW => ⟨rfl, s_pw hU hW hP hK hD hN, s_pwZ hU hW hS hZ⟩⟩ rfl rfl hl.1 rfl (lv_room (Nat.le_of_ble_eq_true rfl)) dX3_read_74 ⟨Nat.zero_le _, Nat.zero_le _⟩) hS (fun q _ h => h) (fun q h => h) (fun r130 F131 t H1 locs ht hvm hw hB hz1 hk1 hS => ?_)
          obtain ⟨hP, hK1⟩ := hB
          rw [ht] at hP
          generalize H1 = H at hP hS ⊢
          clear hz1 hk1
          obtain ⟨h132, h133, hI, hfr1, h134⟩ := hw
          have hfr : ∀ b, K b ∉ [4, 8, 21, 24, 43] → F131 b = F b := fun b hb9 => (hfr1 b (fun q => hb9 (s_sub (by decide) q))).trans (hfr b hb9)
          obtain ⟨z136, z138, z140, z142, z144, z146, z148, z149, z150, z152, z154, z155, z156, z158, z159, o160, h137, h139, h141, h143, h145, h147, h151, h153, h157, -⟩ := s_op4 hI ha0
          obtain ⟨h133, h135⟩ := h133
          have h135 : (¬ r130 = 0 → s_QG cs F131 z148 0) := h135
          obtain ⟨z161, z163, z165, z167, z170, z173, z174, z176, z178, z179, z180, z182, z183, o185, h162, h164, h166, h168, h169, h171, h172, h175, h177, h181, h184, -⟩ := h134
          refine lv_istore (lv' := [(4, .int r130), (0, .ref a0), (5, .int w97)]) hx hb dX3_read_77 hl (by decide) rfl (fun ls hl => ?_)
          obtain ⟨v186, ev186⟩ : ∃ y : Int32, w97 + 1 = y := ⟨_, rfl⟩
          have qv186 : v186.toInt = w97.toInt + 1 := by rw [← ev186]; exact th_add rfl (by decide) ⟨by omega, by omega⟩
          refine lv_iinc (v := v186) (lv' := [(5, .int v186), (4, .int r130), (0, .ref a0)]) hx hb dX3_read_79 hl (k := 2) rfl ev186 (by decide) rfl (fun ls hl => ?_)
          refine lv_goto (tgt := 52) hx hb dX3_read_82 (by decide) ?_
          exact ih52 _ _ _ _ (by omega) ⟨F131, _, r130, v186, rfl, lv_sub hl [2, 1, 0] rfl, hI, hP, hS, hfr, ⟨by omega, by omega⟩, ⟨by omega, by omega⟩, ((Classical.em (r130 = 0)).elim (fun q => Or.inl (by rw [q]; decide)) (fun q => Or.inr (h135 q))), ⟨z161, z163, z165, z167, z170, z173, z174, z176, z178, z179, z180, z182, z183, o185, h162, h164, h166, h168, h169, ⟨by omega, by omega⟩, h172, ⟨by omega, by omega⟩, ⟨by omega, by omega⟩, ⟨by omega, by omega⟩, (fun q => by first | omega | exact absurd q (by decide)), trivial⟩, rfl⟩
  · intro g H locs hq
    obtain ⟨F9, ls, w2, rfl, hl, hI, hP, hS, hfr, h187, h188, h189⟩ := hq
    obtain ⟨z190, z192, z194, z196, z199, z202, z203, z205, z207, z208, z209, z211, z212, o214, h191, h193, h195, h197, h198, h200, h201, h204, h206, h210, h213, -⟩ := h189
    refine lv_iload hx hb dX3_read_85 (lv_at hl 1 rfl) ?_
    refine lv_if_eq (tgt := 110) hx hb dX3_read_87 (by decide) (fun c215 => ?_) (fun c215 => ?_)
    · have c215 := (ax_eq (n := 0) (by decide)).mp c215
      exact K110 _ _ _ ⟨F9, _, w2, rfl, lv_sub hl [0, 1] rfl, hI, hP, hS, hfr, ⟨by omega, by omega⟩, h188, ⟨z190, z192, z194, z196, z199, z202, z203, z205, z207, z208, z209, z211, z212, o214, h191, h193, h195, h197, h198, ⟨by omega, by omega⟩, h201, ⟨by omega, by omega⟩, ⟨by omega, by omega⟩, ⟨by omega, by omega⟩, (fun q => by first | omega | exact absurd q (by decide)), trivial⟩⟩
    · have c215 := mt (ax_eq (n := 0) (by decide)).mpr c215
      have hq := h188.resolve_left c215
      refine lv_aload_n hx hb dX3_read_90 rfl (lv_at hl 0 rfl) ?_
      refine th_get (D := (dC, dI)) (ci := 3) (v := .ref a3) (C := RX3) (T := TX3) (N := 15) hx hb hts inX3 hown hK hP (hLK _ ha0 (by decide)) o214 rfl 6 (by decide) (hts _ T_211) (fun _ h9 => h9) rfl dX3_read_91 ?_
      obtain ⟨z216, z218, z220, z222, z224, z226, z227, o228, h217, h219, h221, h223, h225, -⟩ := s_op8 hI h201
      refine th_getN (D := (dC, dI)) (ci := 2) (v := .int z222) (C := RX2) (T := TX2) (N := 7) hx hb hts inX2 hown hK hP (hLK _ h201 (by decide)) o228 rfl 3 (by decide) (va_Nw.use rfl (ax_n9 hN)) (fun _ h9 => h9) rfl dX3_read_94 ?_
      refine lv_if_ne (tgt := 110) hx hb dX3_read_97 (by decide) (fun c229 => ?_) (fun c229 => ?_)
      · have c229 := mt (ax_eq (n := 0) (by decide)).mpr c229
        exact K110 _ _ _ ⟨F9, _, w2, rfl, lv_sub hl [0, 1] rfl, hI, hP, hS, hfr, ⟨by omega, by omega⟩, (Or.inr hq), ⟨z190, z192, z194, z196, z199, z202, z203, z205, z207, z208, z209, z211, z212, o214, h191, h193, h195, h197, h198, ⟨by omega, by omega⟩, h201, ⟨by omega, by omega⟩, ⟨by omega, by omega⟩, ⟨by omega, by omega⟩, (fun q => by first | omega | exact absurd q (by decide)), trivial⟩⟩
      · have c229 := (ax_eq (n := 0) (by decide)).mp c229
        refine lv_aload_n hx hb dX3_read_100 rfl (lv_at hl 0 rfl) ?_
        refine lv_iconst (v := 1) hx hb dX3_read_101 (by decide) ?_
        refine lv_aload_n hx hb dX3_read_102 rfl (lv_at hl 0 rfl) ?_
        refine th_get (D := (dC, dI)) (ci := 3) (v := .int z199) (C := RX3) (T := TX3) (N := 15) hx hb hts inX3 hown hK hP (hLK _ ha0 (by decide)) o214 rfl 5 (by decide) (hts _ T_207) (fun _ h9 => h9) rfl dX3_read_103 ?_
        have hIq := hI
        refine va_calli (va_runV (As := [.int 1, .int z199]) (rest := []) ⟨hx, hb, hml, hown, hts⟩ (s_X3_fail l dC dI H.size hLK D F9 a0 1 z199 ha0 hI a1 a3 ⟨z190, z192, z194, z196, z199, z202, z203, z205, z207, z208, z209, z211, z212, o214, h191, h193, h195, h197, h198, ⟨by omega, by omega⟩, h201, ⟨by omega, by omega⟩, ⟨by omega, by omega⟩, ⟨by omega, by omega⟩, (fun q => by first | omega | exact absurd q (by decide)), trivial⟩) (cwV 2 hts (ax_gV T_218 T_219 T_220 T_163 T_14) rfl rfl rfl (by decide +kernel) ⟨Nat.le_of_ble_eq_true rfl, Nat.le_of_ble_eq_true rfl⟩) ⟨fun a U g mk q => ⟨q.1, s_pc (U := U) rfl rfl q.2⟩, s_recv hK hP (hLK _ ha0 (by decide)) (ci := 3) rfl o214, fun U hU hW => ⟨rfl, s_pw hU hW hP hK hD hN⟩⟩ rfl rfl hl.1 rfl (lv_room (Nat.le_of_ble_eq_true rfl)) dX3_read_106 ⟨Nat.zero_le _, Nat.zero_le _⟩) hS (fun q _ h => h) (fun q h => h) (fun r230 F231 t H1 locs ht hvm hw hB hz1 hk1 hS => ?_)
        obtain ⟨hP, hK1⟩ := hB
        rw [ht] at hP
        generalize H1 = H at hP hS ⊢
        clear hz1 hk1
        obtain ⟨h232, h233, hI, hfr1, h234⟩ := hw
        have o235 : F231 a3 = .inr (2, [.ref z216, .ref z218, .ref z220, .int z222, .int z224, .int z226, .int z227]) := (hfr1 _ (by rw [h201]; decide)).trans o228
        have hq := s_QGt hIq h201 (fun b hb9 => hfr1 b (by rcases hb9 with q | q | q <;> (rw [q]; decide))) hq
        have hfr : ∀ b, K b ∉ [4, 8, 21, 24, 43] → F231 b = F b := fun b hb9 => (hfr1 b (fun q => hb9 (s_sub (by decide) q))).trans (hfr b hb9)
        obtain ⟨z237, z239, z241, z243, z245, z247, z249, z250, z251, z253, z255, z256, z257, z259, z260, o261, h238, h240, h242, h244, h246, h248, h252, h254, h258, -⟩ := s_op4 hI ha0
        obtain ⟨h233, h236⟩ := h233
        have h236 : (∀ vs z, F231 a0 = .inr (3, vs) → vs[13]? = some (.int z) → z = 1) := h236
        obtain ⟨z262, z264, z266, z268, z271, z274, z275, z277, z279, z280, z281, z283, z284, o286, h263, h265, h267, h269, h270, h272, h273, h276, h278, h282, h285, -⟩ := h234
        exact W.zret (v := r230) (ty := .boolean) hx hb hr (th_nz ⟨by omega, by omega⟩) (fun t ht hW => ⟨⟨r230, F231, rfl, ⟨⟨by omega, by omega⟩, ⟨trivial, (fun q => absurd (th_z0 ⟨by omega, by omega⟩) q)⟩, hI, hfr⟩, by rw [ht]; exact hP, va_K.moved hW.alike hK⟩, hS.F ht⟩) hS.2.2 dX3_read_109
  · intro g H locs hq
    obtain ⟨F9, ls, w1, rfl, hl, hI, hP, hS, hfr, h287, h288, h289⟩ := hq
    obtain ⟨z290, z292, z294, z296, z299, z302, z303, z305, z307, z308, z309, z311, z312, o314, h291, h293, h295, h297, h298, h300, h301, h304, h306, h310, h313, -⟩ := h289
    refine lv_iload hx hb dX3_read_110 (lv_at hl 1 rfl) ?_
    refine lv_if_eq (tgt := 126) hx hb dX3_read_112 (by decide) (fun c315 => ?_) (fun c315 => ?_)
    · have c315 := (ax_eq (n := 0) (by decide)).mp c315
      refine lv_iconst (v := 0) hx hb dX3_read_126 (by decide) ?_
      exact W.zret (v := 0) (ty := .boolean) hx hb hr (by decide) (fun t ht hW => ⟨⟨0, F9, rfl, ⟨(by decide), ⟨trivial, (fun q => absurd rfl q)⟩, hI, hfr⟩, by rw [ht]; exact hP, va_K.moved hW.alike hK⟩, hS.F ht⟩) hS.2.2 dX3_read_127
    · have c315 := mt (ax_eq (n := 0) (by decide)).mpr c315
      have hq := h288.resolve_left c315
      refine lv_aload_n hx hb dX3_read_115 rfl (lv_at hl 0 rfl) ?_
      have hIq := hI
      refine va_calli (va_runV (As := []) (rest := []) ⟨hx, hb, hml, hown, hts⟩ (s_X3_aimAll l dC dI H.size hLK D F9 a0 ha0 hI a1 a3 ⟨z290, z292, z294, z296, z299, z302, z303, z305, z307, z308, z309, z311, z312, o314, h291, h293, h295, h297, h298, ⟨by omega, by omega⟩, h301, ⟨by omega, by omega⟩, ⟨by omega, by omega⟩, ⟨by omega, by omega⟩, (fun q => by first | omega | exact absurd q (by decide)), trivial⟩ hq) (cwV 0 hts (ax_gV T_781 T_783 T_784 T_163 T_782) rfl rfl rfl (by decide +kernel) ⟨Nat.le_of_ble_eq_true rfl, Nat.le_of_ble_eq_true rfl⟩) ⟨fun a U g mk q => ⟨q.1, s_pc (U := U) rfl rfl q.2⟩, s_recv hK hP (hLK _ ha0 (by decide)) (ci := 3) rfl o314, fun U hU hW => ⟨rfl, s_pw hU hW hP hK hD hN⟩⟩ rfl rfl hl.1 rfl (lv_room (Nat.le_of_ble_eq_true rfl)) dX3_read_116 ⟨Nat.zero_le _, Nat.zero_le _⟩) hS (fun q _ h => h) (fun q h => h) (fun r316 F317 t H1 locs ht hvm hw hB hz1 hk1 hS => ?_)
      obtain ⟨hP, hK1⟩ := hB
      rw [ht] at hP
      generalize H1 = H at hP hS ⊢
      clear hz1 hk1
      obtain ⟨h318, h319, hI, hfr1, h320⟩ := hw
      have hfr : ∀ b, K b ∉ [4, 8, 21, 24, 43] → F317 b = F b := fun b hb9 => (hfr1 b (fun q => hb9 (s_sub (by decide) q))).trans (hfr b hb9)
      obtain ⟨z322, z324, z326, z328, z330, z332, z334, z335, z336, z338, z340, z341, z342, z344, z345, o346, h323, h325, h327, h329, h331, h333, h337, h339, h343, -⟩ := s_op4 hI ha0
      obtain ⟨h319, h321⟩ := h319
      have h321 : (s_QG cs F317 z334 0 ∧ (¬ r316 = 0 → ∀ vs z, F317 z334 = .inr (2, vs) → vs[3]? = some (.int z) → s_AQ cs F317 z334 z.toInt)) := h321
      obtain ⟨z347, z349, z351, z353, z356, z359, z360, z362, z364, z365, z366, z368, z369, o371, h348, h350, h352, h354, h355, h357, h358, h361, h363, h367, h370, -⟩ := h320
      refine lv_if_eq (tgt := 126) hx hb dX3_read_119 (by decide) (fun c372 => ?_) (fun c372 => ?_)
      · have c372 := (ax_eq (n := 0) (by decide)).mp c372
        refine lv_iconst (v := 0) hx hb dX3_read_126 (by decide) ?_
        exact W.zret (v := 0) (ty := .boolean) hx hb hr (by decide) (fun t ht hW => ⟨⟨0, F317, rfl, ⟨(by decide), ⟨trivial, (fun q => absurd rfl q)⟩, hI, hfr⟩, by rw [ht]; exact hP, va_K.moved hW.alike hK⟩, hS.F ht⟩) hS.2.2 dX3_read_127
      · have c372 := mt (ax_eq (n := 0) (by decide)).mpr c372
        obtain ⟨hqa, hqb⟩ := h321
        have hqb := hqb (fun q => c372 (by rw [q]; decide))
        refine lv_iconst (v := 1) hx hb dX3_read_122 (by decide) ?_
        refine lv_goto (tgt := 127) hx hb dX3_read_123 (by decide) ?_
        exact W.zret (v := 1) (ty := .boolean) hx hb hr (by decide) (fun t ht hW => ⟨⟨1, F317, rfl, ⟨(by decide), ⟨trivial, (fun _ => ⟨hqa, hqb⟩)⟩, hI, hfr⟩, by rw [ht]; exact hP, va_K.moved hW.alike hK⟩, hS.F ht⟩) hS.2.2 dX3_read_127
