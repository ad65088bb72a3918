set_option maxHeartbeats 4000000 in
set_option maxRecDepth 100000 in
theorem s_J7_fill_53178_regs (l : Launch) (dC : Nat → ClassId) (dI : Nat → Nat → Nat) (sz : Nat) {L : List Nat} {K : Nat → Nat} {cs : Nat → ClassId} (hLK : ∀ a {k : Nat}, K a = k → k ≠ 0 → a ∈ L) (D : Nat) (F : Nat → va_E) (a0 : Nat) (x1 : Int32) (ha0 : K a0 = 30) (hI : s_I K cs D F) : Met l yJ7_fill_53178 (Cond.code yJ7_fill_53178 cJ7_fill_53178 4 none :: T0) ({ frames := 0, cells := 0, slots := 0, locals := 0 }) (va_Pc [.ref a0, .int x1] (s_W dC dI sz L F [(cs 0, .int), (cs 1, .byte), (cs 2, .long), (cs 3, .object RX5), (cs 4, .object RX4), (cs 5, .array .int), (cs 6, .char), (cs 7, .boolean)])) (va_Qv (fun (G : Nat → va_E) => True ∧ True ∧ s_I K cs D G ∧ ∀ b, K b ∉ [30] → G b = F b) (fun (G : Nat → va_E) (t : State) => va_P (dC, dI) vwCl (va_pl L G) t.heap ∧ va_K (dC, dI) vwCl [(cs 0, .int), (cs 1, .byte), (cs 2, .long), (cs 3, .object RX5), (cs 4, .object RX4), (cs 5, .array .int), (cs 6, .char), (cs 7, .boolean)] t) (fun q => q ∈ L)) 0 0 (fun q => q ∈ L) := by
  refine Met.ofW (cc := cJ7_fill_53178) (maxL := 4) (ret := none) (by decide) rfl ?_
  intro p e s m args below meth c s₁ B hml hv
  obtain ⟨rfl, hsz, hP, hK, hD, hN⟩ := hv
  have hx := B.exec
  have hb := B.bytes
  have hr := B.returns
  have hts : ∀ w ∈ T0, w.before _ s = true := fun w h => atoms_spec (ws := Cond.code yJ7_fill_53178 cJ7_fill_53178 4 none :: T0) B.pre w (List.mem_cons_of_mem _ h)
  have hown : s.vm.findClass RJ7 = some m.cls := findClass_of_methodNamed B.named
  have hlocks := B.notSynchronized
  have hS : va_S (fun q => q ∈ L) s.heap s.heap [] := va_S.rf
  have hfr : ∀ b, K b ∉ [30] → F b = F b := fun _ _ => rfl
  have hl := lv_entry ([.ref a0, .int x1]) (n := 4) (Nat.le_of_ble_eq_true rfl)
  rw [lg_entry_eq]
  generalize (lg_sl ([.ref a0, .int x1]) ++ List.replicate (4 - (lg_sl ([.ref a0, .int x1])).length) Slot.unset).toArray = ls at hl ⊢
  have hl : lv_has ls 4 [(0, .ref a0), (1, .int x1)] := hl
  refine s_gen hP hS (fun H locs hP hS => ?_)
  refine lv_iconst (v := 0) hx hb dJ7_fill_53178_0 (by decide) ?_
  refine lv_istore_n (lv' := [(2, .int 0), (0, .ref a0), (1, .int x1)]) hx hb dJ7_fill_53178_1 rfl hl (by decide) rfl (fun ls hl => ?_)
  refine lv_aload_n hx hb dJ7_fill_53178_2 rfl (lv_at hl 1 rfl) ?_
  obtain ⟨f1, o2, h3⟩ := s_op30 hI ha0
  refine th_alen hx hb hK hP (hLK _ ha0 (by decide)) 0 o2 rfl (v := 32) rfl dJ7_fill_53178_3 ?_
  refine lv_istore_n (lv' := [(3, .int 32), (2, .int 0), (0, .ref a0), (1, .int x1)]) hx hb dJ7_fill_53178_4 rfl hl (by decide) rfl (fun ls hl => ?_)
  refine th_loop (fun n g H locs => ∃ (G : Nat → va_E) (ls : Array Slot) (w4 : Int32), g = F0 m 5 ls [] ∧ lv_has ls 4 [(0, .ref a0), (1, .int x1), (2, .int w4), (3, .int 32)] ∧ s_I K cs D G ∧ va_P (dC, dI) vwCl (va_pl L G) H ∧ va_S (fun q => q ∈ L) s.heap H locs ∧ (∀ b, K b ∉ [30] → G b = F b) ∧ (0 ≤ w4.toInt ∧ w4.toInt ≤ 32) ∧ n = (33 - w4.toInt).toNat) _ ⟨F, _, 0, rfl, lv_sub hl [2, 3, 1, 0] rfl, hI, hP, hS, hfr, (by decide), rfl⟩ (fun n ih5 g H locs hq => ?_)
  obtain ⟨F9, ls, w4, rfl, hl, hI, hP, hS, hfr, h5, hn⟩ := hq
  have hn_5 := hn
  obtain ⟨n_5, hn9_5⟩ : ∃ q, q = n := ⟨_, rfl⟩
  refine lv_iload_n hx hb dJ7_fill_53178_5 rfl (lv_at hl 2 rfl) ?_
  refine lv_iload_n hx hb dJ7_fill_53178_6 rfl (lv_at hl 3 rfl) ?_
  refine lv_icmp_ge (tgt := 20) hx hb dJ7_fill_53178_7 (by decide) (fun c6 => ?_) (fun c6 => ?_)
  · have c6 := (ax_ge (n := 32) (by decide)).mp c6
    exact W.vret hx hb hr (fun t ht hW => ⟨⟨F9, rfl, ⟨trivial, trivial, hI, hfr⟩, by rw [ht]; exact hP, va_K.moved hW.alike hK⟩, hS.F ht⟩) hS.2.2 dJ7_fill_53178_20
  · have c6 := mt (ax_ge (n := 32) (by decide)).mpr c6
    refine lv_aload_n hx hb dJ7_fill_53178_10 rfl (lv_at hl 0 rfl) ?_
    refine lv_iload_n hx hb dJ7_fill_53178_11 rfl (lv_at hl 2 rfl) ?_
    refine lv_iload_n hx hb dJ7_fill_53178_12 rfl (lv_at hl 1 rfl) ?_
    obtain ⟨f7, o8, h9⟩ := s_op30 hI ha0
    refine th_iast hx hb hK hP hD hS (hLK _ ha0 (by decide)) 0 o8 rfl (th_in ⟨by omega, by omega⟩) dJ7_fill_53178_13 (fun H locs hP hS => ?_)
    have hP : va_P (dC, dI) vwCl (va_pl L (va_up F9 a0 (.inl (cs 0, 32, .inl (upd f7 (w4 : Int32).toNatClampNeg x1))))) H := hP
    obtain ⟨F10, hF11⟩ : ∃ G : Nat → va_E, G = va_up F9 a0 (.inl (cs 0, 32, .inl (upd f7 (w4 : Int32).toNatClampNeg x1))) := ⟨_, rfl⟩
    rw [← hF11] at hP
    have hI : s_I K cs D F10 := by rw [hF11]; exact s_cl30 hI ha0 ⟨_, rfl, trivial⟩
    have hfr : ∀ b, K b ∉ [30] → F10 b = F b := by rw [hF11]; exact s_fr hfr ha0 (by decide)
    obtain ⟨v12, ev12⟩ : ∃ y : Int32, w4 + 1 = y := ⟨_, rfl⟩
    have qv12 : v12.toInt = w4.toInt + 1 := by rw [← ev12]; exact th_add rfl (by decide) ⟨by omega, by omega⟩
    refine lv_iinc (v := v12) (lv' := [(2, .int v12), (0, .ref a0), (1, .int x1), (3, .int 32)]) hx hb dJ7_fill_53178_14 hl (k := 2) rfl ev12 (by decide) rfl (fun ls hl => ?_)
    refine lv_goto (tgt := 5) hx hb dJ7_fill_53178_17 (by decide) ?_
    exact ih5 _ _ _ _ (by omega) ⟨F10, _, v12, rfl, lv_sub hl [1, 2, 0, 3] rfl, hI, hP, hS, hfr, ⟨by omega, by omega⟩, rfl⟩

set_option maxHeartbeats 4000000 in
set_option maxRecDepth 100000 in
theorem s_J7_fill_53178_lines (l : Launch) (dC : Nat → ClassId) (dI : Nat → Nat → Nat) (sz : Nat) {L : List Nat} {K : Nat → Nat} {cs : Nat → ClassId} (hLK : ∀ a {k : Nat}, K a = k → k ≠ 0 → a ∈ L) (D : Nat) (F : Nat → va_E) (a0 : Nat) (x1 : Int32) (ha0 : K a0 = 31) (hI : s_I K cs D F) : Met l yJ7_fill_53178 (Cond.code yJ7_fill_53178 cJ7_fill_53178 4 none :: T0) ({ frames := 0, cells := 0, slots := 0, locals := 0 }) (va_Pc [.ref a0, .int x1] (s_W dC dI sz L F [(cs 0, .int), (cs 1, .byte), (cs 2, .long), (cs 3, .object RX5), (cs 4, .object RX4), (cs 5, .array .int), (cs 6, .char), (cs 7, .boolean)])) (va_Qv (fun (G : Nat → va_E) => True ∧ True ∧ s_I K cs D G ∧ ∀ b, K b ∉ [31] → G b = F b) (fun (G : Nat → va_E) (t : State) => va_P (dC, dI) vwCl (va_pl L G) t.heap ∧ va_K (dC, dI) vwCl [(cs 0, .int), (cs 1, .byte), (cs 2, .long), (cs 3, .object RX5), (cs 4, .object RX4), (cs 5, .array .int), (cs 6, .char), (cs 7, .boolean)] t) (fun q => q ∈ L)) 0 0 (fun q => q ∈ L) := by
  refine Met.ofW (cc := cJ7_fill_53178) (maxL := 4) (ret := none) (by decide) rfl ?_
  intro p e s m args below meth c s₁ B hml hv
  obtain ⟨rfl, hsz, hP, hK, hD, hN⟩ := hv
  have hx := B.exec
  have hb := B.bytes
  have hr := B.returns
  have hts : ∀ w ∈ T0, w.before _ s = true := fun w h => atoms_spec (ws := Cond.code yJ7_fill_53178 cJ7_fill_53178 4 none :: T0) B.pre w (List.mem_cons_of_mem _ h)
  have hown : s.vm.findClass RJ7 = some m.cls := findClass_of_methodNamed B.named
  have hlocks := B.notSynchronized
  have hS : va_S (fun q => q ∈ L) s.heap s.heap [] := va_S.rf
  have hfr : ∀ b, K b ∉ [31] → F b = F b := fun _ _ => rfl
  have hl := lv_entry ([.ref a0, .int x1]) (n := 4) (Nat.le_of_ble_eq_true rfl)
  rw [lg_entry_eq]
  generalize (lg_sl ([.ref a0, .int x1]) ++ List.replicate (4 - (lg_sl ([.ref a0, .int x1])).length) Slot.unset).toArray = ls at hl ⊢
  have hl : lv_has ls 4 [(0, .ref a0), (1, .int x1)] := hl
  refine s_gen hP hS (fun H locs hP hS => ?_)
  refine lv_iconst (v := 0) hx hb dJ7_fill_53178_0 (by decide) ?_
  refine lv_istore_n (lv' := [(2, .int 0), (0, .ref a0), (1, .int x1)]) hx hb dJ7_fill_53178_1 rfl hl (by decide) rfl (fun ls hl => ?_)
  refine lv_aload_n hx hb dJ7_fill_53178_2 rfl (lv_at hl 1 rfl) ?_
  obtain ⟨f1, o2, h3⟩ := s_op31 hI ha0
  refine th_alen hx hb hK hP (hLK _ ha0 (by decide)) 0 o2 rfl (v := 8) rfl dJ7_fill_53178_3 ?_
  refine lv_istore_n (lv' := [(3, .int 8), (2, .int 0), (0, .ref a0), (1, .int x1)]) hx hb dJ7_fill_53178_4 rfl hl (by decide) rfl (fun ls hl => ?_)
  refine th_loop (fun n g H locs => ∃ (G : Nat → va_E) (ls : Array Slot) (w4 : Int32), g = F0 m 5 ls [] ∧ lv_has ls 4 [(0, .ref a0), (1, .int x1), (2, .int w4), (3, .int 8)] ∧ s_I K cs D G ∧ va_P (dC, dI) vwCl (va_pl L G) H ∧ va_S (fun q => q ∈ L) s.heap H locs ∧ (∀ b, K b ∉ [31] → G b = F b) ∧ (0 ≤ w4.toInt ∧ w4.toInt ≤ 8) ∧ n = (9 - w4.toInt).toNat) _ ⟨F, _, 0, rfl, lv_sub hl [2, 3, 1, 0] rfl, hI, hP, hS, hfr, (by decide), rfl⟩ (fun n ih5 g H locs hq => ?_)
  obtain ⟨F9, ls, w4, rfl, hl, hI, hP, hS, hfr, h5, hn⟩ := hq
  have hn_5 := hn
  obtain ⟨n_5, hn9_5⟩ : ∃ q, q = n := ⟨_, rfl⟩
  refine lv_iload_n hx hb dJ7_fill_53178_5 rfl (lv_at hl 2 rfl) ?_
  refine lv_iload_n hx hb dJ7_fill_53178_6 rfl (lv_at hl 3 rfl) ?_
  refine lv_icmp_ge (tgt := 20) hx hb dJ7_fill_53178_7 (by decide) (fun c6 => ?_) (fun c6 => ?_)
  · have c6 := (ax_ge (n := 8) (by decide)).mp c6
    exact W.vret hx hb hr (fun t ht hW => ⟨⟨F9, rfl, ⟨trivial, trivial, hI, hfr⟩, by rw [ht]; exact hP, va_K.moved hW.alike hK⟩, hS.F ht⟩) hS.2.2 dJ7_fill_53178_20
  · have c6 := mt (ax_ge (n := 8) (by decide)).mpr c6
    refine lv_aload_n hx hb dJ7_fill_53178_10 rfl (lv_at hl 0 rfl) ?_
    refine lv_iload_n hx hb dJ7_fill_53178_11 rfl (lv_at hl 2 rfl) ?_
    refine lv_iload_n hx hb dJ7_fill_53178_12 rfl (lv_at hl 1 rfl) ?_
    obtain ⟨f7, o8, h9⟩ := s_op31 hI ha0
    refine th_iast hx hb hK hP hD hS (hLK _ ha0 (by decide)) 0 o8 rfl (th_in ⟨by omega, by omega⟩) dJ7_fill_53178_13 (fun H locs hP hS => ?_)
    have hP : va_P (dC, dI) vwCl (va_pl L (va_up F9 a0 (.inl (cs 0, 8, .inl (upd f7 (w4 : Int32).toNatClampNeg x1))))) H := hP
    obtain ⟨F10, hF11⟩ : ∃ G : Nat → va_E, G = va_up F9 a0 (.inl (cs 0, 8, .inl (upd f7 (w4 : Int32).toNatClampNeg x1))) := ⟨_, rfl⟩
    rw [← hF11] at hP
    have hI : s_I K cs D F10 := by rw [hF11]; exact s_cl31 hI ha0 ⟨_, rfl, trivial⟩
    have hfr : ∀ b, K b ∉ [31] → F10 b = F b := by rw [hF11]; exact s_fr hfr ha0 (by decide)
    obtain ⟨v12, ev12⟩ : ∃ y : Int32, w4 + 1 = y := ⟨_, rfl⟩
    have qv12 : v12.toInt = w4.toInt + 1 := by rw [← ev12]; exact th_add rfl (by decide) ⟨by omega, by omega⟩
    refine lv_iinc (v := v12) (lv' := [(2, .int v12), (0, .ref a0), (1, .int x1), (3, .int 8)]) hx hb dJ7_fill_53178_14 hl (k := 2) rfl ev12 (by decide) rfl (fun ls hl => ?_)
    refine lv_goto (tgt := 5) hx hb dJ7_fill_53178_17 (by decide) ?_
    exact ih5 _ _ _ _ (by omega) ⟨F10, _, v12, rfl, lv_sub hl [1, 2, 0, 3] rfl, hI, hP, hS, hfr, ⟨by omega, by omega⟩, rfl⟩

set_option maxHeartbeats 4000000 in
set_option maxRecDepth 100000 in
theorem s_J7_fill_53178_near (l : Launch) (dC : Nat → ClassId) (dI : Nat → Nat → Nat) (sz : Nat) {L : List Nat} {K : Nat → Nat} {cs : Nat → ClassId} (hLK : ∀ a {k : Nat}, K a = k → k ≠ 0 → a ∈ L) (D : Nat) (F : Nat → va_E) (a0 : Nat) (x1 : Int32) (ha0 : K a0 = 27) (hI : s_I K cs D F) : Met l yJ7_fill_53178 (Cond.code yJ7_fill_53178 cJ7_fill_53178 4 none :: T0) ({ frames := 0, cells := 0, slots := 0, locals := 0 }) (va_Pc [.ref a0, .int x1] (s_W dC dI sz L F [(cs 0, .int), (cs 1, .byte), (cs 2, .long), (cs 3, .object RX5), (cs 4, .object RX4), (cs 5, .array .int), (cs 6, .char), (cs 7, .boolean)])) (va_Qv (fun (G : Nat → va_E) => True ∧ True ∧ s_I K cs D G ∧ ∀ b, K b ∉ [27] → G b = F b) (fun (G : Nat → va_E) (t : State) => va_P (dC, dI) vwCl (va_pl L G) t.heap ∧ va_K (dC, dI) vwCl [(cs 0, .int), (cs 1, .byte), (cs 2, .long), (cs 3, .object RX5), (cs 4, .object RX4), (cs 5, .array .int), (cs 6, .char), (cs 7, .boolean)] t) (fun q => q ∈ L)) 0 0 (fun q => q ∈ L) := by
  refine Met.ofW (cc := cJ7_fill_53178) (maxL := 4) (ret := none) (by decide) rfl ?_
  intro p e s m args below meth c s₁ B hml hv
  obtain ⟨rfl, hsz, hP, hK, hD, hN⟩ := hv
  have hx := B.exec
  have hb := B.bytes
  have hr := B.returns
  have hts : ∀ w ∈ T0, w.before _ s = true := fun w h => atoms_spec (ws := Cond.code yJ7_fill_53178 cJ7_fill_53178 4 none :: T0) B.pre w (List.mem_cons_of_mem _ h)
  have hown : s.vm.findClass RJ7 = some m.cls := findClass_of_methodNamed B.named
  have hlocks := B.notSynchronized
  have hS : va_S (fun q => q ∈ L) s.heap s.heap [] := va_S.rf
  have hfr : ∀ b, K b ∉ [27] → F b = F b := fun _ _ => rfl
  have hl := lv_entry ([.ref a0, .int x1]) (n := 4) (Nat.le_of_ble_eq_true rfl)
  rw [lg_entry_eq]
  generalize (lg_sl ([.ref a0, .int x1]) ++ List.replicate (4 - (lg_sl ([.ref a0, .int x1])).length) Slot.unset).toArray = ls at hl ⊢
  have hl : lv_has ls 4 [(0, .ref a0), (1, .int x1)] := hl
  refine s_gen hP hS (fun H locs hP hS => ?_)
  refine lv_iconst (v := 0) hx hb dJ7_fill_53178_0 (by decide) ?_
  refine lv_istore_n (lv' := [(2, .int 0), (0, .ref a0), (1, .int x1)]) hx hb dJ7_fill_53178_1 rfl hl (by decide) rfl (fun ls hl => ?_)
  refine lv_aload_n hx hb dJ7_fill_53178_2 rfl (lv_at hl 1 rfl) ?_
  obtain ⟨f1, o2, h3⟩ := s_op27 hI ha0
  refine th_alen hx hb hK hP (hLK _ ha0 (by decide)) 0 o2 rfl (v := 32) rfl dJ7_fill_53178_3 ?_
  refine lv_istore_n (lv' := [(3, .int 32), (2, .int 0), (0, .ref a0), (1, .int x1)]) hx hb dJ7_fill_53178_4 rfl hl (by decide) rfl (fun ls hl => ?_)
  refine th_loop (fun n g H locs => ∃ (G : Nat → va_E) (ls : Array Slot) (w4 : Int32), g = F0 m 5 ls [] ∧ lv_has ls 4 [(0, .ref a0), (1, .int x1), (2, .int w4), (3, .int 32)] ∧ s_I K cs D G ∧ va_P (dC, dI) vwCl (va_pl L G) H ∧ va_S (fun q => q ∈ L) s.heap H locs ∧ (∀ b, K b ∉ [27] → G b = F b) ∧ (0 ≤ w4.toInt ∧ w4.toInt ≤ 32) ∧ n = (33 - w4.toInt).toNat) _ ⟨F, _, 0, rfl, lv_sub hl [2, 3, 1, 0] rfl, hI, hP, hS, hfr, (by decide), rfl⟩ (fun n ih5 g H locs hq => ?_)
  obtain ⟨F9, ls, w4, rfl, hl, hI, hP, hS, hfr, h5, hn⟩ := hq
  have hn_5 := hn
  obtain ⟨n_5, hn9_5⟩ : ∃ q, q = n := ⟨_, rfl⟩
  refine lv_iload_n hx hb dJ7_fill_53178_5 rfl (lv_at hl 2 rfl) ?_
  refine lv_iload_n hx hb dJ7_fill_53178_6 rfl (lv_at hl 3 rfl) ?_
  refine lv_icmp_ge (tgt := 20) hx hb dJ7_fill_53178_7 (by decide) (fun c6 => ?_) (fun c6 => ?_)
  · have c6 := (ax_ge (n := 32) (by decide)).mp c6
    exact W.vret hx hb hr (fun t ht hW => ⟨⟨F9, rfl, ⟨trivial, trivial, hI, hfr⟩, by rw [ht]; exact hP, va_K.moved hW.alike hK⟩, hS.F ht⟩) hS.2.2 dJ7_fill_53178_20
  · have c6 := mt (ax_ge (n := 32) (by decide)).mpr c6
    refine lv_aload_n hx hb dJ7_fill_53178_10 rfl (lv_at hl 0 rfl) ?_
    refine lv_iload_n hx hb dJ7_fill_53178_11 rfl (lv_at hl 2 rfl) ?_
    refine lv_iload_n hx hb dJ7_fill_53178_12 rfl (lv_at hl 1 rfl) ?_
    obtain ⟨f7, o8, h9⟩ := s_op27 hI ha0
    refine th_iast hx hb hK hP hD hS (hLK _ ha0 (by decide)) 0 o8 rfl (th_in ⟨by omega, by omega⟩) dJ7_fill_53178_13 (fun H locs hP hS => ?_)
    have hP : va_P (dC, dI) vwCl (va_pl L (va_up F9 a0 (.inl (cs 0, 32, .inl (upd f7 (w4 : Int32).toNatClampNeg x1))))) H := hP
    obtain ⟨F10, hF11⟩ : ∃ G : Nat → va_E, G = va_up F9 a0 (.inl (cs 0, 32, .inl (upd f7 (w4 : Int32).toNatClampNeg x1))) := ⟨_, rfl⟩
    rw [← hF11] at hP
    have hI : s_I K cs D F10 := by rw [hF11]; exact s_cl27 hI ha0 ⟨_, rfl, trivial⟩
    have hfr : ∀ b, K b ∉ [27] → F10 b = F b := by rw [hF11]; exact s_fr hfr ha0 (by decide)
    obtain ⟨v12, ev12⟩ : ∃ y : Int32, w4 + 1 = y := ⟨_, rfl⟩
    have qv12 : v12.toInt = w4.toInt + 1 := by rw [← ev12]; exact th_add rfl (by decide) ⟨by omega, by omega⟩
    refine lv_iinc (v := v12) (lv' := [(2, .int v12), (0, .ref a0), (1, .int x1), (3, .int 32)]) hx hb dJ7_fill_53178_14 hl (k := 2) rfl ev12 (by decide) rfl (fun ls hl => ?_)
    refine lv_goto (tgt := 5) hx hb dJ7_fill_53178_17 (by decide) ?_
    exact ih5 _ _ _ _ (by omega) ⟨F10, _, v12, rfl, lv_sub hl [1, 2, 0, 3] rfl, hI, hP, hS, hfr, ⟨by omega, by omega⟩, rfl⟩

set_option maxHeartbeats 4000000 in
set_option maxRecDepth 100000 in
theorem s_J7_fill_53178_touch (l : Launch) (dC : Nat → ClassId) (dI : Nat → Nat → Nat) (sz : Nat) {L : List Nat} {K : Nat → Nat} {cs : Nat → ClassId} (hLK : ∀ a {k : Nat}, K a = k → k ≠ 0 → a ∈ L) (D : Nat) (F : Nat → va_E) (a0 : Nat) (x1 : Int32) (ha0 : K a0 = 28) (hI : s_I K cs D F) : Met l yJ7_fill_53178 (Cond.code yJ7_fill_53178 cJ7_fill_53178 4 none :: T0) ({ frames := 0, cells := 0, slots := 0, locals := 0 }) (va_Pc [.ref a0, .int x1] (s_W dC dI sz L F [(cs 0, .int), (cs 1, .byte), (cs 2, .long), (cs 3, .object RX5), (cs 4, .object RX4), (cs 5, .array .int), (cs 6, .char), (cs 7, .boolean)])) (va_Qv (fun (G : Nat → va_E) => True ∧ True ∧ s_I K cs D G ∧ ∀ b, K b ∉ [28] → G b = F b) (fun (G : Nat → va_E) (t : State) => va_P (dC, dI) vwCl (va_pl L G) t.heap ∧ va_K (dC, dI) vwCl [(cs 0, .int), (cs 1, .byte), (cs 2, .long), (cs 3, .object RX5), (cs 4, .object RX4), (cs 5, .array .int), (cs 6, .char), (cs 7, .boolean)] t) (fun q => q ∈ L)) 0 0 (fun q => q ∈ L) := by
  refine Met.ofW (cc := cJ7_fill_53178) (maxL := 4) (ret := none) (by decide) rfl ?_
  intro p e s m args below meth c s₁ B hml hv
  obtain ⟨rfl, hsz, hP, hK, hD, hN⟩ := hv
  have hx := B.exec
  have hb := B.bytes
  have hr := B.returns
  have hts : ∀ w ∈ T0, w.before _ s = true := fun w h => atoms_spec (ws := Cond.code yJ7_fill_53178 cJ7_fill_53178 4 none :: T0) B.pre w (List.mem_cons_of_mem _ h)
  have hown : s.vm.findClass RJ7 = some m.cls := findClass_of_methodNamed B.named
  have hlocks := B.notSynchronized
  have hS : va_S (fun q => q ∈ L) s.heap s.heap [] := va_S.rf
  have hfr : ∀ b, K b ∉ [28] → F b = F b := fun _ _ => rfl
  have hl := lv_entry ([.ref a0, .int x1]) (n := 4) (Nat.le_of_ble_eq_true rfl)
  rw [lg_entry_eq]
  generalize (lg_sl ([.ref a0, .int x1]) ++ List.replicate (4 - (lg_sl ([.ref a0, .int x1])).length) Slot.unset).toArray = ls at hl ⊢
  have hl : lv_has ls 4 [(0, .ref a0), (1, .int x1)] := hl
  refine s_gen hP hS (fun H locs hP hS => ?_)
  refine lv_iconst (v := 0) hx hb dJ7_fill_53178_0 (by decide) ?_
  refine lv_istore_n (lv' := [(2, .int 0), (0, .ref a0), (1, .int x1)]) hx hb dJ7_fill_53178_1 rfl hl (by decide) rfl (fun ls hl => ?_)
  refine lv_aload_n hx hb dJ7_fill_53178_2 rfl (lv_at hl 1 rfl) ?_
  obtain ⟨f1, o2, h3⟩ := s_op28 hI ha0
  refine th_alen hx hb hK hP (hLK _ ha0 (by decide)) 0 o2 rfl (v := 96) rfl dJ7_fill_53178_3 ?_
  refine lv_istore_n (lv' := [(3, .int 96), (2, .int 0), (0, .ref a0), (1, .int x1)]) hx hb dJ7_fill_53178_4 rfl hl (by decide) rfl (fun ls hl => ?_)
  refine th_loop (fun n g H locs => ∃ (G : Nat → va_E) (ls : Array Slot) (w4 : Int32), g = F0 m 5 ls [] ∧ lv_has ls 4 [(0, .ref a0), (1, .int x1), (2, .int w4), (3, .int 96)] ∧ s_I K cs D G ∧ va_P (dC, dI) vwCl (va_pl L G) H ∧ va_S (fun q => q ∈ L) s.heap H locs ∧ (∀ b, K b ∉ [28] → G b = F b) ∧ (0 ≤ w4.toInt ∧ w4.toInt ≤ 96) ∧ n = (97 - w4.toInt).toNat) _ ⟨F, _, 0, rfl, lv_sub hl [2, 3, 1, 0] rfl, hI, hP, hS, hfr, (by decide), rfl⟩ (fun n ih5 g H locs hq => ?_)
  obtain ⟨F9, ls, w4, rfl, hl, hI, hP, hS, hfr, h5, hn⟩ := hq
  have hn_5 := hn
  obtain ⟨n_5, hn9_5⟩ : ∃ q, q = n := ⟨_, rfl⟩
  refine lv_iload_n hx hb dJ7_fill_53178_5 rfl (lv_at hl 2 rfl) ?_
  refine lv_iload_n hx hb dJ7_fill_53178_6 rfl (lv_at hl 3 rfl) ?_
  refine lv_icmp_ge (tgt := 20) hx hb dJ7_fill_53178_7 (by decide) (fun c6 => ?_) (fun c6 => ?_)
  · have c6 := (ax_ge (n := 96) (by decide)).mp c6
    exact W.vret hx hb hr (fun t ht hW => ⟨⟨F9, rfl, ⟨trivial, trivial, hI, hfr⟩, by rw [ht]; exact hP, va_K.moved hW.alike hK⟩, hS.F ht⟩) hS.2.2 dJ7_fill_53178_20
  · have c6 := mt (ax_ge (n := 96) (by decide)).mpr c6
    refine lv_aload_n hx hb dJ7_fill_53178_10 rfl (lv_at hl 0 rfl) ?_
    refine lv_iload_n hx hb dJ7_fill_53178_11 rfl (lv_at hl 2 rfl) ?_
    refine lv_iload_n hx hb dJ7_fill_53178_12 rfl (lv_at hl 1 rfl) ?_
    obtain ⟨f7, o8, h9⟩ := s_op28 hI ha0
    refine th_iast hx hb hK hP hD hS (hLK _ ha0 (by decide)) 0 o8 rfl (th_in ⟨by omega, by omega⟩) dJ7_fill_53178_13 (fun H locs hP hS => ?_)
    have hP : va_P (dC, dI) vwCl (va_pl L (va_up F9 a0 (.inl (cs 0, 96, .inl (upd f7 (w4 : Int32).toNatClampNeg x1))))) H := hP
    obtain ⟨F10, hF11⟩ : ∃ G : Nat → va_E, G = va_up F9 a0 (.inl (cs 0, 96, .inl (upd f7 (w4 : Int32).toNatClampNeg x1))) := ⟨_, rfl⟩
    rw [← hF11] at hP
    have hI : s_I K cs D F10 := by rw [hF11]; exact s_cl28 hI ha0 ⟨_, rfl, trivial⟩
    have hfr : ∀ b, K b ∉ [28] → F10 b = F b := by rw [hF11]; exact s_fr hfr ha0 (by decide)
    obtain ⟨v12, ev12⟩ : ∃ y : Int32, w4 + 1 = y := ⟨_, rfl⟩
    have qv12 : v12.toInt = w4.toInt + 1 := by rw [← ev12]; exact th_add rfl (by decide) ⟨by omega, by omega⟩
    refine lv_iinc (v := v12) (lv' := [(2, .int v12), (0, .ref a0), (1, .int x1), (3, .int 96)]) hx hb dJ7_fill_53178_14 hl (k := 2) rfl ev12 (by decide) rfl (fun ls hl => ?_)
    refine lv_goto (tgt := 5) hx hb dJ7_fill_53178_17 (by decide) ?_
    exact ih5 _ _ _ _ (by omega) ⟨F10, _, v12, rfl, lv_sub hl [1, 2, 0, 3] rfl, hI, hP, hS, hfr, ⟨by omega, by omega⟩, rfl⟩

set_option maxHeartbeats 4000000 in
set_option maxRecDepth 100000 in
theorem s_J7_fill_53178_bank (l : Launch) (dC : Nat → ClassId) (dI : Nat → Nat → Nat) (sz : Nat) {L : List Nat} {K : Nat → Nat} {cs : Nat → ClassId} (hLK : ∀ a {k : Nat}, K a = k → k ≠ 0 → a ∈ L) (D : Nat) (F : Nat → va_E) (a0 : Nat) (x1 : Int32) (ha0 : K a0 = 35) (hI : s_I K cs D F) : Met l yJ7_fill_53178 (Cond.code yJ7_fill_53178 cJ7_fill_53178 4 none :: T0) ({ frames := 0, cells := 0, slots := 0, locals := 0 }) (va_Pc [.ref a0, .int x1] (s_W dC dI sz L F [(cs 0, .int), (cs 1, .byte), (cs 2, .long), (cs 3, .object RX5), (cs 4, .object RX4), (cs 5, .array .int), (cs 6, .char), (cs 7, .boolean)])) (va_Qv (fun (G : Nat → va_E) => True ∧ True ∧ s_I K cs D G ∧ ∀ b, K b ∉ [35] → G b = F b) (fun (G : Nat → va_E) (t : State) => va_P (dC, dI) vwCl (va_pl L G) t.heap ∧ va_K (dC, dI) vwCl [(cs 0, .int), (cs 1, .byte), (cs 2, .long), (cs 3, .object RX5), (cs 4, .object RX4), (cs 5, .array .int), (cs 6, .char), (cs 7, .boolean)] t) (fun q => q ∈ L)) 0 0 (fun q => q ∈ L) := by
  refine Met.ofW (cc := cJ7_fill_53178) (maxL := 4) (ret := none) (by decide) rfl ?_
  intro p e s m args below meth c s₁ B hml hv
  obtain ⟨rfl, hsz, hP, hK, hD, hN⟩ := hv
  have hx := B.exec
  have hb := B.bytes
  have hr := B.returns
  have hts : ∀ w ∈ T0, w.before _ s = true := fun w h => atoms_spec (ws := Cond.code yJ7_fill_53178 cJ7_fill_53178 4 none :: T0) B.pre w (List.mem_cons_of_mem _ h)
  have hown : s.vm.findClass RJ7 = some m.cls := findClass_of_methodNamed B.named
  have hlocks := B.notSynchronized
  have hS : va_S (fun q => q ∈ L) s.heap s.heap [] := va_S.rf
  have hfr : ∀ b, K b ∉ [35] → F b = F b := fun _ _ => rfl
  have hl := lv_entry ([.ref a0, .int x1]) (n := 4) (Nat.le_of_ble_eq_true rfl)
  rw [lg_entry_eq]
  generalize (lg_sl ([.ref a0, .int x1]) ++ List.replicate (4 - (lg_sl ([.ref a0, .int x1])).length) Slot.unset).toArray = ls at hl ⊢
  have hl : lv_has ls 4 [(0, .ref a0), (1, .int x1)] := hl
  refine s_gen hP hS (fun H locs hP hS => ?_)
  refine lv_iconst (v := 0) hx hb dJ7_fill_53178_0 (by decide) ?_
  refine lv_istore_n (lv' := [(2, .int 0), (0, .ref a0), (1, .int x1)]) hx hb dJ7_fill_53178_1 rfl hl (by decide) rfl (fun ls hl => ?_)
  refine lv_aload_n hx hb dJ7_fill_53178_2 rfl (lv_at hl 1 rfl) ?_
  obtain ⟨f1, o2, h3⟩ := s_op35 hI ha0
  refine th_alen hx hb hK hP (hLK _ ha0 (by decide)) 0 o2 rfl (v := 4) rfl dJ7_fill_53178_3 ?_
  refine lv_istore_n (lv' := [(3, .int 4), (2, .int 0), (0, .ref a0), (1, .int x1)]) hx hb dJ7_fill_53178_4 rfl hl (by decide) rfl (fun ls hl => ?_)
  refine th_loop (fun n g H locs => ∃ (G : Nat → va_E) (ls : Array Slot) (w4 : Int32), g = F0 m 5 ls [] ∧ lv_has ls 4 [(0, .ref a0), (1, .int x1), (2, .int w4), (3, .int 4)] ∧ s_I K cs D G ∧ va_P (dC, dI) vwCl (va_pl L G) H ∧ va_S (fun q => q ∈ L) s.heap H locs ∧ (∀ b, K b ∉ [35] → G b = F b) ∧ (0 ≤ w4.toInt ∧ w4.toInt ≤ 4) ∧ n = (5 - w4.toInt).toNat) _ ⟨F, _, 0, rfl, lv_sub hl [2, 3, 1, 0] rfl, hI, hP, hS, hfr, (by decide), rfl⟩ (fun n ih5 g H locs hq => ?_)
  obtain ⟨F9, ls, w4, rfl, hl, hI, hP, hS, hfr, h5, hn⟩ := hq
  have hn_5 := hn
  obtain ⟨n_5, hn9_5⟩ : ∃ q, q = n := ⟨_, rfl⟩
  refine lv_iload_n hx hb dJ7_fill_53178_5 rfl (lv_at hl 2 rfl) ?_
  refine lv_iload_n hx hb dJ7_fill_53178_6 rfl (lv_at hl 3 rfl) ?_
  refine lv_icmp_ge (tgt := 20) hx hb dJ7_fill_53178_7 (by decide) (fun c6 => ?_) (fun c6 => ?_)
  · have c6 := (ax_ge (n := 4) (by decide)).mp c6
    exact W.vret hx hb hr (fun t ht hW => ⟨⟨F9, rfl, ⟨trivial, trivial, hI, hfr⟩, by rw [ht]; exact hP, va_K.moved hW.alike hK⟩, hS.F ht⟩) hS.2.2 dJ7_fill_53178_20
  · have c6 := mt (ax_ge (n := 4) (by decide)).mpr c6
    refine lv_aload_n hx hb dJ7_fill_53178_10 rfl (lv_at hl 0 rfl) ?_
    refine lv_iload_n hx hb dJ7_fill_53178_11 rfl (lv_at hl 2 rfl) ?_
    refine lv_iload_n hx hb dJ7_fill_53178_12 rfl (lv_at hl 1 rfl) ?_
    obtain ⟨f7, o8, h9⟩ := s_op35 hI ha0
    refine th_iast hx hb hK hP hD hS (hLK _ ha0 (by decide)) 0 o8 rfl (th_in ⟨by omega, by omega⟩) dJ7_fill_53178_13 (fun H locs hP hS => ?_)
    have hP : va_P (dC, dI) vwCl (va_pl L (va_up F9 a0 (.inl (cs 0, 4, .inl (upd f7 (w4 : Int32).toNatClampNeg x1))))) H := hP
    obtain ⟨F10, hF11⟩ : ∃ G : Nat → va_E, G = va_up F9 a0 (.inl (cs 0, 4, .inl (upd f7 (w4 : Int32).toNatClampNeg x1))) := ⟨_, rfl⟩
    rw [← hF11] at hP
    have hI : s_I K cs D F10 := by rw [hF11]; exact s_cl35 hI ha0 ⟨_, rfl, trivial⟩
    have hfr : ∀ b, K b ∉ [35] → F10 b = F b := by rw [hF11]; exact s_fr hfr ha0 (by decide)
    obtain ⟨v12, ev12⟩ : ∃ y : Int32, w4 + 1 = y := ⟨_, rfl⟩
    have qv12 : v12.toInt = w4.toInt + 1 := by rw [← ev12]; exact th_add rfl (by decide) ⟨by omega, by omega⟩
    refine lv_iinc (v := v12) (lv' := [(2, .int v12), (0, .ref a0), (1, .int x1), (3, .int 4)]) hx hb dJ7_fill_53178_14 hl (k := 2) rfl ev12 (by decide) rfl (fun ls hl => ?_)
    refine lv_goto (tgt := 5) hx hb dJ7_fill_53178_17 (by decide) ?_
    exact ih5 _ _ _ _ (by omega) ⟨F10, _, v12, rfl, lv_sub hl [1, 2, 0, 3] rfl, hI, hP, hS, hfr, ⟨by omega, by omega⟩, rfl⟩

set_option maxHeartbeats 4000000 in
set_option maxRecDepth 100000 in
theorem s_J7_fill_53178_far (l : Launch) (dC : Nat → ClassId) (dI : Nat → Nat → Nat) (sz : Nat) {L : List Nat} {K : Nat → Nat} {cs : Nat → ClassId} (hLK : ∀ a {k : Nat}, K a = k → k ≠ 0 → a ∈ L) (D : Nat) (F : Nat → va_E) (a0 : Nat) (x1 : Int32) (ha0 : K a0 = 24) (hI : s_I K cs D F) : Met l yJ7_fill_53178 (Cond.code yJ7_fill_53178 cJ7_fill_53178 4 none :: T0) ({ frames := 0, cells := 0, slots := 0, locals := 0 }) (va_Pc [.ref a0, .int x1] (s_W dC dI sz L F [(cs 0, .int), (cs 1, .byte), (cs 2, .long), (cs 3, .object RX5), (cs 4, .object RX4), (cs 5, .array .int), (cs 6, .char), (cs 7, .boolean)])) (va_Qv (fun (G : Nat → va_E) => True ∧ True ∧ s_I K cs D G ∧ ∀ b, K b ∉ [24] → G b = F b) (fun (G : Nat → va_E) (t : State) => va_P (dC, dI) vwCl (va_pl L G) t.heap ∧ va_K (dC, dI) vwCl [(cs 0, .int), (cs 1, .byte), (cs 2, .long), (cs 3, .object RX5), (cs 4, .object RX4), (cs 5, .array .int), (cs 6, .char), (cs 7, .boolean)] t) (fun q => q ∈ L)) 0 0 (fun q => q ∈ L) := by
  refine Met.ofW (cc := cJ7_fill_53178) (maxL := 4) (ret := none) (by decide) rfl ?_
  intro p e s m args below meth c s₁ B hml hv
  obtain ⟨rfl, hsz, hP, hK, hD, hN⟩ := hv
  have hx := B.exec
  have hb := B.bytes
  have hr := B.returns
  have hts : ∀ w ∈ T0, w.before _ s = true := fun w h => atoms_spec (ws := Cond.code yJ7_fill_53178 cJ7_fill_53178 4 none :: T0) B.pre w (List.mem_cons_of_mem _ h)
  have hown : s.vm.findClass RJ7 = some m.cls := findClass_of_methodNamed B.named
  have hlocks := B.notSynchronized
  have hS : va_S (fun q => q ∈ L) s.heap s.heap [] := va_S.rf
  have hfr : ∀ b, K b ∉ [24] → F b = F b := fun _ _ => rfl
  have hl := lv_entry ([.ref a0, .int x1]) (n := 4) (Nat.le_of_ble_eq_true rfl)
  rw [lg_entry_eq]
  generalize (lg_sl ([.ref a0, .int x1]) ++ List.replicate (4 - (lg_sl ([.ref a0, .int x1])).length) Slot.unset).toArray = ls at hl ⊢
  have hl : lv_has ls 4 [(0, .ref a0), (1, .int x1)] := hl
  refine s_gen hP hS (fun H locs hP hS => ?_)
  refine lv_iconst (v := 0) hx hb dJ7_fill_53178_0 (by decide) ?_
  refine lv_istore_n (lv' := [(2, .int 0), (0, .ref a0), (1, .int x1)]) hx hb dJ7_fill_53178_1 rfl hl (by decide) rfl (fun ls hl => ?_)
  refine lv_aload_n hx hb dJ7_fill_53178_2 rfl (lv_at hl 1 rfl) ?_
  obtain ⟨f1, o2, h3⟩ := s_op24 hI ha0
  refine th_alen hx hb hK hP (hLK _ ha0 (by decide)) 0 o2 rfl (v := 64) rfl dJ7_fill_53178_3 ?_
  refine lv_istore_n (lv' := [(3, .int 64), (2, .int 0), (0, .ref a0), (1, .int x1)]) hx hb dJ7_fill_53178_4 rfl hl (by decide) rfl (fun ls hl => ?_)
  refine th_loop (fun n g H locs => ∃ (G : Nat → va_E) (ls : Array Slot) (w4 : Int32), g = F0 m 5 ls [] ∧ lv_has ls 4 [(0, .ref a0), (1, .int x1), (2, .int w4), (3, .int 64)] ∧ s_I K cs D G ∧ va_P (dC, dI) vwCl (va_pl L G) H ∧ va_S (fun q => q ∈ L) s.heap H locs ∧ (∀ b, K b ∉ [24] → G b = F b) ∧ (0 ≤ w4.toInt ∧ w4.toInt ≤ 64) ∧ n = (65 - w4.toInt).toNat) _ ⟨F, _, 0, rfl, lv_sub hl [2, 3, 1, 0] rfl, hI, hP, hS, hfr, (by decide), rfl⟩ (fun n ih5 g H locs hq => ?_)
  obtain ⟨F9, ls, w4, rfl, hl, hI, hP, hS, hfr, h5, hn⟩ := hq
  have hn_5 := hn
  obtain ⟨n_5, hn9_5⟩ : ∃ q, q = n := ⟨_, rfl⟩
  refine lv_iload_n hx hb dJ7_fill_53178_5 rfl (lv_at hl 2 rfl) ?_
  refine lv_iload_n hx hb dJ7_fill_53178_6 rfl (lv_at hl 3 rfl) ?_
  refine lv_icmp_ge (tgt := 20) hx hb dJ7_fill_53178_7 (by decide) (fun c6 => ?_) (fun c6 => ?_)
  · have c6 := (ax_ge (n := 64) (by decide)).mp c6
    exact W.vret hx hb hr (fun t ht hW => ⟨⟨F9, rfl, ⟨trivial, trivial, hI, hfr⟩, by rw [ht]; exact hP, va_K.moved hW.alike hK⟩, hS.F ht⟩) hS.2.2 dJ7_fill_53178_20
  · have c6 := mt (ax_ge (n := 64) (by decide)).mpr c6
    refine lv_aload_n hx hb dJ7_fill_53178_10 rfl (lv_at hl 0 rfl) ?_
    refine lv_iload_n hx hb dJ7_fill_53178_11 rfl (lv_at hl 2 rfl) ?_
    refine lv_iload_n hx hb dJ7_fill_53178_12 rfl (lv_at hl 1 rfl) ?_
    obtain ⟨f7, o8, h9⟩ := s_op24 hI ha0
    refine th_iast hx hb hK hP hD hS (hLK _ ha0 (by decide)) 0 o8 rfl (th_in ⟨by omega, by omega⟩) dJ7_fill_53178_13 (fun H locs hP hS => ?_)
    have hP : va_P (dC, dI) vwCl (va_pl L (va_up F9 a0 (.inl (cs 0, 64, .inl (upd f7 (w4 : Int32).toNatClampNeg x1))))) H := hP
    obtain ⟨F10, hF11⟩ : ∃ G : Nat → va_E, G = va_up F9 a0 (.inl (cs 0, 64, .inl (upd f7 (w4 : Int32).toNatClampNeg x1))) := ⟨_, rfl⟩
    rw [← hF11] at hP
    have hI : s_I K cs D F10 := by rw [hF11]; exact s_cl24 hI ha0 ⟨_, rfl, trivial⟩
    have hfr : ∀ b, K b ∉ [24] → F10 b = F b := by rw [hF11]; exact s_fr hfr ha0 (by decide)
    obtain ⟨v12, ev12⟩ : ∃ y : Int32, w4 + 1 = y := ⟨_, rfl⟩
    have qv12 : v12.toInt = w4.toInt + 1 := by rw [← ev12]; exact th_add rfl (by decide) ⟨by omega, by omega⟩
    refine lv_iinc (v := v12) (lv' := [(2, .int v12), (0, .ref a0), (1, .int x1), (3, .int 64)]) hx hb dJ7_fill_53178_14 hl (k := 2) rfl ev12 (by decide) rfl (fun ls hl => ?_)
    refine lv_goto (tgt := 5) hx hb dJ7_fill_53178_17 (by decide) ?_
    exact ih5 _ _ _ _ (by omega) ⟨F10, _, v12, rfl, lv_sub hl [1, 2, 0, 3] rfl, hI, hP, hS, hfr, ⟨by omega, by omega⟩, rfl⟩

set_option maxHeartbeats 4000000 in
set_option maxRecDepth 100000 in
theorem s_J7_fill_53178_row2 (l : Launch) (dC : Nat → ClassId) (dI : Nat → Nat → Nat) (sz : Nat) {L : List Nat} {K : Nat → Nat} {cs : Nat → ClassId} (hLK : ∀ a {k : Nat}, K a = k → k ≠ 0 → a ∈ L) (D : Nat) (F : Nat → va_E) (a0 : Nat) (x1 : Int32) (ha0 : K a0 = 43) (hx1 : -2147483648 ≤ x1.toInt ∧ x1.toInt ≤ 3) (hI : s_I K cs D F) : Met l yJ7_fill_53178 (Cond.code yJ7_fill_53178 cJ7_fill_53178 4 none :: T0) ({ frames := 0, cells := 0, slots := 0, locals := 0 }) (va_Pc [.ref a0, .int x1] (s_W dC dI sz L F [(cs 0, .int), (cs 1, .byte), (cs 2, .long), (cs 3, .object RX5), (cs 4, .object RX4), (cs 5, .array .int), (cs 6, .char), (cs 7, .boolean)])) (va_Qv (fun (G : Nat → va_E) => True ∧ (True ∧ (∀ b, b ≠ a0 → G b = F b)) ∧ s_I K cs D G ∧ ∀ b, K b ∉ [43] → G b = F b) (fun (G : Nat → va_E) (t : State) => va_P (dC, dI) vwCl (va_pl L G) t.heap ∧ va_K (dC, dI) vwCl [(cs 0, .int), (cs 1, .byte), (cs 2, .long), (cs 3, .object RX5), (cs 4, .object RX4), (cs 5, .array .int), (cs 6, .char), (cs 7, .boolean)] t) (fun q => q ∈ L)) 0 0 (fun q => q ∈ L) := by
  refine Met.ofW (cc := cJ7_fill_53178) (maxL := 4) (ret := none) (by decide) rfl ?_
  intro p e s m args below meth c s₁ B hml hv
  obtain ⟨rfl, hsz, hP, hK, hD, hN⟩ := hv
  have hx := B.exec
  have hb := B.bytes
  have hr := B.returns
  have hts : ∀ w ∈ T0, w.before _ s = true := fun w h => atoms_spec (ws := Cond.code yJ7_fill_53178 cJ7_fill_53178 4 none :: T0) B.pre w (List.mem_cons_of_mem _ h)
  have hown : s.vm.findClass RJ7 = some m.cls := findClass_of_methodNamed B.named
  have hlocks := B.notSynchronized
  have hS : va_S (fun q => q ∈ L) s.heap s.heap [] := va_S.rf
  have hfr : ∀ b, K b ∉ [43] → F b = F b := fun _ _ => rfl
  have hl := lv_entry ([.ref a0, .int x1]) (n := 4) (Nat.le_of_ble_eq_true rfl)
  rw [lg_entry_eq]
  generalize (lg_sl ([.ref a0, .int x1]) ++ List.replicate (4 - (lg_sl ([.ref a0, .int x1])).length) Slot.unset).toArray = ls at hl ⊢
  have hl : lv_has ls 4 [(0, .ref a0), (1, .int x1)] := hl
  refine s_gen hP hS (fun H locs hP hS => ?_)
  refine lv_iconst (v := 0) hx hb dJ7_fill_53178_0 (by decide) ?_
  refine lv_istore_n (lv' := [(2, .int 0), (0, .ref a0), (1, .int x1)]) hx hb dJ7_fill_53178_1 rfl hl (by decide) rfl (fun ls hl => ?_)
  refine lv_aload_n hx hb dJ7_fill_53178_2 rfl (lv_at hl 1 rfl) ?_
  obtain ⟨f1, o2, h3⟩ := s_op43 hI ha0
  refine th_alen hx hb hK hP (hLK _ ha0 (by decide)) 0 o2 rfl (v := 7) rfl dJ7_fill_53178_3 ?_
  refine lv_istore_n (lv' := [(3, .int 7), (2, .int 0), (0, .ref a0), (1, .int x1)]) hx hb dJ7_fill_53178_4 rfl hl (by decide) rfl (fun ls hl => ?_)
  refine th_loop (fun n g H locs => ∃ (G : Nat → va_E) (ls : Array Slot) (w4 : Int32), g = F0 m 5 ls [] ∧ lv_has ls 4 [(0, .ref a0), (1, .int x1), (2, .int w4), (3, .int 7)] ∧ s_I K cs D G ∧ va_P (dC, dI) vwCl (va_pl L G) H ∧ va_S (fun q => q ∈ L) s.heap H locs ∧ (∀ b, K b ∉ [43] → G b = F b) ∧ (0 ≤ w4.toInt ∧ w4.toInt ≤ 7) ∧ (-2147483648 ≤ x1.toInt ∧ x1.toInt ≤ 3) ∧ (∀ b, b ≠ a0 → G b = F b) ∧ n = (8 - w4.toInt).toNat) _ ⟨F, _, 0, rfl, lv_sub hl [2, 3, 1, 0] rfl, hI, hP, hS, hfr, (by decide), ⟨th_lo x1, by omega⟩, (fun b hb9 => rfl), rfl⟩ (fun n ih5 g H locs hq => ?_)
  obtain ⟨F9, ls, w4, rfl, hl, hI, hP, hS, hfr, h5, h6, h7, hn⟩ := hq
  have hn_5 := hn
  obtain ⟨n_5, hn9_5⟩ : ∃ q, q = n := ⟨_, rfl⟩
  refine lv_iload_n hx hb dJ7_fill_53178_5 rfl (lv_at hl 2 rfl) ?_
  refine lv_iload_n hx hb dJ7_fill_53178_6 rfl (lv_at hl 3 rfl) ?_
  refine lv_icmp_ge (tgt := 20) hx hb dJ7_fill_53178_7 (by decide) (fun c8 => ?_) (fun c8 => ?_)
  · have c8 := (ax_ge (n := 7) (by decide)).mp c8
    exact W.vret hx hb hr (fun t ht hW => ⟨⟨F9, rfl, ⟨trivial, ⟨trivial, h7⟩, hI, hfr⟩, by rw [ht]; exact hP, va_K.moved hW.alike hK⟩, hS.F ht⟩) hS.2.2 dJ7_fill_53178_20
  · have c8 := mt (ax_ge (n := 7) (by decide)).mpr c8
    refine lv_aload_n hx hb dJ7_fill_53178_10 rfl (lv_at hl 0 rfl) ?_
    refine lv_iload_n hx hb dJ7_fill_53178_11 rfl (lv_at hl 2 rfl) ?_
    refine lv_iload_n hx hb dJ7_fill_53178_12 rfl (lv_at hl 1 rfl) ?_
    obtain ⟨f9, o10, h11⟩ := s_op43 hI ha0
    refine th_iast hx hb hK hP hD hS (hLK _ ha0 (by decide)) 0 o10 rfl (th_in ⟨by omega, by omega⟩) dJ7_fill_53178_13 (fun H locs hP hS => ?_)
    have hP : va_P (dC, dI) vwCl (va_pl L (va_up F9 a0 (.inl (cs 0, 7, .inl (upd f9 (w4 : Int32).toNatClampNeg x1))))) H := hP
    obtain ⟨F12, hF13⟩ : ∃ G : Nat → va_E, G = va_up F9 a0 (.inl (cs 0, 7, .inl (upd f9 (w4 : Int32).toNatClampNeg x1))) := ⟨_, rfl⟩
    rw [← hF13] at hP
    have hI : s_I K cs D F12 := by rw [hF13]; exact s_cl43 hI ha0 ⟨_, rfl, th_updJ (P := fun y => y.toInt ≤ 3) h11 (fun q => by have q2 := th_tn (by omega) q; omega)⟩
    have hfr : ∀ b, K b ∉ [43] → F12 b = F b := by rw [hF13]; exact s_fr hfr ha0 (by decide)
    obtain ⟨v14, ev14⟩ : ∃ y : Int32, w4 + 1 = y := ⟨_, rfl⟩
    have qv14 : v14.toInt = w4.toInt + 1 := by rw [← ev14]; exact th_add rfl (by decide) ⟨by omega, by omega⟩
    refine lv_iinc (v := v14) (lv' := [(2, .int v14), (0, .ref a0), (1, .int x1), (3, .int 7)]) hx hb dJ7_fill_53178_14 hl (k := 2) rfl ev14 (by decide) rfl (fun ls hl => ?_)
    refine lv_goto (tgt := 5) hx hb dJ7_fill_53178_17 (by decide) ?_
    exact ih5 _ _ _ _ (by omega) ⟨F12, _, v14, rfl, lv_sub hl [1, 2, 0, 3] rfl, hI, hP, hS, hfr, ⟨by omega, by omega⟩, ⟨th_lo x1, by omega⟩, (fun b hb9 => by rw [hF13]; exact th_ne hb9 (h7 b hb9)), rfl⟩

set_option maxHeartbeats 4000000 in
set_option maxRecDepth 100000 in
theorem s_J6_bitCount_0f7a4 (l : Launch) (dC : Nat → ClassId) (dI : Nat → Nat → Nat) (sz : Nat) {L : List Nat} {K : Nat → Nat} {cs : Nat → ClassId} (hLK : ∀ a {k : Nat}, K a = k → k ≠ 0 → a ∈ L) (D : Nat) (F : Nat → va_E) (x0 : Int32)  (hI : s_I K cs D F) : Met l yJ6_bitCount_0f7a4 (Cond.code yJ6_bitCount_0f7a4 cJ6_bitCount_0f7a4 1 (some .int) :: T0) ({ frames := 0, cells := 0, slots := 0, locals := 0 }) (va_Pc [.int x0] (s_W dC dI sz L F [(cs 0, .int), (cs 1, .byte), (cs 2, .long), (cs 3, .object RX5), (cs 4, .object RX4), (cs 5, .array .int), (cs 6, .char), (cs 7, .boolean)])) (va_Qi (fun (r : Int32) (G : Nat → va_E) => (0 ≤ r.toInt ∧ r.toInt ≤ 63) ∧ True ∧ s_I K cs D G ∧ ∀ b, K b ∉ ([] : List Nat) → G b = F b) (fun (G : Nat → va_E) (t : State) => va_P (dC, dI) vwCl (va_pl L G) t.heap ∧ va_K (dC, dI) vwCl [(cs 0, .int), (cs 1, .byte), (cs 2, .long), (cs 3, .object RX5), (cs 4, .object RX4), (cs 5, .array .int), (cs 6, .char), (cs 7, .boolean)] t) (fun q => q ∈ L)) 0 0 (fun q => q ∈ L) := by
  refine Met.ofW (cc := cJ6_bitCount_0f7a4) (maxL := 1) (ret := (some .int)) (by decide) rfl ?_
  intro p e s m args below meth c s₁ B hml hv
  obtain ⟨rfl, hsz, hP, hK, hD, hN⟩ := hv
  have hx := B.exec
  have hb := B.bytes
  have hr := B.returns
  have hts : ∀ w ∈ T0, w.before _ s = true := fun w h => atoms_spec (ws := Cond.code yJ6_bitCount_0f7a4 cJ6_bitCount_0f7a4 1 (some .int) :: T0) B.pre w (List.mem_cons_of_mem _ h)
  have hown : s.vm.findClass RJ6 = some m.cls := findClass_of_methodNamed B.named
  have hlocks := B.notSynchronized
  have hS : va_S (fun q => q ∈ L) s.heap s.heap [] := va_S.rf
  have hfr : ∀ b, K b ∉ ([] : List Nat) → F b = F b := fun _ _ => rfl
  have hl := lv_entry ([.int x0]) (n := 1) (Nat.le_of_ble_eq_true rfl)
  rw [lg_entry_eq]
  generalize (lg_sl ([.int x0]) ++ List.replicate (1 - (lg_sl ([.int x0])).length) Slot.unset).toArray = ls at hl ⊢
  have hl : lv_has ls 1 [(0, .int x0)] := hl
  refine s_gen hP hS (fun H locs hP hS => ?_)
  refine lv_iload_n hx hb dJ6_bitCount_0f7a4_0 rfl (lv_at hl 0 rfl) ?_
  refine lv_iload_n hx hb dJ6_bitCount_0f7a4_1 rfl (lv_at hl 0 rfl) ?_
  refine lv_iconst (v := 1) hx hb dJ6_bitCount_0f7a4_2 (by decide) ?_
  refine lv_iushr hx hb dJ6_bitCount_0f7a4_3 rfl ?_
  refine lv_topi (fun v1 ev1 => ?_)
  refine lv_ldcw (v := 1431655765) hx hb hown (hts _ T_485) dJ6_bitCount_0f7a4_4 ?_
  refine lv_iand hx hb dJ6_bitCount_0f7a4_7 ?_
  refine lv_topi (fun v2 ev2 => ?_)
  refine lv_isub hx hb dJ6_bitCount_0f7a4_8 ?_
  refine lv_topi (fun v3 ev3 => ?_)
  refine lv_istore_n (lv' := [(0, .int v3)]) hx hb dJ6_bitCount_0f7a4_9 rfl hl (by decide) rfl (fun ls hl => ?_)
  refine lv_iload_n hx hb dJ6_bitCount_0f7a4_10 rfl (lv_at hl 0 rfl) ?_
  refine lv_ldcw (v := 858993459) hx hb hown (hts _ T_486) dJ6_bitCount_0f7a4_11 ?_
  refine lv_iand hx hb dJ6_bitCount_0f7a4_14 ?_
  refine lv_topi (fun v4 ev4 => ?_)
  refine lv_iload_n hx hb dJ6_bitCount_0f7a4_15 rfl (lv_at hl 0 rfl) ?_
  refine lv_iconst (v := 2) hx hb dJ6_bitCount_0f7a4_16 (by decide) ?_
  refine lv_iushr hx hb dJ6_bitCount_0f7a4_17 rfl ?_
  refine lv_topi (fun v5 ev5 => ?_)
  refine lv_ldcw (v := 858993459) hx hb hown (hts _ T_486) dJ6_bitCount_0f7a4_18 ?_
  refine lv_iand hx hb dJ6_bitCount_0f7a4_21 ?_
  refine lv_topi (fun v6 ev6 => ?_)
  refine lv_iadd hx hb dJ6_bitCount_0f7a4_22 ?_
  refine lv_topi (fun v7 ev7 => ?_)
  refine lv_istore_n (lv' := [(0, .int v7)]) hx hb dJ6_bitCount_0f7a4_23 rfl hl (by decide) rfl (fun ls hl => ?_)
  refine lv_iload_n hx hb dJ6_bitCount_0f7a4_24 rfl (lv_at hl 0 rfl) ?_
  refine lv_iload_n hx hb dJ6_bitCount_0f7a4_25 rfl (lv_at hl 0 rfl) ?_
  refine lv_iconst (v := 4) hx hb dJ6_bitCount_0f7a4_26 (by decide) ?_
  refine lv_iushr hx hb dJ6_bitCount_0f7a4_27 rfl ?_
  refine lv_topi (fun v8 ev8 => ?_)
  refine lv_iadd hx hb dJ6_bitCount_0f7a4_28 ?_
  refine lv_topi (fun v9 ev9 => ?_)
  refine lv_ldcw (v := 252645135) hx hb hown (hts _ T_487) dJ6_bitCount_0f7a4_29 ?_
  refine lv_iand hx hb dJ6_bitCount_0f7a4_32 ?_
  refine lv_topi (fun v10 ev10 => ?_)
  refine lv_istore_n (lv' := [(0, .int v10)]) hx hb dJ6_bitCount_0f7a4_33 rfl hl (by decide) rfl (fun ls hl => ?_)
  refine lv_iload_n hx hb dJ6_bitCount_0f7a4_34 rfl (lv_at hl 0 rfl) ?_
  refine lv_iload_n hx hb dJ6_bitCount_0f7a4_35 rfl (lv_at hl 0 rfl) ?_
  refine lv_bipush (v := 8) hx hb dJ6_bitCount_0f7a4_36 (by decide) ?_
  refine lv_iushr hx hb dJ6_bitCount_0f7a4_38 rfl ?_
  refine lv_topi (fun v11 ev11 => ?_)
  refine lv_iadd hx hb dJ6_bitCount_0f7a4_39 ?_
  refine lv_topi (fun v12 ev12 => ?_)
  refine lv_istore_n (lv' := [(0, .int v12)]) hx hb dJ6_bitCount_0f7a4_40 rfl hl (by decide) rfl (fun ls hl => ?_)
  refine lv_iload_n hx hb dJ6_bitCount_0f7a4_41 rfl (lv_at hl 0 rfl) ?_
  refine lv_iload_n hx hb dJ6_bitCount_0f7a4_42 rfl (lv_at hl 0 rfl) ?_
  refine lv_bipush (v := 16) hx hb dJ6_bitCount_0f7a4_43 (by decide) ?_
  refine lv_iushr hx hb dJ6_bitCount_0f7a4_45 rfl ?_
  refine lv_topi (fun v13 ev13 => ?_)
  refine lv_iadd hx hb dJ6_bitCount_0f7a4_46 ?_
  refine lv_topi (fun v14 ev14 => ?_)
  refine lv_istore_n (lv' := [(0, .int v14)]) hx hb dJ6_bitCount_0f7a4_47 rfl hl (by decide) rfl (fun ls hl => ?_)
  refine lv_iload_n hx hb dJ6_bitCount_0f7a4_48 rfl (lv_at hl 0 rfl) ?_
  refine lv_bipush (v := 63) hx hb dJ6_bitCount_0f7a4_49 (by decide) ?_
  refine lv_iand hx hb dJ6_bitCount_0f7a4_51 ?_
  refine lv_topi (fun v15 ev15 => ?_)
  have qv15 : 0 ≤ v15.toInt ∧ v15.toInt ≤ 63 := by rw [ev15]; exact th_and 6 (by decide) (by decide)
  exact W.iret (v := v15) hx hb hr (fun t ht hW => ⟨⟨v15, F, rfl, ⟨⟨by omega, by omega⟩, trivial, hI, hfr⟩, by rw [ht]; exact hP, va_K.moved hW.alike hK⟩, hS.F ht⟩) hS.2.2 dJ6_bitCount_0f7a4_52

set_option maxHeartbeats 4000000 in
set_option maxRecDepth 100000 in
theorem s_X6_areLike_lines (l : Launch) (dC : Nat → ClassId) (dI : Nat → Nat → Nat) (sz : Nat) {L : List Nat} {K : Nat → Nat} {cs : Nat → ClassId} (hLK : ∀ a {k : Nat}, K a = k → k ≠ 0 → a ∈ L) (D : Nat) (F : Nat → va_E) (a0 : Nat) (a1 : Nat) (ha0 : K a0 = 31) (ha1 : K a1 = 31) (hI : s_I K cs D F) : Met l yX6_areLike (Cond.code yX6_areLike cX6_areLike 3 (some .boolean) :: T0) ({ frames := 0, cells := 0, slots := 0, locals := 0 }) (va_Pc [.ref a0, .ref a1] (s_W dC dI sz L F [(cs 0, .int), (cs 1, .byte), (cs 2, .long), (cs 3, .object RX5), (cs 4, .object RX4), (cs 5, .array .int), (cs 6, .char), (cs 7, .boolean)])) (va_Qi (fun (r : Int32) (G : Nat → va_E) => (0 ≤ r.toInt ∧ r.toInt ≤ 1) ∧ True ∧ s_I K cs D G ∧ ∀ b, K b ∉ ([] : List Nat) → G b = F b) (fun (G : Nat → va_E) (t : State) => va_P (dC, dI) vwCl (va_pl L G) t.heap ∧ va_K (dC, dI) vwCl [(cs 0, .int), (cs 1, .byte), (cs 2, .long), (cs 3, .object RX5), (cs 4, .object RX4), (cs 5, .array .int), (cs 6, .char), (cs 7, .boolean)] t) (fun q => q ∈ L)) 0 0 (fun q => q ∈ L) := by
  refine Met.ofW (cc := cX6_areLike) (maxL := 3) (ret := (some .boolean)) (by decide) rfl ?_
  intro p e s m args below meth c s₁ B hml hv
  obtain ⟨rfl, hsz, hP, hK, hD, hN⟩ := hv
  have hx := B.exec
  have hb := B.bytes
  have hr := B.returns
  have hts : ∀ w ∈ T0, w.before _ s = true := fun w h => atoms_spec (ws := Cond.code yX6_areLike cX6_areLike 3 (some .boolean) :: T0) B.pre w (List.mem_cons_of_mem _ h)
  have hown : s.vm.findClass RX6 = some m.cls := findClass_of_methodNamed B.named
  have hlocks := B.notSynchronized
  have hS : va_S (fun q => q ∈ L) s.heap s.heap [] := va_S.rf
  have hfr : ∀ b, K b ∉ ([] : List Nat) → F b = F b := fun _ _ => rfl
  have hl := lv_entry ([.ref a0, .ref a1]) (n := 3) (Nat.le_of_ble_eq_true rfl)
  rw [lg_entry_eq]
  generalize (lg_sl ([.ref a0, .ref a1]) ++ List.replicate (3 - (lg_sl ([.ref a0, .ref a1])).length) Slot.unset).toArray = ls at hl ⊢
  have hl : lv_has ls 3 [(0, .ref a0), (1, .ref a1)] := hl
  refine s_gen hP hS (fun H locs hP hS => ?_)
  refine lv_iconst (v := 0) hx hb dX6_areLike_0 (by decide) ?_
  refine lv_istore_n (lv' := [(2, .int 0), (0, .ref a0), (1, .ref a1)]) hx hb dX6_areLike_1 rfl hl (by decide) rfl (fun ls hl => ?_)
  refine th_loop (fun n g H locs => ∃ (G : Nat → va_E) (ls : Array Slot) (w1 : Int32), g = F0 m 2 ls [] ∧ lv_has ls 3 [(0, .ref a0), (1, .ref a1), (2, .int w1)] ∧ s_I K cs D G ∧ va_P (dC, dI) vwCl (va_pl L G) H ∧ va_S (fun q => q ∈ L) s.heap H locs ∧ (∀ b, K b ∉ ([] : List Nat) → G b = F b) ∧ (0 ≤ w1.toInt ∧ w1.toInt ≤ 8) ∧ n = (9 - w1.toInt).toNat) _ ⟨F, _, 0, rfl, lv_sub hl [1, 2, 0] rfl, hI, hP, hS, hfr, (by decide), rfl⟩ (fun n ih2 g H locs hq => ?_)
  obtain ⟨F9, ls, w1, rfl, hl, hI, hP, hS, hfr, h2, hn⟩ := hq
  have hn_2 := hn
  obtain ⟨n_2, hn9_2⟩ : ∃ q, q = n := ⟨_, rfl⟩
  refine lv_iload_n hx hb dX6_areLike_2 rfl (lv_at hl 2 rfl) ?_
  refine lv_aload_n hx hb dX6_areLike_3 rfl (lv_at hl 0 rfl) ?_
  obtain ⟨f3, o4, h5⟩ := s_op31 hI ha0
  refine th_alen hx hb hK hP (hLK _ ha0 (by decide)) 0 o4 rfl (v := 8) rfl dX6_areLike_4 ?_
  refine lv_icmp_ge (tgt := 31) hx hb dX6_areLike_5 (by decide) (fun c6 => ?_) (fun c6 => ?_)
  · have c6 := (ax_ge (n := 8) (by decide)).mp c6
    refine lv_iconst (v := 1) hx hb dX6_areLike_31 (by decide) ?_
    exact W.zret (v := 1) (ty := .boolean) hx hb hr (by decide) (fun t ht hW => ⟨⟨1, F9, rfl, ⟨(by decide), trivial, hI, hfr⟩, by rw [ht]; exact hP, va_K.moved hW.alike hK⟩, hS.F ht⟩) hS.2.2 dX6_areLike_32
  · have c6 := mt (ax_ge (n := 8) (by decide)).mpr c6
    refine lv_iload_n hx hb dX6_areLike_8 rfl (lv_at hl 2 rfl) ?_
    refine lv_aload_n hx hb dX6_areLike_9 rfl (lv_at hl 1 rfl) ?_
    obtain ⟨f7, o8, h9⟩ := s_op31 hI ha1
    refine th_alen hx hb hK hP (hLK _ ha1 (by decide)) 0 o8 rfl (v := 8) rfl dX6_areLike_10 ?_
    refine lv_icmp_ge (tgt := 31) hx hb dX6_areLike_11 (by decide) (fun c10 => ?_) (fun c10 => ?_)
    · have c10 := (ax_ge (n := 8) (by decide)).mp c10
      exact absurd c10 (by omega)
    · have c10 := mt (ax_ge (n := 8) (by decide)).mpr c10
      refine lv_aload_n hx hb dX6_areLike_14 rfl (lv_at hl 0 rfl) ?_
      refine lv_iload_n hx hb dX6_areLike_15 rfl (lv_at hl 2 rfl) ?_
      obtain ⟨f11, o12, h13⟩ := s_op31 hI ha0
      refine th_iald hx hb hK hP (hLK _ ha0 (by decide)) 0 o12 rfl (th_in ⟨by omega, by omega⟩) dX6_areLike_16 ?_
      refine lv_topi (fun v14 ev14 => ?_)
      refine lv_aload_n hx hb dX6_areLike_17 rfl (lv_at hl 1 rfl) ?_
      refine lv_iload_n hx hb dX6_areLike_18 rfl (lv_at hl 2 rfl) ?_
      obtain ⟨f15, o16, h17⟩ := s_op31 hI ha1
      refine th_iald hx hb hK hP (hLK _ ha1 (by decide)) 0 o16 rfl (th_in ⟨by omega, by omega⟩) dX6_areLike_19 ?_
      refine lv_topi (fun v18 ev18 => ?_)
      refine lv_icmp_eq (tgt := 25) hx hb dX6_areLike_20 (by decide) (fun c19 => ?_) (fun c19 => ?_)
      · have c19 := Int32.toInt_inj.symm.mp c19
        obtain ⟨v20, ev20⟩ : ∃ y : Int32, w1 + 1 = y := ⟨_, rfl⟩
        have qv20 : v20.toInt = w1.toInt + 1 := by rw [← ev20]; exact th_add rfl (by decide) ⟨by omega, by omega⟩
        refine lv_iinc (v := v20) (lv' := [(2, .int v20), (0, .ref a0), (1, .ref a1)]) hx hb dX6_areLike_25 hl (k := 2) rfl ev20 (by decide) rfl (fun ls hl => ?_)
        refine lv_goto (tgt := 2) hx hb dX6_areLike_28 (by decide) ?_
        exact ih2 _ _ _ _ (by omega) ⟨F9, _, v20, rfl, lv_sub hl [1, 2, 0] rfl, hI, hP, hS, hfr, ⟨by omega, by omega⟩, rfl⟩
      · have c19 := mt Int32.toInt_inj.symm.mpr c19
        refine lv_iconst (v := 0) hx hb dX6_areLike_23 (by decide) ?_
        exact W.zret (v := 0) (ty := .boolean) hx hb hr (by decide) (fun t ht hW => ⟨⟨0, F9, rfl, ⟨(by decide), trivial, hI, hfr⟩, by rw [ht]; exact hP, va_K.moved hW.alike hK⟩, hS.F ht⟩) hS.2.2 dX6_areLike_24

set_option maxHeartbeats 4000000 in
set_option maxRecDepth 100000 in
theorem s_X6_areLike_regs (l : Launch) (dC : Nat → ClassId) (dI : Nat → Nat → Nat) (sz : Nat) {L : List Nat} {K : Nat → Nat} {cs : Nat → ClassId} (hLK : ∀ a {k : Nat}, K a = k → k ≠ 0 → a ∈ L) (D : Nat) (F : Nat → va_E) (a0 : Nat) (a1 : Nat) (ha0 : K a0 = 30) (ha1 : K a1 = 30) (hI : s_I K cs D F) : Met l yX6_areLike (Cond.code yX6_areLike cX6_areLike 3 (some .boolean) :: T0) ({ frames := 0, cells := 0, slots := 0, locals := 0 }) (va_Pc [.ref a0, .ref a1] (s_W dC dI sz L F [(cs 0, .int), (cs 1, .byte), (cs 2, .long), (cs 3, .object RX5), (cs 4, .object RX4), (cs 5, .array .int), (cs 6, .char), (cs 7, .boolean)])) (va_Qi (fun (r : Int32) (G : Nat → va_E) => (0 ≤ r.toInt ∧ r.toInt ≤ 1) ∧ True ∧ s_I K cs D G ∧ ∀ b, K b ∉ ([] : List Nat) → G b = F b) (fun (G : Nat → va_E) (t : State) => va_P (dC, dI) vwCl (va_pl L G) t.heap ∧ va_K (dC, dI) vwCl [(cs 0, .int), (cs 1, .byte), (cs 2, .long), (cs 3, .object RX5), (cs 4, .object RX4), (cs 5, .array .int), (cs 6, .char), (cs 7, .boolean)] t) (fun q => q ∈ L)) 0 0 (fun q => q ∈ L) := by
  refine Met.ofW (cc := cX6_areLike) (maxL := 3) (ret := (some .boolean)) (by decide) rfl ?_
  intro p e s m args below meth c s₁ B hml hv
  obtain ⟨rfl, hsz, hP, hK, hD, hN⟩ := hv
  have hx := B.exec
  have hb := B.bytes
  have hr := B.returns
  have hts : ∀ w ∈ T0, w.before _ s = true := fun w h => atoms_spec (ws := Cond.code yX6_areLike cX6_areLike 3 (some .boolean) :: T0) B.pre w (List.mem_cons_of_mem _ h)
  have hown : s.vm.findClass RX6 = some m.cls := findClass_of_methodNamed B.named
  have hlocks := B.notSynchronized
  have hS : va_S (fun q => q ∈ L) s.heap s.heap [] := va_S.rf
  have hfr : ∀ b, K b ∉ ([] : List Nat) → F b = F b := fun _ _ => rfl
  have hl := lv_entry ([.ref a0, .ref a1]) (n := 3) (Nat.le_of_ble_eq_true rfl)
  rw [lg_entry_eq]
  generalize (lg_sl ([.ref a0, .ref a1]) ++ List.replicate (3 - (lg_sl ([.ref a0, .ref a1])).length) Slot.unset).toArray = ls at hl ⊢
  have hl : lv_has ls 3 [(0, .ref a0), (1, .ref a1)] := hl
  refine s_gen hP hS (fun H locs hP hS => ?_)
  refine lv_iconst (v := 0) hx hb dX6_areLike_0 (by decide) ?_
  refine lv_istore_n (lv' := [(2, .int 0), (0, .ref a0), (1, .ref a1)]) hx hb dX6_areLike_1 rfl hl (by decide) rfl (fun ls hl => ?_)
  refine th_loop (fun n g H locs => ∃ (G : Nat → va_E) (ls : Array Slot) (w1 : Int32), g = F0 m 2 ls [] ∧ lv_has ls 3 [(0, .ref a0), (1, .ref a1), (2, .int w1)] ∧ s_I K cs D G ∧ va_P (dC, dI) vwCl (va_pl L G) H ∧ va_S (fun q => q ∈ L) s.heap H locs ∧ (∀ b, K b ∉ ([] : List Nat) → G b = F b) ∧ (0 ≤ w1.toInt ∧ w1.toInt ≤ 32) ∧ n = (33 - w1.toInt).toNat) _ ⟨F, _, 0, rfl, lv_sub hl [1, 2, 0] rfl, hI, hP, hS, hfr, (by decide), rfl⟩ (fun n ih2 g H locs hq => ?_)
  obtain ⟨F9, ls, w1, rfl, hl, hI, hP, hS, hfr, h2, hn⟩ := hq
  have hn_2 := hn
  obtain ⟨n_2, hn9_2⟩ : ∃ q, q = n := ⟨_, rfl⟩
  refine lv_iload_n hx hb dX6_areLike_2 rfl (lv_at hl 2 rfl) ?_
  refine lv_aload_n hx hb dX6_areLike_3 rfl (lv_at hl 0 rfl) ?_
  obtain ⟨f3, o4, h5⟩ := s_op30 hI ha0
  refine th_alen hx hb hK hP (hLK _ ha0 (by decide)) 0 o4 rfl (v := 32) rfl dX6_areLike_4 ?_
  refine lv_icmp_ge (tgt := 31) hx hb dX6_areLike_5 (by decide) (fun c6 => ?_) (fun c6 => ?_)
  · have c6 := (ax_ge (n := 32) (by decide)).mp c6
    refine lv_iconst (v := 1) hx hb dX6_areLike_31 (by decide) ?_
    exact W.zret (v := 1) (ty := .boolean) hx hb hr (by decide) (fun t ht hW => ⟨⟨1, F9, rfl, ⟨(by decide), trivial, hI, hfr⟩, by rw [ht]; exact hP, va_K.moved hW.alike hK⟩, hS.F ht⟩) hS.2.2 dX6_areLike_32
  · have c6 := mt (ax_ge (n := 32) (by decide)).mpr c6
    refine lv_iload_n hx hb dX6_areLike_8 rfl (lv_at hl 2 rfl) ?_
    refine lv_aload_n hx hb dX6_areLike_9 rfl (lv_at hl 1 rfl) ?_
    obtain ⟨f7, o8, h9⟩ := s_op30 hI ha1
    refine th_alen hx hb hK hP (hLK _ ha1 (by decide)) 0 o8 rfl (v := 32) rfl dX6_areLike_10 ?_
    refine lv_icmp_ge (tgt := 31) hx hb dX6_areLike_11 (by decide) (fun c10 => ?_) (fun c10 => ?_)
    · have c10 := (ax_ge (n := 32) (by decide)).mp c10
      exact absurd c10 (by omega)
    · have c10 := mt (ax_ge (n := 32) (by decide)).mpr c10
      refine lv_aload_n hx hb dX6_areLike_14 rfl (lv_at hl 0 rfl) ?_
      refine lv_iload_n hx hb dX6_areLike_15 rfl (lv_at hl 2 rfl) ?_
      obtain ⟨f11, o12, h13⟩ := s_op30 hI ha0
      refine th_iald hx hb hK hP (hLK _ ha0 (by decide)) 0 o12 rfl (th_in ⟨by omega, by omega⟩) dX6_areLike_16 ?_
      refine lv_topi (fun v14 ev14 => ?_)
      refine lv_aload_n hx hb dX6_areLike_17 rfl (lv_at hl 1 rfl) ?_
      refine lv_iload_n hx hb dX6_areLike_18 rfl (lv_at hl 2 rfl) ?_
      obtain ⟨f15, o16, h17⟩ := s_op30 hI ha1
      refine th_iald hx hb hK hP (hLK _ ha1 (by decide)) 0 o16 rfl (th_in ⟨by omega, by omega⟩) dX6_areLike_19 ?_
      refine lv_topi (fun v18 ev18 => ?_)
      refine lv_icmp_eq (tgt := 25) hx hb dX6_areLike_20 (by decide) (fun c19 => ?_) (fun c19 => ?_)
      · have c19 := Int32.toInt_inj.symm.mp c19
        obtain ⟨v20, ev20⟩ : ∃ y : Int32, w1 + 1 = y := ⟨_, rfl⟩
        have qv20 : v20.toInt = w1.toInt + 1 := by rw [← ev20]; exact th_add rfl (by decide) ⟨by omega, by omega⟩
        refine lv_iinc (v := v20) (lv' := [(2, .int v20), (0, .ref a0), (1, .ref a1)]) hx hb dX6_areLike_25 hl (k := 2) rfl ev20 (by decide) rfl (fun ls hl => ?_)
        refine lv_goto (tgt := 2) hx hb dX6_areLike_28 (by decide) ?_
        exact ih2 _ _ _ _ (by omega) ⟨F9, _, v20, rfl, lv_sub hl [1, 2, 0] rfl, hI, hP, hS, hfr, ⟨by omega, by omega⟩, rfl⟩
      · have c19 := mt Int32.toInt_inj.symm.mpr c19
        refine lv_iconst (v := 0) hx hb dX6_areLike_23 (by decide) ?_
        exact W.zret (v := 0) (ty := .boolean) hx hb hr (by decide) (fun t ht hW => ⟨⟨0, F9, rfl, ⟨(by decide), trivial, hI, hfr⟩, by rw [ht]; exact hP, va_K.moved hW.alike hK⟩, hS.F ht⟩) hS.2.2 dX6_areLike_24

set_option maxHeartbeats 4000000 in
set_option maxRecDepth 100000 in
theorem s_X6_areLike_near (l : Launch) (dC : Nat → ClassId) (dI : Nat → Nat → Nat) (sz : Nat) {L : List Nat} {K : Nat → Nat} {cs : Nat → ClassId} (hLK : ∀ a {k : Nat}, K a = k → k ≠ 0 → a ∈ L) (D : Nat) (F : Nat → va_E) (a0 : Nat) (a1 : Nat) (ha0 : K a0 = 27) (ha1 : K a1 = 27) (hI : s_I K cs D F) : Met l yX6_areLike (Cond.code yX6_areLike cX6_areLike 3 (some .boolean) :: T0) ({ frames := 0, cells := 0, slots := 0, locals := 0 }) (va_Pc [.ref a0, .ref a1] (s_W dC dI sz L F [(cs 0, .int), (cs 1, .byte), (cs 2, .long), (cs 3, .object RX5), (cs 4, .object RX4), (cs 5, .array .int), (cs 6, .char), (cs 7, .boolean)])) (va_Qi (fun (r : Int32) (G : Nat → va_E) => (0 ≤ r.toInt ∧ r.toInt ≤ 1) ∧ True ∧ s_I K cs D G ∧ ∀ b, K b ∉ ([] : List Nat) → G b = F b) (fun (G : Nat → va_E) (t : State) => va_P (dC, dI) vwCl (va_pl L G) t.heap ∧ va_K (dC, dI) vwCl [(cs 0, .int), (cs 1, .byte), (cs 2, .long), (cs 3, .object RX5), (cs 4, .object RX4), (cs 5, .array .int), (cs 6, .char), (cs 7, .boolean)] t) (fun q => q ∈ L)) 0 0 (fun q => q ∈ L) := by
  refine Met.ofW (cc := cX6_areLike) (maxL := 3) (ret := (some .boolean)) (by decide) rfl ?_
  intro p e s m args below meth c s₁ B hml hv
  obtain ⟨rfl, hsz, hP, hK, hD, hN⟩ := hv
  have hx := B.exec
  have hb := B.bytes
  have hr := B.returns
  have hts : ∀ w ∈ T0, w.before _ s = true := fun w h => atoms_spec (ws := Cond.code yX6_areLike cX6_areLike 3 (some .boolean) :: T0) B.pre w (List.mem_cons_of_mem _ h)
  have hown : s.vm.findClass RX6 = some m.cls := findClass_of_methodNamed B.named
  have hlocks := B.notSynchronized
  have hS : va_S (fun q => q ∈ L) s.heap s.heap [] := va_S.rf
  have hfr : ∀ b, K b ∉ ([] : List Nat) → F b = F b := fun _ _ => rfl
  have hl := lv_entry ([.ref a0, .ref a1]) (n := 3) (Nat.le_of_ble_eq_true rfl)
  rw [lg_entry_eq]
  generalize (lg_sl ([.ref a0, .ref a1]) ++ List.replicate (3 - (lg_sl ([.ref a0, .ref a1])).length) Slot.unset).toArray = ls at hl ⊢
  have hl : lv_has ls 3 [(0, .ref a0), (1, .ref a1)] := hl
  refine s_gen hP hS (fun H locs hP hS => ?_)
  refine lv_iconst (v := 0) hx hb dX6_areLike_0 (by decide) ?_
  refine lv_istore_n (lv' := [(2, .int 0), (0, .ref a0), (1, .ref a1)]) hx hb dX6_areLike_1 rfl hl (by decide) rfl (fun ls hl => ?_)
  refine th_loop (fun n g H locs => ∃ (G : Nat → va_E) (ls : Array Slot) (w1 : Int32), g = F0 m 2 ls [] ∧ lv_has ls 3 [(0, .ref a0), (1, .ref a1), (2, .int w1)] ∧ s_I K cs D G ∧ va_P (dC, dI) vwCl (va_pl L G) H ∧ va_S (fun q => q ∈ L) s.heap H locs ∧ (∀ b, K b ∉ ([] : List Nat) → G b = F b) ∧ (0 ≤ w1.toInt ∧ w1.toInt ≤ 32) ∧ n = (33 - w1.toInt).toNat) _ ⟨F, _, 0, rfl, lv_sub hl [1, 2, 0] rfl, hI, hP, hS, hfr, (by decide), rfl⟩ (fun n ih2 g H locs hq => ?_)
  obtain ⟨F9, ls, w1, rfl, hl, hI, hP, hS, hfr, h2, hn⟩ := hq
  have hn_2 := hn
  obtain ⟨n_2, hn9_2⟩ : ∃ q, q = n := ⟨_, rfl⟩
  refine lv_iload_n hx hb dX6_areLike_2 rfl (lv_at hl 2 rfl) ?_
  refine lv_aload_n hx hb dX6_areLike_3 rfl (lv_at hl 0 rfl) ?_
  obtain ⟨f3, o4, h5⟩ := s_op27 hI ha0
  refine th_alen hx hb hK hP (hLK _ ha0 (by decide)) 0 o4 rfl (v := 32) rfl dX6_areLike_4 ?_
  refine lv_icmp_ge (tgt := 31) hx hb dX6_areLike_5 (by decide) (fun c6 => ?_) (fun c6 => ?_)
  · have c6 := (ax_ge (n := 32) (by decide)).mp c6
    refine lv_iconst (v := 1) hx hb dX6_areLike_31 (by decide) ?_
    exact W.zret (v := 1) (ty := .boolean) hx hb hr (by decide) (fun t ht hW => ⟨⟨1, F9, rfl, ⟨(by decide), trivial, hI, hfr⟩, by rw [ht]; exact hP, va_K.moved hW.alike hK⟩, hS.F ht⟩) hS.2.2 dX6_areLike_32
  · have c6 := mt (ax_ge (n := 32) (by decide)).mpr c6
    refine lv_iload_n hx hb dX6_areLike_8 rfl (lv_at hl 2 rfl) ?_
    refine lv_aload_n hx hb dX6_areLike_9 rfl (lv_at hl 1 rfl) ?_
    obtain ⟨f7, o8, h9⟩ := s_op27 hI ha1
    refine th_alen hx hb hK hP (hLK _ ha1 (by decide)) 0 o8 rfl (v := 32) rfl dX6_areLike_10 ?_
    refine lv_icmp_ge (tgt := 31) hx hb dX6_areLike_11 (by decide) (fun c10 => ?_) (fun c10 => ?_)
    · have c10 := (ax_ge (n := 32) (by decide)).mp c10
      exact absurd c10 (by omega)
    · have c10 := mt (ax_ge (n := 32) (by decide)).mpr c10
      refine lv_aload_n hx hb dX6_areLike_14 rfl (lv_at hl 0 rfl) ?_
      refine lv_iload_n hx hb dX6_areLike_15 rfl (lv_at hl 2 rfl) ?_
      obtain ⟨f11, o12, h13⟩ := s_op27 hI ha0
      refine th_iald hx hb hK hP (hLK _ ha0 (by decide)) 0 o12 rfl (th_in ⟨by omega, by omega⟩) dX6_areLike_16 ?_
      refine lv_topi (fun v14 ev14 => ?_)
      refine lv_aload_n hx hb dX6_areLike_17 rfl (lv_at hl 1 rfl) ?_
      refine lv_iload_n hx hb dX6_areLike_18 rfl (lv_at hl 2 rfl) ?_
      obtain ⟨f15, o16, h17⟩ := s_op27 hI ha1
      refine th_iald hx hb hK hP (hLK _ ha1 (by decide)) 0 o16 rfl (th_in ⟨by omega, by omega⟩) dX6_areLike_19 ?_
      refine lv_topi (fun v18 ev18 => ?_)
      refine lv_icmp_eq (tgt := 25) hx hb dX6_areLike_20 (by decide) (fun c19 => ?_) (fun c19 => ?_)
      · have c19 := Int32.toInt_inj.symm.mp c19
        obtain ⟨v20, ev20⟩ : ∃ y : Int32, w1 + 1 = y := ⟨_, rfl⟩
        have qv20 : v20.toInt = w1.toInt + 1 := by rw [← ev20]; exact th_add rfl (by decide) ⟨by omega, by omega⟩
        refine lv_iinc (v := v20) (lv' := [(2, .int v20), (0, .ref a0), (1, .ref a1)]) hx hb dX6_areLike_25 hl (k := 2) rfl ev20 (by decide) rfl (fun ls hl => ?_)
        refine lv_goto (tgt := 2) hx hb dX6_areLike_28 (by decide) ?_
        exact ih2 _ _ _ _ (by omega) ⟨F9, _, v20, rfl, lv_sub hl [1, 2, 0] rfl, hI, hP, hS, hfr, ⟨by omega, by omega⟩, rfl⟩
      · have c19 := mt Int32.toInt_inj.symm.mpr c19
        refine lv_iconst (v := 0) hx hb dX6_areLike_23 (by decide) ?_
        exact W.zret (v := 0) (ty := .boolean) hx hb hr (by decide) (fun t ht hW => ⟨⟨0, F9, rfl, ⟨(by decide), trivial, hI, hfr⟩, by rw [ht]; exact hP, va_K.moved hW.alike hK⟩, hS.F ht⟩) hS.2.2 dX6_areLike_24

set_option maxHeartbeats 4000000 in
set_option maxRecDepth 100000 in
theorem s_X6_areLike_far (l : Launch) (dC : Nat → ClassId) (dI : Nat → Nat → Nat) (sz : Nat) {L : List Nat} {K : Nat → Nat} {cs : Nat → ClassId} (hLK : ∀ a {k : Nat}, K a = k → k ≠ 0 → a ∈ L) (D : Nat) (F : Nat → va_E) (a0 : Nat) (a1 : Nat) (ha0 : K a0 = 24) (ha1 : K a1 = 24) (hI : s_I K cs D F) : Met l yX6_areLike (Cond.code yX6_areLike cX6_areLike 3 (some .boolean) :: T0) ({ frames := 0, cells := 0, slots := 0, locals := 0 }) (va_Pc [.ref a0, .ref a1] (s_W dC dI sz L F [(cs 0, .int), (cs 1, .byte), (cs 2, .long), (cs 3, .object RX5), (cs 4, .object RX4), (cs 5, .array .int), (cs 6, .char), (cs 7, .boolean)])) (va_Qi (fun (r : Int32) (G : Nat → va_E) => (0 ≤ r.toInt ∧ r.toInt ≤ 1) ∧ True ∧ s_I K cs D G ∧ ∀ b, K b ∉ ([] : List Nat) → G b = F b) (fun (G : Nat → va_E) (t : State) => va_P (dC, dI) vwCl (va_pl L G) t.heap ∧ va_K (dC, dI) vwCl [(cs 0, .int), (cs 1, .byte), (cs 2, .long), (cs 3, .object RX5), (cs 4, .object RX4), (cs 5, .array .int), (cs 6, .char), (cs 7, .boolean)] t) (fun q => q ∈ L)) 0 0 (fun q => q ∈ L) := by
  refine Met.ofW (cc := cX6_areLike) (maxL := 3) (ret := (some .boolean)) (by decide) rfl ?_
  intro p e s m args below meth c s₁ B hml hv
  obtain ⟨rfl, hsz, hP, hK, hD, hN⟩ := hv
  have hx := B.exec
  have hb := B.bytes
  have hr := B.returns
  have hts : ∀ w ∈ T0, w.before _ s = true := fun w h => atoms_spec (ws := Cond.code yX6_areLike cX6_areLike 3 (some .boolean) :: T0) B.pre w (List.mem_cons_of_mem _ h)
  have hown : s.vm.findClass RX6 = some m.cls := findClass_of_methodNamed B.named
  have hlocks := B.notSynchronized
  have hS : va_S (fun q => q ∈ L) s.heap s.heap [] := va_S.rf
  have hfr : ∀ b, K b ∉ ([] : List Nat) → F b = F b := fun _ _ => rfl
  have hl := lv_entry ([.ref a0, .ref a1]) (n := 3) (Nat.le_of_ble_eq_true rfl)
  rw [lg_entry_eq]
  generalize (lg_sl ([.ref a0, .ref a1]) ++ List.replicate (3 - (lg_sl ([.ref a0, .ref a1])).length) Slot.unset).toArray = ls at hl ⊢
  have hl : lv_has ls 3 [(0, .ref a0), (1, .ref a1)] := hl
  refine s_gen hP hS (fun H locs hP hS => ?_)
  refine lv_iconst (v := 0) hx hb dX6_areLike_0 (by decide) ?_
  refine lv_istore_n (lv' := [(2, .int 0), (0, .ref a0), (1, .ref a1)]) hx hb dX6_areLike_1 rfl hl (by decide) rfl (fun ls hl => ?_)
  refine th_loop (fun n g H locs => ∃ (G : Nat → va_E) (ls : Array Slot) (w1 : Int32), g = F0 m 2 ls [] ∧ lv_has ls 3 [(0, .ref a0), (1, .ref a1), (2, .int w1)] ∧ s_I K cs D G ∧ va_P (dC, dI) vwCl (va_pl L G) H ∧ va_S (fun q => q ∈ L) s.heap H locs ∧ (∀ b, K b ∉ ([] : List Nat) → G b = F b) ∧ (0 ≤ w1.toInt ∧ w1.toInt ≤ 64) ∧ n = (65 - w1.toInt).toNat) _ ⟨F, _, 0, rfl, lv_sub hl [1, 2, 0] rfl, hI, hP, hS, hfr, (by decide), rfl⟩ (fun n ih2 g H locs hq => ?_)
  obtain ⟨F9, ls, w1, rfl, hl, hI, hP, hS, hfr, h2, hn⟩ := hq
  have hn_2 := hn
  obtain ⟨n_2, hn9_2⟩ : ∃ q, q = n := ⟨_, rfl⟩
  refine lv_iload_n hx hb dX6_areLike_2 rfl (lv_at hl 2 rfl) ?_
  refine lv_aload_n hx hb dX6_areLike_3 rfl (lv_at hl 0 rfl) ?_
  obtain ⟨f3, o4, h5⟩ := s_op24 hI ha0
  refine th_alen hx hb hK hP (hLK _ ha0 (by decide)) 0 o4 rfl (v := 64) rfl dX6_areLike_4 ?_
  refine lv_icmp_ge (tgt := 31) hx hb dX6_areLike_5 (by decide) (fun c6 => ?_) (fun c6 => ?_)
  · have c6 := (ax_ge (n := 64) (by decide)).mp c6
    refine lv_iconst (v := 1) hx hb dX6_areLike_31 (by decide) ?_
    exact W.zret (v := 1) (ty := .boolean) hx hb hr (by decide) (fun t ht hW => ⟨⟨1, F9, rfl, ⟨(by decide), trivial, hI, hfr⟩, by rw [ht]; exact hP, va_K.moved hW.alike hK⟩, hS.F ht⟩) hS.2.2 dX6_areLike_32
  · have c6 := mt (ax_ge (n := 64) (by decide)).mpr c6
    refine lv_iload_n hx hb dX6_areLike_8 rfl (lv_at hl 2 rfl) ?_
    refine lv_aload_n hx hb dX6_areLike_9 rfl (lv_at hl 1 rfl) ?_
    obtain ⟨f7, o8, h9⟩ := s_op24 hI ha1
    refine th_alen hx hb hK hP (hLK _ ha1 (by decide)) 0 o8 rfl (v := 64) rfl dX6_areLike_10 ?_
    refine lv_icmp_ge (tgt := 31) hx hb dX6_areLike_11 (by decide) (fun c10 => ?_) (fun c10 => ?_)
    · have c10 := (ax_ge (n := 64) (by decide)).mp c10
      exact absurd c10 (by omega)
    · have c10 := mt (ax_ge (n := 64) (by decide)).mpr c10
      refine lv_aload_n hx hb dX6_areLike_14 rfl (lv_at hl 0 rfl) ?_
      refine lv_iload_n hx hb dX6_areLike_15 rfl (lv_at hl 2 rfl) ?_
      obtain ⟨f11, o12, h13⟩ := s_op24 hI ha0
      refine th_iald hx hb hK hP (hLK _ ha0 (by decide)) 0 o12 rfl (th_in ⟨by omega, by omega⟩) dX6_areLike_16 ?_
      refine lv_topi (fun v14 ev14 => ?_)
      refine lv_aload_n hx hb dX6_areLike_17 rfl (lv_at hl 1 rfl) ?_
      refine lv_iload_n hx hb dX6_areLike_18 rfl (lv_at hl 2 rfl) ?_
      obtain ⟨f15, o16, h17⟩ := s_op24 hI ha1
      refine th_iald hx hb hK hP (hLK _ ha1 (by decide)) 0 o16 rfl (th_in ⟨by omega, by omega⟩) dX6_areLike_19 ?_
      refine lv_topi (fun v18 ev18 => ?_)
      refine lv_icmp_eq (tgt := 25) hx hb dX6_areLike_20 (by decide) (fun c19 => ?_) (fun c19 => ?_)
      · have c19 := Int32.toInt_inj.symm.mp c19
        obtain ⟨v20, ev20⟩ : ∃ y : Int32, w1 + 1 = y := ⟨_, rfl⟩
        have qv20 : v20.toInt = w1.toInt + 1 := by rw [← ev20]; exact th_add rfl (by decide) ⟨by omega, by omega⟩
        refine lv_iinc (v := v20) (lv' := [(2, .int v20), (0, .ref a0), (1, .ref a1)]) hx hb dX6_areLike_25 hl (k := 2) rfl ev20 (by decide) rfl (fun ls hl => ?_)
        refine lv_goto (tgt := 2) hx hb dX6_areLike_28 (by decide) ?_
        exact ih2 _ _ _ _ (by omega) ⟨F9, _, v20, rfl, lv_sub hl [1, 2, 0] rfl, hI, hP, hS, hfr, ⟨by omega, by omega⟩, rfl⟩
      · have c19 := mt Int32.toInt_inj.symm.mpr c19
        refine lv_iconst (v := 0) hx hb dX6_areLike_23 (by decide) ?_
        exact W.zret (v := 0) (ty := .boolean) hx hb hr (by decide) (fun t ht hW => ⟨⟨0, F9, rfl, ⟨(by decide), trivial, hI, hfr⟩, by rw [ht]; exact hP, va_K.moved hW.alike hK⟩, hS.F ht⟩) hS.2.2 dX6_areLike_24

set_option maxHeartbeats 4000000 in
set_option maxRecDepth 100000 in
theorem s_J7_fill_d0a16 (l : Launch) (dC : Nat → ClassId) (dI : Nat → Nat → Nat) (sz : Nat) {L : List Nat} {K : Nat → Nat} {cs : Nat → ClassId} (hLK : ∀ a {k : Nat}, K a = k → k ≠ 0 → a ∈ L) (D : Nat) (F : Nat → va_E) (a0 : Nat) (y1 : Int64) (ha0 : K a0 = 25) (hI : s_I K cs D F) : Met l yJ7_fill_d0a16 (Cond.code yJ7_fill_d0a16 cJ7_fill_d0a16 5 none :: T0) ({ frames := 0, cells := 0, slots := 0, locals := 0 }) (va_Pc [.ref a0, .long y1] (s_W dC dI sz L F [(cs 0, .int), (cs 1, .byte), (cs 2, .long), (cs 3, .object RX5), (cs 4, .object RX4), (cs 5, .array .int), (cs 6, .char), (cs 7, .boolean)])) (va_Qv (fun (G : Nat → va_E) => True ∧ True ∧ s_I K cs D G ∧ ∀ b, K b ∉ [25] → G b = F b) (fun (G : Nat → va_E) (t : State) => va_P (dC, dI) vwCl (va_pl L G) t.heap ∧ va_K (dC, dI) vwCl [(cs 0, .int), (cs 1, .byte), (cs 2, .long), (cs 3, .object RX5), (cs 4, .object RX4), (cs 5, .array .int), (cs 6, .char), (cs 7, .boolean)] t) (fun q => q ∈ L)) 0 0 (fun q => q ∈ L) := by
  refine Met.ofW (cc := cJ7_fill_d0a16) (maxL := 5) (ret := none) (by decide) rfl ?_
  intro p e s m args below meth c s₁ B hml hv
  obtain ⟨rfl, hsz, hP, hK, hD, hN⟩ := hv
  have hx := B.exec
  have hb := B.bytes
  have hr := B.returns
  have hts : ∀ w ∈ T0, w.before _ s = true := fun w h => atoms_spec (ws := Cond.code yJ7_fill_d0a16 cJ7_fill_d0a16 5 none :: T0) B.pre w (List.mem_cons_of_mem _ h)
  have hown : s.vm.findClass RJ7 = some m.cls := findClass_of_methodNamed B.named
  have hlocks := B.notSynchronized
  have hS : va_S (fun q => q ∈ L) s.heap s.heap [] := va_S.rf
  have hfr : ∀ b, K b ∉ [25] → F b = F b := fun _ _ => rfl
  have hl := lv_entry ([.ref a0, .long y1]) (n := 5) (Nat.le_of_ble_eq_true rfl)
  rw [lg_entry_eq]
  generalize (lg_sl ([.ref a0, .long y1]) ++ List.replicate (5 - (lg_sl ([.ref a0, .long y1])).length) Slot.unset).toArray = ls at hl ⊢
  have hl : lv_has ls 5 [(0, .ref a0), (1, .long y1)] := hl
  refine s_gen hP hS (fun H locs hP hS => ?_)
  refine lv_iconst (v := 0) hx hb dJ7_fill_d0a16_0 (by decide) ?_
  refine lv_istore_n (lv' := [(3, .int 0), (0, .ref a0), (1, .long y1)]) hx hb dJ7_fill_d0a16_1 rfl hl (by decide) rfl (fun ls hl => ?_)
  refine lv_aload_n hx hb dJ7_fill_d0a16_2 rfl (lv_at hl 1 rfl) ?_
  obtain ⟨f1, o2, h3⟩ := s_op25 hI ha0
  refine th_alen hx hb hK hP (hLK _ ha0 (by decide)) 2 o2 rfl (v := 41) rfl dJ7_fill_d0a16_3 ?_
  refine lv_istore (lv' := [(4, .int 41), (3, .int 0), (0, .ref a0), (1, .long y1)]) hx hb dJ7_fill_d0a16_4 hl (by decide) rfl (fun ls hl => ?_)
  refine th_loop (fun n g H locs => ∃ (G : Nat → va_E) (ls : Array Slot) (w4 : Int32), g = F0 m 6 ls [] ∧ lv_has ls 5 [(0, .ref a0), (1, .long y1), (3, .int w4), (4, .int 41)] ∧ s_I K cs D G ∧ va_P (dC, dI) vwCl (va_pl L G) H ∧ va_S (fun q => q ∈ L) s.heap H locs ∧ (∀ b, K b ∉ [25] → G b = F b) ∧ (0 ≤ w4.toInt ∧ w4.toInt ≤ 41) ∧ n = (42 - w4.toInt).toNat) _ ⟨F, _, 0, rfl, lv_sub hl [2, 3, 1, 0] rfl, hI, hP, hS, hfr, (by decide), rfl⟩ (fun n ih6 g H locs hq => ?_)
  obtain ⟨F9, ls, w4, rfl, hl, hI, hP, hS, hfr, h5, hn⟩ := hq
  have hn_6 := hn
  obtain ⟨n_6, hn9_6⟩ : ∃ q, q = n := ⟨_, rfl⟩
  refine lv_iload_n hx hb dJ7_fill_d0a16_6 rfl (lv_at hl 2 rfl) ?_
  refine lv_iload hx hb dJ7_fill_d0a16_7 (lv_at hl 3 rfl) ?_
  refine lv_icmp_ge (tgt := 22) hx hb dJ7_fill_d0a16_9 (by decide) (fun c6 => ?_) (fun c6 => ?_)
  · have c6 := (ax_ge (n := 41) (by decide)).mp c6
    exact W.vret hx hb hr (fun t ht hW => ⟨⟨F9, rfl, ⟨trivial, trivial, hI, hfr⟩, by rw [ht]; exact hP, va_K.moved hW.alike hK⟩, hS.F ht⟩) hS.2.2 dJ7_fill_d0a16_22
  · have c6 := mt (ax_ge (n := 41) (by decide)).mpr c6
    refine lv_aload_n hx hb dJ7_fill_d0a16_12 rfl (lv_at hl 0 rfl) ?_
    refine lv_iload_n hx hb dJ7_fill_d0a16_13 rfl (lv_at hl 2 rfl) ?_
    refine lv_lload_n hx hb dJ7_fill_d0a16_14 rfl (lv_at hl 1 rfl) ?_
    obtain ⟨f7, o8, h9⟩ := s_op25 hI ha0
    refine th_last hx hb hK hP hD hS (hLK _ ha0 (by decide)) 2 o8 rfl (th_in ⟨by omega, by omega⟩) dJ7_fill_d0a16_15 (fun H locs hP hS => ?_)
    have hP : va_P (dC, dI) vwCl (va_pl L (va_up F9 a0 (.inl (cs 2, 41, .inr (.inl (vp_updL f7 (w4 : Int32).toNatClampNeg y1)))))) H := hP
    obtain ⟨F10, hF11⟩ : ∃ G : Nat → va_E, G = va_up F9 a0 (.inl (cs 2, 41, .inr (.inl (vp_updL f7 (w4 : Int32).toNatClampNeg y1)))) := ⟨_, rfl⟩
    rw [← hF11] at hP
    have hI : s_I K cs D F10 := by rw [hF11]; exact s_cl25 hI ha0 ⟨_, rfl, trivial⟩
    have hfr : ∀ b, K b ∉ [25] → F10 b = F b := by rw [hF11]; exact s_fr hfr ha0 (by decide)
    obtain ⟨v12, ev12⟩ : ∃ y : Int32, w4 + 1 = y := ⟨_, rfl⟩
    have qv12 : v12.toInt = w4.toInt + 1 := by rw [← ev12]; exact th_add rfl (by decide) ⟨by omega, by omega⟩
    refine lv_iinc (v := v12) (lv' := [(3, .int v12), (0, .ref a0), (1, .long y1), (4, .int 41)]) hx hb dJ7_fill_d0a16_16 hl (k := 2) rfl ev12 (by decide) rfl (fun ls hl => ?_)
    refine lv_goto (tgt := 6) hx hb dJ7_fill_d0a16_19 (by decide) ?_
    exact ih6 _ _ _ _ (by omega) ⟨F10, _, v12, rfl, lv_sub hl [1, 2, 0, 3] rfl, hI, hP, hS, hfr, ⟨by omega, by omega⟩, rfl⟩

set_option maxHeartbeats 4000000 in
set_option maxRecDepth 100000 in
theorem s_J9_floorMod_7cf53 (l : Launch) (dC : Nat → ClassId) (dI : Nat → Nat → Nat) (sz : Nat) {L : List Nat} {K : Nat → Nat} {cs : Nat → ClassId} (hLK : ∀ a {k : Nat}, K a = k → k ≠ 0 → a ∈ L) (D : Nat) (F : Nat → va_E) (x0 : Int32) (x1 : Int32) (hx1 : 1 ≤ x1.toInt ∧ x1.toInt ≤ 2147483647) (hI : s_I K cs D F) : Met l yJ9_floorMod_7cf53 (Cond.code yJ9_floorMod_7cf53 cJ9_floorMod_7cf53 3 (some .int) :: T0) ({ frames := 0, cells := 0, slots := 0, locals := 0 }) (va_Pc [.int x0, .int x1] (s_W dC dI sz L F [(cs 0, .int), (cs 1, .byte), (cs 2, .long), (cs 3, .object RX5), (cs 4, .object RX4), (cs 5, .array .int), (cs 6, .char), (cs 7, .boolean)])) (va_Qi (fun (r : Int32) (G : Nat → va_E) => True ∧ (True ∧ (0 ≤ r.toInt ∧ r.toInt < x1.toInt)) ∧ s_I K cs D G ∧ ∀ b, K b ∉ ([] : List Nat) → G b = F b) (fun (G : Nat → va_E) (t : State) => va_P (dC, dI) vwCl (va_pl L G) t.heap ∧ va_K (dC, dI) vwCl [(cs 0, .int), (cs 1, .byte), (cs 2, .long), (cs 3, .object RX5), (cs 4, .object RX4), (cs 5, .array .int), (cs 6, .char), (cs 7, .boolean)] t) (fun q => q ∈ L)) 0 0 (fun q => q ∈ L) := by
  refine th_ofW (cc := cJ9_floorMod_7cf53) (maxL := 3) (ret := (some .int)) (by decide +kernel) rfl ?_
  intro p e s m args below meth c s₁ B hml hv
  obtain ⟨rfl, hsz, hP, hK, hD, hN⟩ := hv
  have hx := B.exec
  have hb := B.bytes
  have hr := B.returns
  have hts : ∀ w ∈ T0, w.before _ s = true := fun w h => atoms_spec (ws := Cond.code yJ9_floorMod_7cf53 cJ9_floorMod_7cf53 3 (some .int) :: T0) B.pre w (List.mem_cons_of_mem _ h)
  have hown : s.vm.findClass RJ9 = some m.cls := findClass_of_methodNamed B.named
  have hlocks := B.notSynchronized
  have hS : va_S (fun q => q ∈ L) s.heap s.heap [] := va_S.rf
  have hfr : ∀ b, K b ∉ ([] : List Nat) → F b = F b := fun _ _ => rfl
  have hl := lv_entry ([.int x0, .int x1]) (n := 3) (Nat.le_of_ble_eq_true rfl)
  rw [lg_entry_eq]
  generalize (lg_sl ([.int x0, .int x1]) ++ List.replicate (3 - (lg_sl ([.int x0, .int x1])).length) Slot.unset).toArray = ls at hl ⊢
  have hl : lv_has ls 3 [(0, .int x0), (1, .int x1)] := hl
  refine s_gen hP hS (fun H locs hP hS => ?_)
  refine lv_iload_n hx hb dJ9_floorMod_7cf53_0 rfl (lv_at hl 0 rfl) ?_
  refine lv_iload_n hx hb dJ9_floorMod_7cf53_1 rfl (lv_at hl 1 rfl) ?_
  refine lv_irem hx hb dJ9_floorMod_7cf53_2 (fun q => by have q2 := Int32.toInt_inj.mpr q; have q3 : (0 : Int32).toInt = 0 := (by decide); omega) ?_
  refine lv_topi (fun v1 ev1 => ?_)
  have qv1 := th_remS (x := x0) (y := x1) (by omega)
  rw [← ev1] at qv1
  refine lv_istore_n (lv' := [(2, .int v1), (0, .int x0), (1, .int x1)]) hx hb dJ9_floorMod_7cf53_3 rfl hl (by decide) rfl (fun ls hl => ?_)
  refine lv_iload_n hx hb dJ9_floorMod_7cf53_4 rfl (lv_at hl 1 rfl) ?_
  refine lv_iload_n hx hb dJ9_floorMod_7cf53_5 rfl (lv_at hl 2 rfl) ?_
  refine lv_ixor hx hb dJ9_floorMod_7cf53_6 ?_
  refine lv_topi (fun v2 ev2 => ?_)
  have qv2 := th_xor (x := x0) (y := x1) (by omega)
  rw [← ev2] at qv2
  refine lv_if_ge (tgt := 18) hx hb dJ9_floorMod_7cf53_7 (by decide) (fun c3 => ?_) (fun c3 => ?_)
  · have c3 := (ax_ge (n := 0) (by decide)).mp c3
    refine lv_iload_n hx hb dJ9_floorMod_7cf53_18 rfl (lv_at hl 0 rfl) ?_
    exact W.iret (v := v1) hx hb hr (fun t ht hW => ⟨⟨v1, F, rfl, ⟨trivial, ⟨trivial, ⟨by omega, by omega⟩⟩, hI, hfr⟩, by rw [ht]; exact hP, va_K.moved hW.alike hK⟩, hS.F ht⟩) hS.2.2 dJ9_floorMod_7cf53_19
  · have c3 := mt (ax_ge (n := 0) (by decide)).mpr c3
    refine lv_iload_n hx hb dJ9_floorMod_7cf53_10 rfl (lv_at hl 0 rfl) ?_
    refine lv_if_eq (tgt := 18) hx hb dJ9_floorMod_7cf53_11 (by decide) (fun c4 => ?_) (fun c4 => ?_)
    · have c4 := (ax_eq (n := 0) (by decide)).mp c4
      refine lv_iload_n hx hb dJ9_floorMod_7cf53_18 rfl (lv_at hl 0 rfl) ?_
      exact W.iret (v := v1) hx hb hr (fun t ht hW => ⟨⟨v1, F, rfl, ⟨trivial, ⟨trivial, ⟨by omega, by omega⟩⟩, hI, hfr⟩, by rw [ht]; exact hP, va_K.moved hW.alike hK⟩, hS.F ht⟩) hS.2.2 dJ9_floorMod_7cf53_19
    · have c4 := mt (ax_eq (n := 0) (by decide)).mpr c4
      refine lv_iload_n hx hb dJ9_floorMod_7cf53_14 rfl (lv_at hl 0 rfl) ?_
      refine lv_iload_n hx hb dJ9_floorMod_7cf53_15 rfl (lv_at hl 2 rfl) ?_
      refine lv_iadd hx hb dJ9_floorMod_7cf53_16 ?_
      refine lv_topi (fun v5 ev5 => ?_)
      have qv5 : v5.toInt = v1.toInt + x1.toInt := by rw [ev5]; exact th_add rfl rfl ⟨by omega, by omega⟩
      exact W.iret (v := v5) hx hb hr (fun t ht hW => ⟨⟨v5, F, rfl, ⟨trivial, ⟨trivial, ⟨by omega, by omega⟩⟩, hI, hfr⟩, by rw [ht]; exact hP, va_K.moved hW.alike hK⟩, hS.F ht⟩) hS.2.2 dJ9_floorMod_7cf53_17

