set_option maxHeartbeats 4000000 in
set_option maxRecDepth 100000 in
/-- THE LAW, from its entry -/
theorem whole_start {p : Program} {e : Env} {s : State} {m : MethodId} {below : List Frame} {meth : Method} {c : Code} (l : Launch) (hflags : l.flags = flags0) {b L : Nat} {xs : Nat → Int32} (hL : L ≤ 3072) (C0 : lw_At p s m meth c b L xs) : W p l e room_1 s m #[Value.ref b] below meth c s.heap [] 0 0 (lw_Z below #[Value.ref b] s) (entryFrame m ([Value.ref b] : List Value).toArray 4) := by
  obtain ⟨hx, hb, hr, hml, hown0, hts0, hX, hbl, hlocks, hgv⟩ := id C0
  have hown : s.vm.findClass RL = some m.cls := hown0
  have hts : ∀ w ∈ T0, w.before #[Value.ref b] s = true := fun w h => hts0 w (ax_law w h).1
  have hN : ax_N s := ax_Nlaw hts0
  have hbA : ¬ (fun q : Nat => s.heap.size ≤ q) b := Nat.not_le.mpr hbl
  have hA : ∀ q : Nat, s.heap.size ≤ q → (fun q : Nat => s.heap.size ≤ q) q := fun _ h => h
  obtain ⟨c0, iS0, hKn0⟩ := u_known (C := RX0) (T := TX0) (N := 14) (n := 14) hts inX0 (hts _ T_179)
  obtain ⟨c1, iS1, hKn1⟩ := u_known (C := RX1) (T := TX1) (N := 12) (n := 12) hts inX1 (hts _ T_136)
  obtain ⟨c2, iS2, hKn2⟩ := u_known (C := RX2) (T := TX2) (N := 7) (n := 7) hts inX2 (hts _ T_167)
  obtain ⟨c3, iS3, hKn3⟩ := u_known (C := RX3) (T := TX3) (N := 15) (n := 15) hts inX3 (hts _ T_162)
  obtain ⟨c4, iS4, hKn4⟩ := u_known (C := RX4) (T := TX4) (N := 15) (n := 15) hts inX4 (hts _ T_141)
  obtain ⟨c5, iS5, hKn5⟩ := u_known (C := RX5) (T := TX5) (N := 11) (n := 11) hts inX5 (hts _ T_115)
  obtain ⟨c6, iS6, hKn6⟩ := u_known (C := RX6) (T := TX6) (N := 14) (n := 14) hts inX6 (hts _ T_440)
  obtain ⟨c7, iS7, hKn7⟩ := u_known (C := RX7) (T := TX7) (N := 34) (n := 34) hts inX7 (hts _ T_441)
  obtain ⟨dC, dI, hKc⟩ : ∃ (dC : Nat → ClassId) (dI : Nat → Nat → Nat), ∀ (k : Nat) (q : vw_C), vwCl[k]? = some q → u_Kn s q.1 q.2.1 q.2.2 (dC k) (dI k) := by
    refine ⟨fun k => if k = 0 then c0 else if k = 1 then c1 else if k = 2 then c2 else if k = 3 then c3 else if k = 4 then c4 else if k = 5 then c5 else if k = 6 then c6 else c7, fun k => if k = 0 then iS0 else if k = 1 then iS1 else if k = 2 then iS2 else if k = 3 then iS3 else if k = 4 then iS4 else if k = 5 then iS5 else if k = 6 then iS6 else iS7, ?_⟩
    intro k q hq
    match k, hq with
    | 0, hq => cases hq; exact hKn0
    | 1, hq => cases hq; exact hKn1
    | 2, hq => cases hq; exact hKn2
    | 3, hq => cases hq; exact hKn3
    | 4, hq => cases hq; exact hKn4
    | 5, hq => cases hq; exact hKn5
    | 6, hq => cases hq; exact hKn6
    | 7, hq => cases hq; exact hKn7
    | k + 8, hq => simp [vwCl] at hq
  obtain ⟨k0, ka0, kr0⟩ := lw_ac (ty := .int) (hts _ T_99)
  obtain ⟨k1, ka1, kr1⟩ := lw_ac (ty := .byte) (hts _ T_159)
  obtain ⟨k2, ka2, kr2⟩ := lw_ac (ty := .long) (hts _ T_126)
  obtain ⟨k3, ka3, kr3⟩ := lw_ao (C := RX5) (ax_n0 hN)
  obtain ⟨k4, ka4, kr4⟩ := lw_ao (C := RX4) (ax_n6 hN)
  obtain ⟨k5, ka5, kr5⟩ := lw_aa (ax_n2 hN)
  obtain ⟨k6, ka6, kr6⟩ := lw_ac (ty := .char) (hts _ T_243)
  obtain ⟨k7, ka7, kr7⟩ := lw_ac (ty := .boolean) (hts _ T_248)
  obtain ⟨cs, hK⟩ : ∃ cs : Nat → ClassId, va_K (dC, dI) vwCl [(cs 0, .int), (cs 1, .byte), (cs 2, .long), (cs 3, .object RX5), (cs 4, .object RX4), (cs 5, .array .int), (cs 6, .char), (cs 7, .boolean)] s := by
    refine ⟨fun k => if k = 0 then k0 else if k = 1 then k1 else if k = 2 then k2 else if k = 3 then k3 else if k = 4 then k4 else if k = 5 then k5 else if k = 6 then k6 else k7, hKc, ?_⟩
    intro k q hq
    match k, hq with
    | 0, hq => cases hq; exact ⟨ka0, kr0⟩
    | 1, hq => cases hq; exact ⟨ka1, kr1⟩
    | 2, hq => cases hq; exact ⟨ka2, kr2⟩
    | 3, hq => cases hq; exact ⟨ka3, kr3⟩
    | 4, hq => cases hq; exact ⟨ka4, kr4⟩
    | 5, hq => cases hq; exact ⟨ka5, kr5⟩
    | 6, hq => cases hq; exact ⟨ka6, kr6⟩
    | 7, hq => cases hq; exact ⟨ka7, kr7⟩
    | k + 8, hq => simp at hq
  obtain ⟨adK, adV, tf, hZ⟩ := lw_Z0 hts0 hgv
  have hS : va_S (fun q : Nat => s.heap.size ≤ q) s.heap s.heap [] := va_S.rf
  have hP : va_P (dC, dI) vwCl (va_pl [] (fun _ => .inr (0, []))) s.heap := fun k q h => by simp [va_pl] at h
  have hD : ∀ G, va_D (fun q : Nat => s.heap.size ≤ q) (va_pl [] G) := fun G => ⟨fun i j p q h => by simp [va_pl] at h, fun k q h => by simp [va_pl] at h⟩
  have hl := lv_entry ([.ref b]) (n := 4) (Nat.le_of_ble_eq_true rfl)
  rw [lg_entry_eq]
  generalize (lg_sl ([.ref b]) ++ List.replicate (4 - (lg_sl ([.ref b])).length) Slot.unset).toArray = ls at hl ⊢
  have hl : lv_has ls 4 [(0, .ref b)] := hl
  refine s_gen hP hS (fun H locs hP hS => ?_)
  refine n_new (ci := 6) (fs := [.null, .int 0, .null, .null, .null, .int 0, .null, .null, .int 0, .int 0, .null, .null, .null, .long 0]) (C := RX6) (T := TX6) (N := 14) hx hb hts inX6 tyX6 tyX6_ok hown (hts _ T_488) (hts _ T_440) (hts _ T_193) hK hP hD hS hA rfl dvX6 (Nat.le_of_ble_eq_true rfl) (Nat.le_of_ble_eq_true rfl) dL_law_0 (fun q6 H hq6 hP hD hS => ?_)
  obtain ⟨F1, hF1⟩ : ∃ M : Nat → va_E, M = va_up (fun _ => .inr (0, [])) q6 (.inr (6, [.null, .int 0, .null, .null, .null, .int 0, .null, .null, .int 0, .int 0, .null, .null, .null, .long 0])) := ⟨_, rfl⟩
  rw [← hF1] at hP
  have hP : va_P (dC, dI) vwCl (va_pl [q6] F1) H := hP
  have hD : ∀ G, va_D (fun q : Nat => s.heap.size ≤ q) (va_pl [q6] G) := hD
  refine W.widen (k := 1) (n := 14) (Nat.le_of_ble_eq_true rfl) (Nat.le_of_ble_eq_true rfl) ?_
  refine lv_dup hx hb dL_law_3 rfl ?_
  have hFc := n_free hD hS hA
  refine va_callv (va_runI (As := []) (rest := [.ref q6]) ⟨hx, hb, hml, hown, hts⟩ (n_X6_init l dC dI H.size (cs := cs) [q6] (fun _ => 0) F1 q6 (List.mem_singleton.mpr rfl) (fun a => trivial) (fun a h => absurd rfl h) rfl (fun _ => rfl) (by rw [hF1]; exact th_up)) (cwI 0 hts (ax_gT T_95) rfl rfl rfl (hts _ T_193) (hts _ T_489) (hts _ T_442) rfl (by decide +kernel) ⟨Nat.le_of_ble_eq_true rfl, Nat.le_of_ble_eq_true rfl⟩) ⟨fun a U g mk q => ⟨q.1, n_pc (U := U) rfl rfl q.2⟩, fun U hU hW => ⟨rfl, n_pw hU hW hP hK hD hN⟩⟩ rfl rfl hl.1 rfl (lv_room (Nat.le_of_ble_eq_true rfl)) dL_law_4 ⟨Nat.le_of_ble_eq_true rfl, Nat.le_of_ble_eq_true rfl⟩) hS (fun q _ h => hFc q h) hFc (fun u t H1 locs ht hvm hw hB hz1 hk1 hS => ?_)
  obtain ⟨L2, K2, F2, cs2⟩ := u
  obtain ⟨hP, hK1, hD1⟩ := hB
  rw [ht] at hP
  have hD : ∀ G, va_D (fun q : Nat => s.heap.size ≤ q) (va_pl L2 G) := fun G => (hD1 G).weaken (fun k q _ h => hFc _ h)
  generalize H1 = H at hP hS ⊢
  obtain ⟨hs1, hf1, hk7, hI, hLk, hks, hcs, hUQ, hPG, hRI, hRJ, hcz, hb6⟩ := hw
  have hP : va_P (dC, dI) vwCl (va_pl L2 F2) H := hP
  have hI : s_I K2 cs2 0 F2 := hI
  have hLk : ∀ a, K2 a ≠ 0 → a ∈ L2 := hLk
  have hk7 : K2 q6 = 7 := hk7
  have hcz : cs2 24 = 0 := hcz
  have hb6 : y_fi F2 q6 1 = 0 := hb6
  have hK : va_K (dC, dI) vwCl [(cs2 0, .int), (cs2 1, .byte), (cs2 2, .long), (cs2 3, .object RX5), (cs2 4, .object RX4), (cs2 5, .array .int), (cs2 6, .char), (cs2 7, .boolean)] s := by
    have hcs : ∀ i, i < 20 → cs2 i = cs i := hcs
    rw [hcs 0 (by decide), hcs 1 (by decide), hcs 2 (by decide), hcs 3 (by decide), hcs 4 (by decide), hcs 5 (by decide), hcs 6 (by decide), hcs 7 (by decide)]
    exact hK
  have hks : ∀ a, K2 a ≠ 9 ∧ K2 a < 50 := fun a => by
    rcases hks a with h | h
    · have h : K2 a = 0 := h
      omega
    · have z : ∀ k ∈ [1, 2, 3, 4, 5, 6, 7, 8, 20, 21, 22, 23, 24, 25, 26, 27, 28, 29, 30, 31, 32, 33, 34, 35, 36, 37, 38, 39, 42, 43], k ≠ 9 ∧ k < 50 := by decide
      exact z _ h
  refine W.widen (k := 875) (n := 26752) (Nat.le_of_ble_eq_true rfl) (Nat.le_of_ble_eq_true rfl) ?_
  refine lv_astore_n (lv' := [(1, .ref q6), (0, .ref b)]) hx hb dL_law_7 rfl hl (by decide) rfl (fun ls hl => ?_)
  refine n_new (ci := 7) (fs := [.null, .int 0, .int 0, .int 0, .int 0, .int 0, .int 0, .int 0, .int 0, .null, .null, .int 0, .null, .null, .null, .int 0, .int 0, .null, .null, .int 0, .null, .null, .null, .null, .null, .int 0, .int 0, .int 0, .null, .null, .null, .int 0, .int 0, .long 0]) (C := RX7) (T := TX7) (N := 34) hx hb hts inX7 tyX7 tyX7_ok hown (hts _ T_490) (hts _ T_441) (hts _ T_265) hK hP hD hS hA rfl dvX7 (Nat.le_of_ble_eq_true rfl) (Nat.le_of_ble_eq_true rfl) dL_law_8 (fun q7 H hq7 hP hD hS => ?_)
  have k0 : K2 q7 = 0 := Decidable.byContradiction (fun z => hq7 (hLk _ z))
  have hq67 : q6 ≠ q7 := fun z => by rw [z] at hk7; omega
  obtain ⟨L3, hL3⟩ : ∃ M, M = L2 ++ [q7] := ⟨_, rfl⟩
  rw [← hL3] at hP hD
  obtain ⟨F3, hF3⟩ : ∃ M : Nat → va_E, M = va_up F2 q7 (.inr (7, [.null, .int 0, .int 0, .int 0, .int 0, .int 0, .int 0, .int 0, .int 0, .null, .null, .int 0, .null, .null, .null, .int 0, .int 0, .null, .null, .int 0, .null, .null, .null, .null, .null, .int 0, .int 0, .int 0, .null, .null, .null, .int 0, .int 0, .long 0])) := ⟨_, rfl⟩
  rw [← hF3] at hP
  have hI3 : s_I K2 cs2 0 F3 := by rw [hF3]; exact n_put0 hI k0
  have hLk3 : ∀ a, K2 a ≠ 0 → a ∈ L3 := fun a h => by rw [hL3]; exact List.mem_append_left _ (hLk a h)
  have hm7 : q7 ∈ L3 := by rw [hL3]; exact List.mem_append_right _ (List.mem_singleton.mpr rfl)
  refine W.widen (k := 876) (n := 26786) (Nat.le_of_ble_eq_true rfl) (Nat.le_of_ble_eq_true rfl) ?_
  refine lv_dup hx hb dL_law_11 rfl ?_
  have hFc := n_free hD hS hA
  refine va_callv (va_runI (As := []) (rest := [.ref q7]) ⟨hx, hb, hml, hown, hts⟩ (n_X7_init l dC dI H.size (cs := cs2) L3 K2 F3 q7 hm7 hI3 hLk3 k0 hks (by rw [hF3]; exact th_up)) (cwI 0 hts (ax_gT T_96) rfl rfl rfl (hts _ T_265) (hts _ T_491) (hts _ T_443) rfl (by decide +kernel) ⟨Nat.le_of_ble_eq_true rfl, Nat.le_of_ble_eq_true rfl⟩) ⟨fun a U g mk q => ⟨q.1, n_pc (U := U) rfl rfl q.2⟩, fun U hU hW => ⟨rfl, n_pw hU hW hP hK hD hN⟩⟩ rfl rfl hl.1 rfl (lv_room (Nat.le_of_ble_eq_true rfl)) dL_law_12 ⟨Nat.le_of_ble_eq_true rfl, Nat.le_of_ble_eq_true rfl⟩) hS (fun q _ h => hFc q h) hFc (fun u t H1 locs ht hvm hw hB hz1 hk1 hS => ?_)
  obtain ⟨L4, K4, F4, A⟩ := u
  obtain ⟨hP, hK1, hD1⟩ := hB
  rw [ht] at hP
  have hD : ∀ G, va_D (fun q : Nat => s.heap.size ≤ q) (va_pl L4 G) := fun G => (hD1 G).weaken (fun k q _ h => hFc _ h)
  generalize H1 = H at hP hS ⊢
  obtain ⟨hs1, hX1, hf1, hk9, hI4, hLk4, hks4, hyA, hyI, o7, -, -, o20, -⟩ := hw
  have hP : va_P (dC, dI) vwCl (va_pl L4 F4) H := hP
  have hLA : ∀ q, q ∈ L4 → s.heap.size ≤ q := fun q h => n_in hD h
  have hk4 : ∀ a, K4 a = K2 a ∨ K4 a = 9 ∨ 50 ≤ K4 a := fun a => (hks4 a).imp id (fun h => by
    have z : ∀ k ∈ [9, 50, 59, 60, 62, 63, 64, 67, 68, 70, 71, 72, 73, 74, 78, 79, 80], k = 9 ∨ 50 ≤ k := by decide
    exact z _ h)
  have hf4 : ∀ a, K2 a ≠ 0 → F4 a = F2 a := fun a h => by
    have ne : a ≠ q7 := fun z => h (by rw [z]; exact k0)
    rw [show F4 a = F3 a from (hf1 a (hLk3 a h) ne).1, hF3]
    exact if_neg ne
  obtain ⟨p5, p6, p7, p8⟩ := lw_grow hI hk4 hf4 hPG hRI hRJ hUQ
  have hk47 : K4 q6 = 7 := (hX1 q6 (by rw [hk7]; decide)).trans hk7
  have hV : lw_V cs2 L4 A q6 q7 K4 0 F4 := ⟨hLk4, hk47, hk9, hI4, p5, p6, p7, p8, hyA, hyI, lw_T0 o7 o20⟩
  have hB0 : y_fi F4 q6 1 = y_fi F4 q7 1 := ((lw_fi (hf4 q6 (by rw [hk7]; decide)) 1).trans hb6).trans (y_fiZ o7 (k := 1) (by decide)).symm
  refine W.widen (k := 892) (n := 240949) (Nat.le_of_ble_eq_true rfl) (Nat.le_of_ble_eq_true rfl) ?_
  refine lv_astore_n (lv' := [(2, .ref q7), (1, .ref q6), (0, .ref b)]) hx hb dL_law_15 rfl hl (by decide) rfl (fun ls hl => ?_)
  refine lv_iconst (v := 0) hx hb dL_law_16 (by decide) ?_
  refine lv_istore_n (lv' := [(3, .int 0), (2, .ref q7), (1, .ref q6), (0, .ref b)]) hx hb dL_law_17 rfl hl (by decide) rfl (fun ls hl => ?_)
  exact law_loop l C0 hK (lw_Dl hD) hLA (hZ L4 hLA) hL hcz hV hB0 hP hS hl
