set_option maxHeartbeats 4000000 in
set_option maxRecDepth 100000 in
/-- feed -/
theorem law_c0 {p : Program} {e : Env} {s : State} {m : MethodId} {below : List Frame} {meth : Method} {c : Code} (l : Launch) {dC : Nat → ClassId} {dI : Nat → Nat → Nat} {cs : Nat → ClassId} {b N : Nat} {xs : Nat → Int32} {L : List Nat} {A : Nat → Nat} {xo om : Nat} {K : Nat → Nat} {D : Nat} {F : Nat → va_E} {n9 : Nat} {i : Int32} {H : Heap} {locs : List Loc} {ls : Array Slot} {adK adV : Nat → Nat} {tf : Option Nat} (C0 : lw_At p s m meth c b N xs) (hK : va_K (dC, dI) vwCl [(cs 0, .int), (cs 1, .byte), (cs 2, .long), (cs 3, .object RX5), (cs 4, .object RX4), (cs 5, .array .int), (cs 6, .char), (cs 7, .boolean)] s) (hD : ∀ G, va_D (fun q => q ∈ L) (va_pl L G)) (hLA : ∀ q, q ∈ L → s.heap.size ≤ q) (hZ : s_Z L adK adV tf s) (hNN : N ≤ 3072) (hi : 0 ≤ i.toInt ∧ i.toInt + 6 ≤ N) (hn : n9 < 512) (hcz : cs 24 = 0) (hV : lw_V cs L A xo om K D F) (hB0 : y_fi F xo 1 = y_fi F om 1) (hDn : D ≤ 62000 * n9) (hP : va_P (dC, dI) vwCl (va_pl L F) H) (hS : va_S (fun q : Nat => s.heap.size ≤ q) s.heap H locs) (hl : lv_has ls 4 [(3, .int i), (2, .ref om), (1, .ref xo), (0, .ref b)]) (KK : ∀ (K : Nat → Nat) (D : Nat) (F : Nat → va_E) (H : Heap) (locs : List Loc), lw_V cs L A xo om K D F → y_fi F xo 1 = y_fi F om 1 → D ≤ 62000 * (n9 + 1) → va_P (dC, dI) vwCl (va_pl L F) H → va_S (fun q : Nat => s.heap.size ≤ q) s.heap H locs → W p l e room_1 s m #[Value.ref b] below meth c H locs 892 240949 (lw_Z below #[Value.ref b] s) (F0 m 1099 ls [])) : W p l e room_1 s m #[Value.ref b] below meth c H locs 892 240949 (lw_Z below #[Value.ref b] s) (F0 m 164 ls []) := by
  obtain ⟨hx, hb, hr, hml, hown0, hts0, hX, hbl, hlocks, hgv⟩ := id C0
  have hown : s.vm.findClass RL = some m.cls := hown0
  have hts : ∀ w ∈ T0, w.before #[Value.ref b] s = true := fun w h => hts0 w (ax_law w h).1
  have hN : ax_N s := ax_Nlaw hts0
  have hbA : ¬ (fun q : Nat => s.heap.size ≤ q) b := Nat.not_le.mpr hbl
  refine lv_aload_n hx hb dL_law_164 rfl (lv_at hl 2 rfl) ?_
  refine lv_aload_n hx hb dL_law_165 rfl (lv_at hl 3 rfl) ?_
  refine lv_iload_n hx hb dL_law_166 rfl (lv_at hl 0 rfl) ?_
  refine lv_iconst (v := 1) hx hb dL_law_167 (by decide) ?_
  refine lv_iadd hx hb dL_law_168 ?_
  refine va_sld hx hb hX hbl hbA hS (lw_in hi hNN (by decide)) dL_law_169 ?_
  refine lv_topi (fun v1 ev1 => ?_)
  refine lv_aload_n hx hb dL_law_170 rfl (lv_at hl 3 rfl) ?_
  refine lv_iload_n hx hb dL_law_171 rfl (lv_at hl 0 rfl) ?_
  refine lv_iconst (v := 2) hx hb dL_law_172 (by decide) ?_
  refine lv_iadd hx hb dL_law_173 ?_
  refine va_sld hx hb hX hbl hbA hS (lw_in hi hNN (by decide)) dL_law_174 ?_
  refine lv_topi (fun v2 ev2 => ?_)
  refine lv_aload_n hx hb dL_law_175 rfl (lv_at hl 3 rfl) ?_
  refine lv_iload_n hx hb dL_law_176 rfl (lv_at hl 0 rfl) ?_
  refine lv_iconst (v := 3) hx hb dL_law_177 (by decide) ?_
  refine lv_iadd hx hb dL_law_178 ?_
  refine va_sld hx hb hX hbl hbA hS (lw_in hi hNN (by decide)) dL_law_179 ?_
  refine lv_topi (fun v3 ev3 => ?_)
  refine lv_aload_n hx hb dL_law_180 rfl (lv_at hl 3 rfl) ?_
  refine lv_iload_n hx hb dL_law_181 rfl (lv_at hl 0 rfl) ?_
  refine lv_iconst (v := 4) hx hb dL_law_182 (by decide) ?_
  refine lv_iadd hx hb dL_law_183 ?_
  refine va_sld hx hb hX hbl hbA hS (lw_in hi hNN (by decide)) dL_law_184 ?_
  refine lv_topi (fun v4 ev4 => ?_)
  refine lv_aload_n hx hb dL_law_185 rfl (lv_at hl 3 rfl) ?_
  refine lv_iload_n hx hb dL_law_186 rfl (lv_at hl 0 rfl) ?_
  refine lv_iconst (v := 5) hx hb dL_law_187 (by decide) ?_
  refine lv_iadd hx hb dL_law_188 ?_
  refine va_sld hx hb hX hbl hbA hS (lw_in hi hNN (by decide)) dL_law_189 ?_
  refine lv_topi (fun v5 ev5 => ?_)
  obtain ⟨hLK0, hk7, hk9, hI, hPG, hRI, hRJ, hUQ, hyA, hyI, hyT⟩ := id hV
  have hLK : ∀ a {k : Nat}, K a = k → k ≠ 0 → a ∈ L := fun a k e q => hLK0 a (by rw [e]; exact q)
  obtain ⟨fs6, o6⟩ := lw_o6 hI hk7
  refine va_calli (va_runV (As := [.int v1, .int v2, .int v3, .int v4, .int v5]) (rest := []) ⟨hx, hb, hml, hown, hts⟩ (s_X6_feed l dC dI H.size hLK D F xo v1 v2 v3 v4 v5 hk7 hI hcz) (cwV 5 hts (ax_gV T_492 T_324 T_325 T_193 T_37) rfl rfl rfl (by decide +kernel) ⟨Nat.le_of_ble_eq_true rfl, Nat.le_of_ble_eq_true rfl⟩) ⟨fun a U g mk q => ⟨q.1, s_pc (U := U) rfl rfl q.2⟩, s_recv hK hP (hLK _ hk7 (by decide)) (ci := 6) rfl o6, fun U hU hW => ⟨rfl, s_pw hU hW hP hK hD hN⟩⟩ rfl rfl hl.1 rfl (lv_room (Nat.le_of_ble_eq_true rfl)) dL_law_190 ⟨Nat.le_of_ble_eq_true rfl, Nat.le_of_ble_eq_true rfl⟩) hS (fun q _ h => hLA q h) (fun q h => hLA q h) (fun r6 F7 t H1 locs ht hvm hw hB hz1 hk1 hS => ?_)
  obtain ⟨hP, hK1⟩ := hB
  rw [ht] at hP
  generalize H1 = H at hP hS ⊢
  obtain ⟨hb_r6, hc_r6, hI, hfr1⟩ := hw
  have hV := lw_x hV hI hfr1 (by decide)
  have ho1 : y_fi F7 om 1 = y_fi F om 1 := lw_fi (hfr1 om (by rw [hk9]; decide)) 1
  refine W.widen (k := 892) (n := 240949) (Nat.le_of_ble_eq_true rfl) (Nat.le_of_ble_eq_true rfl) ?_
  refine lv_aload_n hx hb dL_law_193 rfl (lv_at hl 1 rfl) ?_
  refine lv_aload_n hx hb dL_law_194 rfl (lv_at hl 3 rfl) ?_
  refine lv_iload_n hx hb dL_law_195 rfl (lv_at hl 0 rfl) ?_
  refine lv_iconst (v := 1) hx hb dL_law_196 (by decide) ?_
  refine lv_iadd hx hb dL_law_197 ?_
  refine va_sld hx hb hX hbl hbA hS (lw_in hi hNN (by decide)) dL_law_198 ?_
  refine lv_topi (fun v8 ev8 => ?_)
  refine lv_aload_n hx hb dL_law_199 rfl (lv_at hl 3 rfl) ?_
  refine lv_iload_n hx hb dL_law_200 rfl (lv_at hl 0 rfl) ?_
  refine lv_iconst (v := 2) hx hb dL_law_201 (by decide) ?_
  refine lv_iadd hx hb dL_law_202 ?_
  refine va_sld hx hb hX hbl hbA hS (lw_in hi hNN (by decide)) dL_law_203 ?_
  refine lv_topi (fun v9 ev9 => ?_)
  refine lv_aload_n hx hb dL_law_204 rfl (lv_at hl 3 rfl) ?_
  refine lv_iload_n hx hb dL_law_205 rfl (lv_at hl 0 rfl) ?_
  refine lv_iconst (v := 3) hx hb dL_law_206 (by decide) ?_
  refine lv_iadd hx hb dL_law_207 ?_
  refine va_sld hx hb hX hbl hbA hS (lw_in hi hNN (by decide)) dL_law_208 ?_
  refine lv_topi (fun v10 ev10 => ?_)
  refine lv_aload_n hx hb dL_law_209 rfl (lv_at hl 3 rfl) ?_
  refine lv_iload_n hx hb dL_law_210 rfl (lv_at hl 0 rfl) ?_
  refine lv_iconst (v := 4) hx hb dL_law_211 (by decide) ?_
  refine lv_iadd hx hb dL_law_212 ?_
  refine va_sld hx hb hX hbl hbA hS (lw_in hi hNN (by decide)) dL_law_213 ?_
  refine lv_topi (fun v11 ev11 => ?_)
  refine lv_aload_n hx hb dL_law_214 rfl (lv_at hl 3 rfl) ?_
  refine lv_iload_n hx hb dL_law_215 rfl (lv_at hl 0 rfl) ?_
  refine lv_iconst (v := 5) hx hb dL_law_216 (by decide) ?_
  refine lv_iadd hx hb dL_law_217 ?_
  refine va_sld hx hb hX hbl hbA hS (lw_in hi hNN (by decide)) dL_law_218 ?_
  refine lv_topi (fun v12 ev12 => ?_)
  obtain ⟨hLK0, hk7, hk9, hI, hPG, hRI, hRJ, hUQ, hyA, hyI, hyT⟩ := id hV
  have hLK : ∀ a {k : Nat}, K a = k → k ≠ 0 → a ∈ L := fun a k e q => hLK0 a (by rw [e]; exact q)
  obtain ⟨z7, q7, o7, -⟩ := hyI.1 om hk9
  refine va_calli (va_runV (As := [.int v8, .int v9, .int v10, .int v11, .int v12]) (rest := [.int r6]) ⟨hx, hb, hml, hown, hts⟩ (y_X7_feed l dC dI H.size hLK A hyA F7 om v8 v9 v10 v11 v12 hk9 hyI) (cwV 5 hts (ax_gV T_493 T_326 T_327 T_265 T_38) rfl rfl rfl (by decide +kernel) ⟨Nat.le_of_ble_eq_true rfl, Nat.le_of_ble_eq_true rfl⟩) ⟨fun a U g mk q => ⟨q.1, s_pc (U := U) rfl rfl q.2⟩, s_recv hK hP (hLK _ hk9 (by decide)) (ci := 7) rfl o7, fun U hU hW => ⟨rfl, s_pw hU hW hP hK hD hN⟩⟩ rfl rfl hl.1 rfl (lv_room (Nat.le_of_ble_eq_true rfl)) dL_law_219 ⟨Nat.le_of_ble_eq_true rfl, Nat.le_of_ble_eq_true rfl⟩) hS (fun q _ h => hLA q h) (fun q h => hLA q h) (fun r13 F14 t H1 locs ht hvm hw hB hz1 hk1 hS => ?_)
  obtain ⟨hP, hK1⟩ := hB
  rw [ht] at hP
  generalize H1 = H at hP hS ⊢
  obtain ⟨hb_r13, hc_r13, hyI, hfr1, hf1, hp_r13⟩ := hw
  have hV := lw_y hV hyI hfr1 (by decide) (lw_T hV hfr1 (by decide) (by decide) (by decide) (hf1 15 (by decide)) (hf1 31 (by decide)) (hf1 32 (by decide)))
  have hx2 : y_fi F14 xo 1 = y_fi F7 xo 1 := lw_fi (hfr1 xo (by rw [hk7]; decide)) 1
  refine W.widen (k := 892) (n := 240949) (Nat.le_of_ble_eq_true rfl) (Nat.le_of_ble_eq_true rfl) ?_
  have p1 := hc_r6.2
  have p2 := hp_r13
  have q1 := congrArg Int32.toInt hx2
  have q2 := congrArg Int32.toInt ho1
  have q3 := congrArg Int32.toInt hB0
  have hB9 : y_fi F14 xo 1 = y_fi F14 om 1 := Int32.toInt_inj.mp (by omega)
  have er : r6 = r13 := Int32.toInt_inj.mp (by omega)
  refine lv_icmp_eq (tgt := 1099) hx hb dL_law_222 (by decide) (fun _ => ?_) (fun c => absurd er c)
  exact KK _ _ _ _ _ hV hB9 (by omega) hP hS
set_option maxHeartbeats 4000000 in
set_option maxRecDepth 100000 in
/-- end -/
theorem law_c1 {p : Program} {e : Env} {s : State} {m : MethodId} {below : List Frame} {meth : Method} {c : Code} (l : Launch) {dC : Nat → ClassId} {dI : Nat → Nat → Nat} {cs : Nat → ClassId} {b N : Nat} {xs : Nat → Int32} {L : List Nat} {A : Nat → Nat} {xo om : Nat} {K : Nat → Nat} {D : Nat} {F : Nat → va_E} {n9 : Nat} {i : Int32} {H : Heap} {locs : List Loc} {ls : Array Slot} {adK adV : Nat → Nat} {tf : Option Nat} (C0 : lw_At p s m meth c b N xs) (hK : va_K (dC, dI) vwCl [(cs 0, .int), (cs 1, .byte), (cs 2, .long), (cs 3, .object RX5), (cs 4, .object RX4), (cs 5, .array .int), (cs 6, .char), (cs 7, .boolean)] s) (hD : ∀ G, va_D (fun q => q ∈ L) (va_pl L G)) (hLA : ∀ q, q ∈ L → s.heap.size ≤ q) (hZ : s_Z L adK adV tf s) (hNN : N ≤ 3072) (hi : 0 ≤ i.toInt ∧ i.toInt + 6 ≤ N) (hn : n9 < 512) (hcz : cs 24 = 0) (hV : lw_V cs L A xo om K D F) (hB0 : y_fi F xo 1 = y_fi F om 1) (hDn : D ≤ 62000 * n9) (hP : va_P (dC, dI) vwCl (va_pl L F) H) (hS : va_S (fun q : Nat => s.heap.size ≤ q) s.heap H locs) (hl : lv_has ls 4 [(3, .int i), (2, .ref om), (1, .ref xo), (0, .ref b)]) (KK : ∀ (K : Nat → Nat) (D : Nat) (F : Nat → va_E) (H : Heap) (locs : List Loc), lw_V cs L A xo om K D F → y_fi F xo 1 = y_fi F om 1 → D ≤ 62000 * (n9 + 1) → va_P (dC, dI) vwCl (va_pl L F) H → va_S (fun q : Nat => s.heap.size ≤ q) s.heap H locs → W p l e room_1 s m #[Value.ref b] below meth c H locs 892 240949 (lw_Z below #[Value.ref b] s) (F0 m 1099 ls [])) : W p l e room_1 s m #[Value.ref b] below meth c H locs 892 240949 (lw_Z below #[Value.ref b] s) (F0 m 227 ls []) := by
  obtain ⟨hx, hb, hr, hml, hown0, hts0, hX, hbl, hlocks, hgv⟩ := id C0
  have hown : s.vm.findClass RL = some m.cls := hown0
  have hts : ∀ w ∈ T0, w.before #[Value.ref b] s = true := fun w h => hts0 w (ax_law w h).1
  have hN : ax_N s := ax_Nlaw hts0
  have hbA : ¬ (fun q : Nat => s.heap.size ≤ q) b := Nat.not_le.mpr hbl
  refine lv_aload_n hx hb dL_law_227 rfl (lv_at hl 2 rfl) ?_
  refine lv_aload_n hx hb dL_law_228 rfl (lv_at hl 3 rfl) ?_
  refine lv_iload_n hx hb dL_law_229 rfl (lv_at hl 0 rfl) ?_
  refine lv_iconst (v := 1) hx hb dL_law_230 (by decide) ?_
  refine lv_iadd hx hb dL_law_231 ?_
  refine va_sld hx hb hX hbl hbA hS (lw_in hi hNN (by decide)) dL_law_232 ?_
  refine lv_topi (fun v1 ev1 => ?_)
  obtain ⟨hLK0, hk7, hk9, hI, hPG, hRI, hRJ, hUQ, hyA, hyI, hyT⟩ := id hV
  have hLK : ∀ a {k : Nat}, K a = k → k ≠ 0 → a ∈ L := fun a k e q => hLK0 a (by rw [e]; exact q)
  obtain ⟨fs6, o6⟩ := lw_o6 hI hk7
  refine va_calli (va_runV (As := [.int v1]) (rest := []) ⟨hx, hb, hml, hown, hts⟩ (s_X6_end l dC dI H.size hLK D F xo v1 hk7 hI hcz) (cwV 1 hts (ax_gV T_494 T_328 T_329 T_193 T_39) rfl rfl rfl (by decide +kernel) ⟨Nat.le_of_ble_eq_true rfl, Nat.le_of_ble_eq_true rfl⟩) ⟨fun a U g mk q => ⟨q.1, s_pc (U := U) rfl rfl q.2⟩, s_recv hK hP (hLK _ hk7 (by decide)) (ci := 6) rfl o6, fun U hU hW => ⟨rfl, s_pw hU hW hP hK hD hN⟩⟩ rfl rfl hl.1 rfl (lv_room (Nat.le_of_ble_eq_true rfl)) dL_law_233 ⟨Nat.le_of_ble_eq_true rfl, Nat.le_of_ble_eq_true rfl⟩) hS (fun q _ h => hLA q h) (fun q h => hLA q h) (fun r2 F3 t H1 locs ht hvm hw hB hz1 hk1 hS => ?_)
  obtain ⟨hP, hK1⟩ := hB
  rw [ht] at hP
  generalize H1 = H at hP hS ⊢
  obtain ⟨hb_r2, hc_r2, hI, hfr1⟩ := hw
  have hV := lw_x hV hI hfr1 (by decide)
  have ho1 : y_fi F3 om 1 = y_fi F om 1 := lw_fi (hfr1 om (by rw [hk9]; decide)) 1
  refine W.widen (k := 892) (n := 240949) (Nat.le_of_ble_eq_true rfl) (Nat.le_of_ble_eq_true rfl) ?_
  refine lv_pop hx hb dL_law_236 rfl ?_
  refine lv_aload_n hx hb dL_law_237 rfl (lv_at hl 1 rfl) ?_
  refine lv_aload_n hx hb dL_law_238 rfl (lv_at hl 3 rfl) ?_
  refine lv_iload_n hx hb dL_law_239 rfl (lv_at hl 0 rfl) ?_
  refine lv_iconst (v := 1) hx hb dL_law_240 (by decide) ?_
  refine lv_iadd hx hb dL_law_241 ?_
  refine va_sld hx hb hX hbl hbA hS (lw_in hi hNN (by decide)) dL_law_242 ?_
  refine lv_topi (fun v4 ev4 => ?_)
  obtain ⟨hLK0, hk7, hk9, hI, hPG, hRI, hRJ, hUQ, hyA, hyI, hyT⟩ := id hV
  have hLK : ∀ a {k : Nat}, K a = k → k ≠ 0 → a ∈ L := fun a k e q => hLK0 a (by rw [e]; exact q)
  obtain ⟨z7, q7, o7, -⟩ := hyI.1 om hk9
  refine va_calli (va_runV (As := [.int v4]) (rest := []) ⟨hx, hb, hml, hown, hts⟩ (y_X7_end l dC dI H.size hLK A hyA F3 om v4 hk9 hyI) (cwV 1 hts (ax_gV T_495 T_330 T_331 T_265 T_40) rfl rfl rfl (by decide +kernel) ⟨Nat.le_of_ble_eq_true rfl, Nat.le_of_ble_eq_true rfl⟩) ⟨fun a U g mk q => ⟨q.1, s_pc (U := U) rfl rfl q.2⟩, s_recv hK hP (hLK _ hk9 (by decide)) (ci := 7) rfl o7, fun U hU hW => ⟨rfl, s_pw hU hW hP hK hD hN⟩⟩ rfl rfl hl.1 rfl (lv_room (Nat.le_of_ble_eq_true rfl)) dL_law_243 ⟨Nat.le_of_ble_eq_true rfl, Nat.le_of_ble_eq_true rfl⟩) hS (fun q _ h => hLA q h) (fun q h => hLA q h) (fun r5 F6 t H1 locs ht hvm hw hB hz1 hk1 hS => ?_)
  obtain ⟨hP, hK1⟩ := hB
  rw [ht] at hP
  generalize H1 = H at hP hS ⊢
  obtain ⟨hb_r5, hc_r5, hyI, hfr1, hf1, hp_r5⟩ := hw
  have hV := lw_y hV hyI hfr1 (by decide) (lw_T hV hfr1 (by decide) (by decide) (by decide) (hf1 15 (by decide)) (hf1 31 (by decide)) (hf1 32 (by decide)))
  have hx2 : y_fi F6 xo 1 = y_fi F3 xo 1 := lw_fi (hfr1 xo (by rw [hk7]; decide)) 1
  refine W.widen (k := 892) (n := 240949) (Nat.le_of_ble_eq_true rfl) (Nat.le_of_ble_eq_true rfl) ?_
  refine lv_pop hx hb dL_law_246 rfl ?_
  have p1 := hc_r2.2
  have p2 := hp_r5
  have ev := congrArg Int32.toInt (ev4.trans ev1.symm)
  have q1 := congrArg Int32.toInt hx2
  have q2 := congrArg Int32.toInt ho1
  have q3 := congrArg Int32.toInt hB0
  have hB9 : y_fi F6 xo 1 = y_fi F6 om 1 := Int32.toInt_inj.mp (by omega)
  refine lv_goto (tgt := 1099) hx hb dL_law_247 (by decide) ?_
  exact KK _ _ _ _ _ hV hB9 (by omega) hP hS
set_option maxHeartbeats 4000000 in
set_option maxRecDepth 100000 in
/-- program -/
theorem law_c2 {p : Program} {e : Env} {s : State} {m : MethodId} {below : List Frame} {meth : Method} {c : Code} (l : Launch) {dC : Nat → ClassId} {dI : Nat → Nat → Nat} {cs : Nat → ClassId} {b N : Nat} {xs : Nat → Int32} {L : List Nat} {A : Nat → Nat} {xo om : Nat} {K : Nat → Nat} {D : Nat} {F : Nat → va_E} {n9 : Nat} {i : Int32} {H : Heap} {locs : List Loc} {ls : Array Slot} {adK adV : Nat → Nat} {tf : Option Nat} (C0 : lw_At p s m meth c b N xs) (hK : va_K (dC, dI) vwCl [(cs 0, .int), (cs 1, .byte), (cs 2, .long), (cs 3, .object RX5), (cs 4, .object RX4), (cs 5, .array .int), (cs 6, .char), (cs 7, .boolean)] s) (hD : ∀ G, va_D (fun q => q ∈ L) (va_pl L G)) (hLA : ∀ q, q ∈ L → s.heap.size ≤ q) (hZ : s_Z L adK adV tf s) (hNN : N ≤ 3072) (hi : 0 ≤ i.toInt ∧ i.toInt + 6 ≤ N) (hn : n9 < 512) (hcz : cs 24 = 0) (hV : lw_V cs L A xo om K D F) (hB0 : y_fi F xo 1 = y_fi F om 1) (hDn : D ≤ 62000 * n9) (hP : va_P (dC, dI) vwCl (va_pl L F) H) (hS : va_S (fun q : Nat => s.heap.size ≤ q) s.heap H locs) (hl : lv_has ls 4 [(3, .int i), (2, .ref om), (1, .ref xo), (0, .ref b)]) (KK : ∀ (K : Nat → Nat) (D : Nat) (F : Nat → va_E) (H : Heap) (locs : List Loc), lw_V cs L A xo om K D F → y_fi F xo 1 = y_fi F om 1 → D ≤ 62000 * (n9 + 1) → va_P (dC, dI) vwCl (va_pl L F) H → va_S (fun q : Nat => s.heap.size ≤ q) s.heap H locs → W p l e room_1 s m #[Value.ref b] below meth c H locs 892 240949 (lw_Z below #[Value.ref b] s) (F0 m 1099 ls [])) : W p l e room_1 s m #[Value.ref b] below meth c H locs 892 240949 (lw_Z below #[Value.ref b] s) (F0 m 250 ls []) := by
  obtain ⟨hx, hb, hr, hml, hown0, hts0, hX, hbl, hlocks, hgv⟩ := id C0
  have hown : s.vm.findClass RL = some m.cls := hown0
  have hts : ∀ w ∈ T0, w.before #[Value.ref b] s = true := fun w h => hts0 w (ax_law w h).1
  have hN : ax_N s := ax_Nlaw hts0
  have hbA : ¬ (fun q : Nat => s.heap.size ≤ q) b := Nat.not_le.mpr hbl
  refine lv_aload_n hx hb dL_law_250 rfl (lv_at hl 2 rfl) ?_
  obtain ⟨hLK0, hk7, hk9, hI, hPG, hRI, hRJ, hUQ, hyA, hyI, hyT⟩ := id hV
  have hLK : ∀ a {k : Nat}, K a = k → k ≠ 0 → a ∈ L := fun a k e q => hLK0 a (by rw [e]; exact q)
  obtain ⟨fs6, o6⟩ := lw_o6 hI hk7
  refine va_calli (va_runV (As := []) (rest := []) ⟨hx, hb, hml, hown, hts⟩ (s_X6_program l dC dI H.size hLK D adK adV tf F xo  hk7 hI hRI hRJ hPG hUQ hcz) (cwV 0 hts (ax_gV T_496 T_332 T_333 T_193 T_41) rfl rfl rfl (by decide +kernel) ⟨Nat.le_of_ble_eq_true rfl, Nat.le_of_ble_eq_true rfl⟩) ⟨fun a U g mk q => ⟨q.1, s_pc (U := U) rfl rfl q.2.1, s_pcZ (U := U) rfl rfl q.2.2⟩, s_recv hK hP (hLK _ hk7 (by decide)) (ci := 6) rfl o6, fun U hU hW => ⟨rfl, s_pw hU hW hP hK hD hN, s_pwZ (locs := []) hU hW ⟨hS.1, fun q h1 _ => hS.2.1 q h1 (Nat.not_le.mpr h1), fun l h => (by cases h)⟩ hZ⟩⟩ rfl rfl hl.1 rfl (lv_room (Nat.le_of_ble_eq_true rfl)) dL_law_251 ⟨Nat.le_of_ble_eq_true rfl, Nat.le_of_ble_eq_true rfl⟩) hS (fun q _ h => hLA q h) (fun q h => hLA q h) (fun r1 u t H1 locs ht hvm hw hB hz1 hk1 hS => ?_)
  obtain ⟨K3, F2⟩ := u
  obtain ⟨hP, hK1⟩ := hB
  rw [ht] at hP
  generalize H1 = H at hP hS ⊢
  obtain ⟨hI, hkk, hp1, hr1, hj1, hz9, hfr1⟩ := hw
  have hP : va_P (dC, dI) vwCl (va_pl L F2) H := hP
  have hV := lw_p hV hI hkk hp1 hr1 hj1 hfr1 (by decide)
  have hV : lw_V cs L A xo om K3 D F2 := hV
  have hz9 : y_fi F2 xo 1 = 0 := hz9
  have ho1 : y_fi F2 om 1 = y_fi F om 1 := lw_fi (hfr1 om (by rw [hk9]; decide)) 1
  refine W.widen (k := 892) (n := 240949) (Nat.le_of_ble_eq_true rfl) (Nat.le_of_ble_eq_true rfl) ?_
  refine lv_pop hx hb dL_law_254 rfl ?_
  refine lv_aload_n hx hb dL_law_255 rfl (lv_at hl 1 rfl) ?_
  obtain ⟨hLK0, hk7, hk9, hI, hPG, hRI, hRJ, hUQ, hyA, hyI, hyT⟩ := id hV
  have hLK : ∀ a {k : Nat}, K3 a = k → k ≠ 0 → a ∈ L := fun a k e q => hLK0 a (by rw [e]; exact q)
  obtain ⟨z7, q7, o7, -⟩ := hyI.1 om hk9
  refine va_calli (va_runV (As := []) (rest := []) ⟨hx, hb, hml, hown, hts⟩ (y_X7_program l dC dI H.size hLK A hyA F2 om  hk9 hyI hyT) (cwV 0 hts (ax_gV T_497 T_334 T_335 T_265 T_42) rfl rfl rfl (by decide +kernel) ⟨Nat.le_of_ble_eq_true rfl, Nat.le_of_ble_eq_true rfl⟩) ⟨fun a U g mk q => ⟨q.1, s_pc (U := U) rfl rfl q.2⟩, s_recv hK hP (hLK _ hk9 (by decide)) (ci := 7) rfl o7, fun U hU hW => ⟨rfl, s_pw hU hW hP hK hD hN⟩⟩ rfl rfl hl.1 rfl (lv_room (Nat.le_of_ble_eq_true rfl)) dL_law_256 ⟨Nat.le_of_ble_eq_true rfl, Nat.le_of_ble_eq_true rfl⟩) hS (fun q _ h => hLA q h) (fun q h => hLA q h) (fun r4 F5 t H1 locs ht hvm hw hB hz1 hk1 hS => ?_)
  obtain ⟨hP, hK1⟩ := hB
  rw [ht] at hP
  generalize H1 = H at hP hS ⊢
  obtain ⟨hb_r4, hc_r4, hyI, hfr1, hf1, hp_r4⟩ := hw
  have hV := lw_y hV hyI hfr1 (by decide) hp_r4.1
  have hx2 : y_fi F5 xo 1 = y_fi F2 xo 1 := lw_fi (hfr1 xo (by rw [hk7]; decide)) 1
  refine W.widen (k := 892) (n := 240949) (Nat.le_of_ble_eq_true rfl) (Nat.le_of_ble_eq_true rfl) ?_
  refine lv_pop hx hb dL_law_259 rfl ?_
  have p1 := congrArg Int32.toInt hz9
  have p2 := hp_r4.2
  have p0 : (0 : Int32).toInt = 0 := by decide
  have q1 := congrArg Int32.toInt hx2
  have q2 := congrArg Int32.toInt ho1
  have q3 := congrArg Int32.toInt hB0
  have hB9 : y_fi F5 xo 1 = y_fi F5 om 1 := Int32.toInt_inj.mp (by omega)
  refine lv_goto (tgt := 1099) hx hb dL_law_260 (by decide) ?_
  exact KK _ _ _ _ _ hV hB9 (by omega) hP hS
set_option maxHeartbeats 4000000 in
set_option maxRecDepth 100000 in
/-- fault -/
theorem law_c3 {p : Program} {e : Env} {s : State} {m : MethodId} {below : List Frame} {meth : Method} {c : Code} (l : Launch) {dC : Nat → ClassId} {dI : Nat → Nat → Nat} {cs : Nat → ClassId} {b N : Nat} {xs : Nat → Int32} {L : List Nat} {A : Nat → Nat} {xo om : Nat} {K : Nat → Nat} {D : Nat} {F : Nat → va_E} {n9 : Nat} {i : Int32} {H : Heap} {locs : List Loc} {ls : Array Slot} {adK adV : Nat → Nat} {tf : Option Nat} (C0 : lw_At p s m meth c b N xs) (hK : va_K (dC, dI) vwCl [(cs 0, .int), (cs 1, .byte), (cs 2, .long), (cs 3, .object RX5), (cs 4, .object RX4), (cs 5, .array .int), (cs 6, .char), (cs 7, .boolean)] s) (hD : ∀ G, va_D (fun q => q ∈ L) (va_pl L G)) (hLA : ∀ q, q ∈ L → s.heap.size ≤ q) (hZ : s_Z L adK adV tf s) (hNN : N ≤ 3072) (hi : 0 ≤ i.toInt ∧ i.toInt + 6 ≤ N) (hn : n9 < 512) (hcz : cs 24 = 0) (hV : lw_V cs L A xo om K D F) (hB0 : y_fi F xo 1 = y_fi F om 1) (hDn : D ≤ 62000 * n9) (hP : va_P (dC, dI) vwCl (va_pl L F) H) (hS : va_S (fun q : Nat => s.heap.size ≤ q) s.heap H locs) (hl : lv_has ls 4 [(3, .int i), (2, .ref om), (1, .ref xo), (0, .ref b)]) (KK : ∀ (K : Nat → Nat) (D : Nat) (F : Nat → va_E) (H : Heap) (locs : List Loc), lw_V cs L A xo om K D F → y_fi F xo 1 = y_fi F om 1 → D ≤ 62000 * (n9 + 1) → va_P (dC, dI) vwCl (va_pl L F) H → va_S (fun q : Nat => s.heap.size ≤ q) s.heap H locs → W p l e room_1 s m #[Value.ref b] below meth c H locs 892 240949 (lw_Z below #[Value.ref b] s) (F0 m 1099 ls [])) : W p l e room_1 s m #[Value.ref b] below meth c H locs 892 240949 (lw_Z below #[Value.ref b] s) (F0 m 263 ls []) := by
  obtain ⟨hx, hb, hr, hml, hown0, hts0, hX, hbl, hlocks, hgv⟩ := id C0
  have hown : s.vm.findClass RL = some m.cls := hown0
  have hts : ∀ w ∈ T0, w.before #[Value.ref b] s = true := fun w h => hts0 w (ax_law w h).1
  have hN : ax_N s := ax_Nlaw hts0
  have hbA : ¬ (fun q : Nat => s.heap.size ≤ q) b := Nat.not_le.mpr hbl
  refine lv_aload_n hx hb dL_law_263 rfl (lv_at hl 2 rfl) ?_
  refine lv_aload_n hx hb dL_law_264 rfl (lv_at hl 3 rfl) ?_
  refine lv_iload_n hx hb dL_law_265 rfl (lv_at hl 0 rfl) ?_
  refine lv_iconst (v := 1) hx hb dL_law_266 (by decide) ?_
  refine lv_iadd hx hb dL_law_267 ?_
  refine va_sld hx hb hX hbl hbA hS (lw_in hi hNN (by decide)) dL_law_268 ?_
  refine lv_topi (fun v1 ev1 => ?_)
  obtain ⟨hLK0, hk7, hk9, hI, hPG, hRI, hRJ, hUQ, hyA, hyI, hyT⟩ := id hV
  have hLK : ∀ a {k : Nat}, K a = k → k ≠ 0 → a ∈ L := fun a k e q => hLK0 a (by rw [e]; exact q)
  obtain ⟨fs6, o6⟩ := lw_o6 hI hk7
  have hIc := lw_cI hUQ.1 (lw_nn hk7 hI) hI
  have hKc : va_K (dC, dI) vwCl [(lw_c1 cs (y_fi F xo 1).toInt.toNat 0, .int), (lw_c1 cs (y_fi F xo 1).toInt.toNat 1, .byte), (lw_c1 cs (y_fi F xo 1).toInt.toNat 2, .long), (lw_c1 cs (y_fi F xo 1).toInt.toNat 3, .object RX5), (lw_c1 cs (y_fi F xo 1).toInt.toNat 4, .object RX4), (lw_c1 cs (y_fi F xo 1).toInt.toNat 5, .array .int), (lw_c1 cs (y_fi F xo 1).toInt.toNat 6, .char), (lw_c1 cs (y_fi F xo 1).toInt.toNat 7, .boolean)] s := hK
  refine va_calli (va_runV (As := [.int v1]) (rest := []) ⟨hx, hb, hml, hown, hts⟩ (s_X6_fault l dC dI H.size (cs := lw_c1 cs (y_fi F xo 1).toInt.toNat) hLK D F xo v1 hk7 hIc) (cwV 1 hts (ax_gV T_498 T_336 T_337 T_193 T_43) rfl rfl rfl (by decide +kernel) ⟨Nat.le_of_ble_eq_true rfl, Nat.le_of_ble_eq_true rfl⟩) ⟨fun a U g mk q => ⟨q.1, s_pc (U := U) rfl rfl q.2⟩, s_recv hK hP (hLK _ hk7 (by decide)) (ci := 6) rfl o6, fun U hU hW => ⟨rfl, s_pw hU hW hP hKc hD hN⟩⟩ rfl rfl hl.1 rfl (lv_room (Nat.le_of_ble_eq_true rfl)) dL_law_269 ⟨Nat.le_of_ble_eq_true rfl, Nat.le_of_ble_eq_true rfl⟩) hS (fun q _ h => hLA q h) (fun q h => hLA q h) (fun r2 F3 t H1 locs ht hvm hw hB hz1 hk1 hS => ?_)
  obtain ⟨hP, hK1⟩ := hB
  rw [ht] at hP
  generalize H1 = H at hP hS ⊢
  obtain ⟨hb_r2, hc_r2, hI, hfr1⟩ := hw
  have hx1 : y_fi F3 xo 1 = y_fi F xo 1 := Int32.toInt_inj.mp ((lw_cE hk7 hI).trans (lw_nn hk7 (lw_cB hcz hIc)).symm)
  have hI := lw_cB hcz hI
  have hV := lw_x hV hI hfr1 (by decide)
  have ho1 : y_fi F3 om 1 = y_fi F om 1 := lw_fi (hfr1 om (by rw [hk9]; decide)) 1
  refine W.widen (k := 892) (n := 240949) (Nat.le_of_ble_eq_true rfl) (Nat.le_of_ble_eq_true rfl) ?_
  refine lv_pop hx hb dL_law_272 rfl ?_
  refine lv_aload_n hx hb dL_law_273 rfl (lv_at hl 1 rfl) ?_
  refine lv_aload_n hx hb dL_law_274 rfl (lv_at hl 3 rfl) ?_
  refine lv_iload_n hx hb dL_law_275 rfl (lv_at hl 0 rfl) ?_
  refine lv_iconst (v := 1) hx hb dL_law_276 (by decide) ?_
  refine lv_iadd hx hb dL_law_277 ?_
  refine va_sld hx hb hX hbl hbA hS (lw_in hi hNN (by decide)) dL_law_278 ?_
  refine lv_topi (fun v4 ev4 => ?_)
  obtain ⟨hLK0, hk7, hk9, hI, hPG, hRI, hRJ, hUQ, hyA, hyI, hyT⟩ := id hV
  have hLK : ∀ a {k : Nat}, K a = k → k ≠ 0 → a ∈ L := fun a k e q => hLK0 a (by rw [e]; exact q)
  obtain ⟨z7, q7, o7, -⟩ := hyI.1 om hk9
  refine va_calli (va_runV (As := [.int v4]) (rest := []) ⟨hx, hb, hml, hown, hts⟩ (y_X7_fault l dC dI H.size hLK A hyA F3 om v4 hk9 hyI) (cwV 1 hts (ax_gV T_499 T_338 T_339 T_265 T_44) rfl rfl rfl (by decide +kernel) ⟨Nat.le_of_ble_eq_true rfl, Nat.le_of_ble_eq_true rfl⟩) ⟨fun a U g mk q => ⟨q.1, s_pc (U := U) rfl rfl q.2⟩, s_recv hK hP (hLK _ hk9 (by decide)) (ci := 7) rfl o7, fun U hU hW => ⟨rfl, s_pw hU hW hP hK hD hN⟩⟩ rfl rfl hl.1 rfl (lv_room (Nat.le_of_ble_eq_true rfl)) dL_law_279 ⟨Nat.le_of_ble_eq_true rfl, Nat.le_of_ble_eq_true rfl⟩) hS (fun q _ h => hLA q h) (fun q h => hLA q h) (fun r5 F6 t H1 locs ht hvm hw hB hz1 hk1 hS => ?_)
  obtain ⟨hP, hK1⟩ := hB
  rw [ht] at hP
  generalize H1 = H at hP hS ⊢
  obtain ⟨hb_r5, hc_r5, hyI, hfr1, hf1, hp_r5⟩ := hw
  have hV := lw_y hV hyI hfr1 (by decide) (lw_T hV hfr1 (by decide) (by decide) (by decide) (hf1 15 (by decide)) (hf1 31 (by decide)) (hf1 32 (by decide)))
  have hx2 : y_fi F6 xo 1 = y_fi F3 xo 1 := lw_fi (hfr1 xo (by rw [hk7]; decide)) 1
  have ho2 : y_fi F6 om 1 = y_fi F3 om 1 := hf1 1 (by decide)
  refine W.widen (k := 892) (n := 240949) (Nat.le_of_ble_eq_true rfl) (Nat.le_of_ble_eq_true rfl) ?_
  refine lv_pop hx hb dL_law_282 rfl ?_
  have hB9 : y_fi F6 xo 1 = y_fi F6 om 1 := hx2.trans (hx1.trans (hB0.trans (ho1.symm.trans ho2.symm)))
  refine lv_goto (tgt := 1099) hx hb dL_law_283 (by decide) ?_
  exact KK _ _ _ _ _ hV hB9 (by omega) hP hS
set_option maxHeartbeats 4000000 in
set_option maxRecDepth 100000 in
/-- has -/
theorem law_c4 {p : Program} {e : Env} {s : State} {m : MethodId} {below : List Frame} {meth : Method} {c : Code} (l : Launch) {dC : Nat → ClassId} {dI : Nat → Nat → Nat} {cs : Nat → ClassId} {b N : Nat} {xs : Nat → Int32} {L : List Nat} {A : Nat → Nat} {xo om : Nat} {K : Nat → Nat} {D : Nat} {F : Nat → va_E} {n9 : Nat} {i : Int32} {H : Heap} {locs : List Loc} {ls : Array Slot} {adK adV : Nat → Nat} {tf : Option Nat} (C0 : lw_At p s m meth c b N xs) (hK : va_K (dC, dI) vwCl [(cs 0, .int), (cs 1, .byte), (cs 2, .long), (cs 3, .object RX5), (cs 4, .object RX4), (cs 5, .array .int), (cs 6, .char), (cs 7, .boolean)] s) (hD : ∀ G, va_D (fun q => q ∈ L) (va_pl L G)) (hLA : ∀ q, q ∈ L → s.heap.size ≤ q) (hZ : s_Z L adK adV tf s) (hNN : N ≤ 3072) (hi : 0 ≤ i.toInt ∧ i.toInt + 6 ≤ N) (hn : n9 < 512) (hcz : cs 24 = 0) (hV : lw_V cs L A xo om K D F) (hB0 : y_fi F xo 1 = y_fi F om 1) (hDn : D ≤ 62000 * n9) (hP : va_P (dC, dI) vwCl (va_pl L F) H) (hS : va_S (fun q : Nat => s.heap.size ≤ q) s.heap H locs) (hl : lv_has ls 4 [(3, .int i), (2, .ref om), (1, .ref xo), (0, .ref b)]) (KK : ∀ (K : Nat → Nat) (D : Nat) (F : Nat → va_E) (H : Heap) (locs : List Loc), lw_V cs L A xo om K D F → y_fi F xo 1 = y_fi F om 1 → D ≤ 62000 * (n9 + 1) → va_P (dC, dI) vwCl (va_pl L F) H → va_S (fun q : Nat => s.heap.size ≤ q) s.heap H locs → W p l e room_1 s m #[Value.ref b] below meth c H locs 892 240949 (lw_Z below #[Value.ref b] s) (F0 m 1099 ls [])) : W p l e room_1 s m #[Value.ref b] below meth c H locs 892 240949 (lw_Z below #[Value.ref b] s) (F0 m 286 ls []) := by
  obtain ⟨hx, hb, hr, hml, hown0, hts0, hX, hbl, hlocks, hgv⟩ := id C0
  have hown : s.vm.findClass RL = some m.cls := hown0
  have hts : ∀ w ∈ T0, w.before #[Value.ref b] s = true := fun w h => hts0 w (ax_law w h).1
  have hN : ax_N s := ax_Nlaw hts0
  have hbA : ¬ (fun q : Nat => s.heap.size ≤ q) b := Nat.not_le.mpr hbl
  refine lv_aload_n hx hb dL_law_286 rfl (lv_at hl 2 rfl) ?_
  refine lv_aload_n hx hb dL_law_287 rfl (lv_at hl 3 rfl) ?_
  refine lv_iload_n hx hb dL_law_288 rfl (lv_at hl 0 rfl) ?_
  refine lv_iconst (v := 1) hx hb dL_law_289 (by decide) ?_
  refine lv_iadd hx hb dL_law_290 ?_
  refine va_sld hx hb hX hbl hbA hS (lw_in hi hNN (by decide)) dL_law_291 ?_
  refine lv_topi (fun v1 ev1 => ?_)
  obtain ⟨hLK0, hk7, hk9, hI, hPG, hRI, hRJ, hUQ, hyA, hyI, hyT⟩ := id hV
  have hLK : ∀ a {k : Nat}, K a = k → k ≠ 0 → a ∈ L := fun a k e q => hLK0 a (by rw [e]; exact q)
  obtain ⟨fs6, o6⟩ := lw_o6 hI hk7
  have hIc := lw_cI hUQ.1 (lw_nn hk7 hI) hI
  have hKc : va_K (dC, dI) vwCl [(lw_c1 cs (y_fi F xo 1).toInt.toNat 0, .int), (lw_c1 cs (y_fi F xo 1).toInt.toNat 1, .byte), (lw_c1 cs (y_fi F xo 1).toInt.toNat 2, .long), (lw_c1 cs (y_fi F xo 1).toInt.toNat 3, .object RX5), (lw_c1 cs (y_fi F xo 1).toInt.toNat 4, .object RX4), (lw_c1 cs (y_fi F xo 1).toInt.toNat 5, .array .int), (lw_c1 cs (y_fi F xo 1).toInt.toNat 6, .char), (lw_c1 cs (y_fi F xo 1).toInt.toNat 7, .boolean)] s := hK
  refine va_calli (va_runV (As := [.int v1]) (rest := []) ⟨hx, hb, hml, hown, hts⟩ (s_X6_has l dC dI H.size (cs := lw_c1 cs (y_fi F xo 1).toInt.toNat) hLK D F xo v1 hk7 hIc) (cwV 1 hts (ax_gV T_500 T_340 T_341 T_193 T_45) rfl rfl rfl (by decide +kernel) ⟨Nat.le_of_ble_eq_true rfl, Nat.le_of_ble_eq_true rfl⟩) ⟨fun a U g mk q => ⟨q.1, s_pc (U := U) rfl rfl q.2⟩, s_recv hK hP (hLK _ hk7 (by decide)) (ci := 6) rfl o6, fun U hU hW => ⟨rfl, s_pw hU hW hP hKc hD hN⟩⟩ rfl rfl hl.1 rfl (lv_room (Nat.le_of_ble_eq_true rfl)) dL_law_292 ⟨Nat.le_of_ble_eq_true rfl, Nat.le_of_ble_eq_true rfl⟩) hS (fun q _ h => hLA q h) (fun q h => hLA q h) (fun r2 F3 t H1 locs ht hvm hw hB hz1 hk1 hS => ?_)
  obtain ⟨hP, hK1⟩ := hB
  rw [ht] at hP
  generalize H1 = H at hP hS ⊢
  obtain ⟨hb_r2, hc_r2, hI, hfr1⟩ := hw
  have hx1 : y_fi F3 xo 1 = y_fi F xo 1 := Int32.toInt_inj.mp ((lw_cE hk7 hI).trans (lw_nn hk7 (lw_cB hcz hIc)).symm)
  have hI := lw_cB hcz hI
  have hV := lw_x hV hI hfr1 (by decide)
  have ho1 : y_fi F3 om 1 = y_fi F om 1 := lw_fi (hfr1 om (by rw [hk9]; decide)) 1
  refine W.widen (k := 892) (n := 240949) (Nat.le_of_ble_eq_true rfl) (Nat.le_of_ble_eq_true rfl) ?_
  refine lv_pop hx hb dL_law_295 rfl ?_
  refine lv_aload_n hx hb dL_law_296 rfl (lv_at hl 1 rfl) ?_
  refine lv_aload_n hx hb dL_law_297 rfl (lv_at hl 3 rfl) ?_
  refine lv_iload_n hx hb dL_law_298 rfl (lv_at hl 0 rfl) ?_
  refine lv_iconst (v := 1) hx hb dL_law_299 (by decide) ?_
  refine lv_iadd hx hb dL_law_300 ?_
  refine va_sld hx hb hX hbl hbA hS (lw_in hi hNN (by decide)) dL_law_301 ?_
  refine lv_topi (fun v4 ev4 => ?_)
  obtain ⟨hLK0, hk7, hk9, hI, hPG, hRI, hRJ, hUQ, hyA, hyI, hyT⟩ := id hV
  have hLK : ∀ a {k : Nat}, K a = k → k ≠ 0 → a ∈ L := fun a k e q => hLK0 a (by rw [e]; exact q)
  obtain ⟨z7, q7, o7, -⟩ := hyI.1 om hk9
  refine va_calli (va_runV (As := [.int v4]) (rest := []) ⟨hx, hb, hml, hown, hts⟩ (y_X7_has l dC dI H.size hLK A hyA F3 om v4 hk9 hyI hyT) (cwV 1 hts (ax_gV T_501 T_342 T_343 T_265 T_46) rfl rfl rfl (by decide +kernel) ⟨Nat.le_of_ble_eq_true rfl, Nat.le_of_ble_eq_true rfl⟩) ⟨fun a U g mk q => ⟨q.1, s_pc (U := U) rfl rfl q.2⟩, s_recv hK hP (hLK _ hk9 (by decide)) (ci := 7) rfl o7, fun U hU hW => ⟨rfl, s_pw hU hW hP hK hD hN⟩⟩ rfl rfl hl.1 rfl (lv_room (Nat.le_of_ble_eq_true rfl)) dL_law_302 ⟨Nat.le_of_ble_eq_true rfl, Nat.le_of_ble_eq_true rfl⟩) hS (fun q _ h => hLA q h) (fun q h => hLA q h) (fun r5 F6 t H1 locs ht hvm hw hB hz1 hk1 hS => ?_)
  obtain ⟨hP, hK1⟩ := hB
  rw [ht] at hP
  generalize H1 = H at hP hS ⊢
  obtain ⟨hb_r5, hc_r5, hyI, hfr1, hf1, hp_r5⟩ := hw
  have hV := lw_y hV hyI hfr1 (by decide) hp_r5
  have hx2 : y_fi F6 xo 1 = y_fi F3 xo 1 := lw_fi (hfr1 xo (by rw [hk7]; decide)) 1
  have ho2 : y_fi F6 om 1 = y_fi F3 om 1 := hf1 1 (by decide)
  refine W.widen (k := 892) (n := 240949) (Nat.le_of_ble_eq_true rfl) (Nat.le_of_ble_eq_true rfl) ?_
  refine lv_pop hx hb dL_law_305 rfl ?_
  have hB9 : y_fi F6 xo 1 = y_fi F6 om 1 := hx2.trans (hx1.trans (hB0.trans (ho1.symm.trans ho2.symm)))
  refine lv_goto (tgt := 1099) hx hb dL_law_306 (by decide) ?_
  exact KK _ _ _ _ _ hV hB9 (by omega) hP hS
set_option maxHeartbeats 4000000 in
set_option maxRecDepth 100000 in
/-- line -/
theorem law_c5 {p : Program} {e : Env} {s : State} {m : MethodId} {below : List Frame} {meth : Method} {c : Code} (l : Launch) {dC : Nat → ClassId} {dI : Nat → Nat → Nat} {cs : Nat → ClassId} {b N : Nat} {xs : Nat → Int32} {L : List Nat} {A : Nat → Nat} {xo om : Nat} {K : Nat → Nat} {D : Nat} {F : Nat → va_E} {n9 : Nat} {i : Int32} {H : Heap} {locs : List Loc} {ls : Array Slot} {adK adV : Nat → Nat} {tf : Option Nat} (C0 : lw_At p s m meth c b N xs) (hK : va_K (dC, dI) vwCl [(cs 0, .int), (cs 1, .byte), (cs 2, .long), (cs 3, .object RX5), (cs 4, .object RX4), (cs 5, .array .int), (cs 6, .char), (cs 7, .boolean)] s) (hD : ∀ G, va_D (fun q => q ∈ L) (va_pl L G)) (hLA : ∀ q, q ∈ L → s.heap.size ≤ q) (hZ : s_Z L adK adV tf s) (hNN : N ≤ 3072) (hi : 0 ≤ i.toInt ∧ i.toInt + 6 ≤ N) (hn : n9 < 512) (hcz : cs 24 = 0) (hV : lw_V cs L A xo om K D F) (hB0 : y_fi F xo 1 = y_fi F om 1) (hDn : D ≤ 62000 * n9) (hP : va_P (dC, dI) vwCl (va_pl L F) H) (hS : va_S (fun q : Nat => s.heap.size ≤ q) s.heap H locs) (hl : lv_has ls 4 [(3, .int i), (2, .ref om), (1, .ref xo), (0, .ref b)]) (KK : ∀ (K : Nat → Nat) (D : Nat) (F : Nat → va_E) (H : Heap) (locs : List Loc), lw_V cs L A xo om K D F → y_fi F xo 1 = y_fi F om 1 → D ≤ 62000 * (n9 + 1) → va_P (dC, dI) vwCl (va_pl L F) H → va_S (fun q : Nat => s.heap.size ≤ q) s.heap H locs → W p l e room_1 s m #[Value.ref b] below meth c H locs 892 240949 (lw_Z below #[Value.ref b] s) (F0 m 1099 ls [])) : W p l e room_1 s m #[Value.ref b] below meth c H locs 892 240949 (lw_Z below #[Value.ref b] s) (F0 m 309 ls []) := by
  obtain ⟨hx, hb, hr, hml, hown0, hts0, hX, hbl, hlocks, hgv⟩ := id C0
  have hown : s.vm.findClass RL = some m.cls := hown0
  have hts : ∀ w ∈ T0, w.before #[Value.ref b] s = true := fun w h => hts0 w (ax_law w h).1
  have hN : ax_N s := ax_Nlaw hts0
  have hbA : ¬ (fun q : Nat => s.heap.size ≤ q) b := Nat.not_le.mpr hbl
  refine lv_aload_n hx hb dL_law_309 rfl (lv_at hl 2 rfl) ?_
  refine lv_aload_n hx hb dL_law_310 rfl (lv_at hl 3 rfl) ?_
  refine lv_iload_n hx hb dL_law_311 rfl (lv_at hl 0 rfl) ?_
  refine lv_iconst (v := 1) hx hb dL_law_312 (by decide) ?_
  refine lv_iadd hx hb dL_law_313 ?_
  refine va_sld hx hb hX hbl hbA hS (lw_in hi hNN (by decide)) dL_law_314 ?_
  refine lv_topi (fun v1 ev1 => ?_)
  refine lv_aload_n hx hb dL_law_315 rfl (lv_at hl 3 rfl) ?_
  refine lv_iload_n hx hb dL_law_316 rfl (lv_at hl 0 rfl) ?_
  refine lv_iconst (v := 2) hx hb dL_law_317 (by decide) ?_
  refine lv_iadd hx hb dL_law_318 ?_
  refine va_sld hx hb hX hbl hbA hS (lw_in hi hNN (by decide)) dL_law_319 ?_
  refine lv_topi (fun v2 ev2 => ?_)
  obtain ⟨hLK0, hk7, hk9, hI, hPG, hRI, hRJ, hUQ, hyA, hyI, hyT⟩ := id hV
  have hLK : ∀ a {k : Nat}, K a = k → k ≠ 0 → a ∈ L := fun a k e q => hLK0 a (by rw [e]; exact q)
  obtain ⟨fs6, o6⟩ := lw_o6 hI hk7
  have hIc := lw_cI hUQ.1 (lw_nn hk7 hI) hI
  have hKc : va_K (dC, dI) vwCl [(lw_c1 cs (y_fi F xo 1).toInt.toNat 0, .int), (lw_c1 cs (y_fi F xo 1).toInt.toNat 1, .byte), (lw_c1 cs (y_fi F xo 1).toInt.toNat 2, .long), (lw_c1 cs (y_fi F xo 1).toInt.toNat 3, .object RX5), (lw_c1 cs (y_fi F xo 1).toInt.toNat 4, .object RX4), (lw_c1 cs (y_fi F xo 1).toInt.toNat 5, .array .int), (lw_c1 cs (y_fi F xo 1).toInt.toNat 6, .char), (lw_c1 cs (y_fi F xo 1).toInt.toNat 7, .boolean)] s := hK
  refine va_calli (va_runV (As := [.int v1, .int v2]) (rest := []) ⟨hx, hb, hml, hown, hts⟩ (s_X6_line l dC dI H.size (cs := lw_c1 cs (y_fi F xo 1).toInt.toNat) hLK D F xo v1 v2 hk7 hIc) (cwV 2 hts (ax_gV T_502 T_344 T_345 T_193 T_47) rfl rfl rfl (by decide +kernel) ⟨Nat.le_of_ble_eq_true rfl, Nat.le_of_ble_eq_true rfl⟩) ⟨fun a U g mk q => ⟨q.1, s_pc (U := U) rfl rfl q.2⟩, s_recv hK hP (hLK _ hk7 (by decide)) (ci := 6) rfl o6, fun U hU hW => ⟨rfl, s_pw hU hW hP hKc hD hN⟩⟩ rfl rfl hl.1 rfl (lv_room (Nat.le_of_ble_eq_true rfl)) dL_law_320 ⟨Nat.le_of_ble_eq_true rfl, Nat.le_of_ble_eq_true rfl⟩) hS (fun q _ h => hLA q h) (fun q h => hLA q h) (fun r3 F4 t H1 locs ht hvm hw hB hz1 hk1 hS => ?_)
  obtain ⟨hP, hK1⟩ := hB
  rw [ht] at hP
  generalize H1 = H at hP hS ⊢
  obtain ⟨hb_r3, hc_r3, hI, hfr1⟩ := hw
  have hx1 : y_fi F4 xo 1 = y_fi F xo 1 := Int32.toInt_inj.mp ((lw_cE hk7 hI).trans (lw_nn hk7 (lw_cB hcz hIc)).symm)
  have hI := lw_cB hcz hI
  have hV := lw_x hV hI hfr1 (by decide)
  have ho1 : y_fi F4 om 1 = y_fi F om 1 := lw_fi (hfr1 om (by rw [hk9]; decide)) 1
  refine W.widen (k := 892) (n := 240949) (Nat.le_of_ble_eq_true rfl) (Nat.le_of_ble_eq_true rfl) ?_
  refine lv_pop hx hb dL_law_323 rfl ?_
  refine lv_aload_n hx hb dL_law_324 rfl (lv_at hl 1 rfl) ?_
  refine lv_aload_n hx hb dL_law_325 rfl (lv_at hl 3 rfl) ?_
  refine lv_iload_n hx hb dL_law_326 rfl (lv_at hl 0 rfl) ?_
  refine lv_iconst (v := 1) hx hb dL_law_327 (by decide) ?_
  refine lv_iadd hx hb dL_law_328 ?_
  refine va_sld hx hb hX hbl hbA hS (lw_in hi hNN (by decide)) dL_law_329 ?_
  refine lv_topi (fun v5 ev5 => ?_)
  refine lv_aload_n hx hb dL_law_330 rfl (lv_at hl 3 rfl) ?_
  refine lv_iload_n hx hb dL_law_331 rfl (lv_at hl 0 rfl) ?_
  refine lv_iconst (v := 2) hx hb dL_law_332 (by decide) ?_
  refine lv_iadd hx hb dL_law_333 ?_
  refine va_sld hx hb hX hbl hbA hS (lw_in hi hNN (by decide)) dL_law_334 ?_
  refine lv_topi (fun v6 ev6 => ?_)
  obtain ⟨hLK0, hk7, hk9, hI, hPG, hRI, hRJ, hUQ, hyA, hyI, hyT⟩ := id hV
  have hLK : ∀ a {k : Nat}, K a = k → k ≠ 0 → a ∈ L := fun a k e q => hLK0 a (by rw [e]; exact q)
  obtain ⟨z7, q7, o7, -⟩ := hyI.1 om hk9
  refine va_calli (va_runV (As := [.int v5, .int v6]) (rest := []) ⟨hx, hb, hml, hown, hts⟩ (y_X7_line l dC dI H.size hLK A hyA F4 om v5 v6 hk9 hyI hyT) (cwV 2 hts (ax_gV T_503 T_346 T_347 T_265 T_48) rfl rfl rfl (by decide +kernel) ⟨Nat.le_of_ble_eq_true rfl, Nat.le_of_ble_eq_true rfl⟩) ⟨fun a U g mk q => ⟨q.1, s_pc (U := U) rfl rfl q.2⟩, s_recv hK hP (hLK _ hk9 (by decide)) (ci := 7) rfl o7, fun U hU hW => ⟨rfl, s_pw hU hW hP hK hD hN⟩⟩ rfl rfl hl.1 rfl (lv_room (Nat.le_of_ble_eq_true rfl)) dL_law_335 ⟨Nat.le_of_ble_eq_true rfl, Nat.le_of_ble_eq_true rfl⟩) hS (fun q _ h => hLA q h) (fun q h => hLA q h) (fun r7 F8 t H1 locs ht hvm hw hB hz1 hk1 hS => ?_)
  obtain ⟨hP, hK1⟩ := hB
  rw [ht] at hP
  generalize H1 = H at hP hS ⊢
  obtain ⟨hb_r7, hc_r7, hyI, hfr1, hf1, hp_r7⟩ := hw
  have hV := lw_y hV hyI hfr1 (by decide) hp_r7
  have hx2 : y_fi F8 xo 1 = y_fi F4 xo 1 := lw_fi (hfr1 xo (by rw [hk7]; decide)) 1
  have ho2 : y_fi F8 om 1 = y_fi F4 om 1 := hf1 1 (by decide)
  refine W.widen (k := 892) (n := 240949) (Nat.le_of_ble_eq_true rfl) (Nat.le_of_ble_eq_true rfl) ?_
  refine lv_pop hx hb dL_law_338 rfl ?_
  have hB9 : y_fi F8 xo 1 = y_fi F8 om 1 := hx2.trans (hx1.trans (hB0.trans (ho1.symm.trans ho2.symm)))
  refine lv_goto (tgt := 1099) hx hb dL_law_339 (by decide) ?_
  exact KK _ _ _ _ _ hV hB9 (by omega) hP hS
set_option maxHeartbeats 4000000 in
set_option maxRecDepth 100000 in
/-- lane -/
theorem law_c6 {p : Program} {e : Env} {s : State} {m : MethodId} {below : List Frame} {meth : Method} {c : Code} (l : Launch) {dC : Nat → ClassId} {dI : Nat → Nat → Nat} {cs : Nat → ClassId} {b N : Nat} {xs : Nat → Int32} {L : List Nat} {A : Nat → Nat} {xo om : Nat} {K : Nat → Nat} {D : Nat} {F : Nat → va_E} {n9 : Nat} {i : Int32} {H : Heap} {locs : List Loc} {ls : Array Slot} {adK adV : Nat → Nat} {tf : Option Nat} (C0 : lw_At p s m meth c b N xs) (hK : va_K (dC, dI) vwCl [(cs 0, .int), (cs 1, .byte), (cs 2, .long), (cs 3, .object RX5), (cs 4, .object RX4), (cs 5, .array .int), (cs 6, .char), (cs 7, .boolean)] s) (hD : ∀ G, va_D (fun q => q ∈ L) (va_pl L G)) (hLA : ∀ q, q ∈ L → s.heap.size ≤ q) (hZ : s_Z L adK adV tf s) (hNN : N ≤ 3072) (hi : 0 ≤ i.toInt ∧ i.toInt + 6 ≤ N) (hn : n9 < 512) (hcz : cs 24 = 0) (hV : lw_V cs L A xo om K D F) (hB0 : y_fi F xo 1 = y_fi F om 1) (hDn : D ≤ 62000 * n9) (hP : va_P (dC, dI) vwCl (va_pl L F) H) (hS : va_S (fun q : Nat => s.heap.size ≤ q) s.heap H locs) (hl : lv_has ls 4 [(3, .int i), (2, .ref om), (1, .ref xo), (0, .ref b)]) (KK : ∀ (K : Nat → Nat) (D : Nat) (F : Nat → va_E) (H : Heap) (locs : List Loc), lw_V cs L A xo om K D F → y_fi F xo 1 = y_fi F om 1 → D ≤ 62000 * (n9 + 1) → va_P (dC, dI) vwCl (va_pl L F) H → va_S (fun q : Nat => s.heap.size ≤ q) s.heap H locs → W p l e room_1 s m #[Value.ref b] below meth c H locs 892 240949 (lw_Z below #[Value.ref b] s) (F0 m 1099 ls [])) : W p l e room_1 s m #[Value.ref b] below meth c H locs 892 240949 (lw_Z below #[Value.ref b] s) (F0 m 342 ls []) := by
  obtain ⟨hx, hb, hr, hml, hown0, hts0, hX, hbl, hlocks, hgv⟩ := id C0
  have hown : s.vm.findClass RL = some m.cls := hown0
  have hts : ∀ w ∈ T0, w.before #[Value.ref b] s = true := fun w h => hts0 w (ax_law w h).1
  have hN : ax_N s := ax_Nlaw hts0
  have hbA : ¬ (fun q : Nat => s.heap.size ≤ q) b := Nat.not_le.mpr hbl
  refine lv_aload_n hx hb dL_law_342 rfl (lv_at hl 2 rfl) ?_
  refine lv_aload_n hx hb dL_law_343 rfl (lv_at hl 3 rfl) ?_
  refine lv_iload_n hx hb dL_law_344 rfl (lv_at hl 0 rfl) ?_
  refine lv_iconst (v := 1) hx hb dL_law_345 (by decide) ?_
  refine lv_iadd hx hb dL_law_346 ?_
  refine va_sld hx hb hX hbl hbA hS (lw_in hi hNN (by decide)) dL_law_347 ?_
  refine lv_topi (fun v1 ev1 => ?_)
  refine lv_aload_n hx hb dL_law_348 rfl (lv_at hl 3 rfl) ?_
  refine lv_iload_n hx hb dL_law_349 rfl (lv_at hl 0 rfl) ?_
  refine lv_iconst (v := 2) hx hb dL_law_350 (by decide) ?_
  refine lv_iadd hx hb dL_law_351 ?_
  refine va_sld hx hb hX hbl hbA hS (lw_in hi hNN (by decide)) dL_law_352 ?_
  refine lv_topi (fun v2 ev2 => ?_)
  refine lv_aload_n hx hb dL_law_353 rfl (lv_at hl 3 rfl) ?_
  refine lv_iload_n hx hb dL_law_354 rfl (lv_at hl 0 rfl) ?_
  refine lv_iconst (v := 3) hx hb dL_law_355 (by decide) ?_
  refine lv_iadd hx hb dL_law_356 ?_
  refine va_sld hx hb hX hbl hbA hS (lw_in hi hNN (by decide)) dL_law_357 ?_
  refine lv_topi (fun v3 ev3 => ?_)
  obtain ⟨hLK0, hk7, hk9, hI, hPG, hRI, hRJ, hUQ, hyA, hyI, hyT⟩ := id hV
  have hLK : ∀ a {k : Nat}, K a = k → k ≠ 0 → a ∈ L := fun a k e q => hLK0 a (by rw [e]; exact q)
  obtain ⟨fs6, o6⟩ := lw_o6 hI hk7
  have hIc := lw_cI hUQ.1 (lw_nn hk7 hI) hI
  have hKc : va_K (dC, dI) vwCl [(lw_c1 cs (y_fi F xo 1).toInt.toNat 0, .int), (lw_c1 cs (y_fi F xo 1).toInt.toNat 1, .byte), (lw_c1 cs (y_fi F xo 1).toInt.toNat 2, .long), (lw_c1 cs (y_fi F xo 1).toInt.toNat 3, .object RX5), (lw_c1 cs (y_fi F xo 1).toInt.toNat 4, .object RX4), (lw_c1 cs (y_fi F xo 1).toInt.toNat 5, .array .int), (lw_c1 cs (y_fi F xo 1).toInt.toNat 6, .char), (lw_c1 cs (y_fi F xo 1).toInt.toNat 7, .boolean)] s := hK
  refine va_calli (va_runV (As := [.int v1, .int v2, .int v3]) (rest := []) ⟨hx, hb, hml, hown, hts⟩ (s_X6_lane l dC dI H.size (cs := lw_c1 cs (y_fi F xo 1).toInt.toNat) hLK D F xo v1 v2 v3 hk7 hIc) (cwV 3 hts (ax_gV T_504 T_348 T_349 T_193 T_49) rfl rfl rfl (by decide +kernel) ⟨Nat.le_of_ble_eq_true rfl, Nat.le_of_ble_eq_true rfl⟩) ⟨fun a U g mk q => ⟨q.1, s_pc (U := U) rfl rfl q.2⟩, s_recv hK hP (hLK _ hk7 (by decide)) (ci := 6) rfl o6, fun U hU hW => ⟨rfl, s_pw hU hW hP hKc hD hN⟩⟩ rfl rfl hl.1 rfl (lv_room (Nat.le_of_ble_eq_true rfl)) dL_law_358 ⟨Nat.le_of_ble_eq_true rfl, Nat.le_of_ble_eq_true rfl⟩) hS (fun q _ h => hLA q h) (fun q h => hLA q h) (fun r4 F5 t H1 locs ht hvm hw hB hz1 hk1 hS => ?_)
  obtain ⟨hP, hK1⟩ := hB
  rw [ht] at hP
  generalize H1 = H at hP hS ⊢
  obtain ⟨hb_r4, hc_r4, hI, hfr1⟩ := hw
  have hx1 : y_fi F5 xo 1 = y_fi F xo 1 := Int32.toInt_inj.mp ((lw_cE hk7 hI).trans (lw_nn hk7 (lw_cB hcz hIc)).symm)
  have hI := lw_cB hcz hI
  have hV := lw_x hV hI hfr1 (by decide)
  have ho1 : y_fi F5 om 1 = y_fi F om 1 := lw_fi (hfr1 om (by rw [hk9]; decide)) 1
  refine W.widen (k := 892) (n := 240949) (Nat.le_of_ble_eq_true rfl) (Nat.le_of_ble_eq_true rfl) ?_
  refine lv_pop hx hb dL_law_361 rfl ?_
  refine lv_aload_n hx hb dL_law_362 rfl (lv_at hl 1 rfl) ?_
  refine lv_aload_n hx hb dL_law_363 rfl (lv_at hl 3 rfl) ?_
  refine lv_iload_n hx hb dL_law_364 rfl (lv_at hl 0 rfl) ?_
  refine lv_iconst (v := 1) hx hb dL_law_365 (by decide) ?_
  refine lv_iadd hx hb dL_law_366 ?_
  refine va_sld hx hb hX hbl hbA hS (lw_in hi hNN (by decide)) dL_law_367 ?_
  refine lv_topi (fun v6 ev6 => ?_)
  refine lv_aload_n hx hb dL_law_368 rfl (lv_at hl 3 rfl) ?_
  refine lv_iload_n hx hb dL_law_369 rfl (lv_at hl 0 rfl) ?_
  refine lv_iconst (v := 2) hx hb dL_law_370 (by decide) ?_
  refine lv_iadd hx hb dL_law_371 ?_
  refine va_sld hx hb hX hbl hbA hS (lw_in hi hNN (by decide)) dL_law_372 ?_
  refine lv_topi (fun v7 ev7 => ?_)
  refine lv_aload_n hx hb dL_law_373 rfl (lv_at hl 3 rfl) ?_
  refine lv_iload_n hx hb dL_law_374 rfl (lv_at hl 0 rfl) ?_
  refine lv_iconst (v := 3) hx hb dL_law_375 (by decide) ?_
  refine lv_iadd hx hb dL_law_376 ?_
  refine va_sld hx hb hX hbl hbA hS (lw_in hi hNN (by decide)) dL_law_377 ?_
  refine lv_topi (fun v8 ev8 => ?_)
  obtain ⟨hLK0, hk7, hk9, hI, hPG, hRI, hRJ, hUQ, hyA, hyI, hyT⟩ := id hV
  have hLK : ∀ a {k : Nat}, K a = k → k ≠ 0 → a ∈ L := fun a k e q => hLK0 a (by rw [e]; exact q)
  obtain ⟨z7, q7, o7, -⟩ := hyI.1 om hk9
  refine va_calli (va_runV (As := [.int v6, .int v7, .int v8]) (rest := []) ⟨hx, hb, hml, hown, hts⟩ (y_X7_lane l dC dI H.size hLK A hyA F5 om v6 v7 v8 hk9 hyI hyT) (cwV 3 hts (ax_gV T_505 T_350 T_351 T_265 T_50) rfl rfl rfl (by decide +kernel) ⟨Nat.le_of_ble_eq_true rfl, Nat.le_of_ble_eq_true rfl⟩) ⟨fun a U g mk q => ⟨q.1, s_pc (U := U) rfl rfl q.2⟩, s_recv hK hP (hLK _ hk9 (by decide)) (ci := 7) rfl o7, fun U hU hW => ⟨rfl, s_pw hU hW hP hK hD hN⟩⟩ rfl rfl hl.1 rfl (lv_room (Nat.le_of_ble_eq_true rfl)) dL_law_378 ⟨Nat.le_of_ble_eq_true rfl, Nat.le_of_ble_eq_true rfl⟩) hS (fun q _ h => hLA q h) (fun q h => hLA q h) (fun r9 F10 t H1 locs ht hvm hw hB hz1 hk1 hS => ?_)
  obtain ⟨hP, hK1⟩ := hB
  rw [ht] at hP
  generalize H1 = H at hP hS ⊢
  obtain ⟨hb_r9, hc_r9, hyI, hfr1, hf1, hp_r9⟩ := hw
  have hV := lw_y hV hyI hfr1 (by decide) hp_r9
  have hx2 : y_fi F10 xo 1 = y_fi F5 xo 1 := lw_fi (hfr1 xo (by rw [hk7]; decide)) 1
  have ho2 : y_fi F10 om 1 = y_fi F5 om 1 := hf1 1 (by decide)
  refine W.widen (k := 892) (n := 240949) (Nat.le_of_ble_eq_true rfl) (Nat.le_of_ble_eq_true rfl) ?_
  refine lv_pop hx hb dL_law_381 rfl ?_
  have hB9 : y_fi F10 xo 1 = y_fi F10 om 1 := hx2.trans (hx1.trans (hB0.trans (ho1.symm.trans ho2.symm)))
  refine lv_goto (tgt := 1099) hx hb dL_law_382 (by decide) ?_
  exact KK _ _ _ _ _ hV hB9 (by omega) hP hS
set_option maxHeartbeats 4000000 in
set_option maxRecDepth 100000 in
/-- warp -/
theorem law_c7 {p : Program} {e : Env} {s : State} {m : MethodId} {below : List Frame} {meth : Method} {c : Code} (l : Launch) {dC : Nat → ClassId} {dI : Nat → Nat → Nat} {cs : Nat → ClassId} {b N : Nat} {xs : Nat → Int32} {L : List Nat} {A : Nat → Nat} {xo om : Nat} {K : Nat → Nat} {D : Nat} {F : Nat → va_E} {n9 : Nat} {i : Int32} {H : Heap} {locs : List Loc} {ls : Array Slot} {adK adV : Nat → Nat} {tf : Option Nat} (C0 : lw_At p s m meth c b N xs) (hK : va_K (dC, dI) vwCl [(cs 0, .int), (cs 1, .byte), (cs 2, .long), (cs 3, .object RX5), (cs 4, .object RX4), (cs 5, .array .int), (cs 6, .char), (cs 7, .boolean)] s) (hD : ∀ G, va_D (fun q => q ∈ L) (va_pl L G)) (hLA : ∀ q, q ∈ L → s.heap.size ≤ q) (hZ : s_Z L adK adV tf s) (hNN : N ≤ 3072) (hi : 0 ≤ i.toInt ∧ i.toInt + 6 ≤ N) (hn : n9 < 512) (hcz : cs 24 = 0) (hV : lw_V cs L A xo om K D F) (hB0 : y_fi F xo 1 = y_fi F om 1) (hDn : D ≤ 62000 * n9) (hP : va_P (dC, dI) vwCl (va_pl L F) H) (hS : va_S (fun q : Nat => s.heap.size ≤ q) s.heap H locs) (hl : lv_has ls 4 [(3, .int i), (2, .ref om), (1, .ref xo), (0, .ref b)]) (KK : ∀ (K : Nat → Nat) (D : Nat) (F : Nat → va_E) (H : Heap) (locs : List Loc), lw_V cs L A xo om K D F → y_fi F xo 1 = y_fi F om 1 → D ≤ 62000 * (n9 + 1) → va_P (dC, dI) vwCl (va_pl L F) H → va_S (fun q : Nat => s.heap.size ≤ q) s.heap H locs → W p l e room_1 s m #[Value.ref b] below meth c H locs 892 240949 (lw_Z below #[Value.ref b] s) (F0 m 1099 ls [])) : W p l e room_1 s m #[Value.ref b] below meth c H locs 892 240949 (lw_Z below #[Value.ref b] s) (F0 m 385 ls []) := by
  obtain ⟨hx, hb, hr, hml, hown0, hts0, hX, hbl, hlocks, hgv⟩ := id C0
  have hown : s.vm.findClass RL = some m.cls := hown0
  have hts : ∀ w ∈ T0, w.before #[Value.ref b] s = true := fun w h => hts0 w (ax_law w h).1
  have hN : ax_N s := ax_Nlaw hts0
  have hbA : ¬ (fun q : Nat => s.heap.size ≤ q) b := Nat.not_le.mpr hbl
  refine lv_aload_n hx hb dL_law_385 rfl (lv_at hl 2 rfl) ?_
  refine lv_aload_n hx hb dL_law_386 rfl (lv_at hl 3 rfl) ?_
  refine lv_iload_n hx hb dL_law_387 rfl (lv_at hl 0 rfl) ?_
  refine lv_iconst (v := 1) hx hb dL_law_388 (by decide) ?_
  refine lv_iadd hx hb dL_law_389 ?_
  refine va_sld hx hb hX hbl hbA hS (lw_in hi hNN (by decide)) dL_law_390 ?_
  refine lv_topi (fun v1 ev1 => ?_)
  refine lv_aload_n hx hb dL_law_391 rfl (lv_at hl 3 rfl) ?_
  refine lv_iload_n hx hb dL_law_392 rfl (lv_at hl 0 rfl) ?_
  refine lv_iconst (v := 2) hx hb dL_law_393 (by decide) ?_
  refine lv_iadd hx hb dL_law_394 ?_
  refine va_sld hx hb hX hbl hbA hS (lw_in hi hNN (by decide)) dL_law_395 ?_
  refine lv_topi (fun v2 ev2 => ?_)
  obtain ⟨hLK0, hk7, hk9, hI, hPG, hRI, hRJ, hUQ, hyA, hyI, hyT⟩ := id hV
  have hLK : ∀ a {k : Nat}, K a = k → k ≠ 0 → a ∈ L := fun a k e q => hLK0 a (by rw [e]; exact q)
  obtain ⟨fs6, o6⟩ := lw_o6 hI hk7
  have hIc := lw_cI hUQ.1 (lw_nn hk7 hI) hI
  have hKc : va_K (dC, dI) vwCl [(lw_c1 cs (y_fi F xo 1).toInt.toNat 0, .int), (lw_c1 cs (y_fi F xo 1).toInt.toNat 1, .byte), (lw_c1 cs (y_fi F xo 1).toInt.toNat 2, .long), (lw_c1 cs (y_fi F xo 1).toInt.toNat 3, .object RX5), (lw_c1 cs (y_fi F xo 1).toInt.toNat 4, .object RX4), (lw_c1 cs (y_fi F xo 1).toInt.toNat 5, .array .int), (lw_c1 cs (y_fi F xo 1).toInt.toNat 6, .char), (lw_c1 cs (y_fi F xo 1).toInt.toNat 7, .boolean)] s := hK
  refine va_calli (va_runV (As := [.int v1, .int v2]) (rest := []) ⟨hx, hb, hml, hown, hts⟩ (s_X6_warp l dC dI H.size (cs := lw_c1 cs (y_fi F xo 1).toInt.toNat) hLK D F xo v1 v2 hk7 hIc) (cwV 2 hts (ax_gV T_506 T_352 T_353 T_193 T_51) rfl rfl rfl (by decide +kernel) ⟨Nat.le_of_ble_eq_true rfl, Nat.le_of_ble_eq_true rfl⟩) ⟨fun a U g mk q => ⟨q.1, s_pc (U := U) rfl rfl q.2⟩, s_recv hK hP (hLK _ hk7 (by decide)) (ci := 6) rfl o6, fun U hU hW => ⟨rfl, s_pw hU hW hP hKc hD hN⟩⟩ rfl rfl hl.1 rfl (lv_room (Nat.le_of_ble_eq_true rfl)) dL_law_396 ⟨Nat.le_of_ble_eq_true rfl, Nat.le_of_ble_eq_true rfl⟩) hS (fun q _ h => hLA q h) (fun q h => hLA q h) (fun r3 F4 t H1 locs ht hvm hw hB hz1 hk1 hS => ?_)
  obtain ⟨hP, hK1⟩ := hB
  rw [ht] at hP
  generalize H1 = H at hP hS ⊢
  obtain ⟨hb_r3, hc_r3, hI, hfr1⟩ := hw
  have hx1 : y_fi F4 xo 1 = y_fi F xo 1 := Int32.toInt_inj.mp ((lw_cE hk7 hI).trans (lw_nn hk7 (lw_cB hcz hIc)).symm)
  have hI := lw_cB hcz hI
  have hV := lw_x hV hI hfr1 (by decide)
  have ho1 : y_fi F4 om 1 = y_fi F om 1 := lw_fi (hfr1 om (by rw [hk9]; decide)) 1
  refine W.widen (k := 892) (n := 240949) (Nat.le_of_ble_eq_true rfl) (Nat.le_of_ble_eq_true rfl) ?_
  refine lv_pop hx hb dL_law_399 rfl ?_
  refine lv_aload_n hx hb dL_law_400 rfl (lv_at hl 1 rfl) ?_
  refine lv_aload_n hx hb dL_law_401 rfl (lv_at hl 3 rfl) ?_
  refine lv_iload_n hx hb dL_law_402 rfl (lv_at hl 0 rfl) ?_
  refine lv_iconst (v := 1) hx hb dL_law_403 (by decide) ?_
  refine lv_iadd hx hb dL_law_404 ?_
  refine va_sld hx hb hX hbl hbA hS (lw_in hi hNN (by decide)) dL_law_405 ?_
  refine lv_topi (fun v5 ev5 => ?_)
  refine lv_aload_n hx hb dL_law_406 rfl (lv_at hl 3 rfl) ?_
  refine lv_iload_n hx hb dL_law_407 rfl (lv_at hl 0 rfl) ?_
  refine lv_iconst (v := 2) hx hb dL_law_408 (by decide) ?_
  refine lv_iadd hx hb dL_law_409 ?_
  refine va_sld hx hb hX hbl hbA hS (lw_in hi hNN (by decide)) dL_law_410 ?_
  refine lv_topi (fun v6 ev6 => ?_)
  obtain ⟨hLK0, hk7, hk9, hI, hPG, hRI, hRJ, hUQ, hyA, hyI, hyT⟩ := id hV
  have hLK : ∀ a {k : Nat}, K a = k → k ≠ 0 → a ∈ L := fun a k e q => hLK0 a (by rw [e]; exact q)
  obtain ⟨z7, q7, o7, -⟩ := hyI.1 om hk9
  refine va_calli (va_runV (As := [.int v5, .int v6]) (rest := []) ⟨hx, hb, hml, hown, hts⟩ (y_X7_warp l dC dI H.size hLK A hyA F4 om v5 v6 hk9 hyI hyT) (cwV 2 hts (ax_gV T_507 T_354 T_355 T_265 T_52) rfl rfl rfl (by decide +kernel) ⟨Nat.le_of_ble_eq_true rfl, Nat.le_of_ble_eq_true rfl⟩) ⟨fun a U g mk q => ⟨q.1, s_pc (U := U) rfl rfl q.2⟩, s_recv hK hP (hLK _ hk9 (by decide)) (ci := 7) rfl o7, fun U hU hW => ⟨rfl, s_pw hU hW hP hK hD hN⟩⟩ rfl rfl hl.1 rfl (lv_room (Nat.le_of_ble_eq_true rfl)) dL_law_411 ⟨Nat.le_of_ble_eq_true rfl, Nat.le_of_ble_eq_true rfl⟩) hS (fun q _ h => hLA q h) (fun q h => hLA q h) (fun r7 F8 t H1 locs ht hvm hw hB hz1 hk1 hS => ?_)
  obtain ⟨hP, hK1⟩ := hB
  rw [ht] at hP
  generalize H1 = H at hP hS ⊢
  obtain ⟨hb_r7, hc_r7, hyI, hfr1, hf1, hp_r7⟩ := hw
  have hV := lw_y hV hyI hfr1 (by decide) hp_r7
  have hx2 : y_fi F8 xo 1 = y_fi F4 xo 1 := lw_fi (hfr1 xo (by rw [hk7]; decide)) 1
  have ho2 : y_fi F8 om 1 = y_fi F4 om 1 := hf1 1 (by decide)
  refine W.widen (k := 892) (n := 240949) (Nat.le_of_ble_eq_true rfl) (Nat.le_of_ble_eq_true rfl) ?_
  refine lv_pop hx hb dL_law_414 rfl ?_
  have hB9 : y_fi F8 xo 1 = y_fi F8 om 1 := hx2.trans (hx1.trans (hB0.trans (ho1.symm.trans ho2.symm)))
  refine lv_goto (tgt := 1099) hx hb dL_law_415 (by decide) ?_
  exact KK _ _ _ _ _ hV hB9 (by omega) hP hS
set_option maxHeartbeats 4000000 in
set_option maxRecDepth 100000 in
/-- part -/
theorem law_c8 {p : Program} {e : Env} {s : State} {m : MethodId} {below : List Frame} {meth : Method} {c : Code} (l : Launch) {dC : Nat → ClassId} {dI : Nat → Nat → Nat} {cs : Nat → ClassId} {b N : Nat} {xs : Nat → Int32} {L : List Nat} {A : Nat → Nat} {xo om : Nat} {K : Nat → Nat} {D : Nat} {F : Nat → va_E} {n9 : Nat} {i : Int32} {H : Heap} {locs : List Loc} {ls : Array Slot} {adK adV : Nat → Nat} {tf : Option Nat} (C0 : lw_At p s m meth c b N xs) (hK : va_K (dC, dI) vwCl [(cs 0, .int), (cs 1, .byte), (cs 2, .long), (cs 3, .object RX5), (cs 4, .object RX4), (cs 5, .array .int), (cs 6, .char), (cs 7, .boolean)] s) (hD : ∀ G, va_D (fun q => q ∈ L) (va_pl L G)) (hLA : ∀ q, q ∈ L → s.heap.size ≤ q) (hZ : s_Z L adK adV tf s) (hNN : N ≤ 3072) (hi : 0 ≤ i.toInt ∧ i.toInt + 6 ≤ N) (hn : n9 < 512) (hcz : cs 24 = 0) (hV : lw_V cs L A xo om K D F) (hB0 : y_fi F xo 1 = y_fi F om 1) (hDn : D ≤ 62000 * n9) (hP : va_P (dC, dI) vwCl (va_pl L F) H) (hS : va_S (fun q : Nat => s.heap.size ≤ q) s.heap H locs) (hl : lv_has ls 4 [(3, .int i), (2, .ref om), (1, .ref xo), (0, .ref b)]) (KK : ∀ (K : Nat → Nat) (D : Nat) (F : Nat → va_E) (H : Heap) (locs : List Loc), lw_V cs L A xo om K D F → y_fi F xo 1 = y_fi F om 1 → D ≤ 62000 * (n9 + 1) → va_P (dC, dI) vwCl (va_pl L F) H → va_S (fun q : Nat => s.heap.size ≤ q) s.heap H locs → W p l e room_1 s m #[Value.ref b] below meth c H locs 892 240949 (lw_Z below #[Value.ref b] s) (F0 m 1099 ls [])) : W p l e room_1 s m #[Value.ref b] below meth c H locs 892 240949 (lw_Z below #[Value.ref b] s) (F0 m 418 ls []) := by
  obtain ⟨hx, hb, hr, hml, hown0, hts0, hX, hbl, hlocks, hgv⟩ := id C0
  have hown : s.vm.findClass RL = some m.cls := hown0
  have hts : ∀ w ∈ T0, w.before #[Value.ref b] s = true := fun w h => hts0 w (ax_law w h).1
  have hN : ax_N s := ax_Nlaw hts0
  have hbA : ¬ (fun q : Nat => s.heap.size ≤ q) b := Nat.not_le.mpr hbl
  refine lv_aload_n hx hb dL_law_418 rfl (lv_at hl 2 rfl) ?_
  refine lv_aload_n hx hb dL_law_419 rfl (lv_at hl 3 rfl) ?_
  refine lv_iload_n hx hb dL_law_420 rfl (lv_at hl 0 rfl) ?_
  refine lv_iconst (v := 1) hx hb dL_law_421 (by decide) ?_
  refine lv_iadd hx hb dL_law_422 ?_
  refine va_sld hx hb hX hbl hbA hS (lw_in hi hNN (by decide)) dL_law_423 ?_
  refine lv_topi (fun v1 ev1 => ?_)
  refine lv_aload_n hx hb dL_law_424 rfl (lv_at hl 3 rfl) ?_
  refine lv_iload_n hx hb dL_law_425 rfl (lv_at hl 0 rfl) ?_
  refine lv_iconst (v := 2) hx hb dL_law_426 (by decide) ?_
  refine lv_iadd hx hb dL_law_427 ?_
  refine va_sld hx hb hX hbl hbA hS (lw_in hi hNN (by decide)) dL_law_428 ?_
  refine lv_topi (fun v2 ev2 => ?_)
  refine lv_aload_n hx hb dL_law_429 rfl (lv_at hl 3 rfl) ?_
  refine lv_iload_n hx hb dL_law_430 rfl (lv_at hl 0 rfl) ?_
  refine lv_iconst (v := 3) hx hb dL_law_431 (by decide) ?_
  refine lv_iadd hx hb dL_law_432 ?_
  refine va_sld hx hb hX hbl hbA hS (lw_in hi hNN (by decide)) dL_law_433 ?_
  refine lv_topi (fun v3 ev3 => ?_)
  obtain ⟨hLK0, hk7, hk9, hI, hPG, hRI, hRJ, hUQ, hyA, hyI, hyT⟩ := id hV
  have hLK : ∀ a {k : Nat}, K a = k → k ≠ 0 → a ∈ L := fun a k e q => hLK0 a (by rw [e]; exact q)
  obtain ⟨fs6, o6⟩ := lw_o6 hI hk7
  have hIc := lw_cI hUQ.1 (lw_nn hk7 hI) hI
  have hKc : va_K (dC, dI) vwCl [(lw_c1 cs (y_fi F xo 1).toInt.toNat 0, .int), (lw_c1 cs (y_fi F xo 1).toInt.toNat 1, .byte), (lw_c1 cs (y_fi F xo 1).toInt.toNat 2, .long), (lw_c1 cs (y_fi F xo 1).toInt.toNat 3, .object RX5), (lw_c1 cs (y_fi F xo 1).toInt.toNat 4, .object RX4), (lw_c1 cs (y_fi F xo 1).toInt.toNat 5, .array .int), (lw_c1 cs (y_fi F xo 1).toInt.toNat 6, .char), (lw_c1 cs (y_fi F xo 1).toInt.toNat 7, .boolean)] s := hK
  refine va_calli (va_runV (As := [.int v1, .int v2, .int v3]) (rest := []) ⟨hx, hb, hml, hown, hts⟩ (s_X6_part l dC dI H.size (cs := lw_c1 cs (y_fi F xo 1).toInt.toNat) hLK D F xo v1 v2 v3 hk7 hIc) (cwV 3 hts (ax_gV T_508 T_356 T_357 T_193 T_53) rfl rfl rfl (by decide +kernel) ⟨Nat.le_of_ble_eq_true rfl, Nat.le_of_ble_eq_true rfl⟩) ⟨fun a U g mk q => ⟨q.1, s_pc (U := U) rfl rfl q.2⟩, s_recv hK hP (hLK _ hk7 (by decide)) (ci := 6) rfl o6, fun U hU hW => ⟨rfl, s_pw hU hW hP hKc hD hN⟩⟩ rfl rfl hl.1 rfl (lv_room (Nat.le_of_ble_eq_true rfl)) dL_law_434 ⟨Nat.le_of_ble_eq_true rfl, Nat.le_of_ble_eq_true rfl⟩) hS (fun q _ h => hLA q h) (fun q h => hLA q h) (fun r4 F5 t H1 locs ht hvm hw hB hz1 hk1 hS => ?_)
  obtain ⟨hP, hK1⟩ := hB
  rw [ht] at hP
  generalize H1 = H at hP hS ⊢
  obtain ⟨hb_r4, hc_r4, hI, hfr1⟩ := hw
  have hx1 : y_fi F5 xo 1 = y_fi F xo 1 := Int32.toInt_inj.mp ((lw_cE hk7 hI).trans (lw_nn hk7 (lw_cB hcz hIc)).symm)
  have hI := lw_cB hcz hI
  have hV := lw_x hV hI hfr1 (by decide)
  have ho1 : y_fi F5 om 1 = y_fi F om 1 := lw_fi (hfr1 om (by rw [hk9]; decide)) 1
  refine W.widen (k := 892) (n := 240949) (Nat.le_of_ble_eq_true rfl) (Nat.le_of_ble_eq_true rfl) ?_
  refine lv_pop hx hb dL_law_437 rfl ?_
  refine lv_aload_n hx hb dL_law_438 rfl (lv_at hl 1 rfl) ?_
  refine lv_aload_n hx hb dL_law_439 rfl (lv_at hl 3 rfl) ?_
  refine lv_iload_n hx hb dL_law_440 rfl (lv_at hl 0 rfl) ?_
  refine lv_iconst (v := 1) hx hb dL_law_441 (by decide) ?_
  refine lv_iadd hx hb dL_law_442 ?_
  refine va_sld hx hb hX hbl hbA hS (lw_in hi hNN (by decide)) dL_law_443 ?_
  refine lv_topi (fun v6 ev6 => ?_)
  refine lv_aload_n hx hb dL_law_444 rfl (lv_at hl 3 rfl) ?_
  refine lv_iload_n hx hb dL_law_445 rfl (lv_at hl 0 rfl) ?_
  refine lv_iconst (v := 2) hx hb dL_law_446 (by decide) ?_
  refine lv_iadd hx hb dL_law_447 ?_
  refine va_sld hx hb hX hbl hbA hS (lw_in hi hNN (by decide)) dL_law_448 ?_
  refine lv_topi (fun v7 ev7 => ?_)
  refine lv_aload_n hx hb dL_law_449 rfl (lv_at hl 3 rfl) ?_
  refine lv_iload_n hx hb dL_law_450 rfl (lv_at hl 0 rfl) ?_
  refine lv_iconst (v := 3) hx hb dL_law_451 (by decide) ?_
  refine lv_iadd hx hb dL_law_452 ?_
  refine va_sld hx hb hX hbl hbA hS (lw_in hi hNN (by decide)) dL_law_453 ?_
  refine lv_topi (fun v8 ev8 => ?_)
  obtain ⟨hLK0, hk7, hk9, hI, hPG, hRI, hRJ, hUQ, hyA, hyI, hyT⟩ := id hV
  have hLK : ∀ a {k : Nat}, K a = k → k ≠ 0 → a ∈ L := fun a k e q => hLK0 a (by rw [e]; exact q)
  obtain ⟨z7, q7, o7, -⟩ := hyI.1 om hk9
  refine va_calli (va_runV (As := [.int v6, .int v7, .int v8]) (rest := []) ⟨hx, hb, hml, hown, hts⟩ (y_X7_part l dC dI H.size hLK A hyA F5 om v6 v7 v8 hk9 hyI hyT) (cwV 3 hts (ax_gV T_509 T_358 T_359 T_265 T_54) rfl rfl rfl (by decide +kernel) ⟨Nat.le_of_ble_eq_true rfl, Nat.le_of_ble_eq_true rfl⟩) ⟨fun a U g mk q => ⟨q.1, s_pc (U := U) rfl rfl q.2⟩, s_recv hK hP (hLK _ hk9 (by decide)) (ci := 7) rfl o7, fun U hU hW => ⟨rfl, s_pw hU hW hP hK hD hN⟩⟩ rfl rfl hl.1 rfl (lv_room (Nat.le_of_ble_eq_true rfl)) dL_law_454 ⟨Nat.le_of_ble_eq_true rfl, Nat.le_of_ble_eq_true rfl⟩) hS (fun q _ h => hLA q h) (fun q h => hLA q h) (fun r9 F10 t H1 locs ht hvm hw hB hz1 hk1 hS => ?_)
  obtain ⟨hP, hK1⟩ := hB
  rw [ht] at hP
  generalize H1 = H at hP hS ⊢
  obtain ⟨hb_r9, hc_r9, hyI, hfr1, hf1, hp_r9⟩ := hw
  have hV := lw_y hV hyI hfr1 (by decide) hp_r9
  have hx2 : y_fi F10 xo 1 = y_fi F5 xo 1 := lw_fi (hfr1 xo (by rw [hk7]; decide)) 1
  have ho2 : y_fi F10 om 1 = y_fi F5 om 1 := hf1 1 (by decide)
  refine W.widen (k := 892) (n := 240949) (Nat.le_of_ble_eq_true rfl) (Nat.le_of_ble_eq_true rfl) ?_
  refine lv_pop hx hb dL_law_457 rfl ?_
  have hB9 : y_fi F10 xo 1 = y_fi F10 om 1 := hx2.trans (hx1.trans (hB0.trans (ho1.symm.trans ho2.symm)))
  refine lv_goto (tgt := 1099) hx hb dL_law_458 (by decide) ?_
  exact KK _ _ _ _ _ hV hB9 (by omega) hP hS
set_option maxHeartbeats 4000000 in
set_option maxRecDepth 100000 in
/-- word -/
theorem law_c9 {p : Program} {e : Env} {s : State} {m : MethodId} {below : List Frame} {meth : Method} {c : Code} (l : Launch) {dC : Nat → ClassId} {dI : Nat → Nat → Nat} {cs : Nat → ClassId} {b N : Nat} {xs : Nat → Int32} {L : List Nat} {A : Nat → Nat} {xo om : Nat} {K : Nat → Nat} {D : Nat} {F : Nat → va_E} {n9 : Nat} {i : Int32} {H : Heap} {locs : List Loc} {ls : Array Slot} {adK adV : Nat → Nat} {tf : Option Nat} (C0 : lw_At p s m meth c b N xs) (hK : va_K (dC, dI) vwCl [(cs 0, .int), (cs 1, .byte), (cs 2, .long), (cs 3, .object RX5), (cs 4, .object RX4), (cs 5, .array .int), (cs 6, .char), (cs 7, .boolean)] s) (hD : ∀ G, va_D (fun q => q ∈ L) (va_pl L G)) (hLA : ∀ q, q ∈ L → s.heap.size ≤ q) (hZ : s_Z L adK adV tf s) (hNN : N ≤ 3072) (hi : 0 ≤ i.toInt ∧ i.toInt + 6 ≤ N) (hn : n9 < 512) (hcz : cs 24 = 0) (hV : lw_V cs L A xo om K D F) (hB0 : y_fi F xo 1 = y_fi F om 1) (hDn : D ≤ 62000 * n9) (hP : va_P (dC, dI) vwCl (va_pl L F) H) (hS : va_S (fun q : Nat => s.heap.size ≤ q) s.heap H locs) (hl : lv_has ls 4 [(3, .int i), (2, .ref om), (1, .ref xo), (0, .ref b)]) (KK : ∀ (K : Nat → Nat) (D : Nat) (F : Nat → va_E) (H : Heap) (locs : List Loc), lw_V cs L A xo om K D F → y_fi F xo 1 = y_fi F om 1 → D ≤ 62000 * (n9 + 1) → va_P (dC, dI) vwCl (va_pl L F) H → va_S (fun q : Nat => s.heap.size ≤ q) s.heap H locs → W p l e room_1 s m #[Value.ref b] below meth c H locs 892 240949 (lw_Z below #[Value.ref b] s) (F0 m 1099 ls [])) : W p l e room_1 s m #[Value.ref b] below meth c H locs 892 240949 (lw_Z below #[Value.ref b] s) (F0 m 461 ls []) := by
  obtain ⟨hx, hb, hr, hml, hown0, hts0, hX, hbl, hlocks, hgv⟩ := id C0
  have hown : s.vm.findClass RL = some m.cls := hown0
  have hts : ∀ w ∈ T0, w.before #[Value.ref b] s = true := fun w h => hts0 w (ax_law w h).1
  have hN : ax_N s := ax_Nlaw hts0
  have hbA : ¬ (fun q : Nat => s.heap.size ≤ q) b := Nat.not_le.mpr hbl
  refine lv_aload_n hx hb dL_law_461 rfl (lv_at hl 2 rfl) ?_
  refine lv_aload_n hx hb dL_law_462 rfl (lv_at hl 3 rfl) ?_
  refine lv_iload_n hx hb dL_law_463 rfl (lv_at hl 0 rfl) ?_
  refine lv_iconst (v := 1) hx hb dL_law_464 (by decide) ?_
  refine lv_iadd hx hb dL_law_465 ?_
  refine va_sld hx hb hX hbl hbA hS (lw_in hi hNN (by decide)) dL_law_466 ?_
  refine lv_topi (fun v1 ev1 => ?_)
  suffices kk : ∀ w : Int32, (0 ≤ w.toInt ∧ w.toInt ≤ 1) → W p l e room_1 s m #[Value.ref b] below meth c H locs 892 240949 (lw_Z below #[Value.ref b] s) (F0 m 475 ls (.int w :: [.ref xo])) by
    refine lv_if_eq (tgt := 474) hx hb dL_law_467 (by decide) (fun _ => ?_) (fun _ => ?_)
    · refine lv_iconst (v := 0) hx hb dL_law_474 (by decide) ?_
      exact kk 0 (by decide)
    · refine lv_iconst (v := 1) hx hb dL_law_470 (by decide) ?_
      refine lv_goto (tgt := 475) hx hb dL_law_471 (by decide) ?_
      exact kk 1 (by decide)
  intro w2 hw2
  refine lv_aload_n hx hb dL_law_475 rfl (lv_at hl 3 rfl) ?_
  refine lv_iload_n hx hb dL_law_476 rfl (lv_at hl 0 rfl) ?_
  refine lv_iconst (v := 2) hx hb dL_law_477 (by decide) ?_
  refine lv_iadd hx hb dL_law_478 ?_
  refine va_sld hx hb hX hbl hbA hS (lw_in hi hNN (by decide)) dL_law_479 ?_
  refine lv_topi (fun v3 ev3 => ?_)
  obtain ⟨hLK0, hk7, hk9, hI, hPG, hRI, hRJ, hUQ, hyA, hyI, hyT⟩ := id hV
  have hLK : ∀ a {k : Nat}, K a = k → k ≠ 0 → a ∈ L := fun a k e q => hLK0 a (by rw [e]; exact q)
  obtain ⟨fs6, o6⟩ := lw_o6 hI hk7
  have hIc := lw_cI hUQ.1 (lw_nn hk7 hI) hI
  have hKc : va_K (dC, dI) vwCl [(lw_c1 cs (y_fi F xo 1).toInt.toNat 0, .int), (lw_c1 cs (y_fi F xo 1).toInt.toNat 1, .byte), (lw_c1 cs (y_fi F xo 1).toInt.toNat 2, .long), (lw_c1 cs (y_fi F xo 1).toInt.toNat 3, .object RX5), (lw_c1 cs (y_fi F xo 1).toInt.toNat 4, .object RX4), (lw_c1 cs (y_fi F xo 1).toInt.toNat 5, .array .int), (lw_c1 cs (y_fi F xo 1).toInt.toNat 6, .char), (lw_c1 cs (y_fi F xo 1).toInt.toNat 7, .boolean)] s := hK
  refine va_calli (va_runV (As := [.int w2, .int v3]) (rest := []) ⟨hx, hb, hml, hown, hts⟩ (s_X6_word l dC dI H.size (cs := lw_c1 cs (y_fi F xo 1).toInt.toNat) hLK D F xo w2 v3 hk7 hw2 hIc) (cwV 2 hts (ax_gV T_510 T_360 T_361 T_193 T_55) rfl rfl rfl (by decide +kernel) ⟨Nat.le_of_ble_eq_true rfl, Nat.le_of_ble_eq_true rfl⟩) ⟨fun a U g mk q => ⟨q.1, s_pc (U := U) rfl rfl q.2⟩, s_recv hK hP (hLK _ hk7 (by decide)) (ci := 6) rfl o6, fun U hU hW => ⟨rfl, s_pw hU hW hP hKc hD hN⟩⟩ rfl rfl hl.1 rfl (lv_room (Nat.le_of_ble_eq_true rfl)) dL_law_480 ⟨Nat.le_of_ble_eq_true rfl, Nat.le_of_ble_eq_true rfl⟩) hS (fun q _ h => hLA q h) (fun q h => hLA q h) (fun r4 F5 t H1 locs ht hvm hw hB hz1 hk1 hS => ?_)
  obtain ⟨hP, hK1⟩ := hB
  rw [ht] at hP
  generalize H1 = H at hP hS ⊢
  obtain ⟨hb_r4, hc_r4, hI, hfr1⟩ := hw
  have hx1 : y_fi F5 xo 1 = y_fi F xo 1 := Int32.toInt_inj.mp ((lw_cE hk7 hI).trans (lw_nn hk7 (lw_cB hcz hIc)).symm)
  have hI := lw_cB hcz hI
  have hV := lw_x hV hI hfr1 (by decide)
  have ho1 : y_fi F5 om 1 = y_fi F om 1 := lw_fi (hfr1 om (by rw [hk9]; decide)) 1
  refine W.widen (k := 892) (n := 240949) (Nat.le_of_ble_eq_true rfl) (Nat.le_of_ble_eq_true rfl) ?_
  refine lv_pop hx hb dL_law_483 rfl ?_
  refine lv_aload_n hx hb dL_law_484 rfl (lv_at hl 1 rfl) ?_
  refine lv_aload_n hx hb dL_law_485 rfl (lv_at hl 3 rfl) ?_
  refine lv_iload_n hx hb dL_law_486 rfl (lv_at hl 0 rfl) ?_
  refine lv_iconst (v := 1) hx hb dL_law_487 (by decide) ?_
  refine lv_iadd hx hb dL_law_488 ?_
  refine va_sld hx hb hX hbl hbA hS (lw_in hi hNN (by decide)) dL_law_489 ?_
  refine lv_topi (fun v6 ev6 => ?_)
  suffices kk : ∀ w : Int32, (0 ≤ w.toInt ∧ w.toInt ≤ 1) → W p l e room_1 s m #[Value.ref b] below meth c H locs 892 240949 (lw_Z below #[Value.ref b] s) (F0 m 498 ls (.int w :: [.ref om])) by
    refine lv_if_eq (tgt := 497) hx hb dL_law_490 (by decide) (fun _ => ?_) (fun _ => ?_)
    · refine lv_iconst (v := 0) hx hb dL_law_497 (by decide) ?_
      exact kk 0 (by decide)
    · refine lv_iconst (v := 1) hx hb dL_law_493 (by decide) ?_
      refine lv_goto (tgt := 498) hx hb dL_law_494 (by decide) ?_
      exact kk 1 (by decide)
  intro w7 hw7
  refine lv_aload_n hx hb dL_law_498 rfl (lv_at hl 3 rfl) ?_
  refine lv_iload_n hx hb dL_law_499 rfl (lv_at hl 0 rfl) ?_
  refine lv_iconst (v := 2) hx hb dL_law_500 (by decide) ?_
  refine lv_iadd hx hb dL_law_501 ?_
  refine va_sld hx hb hX hbl hbA hS (lw_in hi hNN (by decide)) dL_law_502 ?_
  refine lv_topi (fun v8 ev8 => ?_)
  obtain ⟨hLK0, hk7, hk9, hI, hPG, hRI, hRJ, hUQ, hyA, hyI, hyT⟩ := id hV
  have hLK : ∀ a {k : Nat}, K a = k → k ≠ 0 → a ∈ L := fun a k e q => hLK0 a (by rw [e]; exact q)
  obtain ⟨z7, q7, o7, -⟩ := hyI.1 om hk9
  refine va_calli (va_runV (As := [.int w7, .int v8]) (rest := []) ⟨hx, hb, hml, hown, hts⟩ (y_X7_word l dC dI H.size hLK A hyA F5 om w7 v8 hk9 hw7 hyI hyT) (cwV 2 hts (ax_gV T_511 T_362 T_363 T_265 T_56) rfl rfl rfl (by decide +kernel) ⟨Nat.le_of_ble_eq_true rfl, Nat.le_of_ble_eq_true rfl⟩) ⟨fun a U g mk q => ⟨q.1, s_pc (U := U) rfl rfl q.2⟩, s_recv hK hP (hLK _ hk9 (by decide)) (ci := 7) rfl o7, fun U hU hW => ⟨rfl, s_pw hU hW hP hK hD hN⟩⟩ rfl rfl hl.1 rfl (lv_room (Nat.le_of_ble_eq_true rfl)) dL_law_503 ⟨Nat.le_of_ble_eq_true rfl, Nat.le_of_ble_eq_true rfl⟩) hS (fun q _ h => hLA q h) (fun q h => hLA q h) (fun r9 F10 t H1 locs ht hvm hw hB hz1 hk1 hS => ?_)
  obtain ⟨hP, hK1⟩ := hB
  rw [ht] at hP
  generalize H1 = H at hP hS ⊢
  obtain ⟨hb_r9, hc_r9, hyI, hfr1, hf1, hp_r9⟩ := hw
  have hV := lw_y hV hyI hfr1 (by decide) hp_r9
  have hx2 : y_fi F10 xo 1 = y_fi F5 xo 1 := lw_fi (hfr1 xo (by rw [hk7]; decide)) 1
  have ho2 : y_fi F10 om 1 = y_fi F5 om 1 := hf1 1 (by decide)
  refine W.widen (k := 892) (n := 240949) (Nat.le_of_ble_eq_true rfl) (Nat.le_of_ble_eq_true rfl) ?_
  refine lv_pop hx hb dL_law_506 rfl ?_
  have hB9 : y_fi F10 xo 1 = y_fi F10 om 1 := hx2.trans (hx1.trans (hB0.trans (ho1.symm.trans ho2.symm)))
  refine lv_goto (tgt := 1099) hx hb dL_law_507 (by decide) ?_
  exact KK _ _ _ _ _ hV hB9 (by omega) hP hS
