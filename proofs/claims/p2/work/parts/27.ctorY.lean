/-! the reference's constructor -/
theorem n_u2 {β : Type} {F : Nat → β} {a : Nat} {x y : β} : va_up (va_up F a x) a y = va_up F a y := by
  funext b
  unfold va_up
  split <;> rfl
section NC
variable {p : Program} {l : Launch} {e : Env} {R : Room} {s : State} {m : MethodId} {args : Array Value} {below : List Frame} {meth : Method} {c : Code} {H : Heap} {locs : List Loc} {cells slots : Nat} {Q : State → Prop}
variable {cc : ByteArray} {pc : Nat} {ls : Array Slot} {rest : List Value} {D : va_G} {cl : List vw_C} {A : Nat → Prop} {a : Nat} {tys : List (ClassId × FieldType)} {H0 : Heap} {L : List Nat} {F : Nat → va_E}
/-- letters are laid into a new row: which, doesn't matter -/
theorem n_cast (hexec : p.tables.exec = Jvm.exec) (hb : c.code = cc) (hK : va_K D cl tys s) {n : Nat} {cA : ClassId} {f : Nat → Int32} (hP : va_P D cl (va_pl L (va_up F a (.inl (cA, n, .inl f)))) H) (hD : ∀ G, va_D A (va_pl L G)) (hS : va_S A H0 H locs) (ha : a ∈ L) (t0 : Nat) (ht : tys[t0]? = some (cA, .char)) {i : Int32} {x : Int32} (hin : vp_in i n) (hdg : decode cc pc = .ok (.castore, 1)) (kk : ∀ (H1 : Heap) (locs1 : List Loc) (f1 : Nat → Int32), va_P D cl (va_pl L (va_up F a (.inl (cA, n, .inl f1)))) H1 → va_S A H0 H1 locs1 → W p l e R s m args below meth c H1 locs1 cells slots Q (F0 m (pc + 1) ls rest)) : W p l e R s m args below meth c H locs cells slots Q (F0 m pc ls (.int x :: .int i :: .ref a :: rest)) := by
  obtain ⟨q0, hq⟩ := th_at (F := va_up F a (.inl (cA, n, .inl f))) ha
  have hq2 := hq
  rw [th_up] at hq
  refine va_cast hexec hb hK hP (hD _) hS q0 t0 hq ht hin hdg (fun H1 locs1 h1 _ h3 => kk H1 locs1 (upd f i.toNatClampNeg (vp_nar .char x)) ?_ h3)
  rw [th_set (hD _) ha hq2, n_u2] at h1
  exact h1
end NC
theorem n_yi {i : Nat} (h : y_n i ≠ 0) : i = 0 ∨ i = 9 ∨ i = 10 ∨ i = 12 ∨ i = 13 ∨ i = 14 ∨ i = 17 ∨ i = 18 ∨ i = 20 ∨ i = 21 ∨ i = 22 ∨ i = 23 ∨ i = 24 ∨ i = 28 ∨ i = 29 ∨ i = 30 := by
  unfold y_n at h
  split at h
  all_goals first | exact absurd rfl h | simp
set_option maxHeartbeats 4000000 in
set_option maxRecDepth 100000 in
/-- the reference: one object, sixteen rows -/
theorem n_X7_init (l : Launch) (dC : Nat → ClassId) (dI : Nat → Nat → Nat) (sz : Nat) {cs : Nat → ClassId} (L : List Nat) (K : Nat → Nat) (F : Nat → va_E) (h0 : Nat) (hh : h0 ∈ L) (hI : s_I K cs 0 F) (hLk : ∀ a, K a ≠ 0 → a ∈ L) (hk : K h0 = 0) (hK9 : ∀ a, K a ≠ 9 ∧ K a < 50) (o0 : F h0 = .inr (7, [.null, .int 0, .int 0, .int 0, .int 0, .int 0, .int 0, .int 0, .int 0, .null, .null, .int 0, .null, .null, .null, .int 0, .int 0, .null, .null, .int 0, .null, .null, .null, .null, .null, .int 0, .int 0, .int 0, .null, .null, .null, .int 0, .int 0, .long 0])) : Met l yX7_init (Cond.code yX7_init cX7_init 1 none :: T0) ({ frames := 1, cells := 16, slots := 214163, locals := 12 }) (va_Pc [.ref h0] (n_W dC dI sz L F [(cs 0, .int), (cs 1, .byte), (cs 2, .long), (cs 3, .object RX5), (cs 4, .object RX4), (cs 5, .array .int), (cs 6, .char), (cs 7, .boolean)])) (va_Qv (fun (u : List Nat × (Nat → Nat) × (Nat → va_E) × (Nat → Nat)) => (∀ a ∈ L, a ∈ u.1) ∧ n_X K u.2.1 ∧ (∀ a ∈ L, a ≠ h0 → u.2.2.1 a = F a ∧ u.2.1 a = K a) ∧ u.2.1 h0 = 9 ∧ s_I u.2.1 cs 0 u.2.2.1 ∧ (∀ a, u.2.1 a ≠ 0 → a ∈ u.1) ∧ (∀ a, u.2.1 a = K a ∨ u.2.1 a ∈ [9, 50, 59, 60, 62, 63, 64, 67, 68, 70, 71, 72, 73, 74, 78, 79, 80]) ∧ y_A u.2.1 u.2.2.2 ∧ y_I u.2.1 cs u.2.2.2 u.2.2.1 ∧ u.2.2.1 h0 = .inr (7, y_fl u.2.2.2 (fun k => if k = 8 then -1 else 0) 1) ∧ u.2.2.1 (u.2.2.2 9) = .inl (cs 0, 6, .inl (fun _ => 0)) ∧ u.2.2.1 (u.2.2.2 12) = .inl (cs 0, 400, .inl (fun _ => 0)) ∧ u.2.2.1 (u.2.2.2 20) = .inl (cs 0, 918, .inl (fun _ => 0)) ∧ u.2.2.1 (u.2.2.2 30) = .inl (cs 0, 18360, .inl (fun _ => 0))) (fun (u : List Nat × (Nat → Nat) × (Nat → va_E) × (Nat → Nat)) (t : State) => va_P (dC, dI) vwCl (va_pl u.1 u.2.2.1) t.heap ∧ va_K (dC, dI) vwCl [(cs 0, .int), (cs 1, .byte), (cs 2, .long), (cs 3, .object RX5), (cs 4, .object RX4), (cs 5, .array .int), (cs 6, .char), (cs 7, .boolean)] t ∧ ∀ G, va_D (n_A L sz) (va_pl u.1 G)) (n_A L sz)) 16 214163 (n_A L sz) := by
  refine Met.ofW (cc := cX7_init) (maxL := 1) (ret := none) (by decide) rfl ?_
  intro p e s m args below meth c s₁ B hml hv
  obtain ⟨rfl, hsz, hP, hK, hD, hN⟩ := hv
  have hx := B.exec
  have hb := B.bytes
  have hr := B.returns
  have hts : ∀ w ∈ T0, w.before _ s = true := fun w h => atoms_spec (ws := Cond.code yX7_init cX7_init 1 none :: T0) B.pre w (List.mem_cons_of_mem _ h)
  have hown : s.vm.findClass RX7 = some m.cls := findClass_of_methodNamed B.named
  have hlocks := B.notSynchronized
  have hin : meth.name = "<init>" := (name_of_methodNamed B.named B.method).1
  subst hsz
  generalize hAe : n_A L s.heap.size = A at hD ⊢
  have hA : ∀ q : Nat, s.heap.size ≤ q → A q := fun q h => by rw [← hAe]; exact Or.inr h
  have hS : va_S A s.heap s.heap [] := va_S.rf
  have hl := lv_entry ([.ref h0]) (n := 1) (Nat.le_of_ble_eq_true rfl)
  rw [lg_entry_eq]
  generalize (lg_sl ([.ref h0]) ++ List.replicate (1 - (lg_sl ([.ref h0])).length) Slot.unset).toArray = ls at hl ⊢
  have hl : lv_has ls 1 [(0, .ref h0)] := hl
  have hsub : ∀ a ∈ L, a ∈ L := fun _ h => h
  have hfr : ∀ a ∈ L, a ≠ h0 → F a = F a ∧ K a = K a := fun _ _ _ => ⟨rfl, rfl⟩
  have hX : n_X K K := n_Xr K
  have hLk0 := hLk
  have hks : ∀ a, K a = K a ∨ K a ∈ [50, 59, 60, 62, 63, 64, 67, 68, 70, 71, 72, 73, 74, 78, 79, 80] := fun a => Or.inl rfl
  refine s_gen hP hS (fun H locs hP hS => ?_)
  refine lv_aload_n hx hb dX7_init_0 rfl (lv_at hl 0 rfl) ?_
  refine W.objInit hx hb hown (hts _ T_239) (hts _ T_98) (hts _ T_0) rfl (by rw [hml]; exact hl.1) rfl dX7_init_1 (Nat.le_of_ble_eq_true rfl) (Nat.le_of_ble_eq_true rfl) ?_
  refine W.eq (g2 := F0 m 4 ls []) rfl ?_
  refine lv_aload_n hx hb dX7_init_4 rfl (lv_at hl 0 rfl) ?_
  refine lv_sipush (v := 1600) hx hb dX7_init_5 (by decide) ?_
  refine n_newa (atype := .int) (a0 := (1600, .inl (fun _ => 0))) hx hb (hts _ T_99) rfl hK hP hD hS hA 0 rfl (fun _ => rfl) (by decide) (by decide) (Nat.le_of_ble_eq_true rfl) (Nat.le_of_ble_eq_true rfl) (Nat.le_of_ble_eq_true rfl) dX7_init_8 (fun q1 H hq hP hD hS => ?_)
  obtain ⟨L2, hL2⟩ : ∃ M, M = L ++ [q1] := ⟨_, rfl⟩
  rw [← hL2] at hP hD
  obtain ⟨F3, hF3⟩ : ∃ M : Nat → va_E, M = va_up F q1 (.inl (cs 0, 1600, .inl (fun _ => 0))) := ⟨_, rfl⟩
  rw [← hF3] at hP
  obtain ⟨hI, hLk, hX1⟩ := n_add (c := 50) hI hLk hq trivial
  obtain ⟨K4, hK4⟩ : ∃ M, M = va_up K q1 50 := ⟨_, rfl⟩
  rw [← hK4, ← hF3] at hI
  rw [← hK4, ← hL2] at hLk
  rw [← hK4] at hX1
  have ne5 : q1 ≠ h0 := fun h => hq (h ▸ hh)
  have m6 : h0 ∈ L2 := by rw [hL2]; exact List.mem_append_left _ hh
  have k7 : K4 h0 = 0 := by rw [hK4]; exact th_ne (Ne.symm ne5) hk
  have o8 : F3 h0 = .inr (7, [.null, .int 0, .int 0, .int 0, .int 0, .int 0, .int 0, .int 0, .int 0, .null, .null, .int 0, .null, .null, .null, .int 0, .int 0, .null, .null, .int 0, .null, .null, .null, .null, .null, .int 0, .int 0, .int 0, .null, .null, .null, .int 0, .int 0, .long 0]) := by rw [hF3]; exact th_ne (Ne.symm ne5) o0
  have m9 : q1 ∈ L2 := by rw [hL2]; exact List.mem_append_right _ (List.mem_singleton.mpr rfl)
  have o10 : F3 q1 = (.inl (cs 0, 1600, .inl (fun _ => 0))) := by rw [hF3]; exact th_up
  have k11 : K4 q1 = 50 := by rw [hK4]; exact th_up
  have nl12 : q1 ∉ L := fun h => hq (hsub q1 h)
  have hfr : ∀ a ∈ L, a ≠ h0 → F3 a = F a ∧ K4 a = K a := fun a ha hne => ⟨by rw [hF3]; exact th_ne (fun h => nl12 (h ▸ ha)) (hfr a ha hne).1, by rw [hK4]; exact th_ne (fun h => nl12 (h ▸ ha)) (hfr a ha hne).2⟩
  have hsub : ∀ a ∈ L, a ∈ L2 := fun a ha => by rw [hL2]; exact List.mem_append_left _ (hsub a ha)
  have hX : n_X K K4 := n_Xt hX hX1
  have hks : ∀ a, K4 a = K a ∨ K4 a ∈ [50, 59, 60, 62, 63, 64, 67, 68, 70, 71, 72, 73, 74, 78, 79, 80] := fun a => by rw [hK4]; by_cases e9 : a = q1; (rw [e9, th_up]; right; decide); rw [show va_up K q1 50 a = K a from if_neg e9]; exact hks a
  refine W.widen (k := 1) (n := 1600) (Nat.le_of_ble_eq_true rfl) (Nat.le_of_ble_eq_true rfl) ?_
  refine n_putF (D := (dC, dI)) (ci := 7) (v := .ref q1) (ty := .array .int) (C := RX7) (T := TX7) (N := 34) hx hb hts inX7 tyX7 tyX7_ok nmX7 hown hK hP hD hS m6 o8 rfl 0 (by decide) (hts _ T_240) (fun _ h9 => h9) rfl hin rfl (by decide +kernel) rfl rfl (Nat.le_of_ble_eq_true rfl) dX7_init_10 (fun H locs hP hS => ?_)
  have hP : va_P (dC, dI) vwCl (va_pl L2 (va_up F3 h0 (.inr (7, [.ref q1, .int 0, .int 0, .int 0, .int 0, .int 0, .int 0, .int 0, .int 0, .null, .null, .int 0, .null, .null, .null, .int 0, .int 0, .null, .null, .int 0, .null, .null, .null, .null, .null, .int 0, .int 0, .int 0, .null, .null, .null, .int 0, .int 0, .long 0])))) H := hP
  obtain ⟨F13, hF13⟩ : ∃ M : Nat → va_E, M = va_up F3 h0 (.inr (7, [.ref q1, .int 0, .int 0, .int 0, .int 0, .int 0, .int 0, .int 0, .int 0, .null, .null, .int 0, .null, .null, .null, .int 0, .int 0, .null, .null, .int 0, .null, .null, .null, .null, .null, .int 0, .int 0, .int 0, .null, .null, .null, .int 0, .int 0, .long 0])) := ⟨_, rfl⟩
  rw [← hF13] at hP
  have hI : s_I K4 cs 0 F13 := by rw [hF13]; exact n_put0 hI k7
  have o14 : F13 q1 = .inl (cs 0, 1600, .inl (fun _ => 0)) := by rw [hF13]; exact th_ne ne5 o10
  have o15 : F13 h0 = .inr (7, [.ref q1, .int 0, .int 0, .int 0, .int 0, .int 0, .int 0, .int 0, .int 0, .null, .null, .int 0, .null, .null, .null, .int 0, .int 0, .null, .null, .int 0, .null, .null, .null, .null, .null, .int 0, .int 0, .int 0, .null, .null, .null, .int 0, .int 0, .long 0]) := by rw [hF13]; exact th_up
  have hfr : ∀ a ∈ L, a ≠ h0 → F13 a = F a ∧ K4 a = K a := fun a ha hne => ⟨by rw [hF13]; exact th_ne hne (hfr a ha hne).1, (hfr a ha hne).2⟩
  refine lv_aload_n hx hb dX7_init_13 rfl (lv_at hl 0 rfl) ?_
  refine lv_iconst (v := (-1)) hx hb dX7_init_14 (by decide) ?_
  refine th_put (D := (dC, dI)) (ci := 7) (v := .int (-1)) (ty := .int) (C := RX7) (T := TX7) (N := 34) hx hb hts inX7 tyX7 tyX7_ok nmX7 hown hK hP hD hS m6 o15 rfl 8 (by decide) (hts _ T_241) (fun _ h9 => h9) rfl (by decide +kernel) rfl rfl (Nat.le_of_ble_eq_true rfl) dX7_init_15 (fun H locs hP hS => ?_)
  have hP : va_P (dC, dI) vwCl (va_pl L2 (va_up F13 h0 (.inr (7, [.ref q1, .int 0, .int 0, .int 0, .int 0, .int 0, .int 0, .int 0, .int (-1), .null, .null, .int 0, .null, .null, .null, .int 0, .int 0, .null, .null, .int 0, .null, .null, .null, .null, .null, .int 0, .int 0, .int 0, .null, .null, .null, .int 0, .int 0, .long 0])))) H := hP
  obtain ⟨F16, hF16⟩ : ∃ M : Nat → va_E, M = va_up F13 h0 (.inr (7, [.ref q1, .int 0, .int 0, .int 0, .int 0, .int 0, .int 0, .int 0, .int (-1), .null, .null, .int 0, .null, .null, .null, .int 0, .int 0, .null, .null, .int 0, .null, .null, .null, .null, .null, .int 0, .int 0, .int 0, .null, .null, .null, .int 0, .int 0, .long 0])) := ⟨_, rfl⟩
  rw [← hF16] at hP
  have hI : s_I K4 cs 0 F16 := by rw [hF16]; exact n_put0 hI k7
  have o17 : F16 q1 = .inl (cs 0, 1600, .inl (fun _ => 0)) := by rw [hF16]; exact th_ne ne5 o14
  have o18 : F16 h0 = .inr (7, [.ref q1, .int 0, .int 0, .int 0, .int 0, .int 0, .int 0, .int 0, .int (-1), .null, .null, .int 0, .null, .null, .null, .int 0, .int 0, .null, .null, .int 0, .null, .null, .null, .null, .null, .int 0, .int 0, .int 0, .null, .null, .null, .int 0, .int 0, .long 0]) := by rw [hF16]; exact th_up
  have hfr : ∀ a ∈ L, a ≠ h0 → F16 a = F a ∧ K4 a = K a := fun a ha hne => ⟨by rw [hF16]; exact th_ne hne (hfr a ha hne).1, (hfr a ha hne).2⟩
  refine lv_aload_n hx hb dX7_init_18 rfl (lv_at hl 0 rfl) ?_
  refine lv_bipush (v := 6) hx hb dX7_init_19 (by decide) ?_
  refine n_newa (atype := .int) (a0 := (6, .inl (fun _ => 0))) hx hb (hts _ T_99) rfl hK hP hD hS hA 0 rfl (fun _ => rfl) (by decide) (by decide) (Nat.le_of_ble_eq_true rfl) (Nat.le_of_ble_eq_true rfl) (Nat.le_of_ble_eq_true rfl) dX7_init_21 (fun q19 H hq hP hD hS => ?_)
  obtain ⟨L20, hL20⟩ : ∃ M, M = L2 ++ [q19] := ⟨_, rfl⟩
  rw [← hL20] at hP hD
  obtain ⟨F21, hF21⟩ : ∃ M : Nat → va_E, M = va_up F16 q19 (.inl (cs 0, 6, .inl (fun _ => 0))) := ⟨_, rfl⟩
  rw [← hF21] at hP
  obtain ⟨hI, hLk, hX1⟩ := n_add (c := 59) hI hLk hq trivial
  obtain ⟨K22, hK22⟩ : ∃ M, M = va_up K4 q19 59 := ⟨_, rfl⟩
  rw [← hK22, ← hF21] at hI
  rw [← hK22, ← hL20] at hLk
  rw [← hK22] at hX1
  have ne23 : q19 ≠ h0 := fun h => hq (h ▸ m6)
  have ne24 : q19 ≠ q1 := fun h => hq (h ▸ m9)
  have m25 : h0 ∈ L20 := by rw [hL20]; exact List.mem_append_left _ m6
  have k26 : K22 h0 = 0 := by rw [hK22]; exact th_ne (Ne.symm ne23) k7
  have o27 : F21 h0 = .inr (7, [.ref q1, .int 0, .int 0, .int 0, .int 0, .int 0, .int 0, .int 0, .int (-1), .null, .null, .int 0, .null, .null, .null, .int 0, .int 0, .null, .null, .int 0, .null, .null, .null, .null, .null, .int 0, .int 0, .int 0, .null, .null, .null, .int 0, .int 0, .long 0]) := by rw [hF21]; exact th_ne (Ne.symm ne23) o18
  have m28 : q1 ∈ L20 := by rw [hL20]; exact List.mem_append_left _ m9
  have k29 : K22 q1 = 50 := by rw [hK22]; exact th_ne (Ne.symm ne24) k11
  have o30 : F21 q1 = .inl (cs 0, 1600, .inl (fun _ => 0)) := by rw [hF21]; exact th_ne (Ne.symm ne24) o17
  have m31 : q19 ∈ L20 := by rw [hL20]; exact List.mem_append_right _ (List.mem_singleton.mpr rfl)
  have o32 : F21 q19 = (.inl (cs 0, 6, .inl (fun _ => 0))) := by rw [hF21]; exact th_up
  have k33 : K22 q19 = 59 := by rw [hK22]; exact th_up
  have nl34 : q19 ∉ L := fun h => hq (hsub q19 h)
  have hfr : ∀ a ∈ L, a ≠ h0 → F21 a = F a ∧ K22 a = K a := fun a ha hne => ⟨by rw [hF21]; exact th_ne (fun h => nl34 (h ▸ ha)) (hfr a ha hne).1, by rw [hK22]; exact th_ne (fun h => nl34 (h ▸ ha)) (hfr a ha hne).2⟩
  have hsub : ∀ a ∈ L, a ∈ L20 := fun a ha => by rw [hL20]; exact List.mem_append_left _ (hsub a ha)
  have hX : n_X K K22 := n_Xt hX hX1
  have hks : ∀ a, K22 a = K a ∨ K22 a ∈ [50, 59, 60, 62, 63, 64, 67, 68, 70, 71, 72, 73, 74, 78, 79, 80] := fun a => by rw [hK22]; by_cases e9 : a = q19; (rw [e9, th_up]; right; decide); rw [show va_up K4 q19 59 a = K4 a from if_neg e9]; exact hks a
  refine W.widen (k := 2) (n := 1606) (Nat.le_of_ble_eq_true rfl) (Nat.le_of_ble_eq_true rfl) ?_
  refine n_putF (D := (dC, dI)) (ci := 7) (v := .ref q19) (ty := .array .int) (C := RX7) (T := TX7) (N := 34) hx hb hts inX7 tyX7 tyX7_ok nmX7 hown hK hP hD hS m25 o27 rfl 9 (by decide) (hts _ T_242) (fun _ h9 => h9) rfl hin rfl (by decide +kernel) rfl rfl (Nat.le_of_ble_eq_true rfl) dX7_init_23 (fun H locs hP hS => ?_)
  have hP : va_P (dC, dI) vwCl (va_pl L20 (va_up F21 h0 (.inr (7, [.ref q1, .int 0, .int 0, .int 0, .int 0, .int 0, .int 0, .int 0, .int (-1), .ref q19, .null, .int 0, .null, .null, .null, .int 0, .int 0, .null, .null, .int 0, .null, .null, .null, .null, .null, .int 0, .int 0, .int 0, .null, .null, .null, .int 0, .int 0, .long 0])))) H := hP
  obtain ⟨F35, hF35⟩ : ∃ M : Nat → va_E, M = va_up F21 h0 (.inr (7, [.ref q1, .int 0, .int 0, .int 0, .int 0, .int 0, .int 0, .int 0, .int (-1), .ref q19, .null, .int 0, .null, .null, .null, .int 0, .int 0, .null, .null, .int 0, .null, .null, .null, .null, .null, .int 0, .int 0, .int 0, .null, .null, .null, .int 0, .int 0, .long 0])) := ⟨_, rfl⟩
  rw [← hF35] at hP
  have hI : s_I K22 cs 0 F35 := by rw [hF35]; exact n_put0 hI k26
  have o36 : F35 q1 = .inl (cs 0, 1600, .inl (fun _ => 0)) := by rw [hF35]; exact th_ne ne5 o30
  have o37 : F35 q19 = .inl (cs 0, 6, .inl (fun _ => 0)) := by rw [hF35]; exact th_ne ne23 o32
  have o38 : F35 h0 = .inr (7, [.ref q1, .int 0, .int 0, .int 0, .int 0, .int 0, .int 0, .int 0, .int (-1), .ref q19, .null, .int 0, .null, .null, .null, .int 0, .int 0, .null, .null, .int 0, .null, .null, .null, .null, .null, .int 0, .int 0, .int 0, .null, .null, .null, .int 0, .int 0, .long 0]) := by rw [hF35]; exact th_up
  have hfr : ∀ a ∈ L, a ≠ h0 → F35 a = F a ∧ K22 a = K a := fun a ha hne => ⟨by rw [hF35]; exact th_ne hne (hfr a ha hne).1, (hfr a ha hne).2⟩
  refine lv_aload_n hx hb dX7_init_26 rfl (lv_at hl 0 rfl) ?_
  refine lv_bipush (v := 125) hx hb dX7_init_27 (by decide) ?_
  refine n_newa (atype := .char) (a0 := (125, .inl (fun _ => 0))) hx hb (hts _ T_243) rfl hK hP hD hS hA 6 rfl (fun _ => rfl) (by decide) (by decide) (Nat.le_of_ble_eq_true rfl) (Nat.le_of_ble_eq_true rfl) (Nat.le_of_ble_eq_true rfl) dX7_init_29 (fun q39 H hq hP hD hS => ?_)
  have hDs := hD
  refine lv_dup hx hb dX7_init_31 rfl ?_
  refine lv_iconst (v := 0) hx hb dX7_init_32 (by decide) ?_
  refine lv_bipush (v := 115) hx hb dX7_init_33 (by decide) ?_
  refine n_cast hx hb hK hP hD hS (List.mem_append_right _ (List.mem_singleton.mpr rfl)) 6 rfl (ax_in (by decide)) dX7_init_35 (fun H locs f9 hP hS => ?_)
  refine lv_dup hx hb dX7_init_36 rfl ?_
  refine lv_iconst (v := 1) hx hb dX7_init_37 (by decide) ?_
  refine lv_bipush (v := 101) hx hb dX7_init_38 (by decide) ?_
  refine n_cast hx hb hK hP hD hS (List.mem_append_right _ (List.mem_singleton.mpr rfl)) 6 rfl (ax_in (by decide)) dX7_init_40 (fun H locs f9 hP hS => ?_)
  refine lv_dup hx hb dX7_init_41 rfl ?_
  refine lv_iconst (v := 2) hx hb dX7_init_42 (by decide) ?_
  refine lv_bipush (v := 116) hx hb dX7_init_43 (by decide) ?_
  refine n_cast hx hb hK hP hD hS (List.mem_append_right _ (List.mem_singleton.mpr rfl)) 6 rfl (ax_in (by decide)) dX7_init_45 (fun H locs f9 hP hS => ?_)
  refine lv_dup hx hb dX7_init_46 rfl ?_
  refine lv_iconst (v := 3) hx hb dX7_init_47 (by decide) ?_
  refine lv_bipush (v := 32) hx hb dX7_init_48 (by decide) ?_
  refine n_cast hx hb hK hP hD hS (List.mem_append_right _ (List.mem_singleton.mpr rfl)) 6 rfl (ax_in (by decide)) dX7_init_50 (fun H locs f9 hP hS => ?_)
  refine lv_dup hx hb dX7_init_51 rfl ?_
  refine lv_iconst (v := 4) hx hb dX7_init_52 (by decide) ?_
  refine lv_bipush (v := 97) hx hb dX7_init_53 (by decide) ?_
  refine n_cast hx hb hK hP hD hS (List.mem_append_right _ (List.mem_singleton.mpr rfl)) 6 rfl (ax_in (by decide)) dX7_init_55 (fun H locs f9 hP hS => ?_)
  refine lv_dup hx hb dX7_init_56 rfl ?_
  refine lv_iconst (v := 5) hx hb dX7_init_57 (by decide) ?_
  refine lv_bipush (v := 100) hx hb dX7_init_58 (by decide) ?_
  refine n_cast hx hb hK hP hD hS (List.mem_append_right _ (List.mem_singleton.mpr rfl)) 6 rfl (ax_in (by decide)) dX7_init_60 (fun H locs f9 hP hS => ?_)
  refine lv_dup hx hb dX7_init_61 rfl ?_
  refine lv_bipush (v := 6) hx hb dX7_init_62 (by decide) ?_
  refine lv_bipush (v := 100) hx hb dX7_init_64 (by decide) ?_
  refine n_cast hx hb hK hP hD hS (List.mem_append_right _ (List.mem_singleton.mpr rfl)) 6 rfl (ax_in (by decide)) dX7_init_66 (fun H locs f9 hP hS => ?_)
  refine lv_dup hx hb dX7_init_67 rfl ?_
  refine lv_bipush (v := 7) hx hb dX7_init_68 (by decide) ?_
  refine lv_bipush (v := 32) hx hb dX7_init_70 (by decide) ?_
  refine n_cast hx hb hK hP hD hS (List.mem_append_right _ (List.mem_singleton.mpr rfl)) 6 rfl (ax_in (by decide)) dX7_init_72 (fun H locs f9 hP hS => ?_)
  refine lv_dup hx hb dX7_init_73 rfl ?_
  refine lv_bipush (v := 8) hx hb dX7_init_74 (by decide) ?_
  refine lv_bipush (v := 115) hx hb dX7_init_76 (by decide) ?_
  refine n_cast hx hb hK hP hD hS (List.mem_append_right _ (List.mem_singleton.mpr rfl)) 6 rfl (ax_in (by decide)) dX7_init_78 (fun H locs f9 hP hS => ?_)
  refine lv_dup hx hb dX7_init_79 rfl ?_
  refine lv_bipush (v := 9) hx hb dX7_init_80 (by decide) ?_
  refine lv_bipush (v := 117) hx hb dX7_init_82 (by decide) ?_
  refine n_cast hx hb hK hP hD hS (List.mem_append_right _ (List.mem_singleton.mpr rfl)) 6 rfl (ax_in (by decide)) dX7_init_84 (fun H locs f9 hP hS => ?_)
  refine lv_dup hx hb dX7_init_85 rfl ?_
  refine lv_bipush (v := 10) hx hb dX7_init_86 (by decide) ?_
  refine lv_bipush (v := 98) hx hb dX7_init_88 (by decide) ?_
  refine n_cast hx hb hK hP hD hS (List.mem_append_right _ (List.mem_singleton.mpr rfl)) 6 rfl (ax_in (by decide)) dX7_init_90 (fun H locs f9 hP hS => ?_)
  refine lv_dup hx hb dX7_init_91 rfl ?_
  refine lv_bipush (v := 11) hx hb dX7_init_92 (by decide) ?_
  refine lv_bipush (v := 32) hx hb dX7_init_94 (by decide) ?_
  refine n_cast hx hb hK hP hD hS (List.mem_append_right _ (List.mem_singleton.mpr rfl)) 6 rfl (ax_in (by decide)) dX7_init_96 (fun H locs f9 hP hS => ?_)
  refine lv_dup hx hb dX7_init_97 rfl ?_
  refine lv_bipush (v := 12) hx hb dX7_init_98 (by decide) ?_
  refine lv_bipush (v := 109) hx hb dX7_init_100 (by decide) ?_
  refine n_cast hx hb hK hP hD hS (List.mem_append_right _ (List.mem_singleton.mpr rfl)) 6 rfl (ax_in (by decide)) dX7_init_102 (fun H locs f9 hP hS => ?_)
  refine lv_dup hx hb dX7_init_103 rfl ?_
  refine lv_bipush (v := 13) hx hb dX7_init_104 (by decide) ?_
  refine lv_bipush (v := 117) hx hb dX7_init_106 (by decide) ?_
  refine n_cast hx hb hK hP hD hS (List.mem_append_right _ (List.mem_singleton.mpr rfl)) 6 rfl (ax_in (by decide)) dX7_init_108 (fun H locs f9 hP hS => ?_)
  refine lv_dup hx hb dX7_init_109 rfl ?_
  refine lv_bipush (v := 14) hx hb dX7_init_110 (by decide) ?_
  refine lv_bipush (v := 108) hx hb dX7_init_112 (by decide) ?_
  refine n_cast hx hb hK hP hD hS (List.mem_append_right _ (List.mem_singleton.mpr rfl)) 6 rfl (ax_in (by decide)) dX7_init_114 (fun H locs f9 hP hS => ?_)
  refine lv_dup hx hb dX7_init_115 rfl ?_
  refine lv_bipush (v := 15) hx hb dX7_init_116 (by decide) ?_
  refine lv_bipush (v := 32) hx hb dX7_init_118 (by decide) ?_
  refine n_cast hx hb hK hP hD hS (List.mem_append_right _ (List.mem_singleton.mpr rfl)) 6 rfl (ax_in (by decide)) dX7_init_120 (fun H locs f9 hP hS => ?_)
  refine lv_dup hx hb dX7_init_121 rfl ?_
  refine lv_bipush (v := 16) hx hb dX7_init_122 (by decide) ?_
  refine lv_bipush (v := 114) hx hb dX7_init_124 (by decide) ?_
  refine n_cast hx hb hK hP hD hS (List.mem_append_right _ (List.mem_singleton.mpr rfl)) 6 rfl (ax_in (by decide)) dX7_init_126 (fun H locs f9 hP hS => ?_)
  refine lv_dup hx hb dX7_init_127 rfl ?_
  refine lv_bipush (v := 17) hx hb dX7_init_128 (by decide) ?_
  refine lv_bipush (v := 101) hx hb dX7_init_130 (by decide) ?_
  refine n_cast hx hb hK hP hD hS (List.mem_append_right _ (List.mem_singleton.mpr rfl)) 6 rfl (ax_in (by decide)) dX7_init_132 (fun H locs f9 hP hS => ?_)
  refine lv_dup hx hb dX7_init_133 rfl ?_
  refine lv_bipush (v := 18) hx hb dX7_init_134 (by decide) ?_
  refine lv_bipush (v := 109) hx hb dX7_init_136 (by decide) ?_
  refine n_cast hx hb hK hP hD hS (List.mem_append_right _ (List.mem_singleton.mpr rfl)) 6 rfl (ax_in (by decide)) dX7_init_138 (fun H locs f9 hP hS => ?_)
  refine lv_dup hx hb dX7_init_139 rfl ?_
  refine lv_bipush (v := 19) hx hb dX7_init_140 (by decide) ?_
  refine lv_bipush (v := 32) hx hb dX7_init_142 (by decide) ?_
  refine n_cast hx hb hK hP hD hS (List.mem_append_right _ (List.mem_singleton.mpr rfl)) 6 rfl (ax_in (by decide)) dX7_init_144 (fun H locs f9 hP hS => ?_)
  refine lv_dup hx hb dX7_init_145 rfl ?_
  refine lv_bipush (v := 20) hx hb dX7_init_146 (by decide) ?_
  refine lv_bipush (v := 108) hx hb dX7_init_148 (by decide) ?_
  refine n_cast hx hb hK hP hD hS (List.mem_append_right _ (List.mem_singleton.mpr rfl)) 6 rfl (ax_in (by decide)) dX7_init_150 (fun H locs f9 hP hS => ?_)
  refine lv_dup hx hb dX7_init_151 rfl ?_
  refine lv_bipush (v := 21) hx hb dX7_init_152 (by decide) ?_
  refine lv_bipush (v := 97) hx hb dX7_init_154 (by decide) ?_
  refine n_cast hx hb hK hP hD hS (List.mem_append_right _ (List.mem_singleton.mpr rfl)) 6 rfl (ax_in (by decide)) dX7_init_156 (fun H locs f9 hP hS => ?_)
  refine lv_dup hx hb dX7_init_157 rfl ?_
  refine lv_bipush (v := 22) hx hb dX7_init_158 (by decide) ?_
  refine lv_bipush (v := 110) hx hb dX7_init_160 (by decide) ?_
  refine n_cast hx hb hK hP hD hS (List.mem_append_right _ (List.mem_singleton.mpr rfl)) 6 rfl (ax_in (by decide)) dX7_init_162 (fun H locs f9 hP hS => ?_)
  refine lv_dup hx hb dX7_init_163 rfl ?_
  refine lv_bipush (v := 23) hx hb dX7_init_164 (by decide) ?_
  refine lv_bipush (v := 101) hx hb dX7_init_166 (by decide) ?_
  refine n_cast hx hb hK hP hD hS (List.mem_append_right _ (List.mem_singleton.mpr rfl)) 6 rfl (ax_in (by decide)) dX7_init_168 (fun H locs f9 hP hS => ?_)
  refine lv_dup hx hb dX7_init_169 rfl ?_
  refine lv_bipush (v := 24) hx hb dX7_init_170 (by decide) ?_
  refine lv_bipush (v := 32) hx hb dX7_init_172 (by decide) ?_
  refine n_cast hx hb hK hP hD hS (List.mem_append_right _ (List.mem_singleton.mpr rfl)) 6 rfl (ax_in (by decide)) dX7_init_174 (fun H locs f9 hP hS => ?_)
  refine lv_dup hx hb dX7_init_175 rfl ?_
  refine lv_bipush (v := 25) hx hb dX7_init_176 (by decide) ?_
  refine lv_bipush (v := 119) hx hb dX7_init_178 (by decide) ?_
  refine n_cast hx hb hK hP hD hS (List.mem_append_right _ (List.mem_singleton.mpr rfl)) 6 rfl (ax_in (by decide)) dX7_init_180 (fun H locs f9 hP hS => ?_)
  refine lv_dup hx hb dX7_init_181 rfl ?_
  refine lv_bipush (v := 26) hx hb dX7_init_182 (by decide) ?_
  refine lv_bipush (v := 97) hx hb dX7_init_184 (by decide) ?_
  refine n_cast hx hb hK hP hD hS (List.mem_append_right _ (List.mem_singleton.mpr rfl)) 6 rfl (ax_in (by decide)) dX7_init_186 (fun H locs f9 hP hS => ?_)
  refine lv_dup hx hb dX7_init_187 rfl ?_
  refine lv_bipush (v := 27) hx hb dX7_init_188 (by decide) ?_
  refine lv_bipush (v := 114) hx hb dX7_init_190 (by decide) ?_
  refine n_cast hx hb hK hP hD hS (List.mem_append_right _ (List.mem_singleton.mpr rfl)) 6 rfl (ax_in (by decide)) dX7_init_192 (fun H locs f9 hP hS => ?_)
  refine lv_dup hx hb dX7_init_193 rfl ?_
  refine lv_bipush (v := 28) hx hb dX7_init_194 (by decide) ?_
  refine lv_bipush (v := 112) hx hb dX7_init_196 (by decide) ?_
  refine n_cast hx hb hK hP hD hS (List.mem_append_right _ (List.mem_singleton.mpr rfl)) 6 rfl (ax_in (by decide)) dX7_init_198 (fun H locs f9 hP hS => ?_)
  refine lv_dup hx hb dX7_init_199 rfl ?_
  refine lv_bipush (v := 29) hx hb dX7_init_200 (by decide) ?_
  refine lv_bipush (v := 32) hx hb dX7_init_202 (by decide) ?_
  refine n_cast hx hb hK hP hD hS (List.mem_append_right _ (List.mem_singleton.mpr rfl)) 6 rfl (ax_in (by decide)) dX7_init_204 (fun H locs f9 hP hS => ?_)
  refine lv_dup hx hb dX7_init_205 rfl ?_
  refine lv_bipush (v := 30) hx hb dX7_init_206 (by decide) ?_
  refine lv_bipush (v := 108) hx hb dX7_init_208 (by decide) ?_
  refine n_cast hx hb hK hP hD hS (List.mem_append_right _ (List.mem_singleton.mpr rfl)) 6 rfl (ax_in (by decide)) dX7_init_210 (fun H locs f9 hP hS => ?_)
  refine lv_dup hx hb dX7_init_211 rfl ?_
  refine lv_bipush (v := 31) hx hb dX7_init_212 (by decide) ?_
  refine lv_bipush (v := 111) hx hb dX7_init_214 (by decide) ?_
  refine n_cast hx hb hK hP hD hS (List.mem_append_right _ (List.mem_singleton.mpr rfl)) 6 rfl (ax_in (by decide)) dX7_init_216 (fun H locs f9 hP hS => ?_)
  refine lv_dup hx hb dX7_init_217 rfl ?_
  refine lv_bipush (v := 32) hx hb dX7_init_218 (by decide) ?_
  refine lv_bipush (v := 97) hx hb dX7_init_220 (by decide) ?_
  refine n_cast hx hb hK hP hD hS (List.mem_append_right _ (List.mem_singleton.mpr rfl)) 6 rfl (ax_in (by decide)) dX7_init_222 (fun H locs f9 hP hS => ?_)
  refine lv_dup hx hb dX7_init_223 rfl ?_
  refine lv_bipush (v := 33) hx hb dX7_init_224 (by decide) ?_
  refine lv_bipush (v := 100) hx hb dX7_init_226 (by decide) ?_
  refine n_cast hx hb hK hP hD hS (List.mem_append_right _ (List.mem_singleton.mpr rfl)) 6 rfl (ax_in (by decide)) dX7_init_228 (fun H locs f9 hP hS => ?_)
  refine lv_dup hx hb dX7_init_229 rfl ?_
  refine lv_bipush (v := 34) hx hb dX7_init_230 (by decide) ?_
  refine lv_bipush (v := 32) hx hb dX7_init_232 (by decide) ?_
  refine n_cast hx hb hK hP hD hS (List.mem_append_right _ (List.mem_singleton.mpr rfl)) 6 rfl (ax_in (by decide)) dX7_init_234 (fun H locs f9 hP hS => ?_)
  refine lv_dup hx hb dX7_init_235 rfl ?_
  refine lv_bipush (v := 35) hx hb dX7_init_236 (by decide) ?_
  refine lv_bipush (v := 115) hx hb dX7_init_238 (by decide) ?_
  refine n_cast hx hb hK hP hD hS (List.mem_append_right _ (List.mem_singleton.mpr rfl)) 6 rfl (ax_in (by decide)) dX7_init_240 (fun H locs f9 hP hS => ?_)
  refine lv_dup hx hb dX7_init_241 rfl ?_
  refine lv_bipush (v := 36) hx hb dX7_init_242 (by decide) ?_
  refine lv_bipush (v := 116) hx hb dX7_init_244 (by decide) ?_
  refine n_cast hx hb hK hP hD hS (List.mem_append_right _ (List.mem_singleton.mpr rfl)) 6 rfl (ax_in (by decide)) dX7_init_246 (fun H locs f9 hP hS => ?_)
  refine lv_dup hx hb dX7_init_247 rfl ?_
  refine lv_bipush (v := 37) hx hb dX7_init_248 (by decide) ?_
  refine lv_bipush (v := 111) hx hb dX7_init_250 (by decide) ?_
  refine n_cast hx hb hK hP hD hS (List.mem_append_right _ (List.mem_singleton.mpr rfl)) 6 rfl (ax_in (by decide)) dX7_init_252 (fun H locs f9 hP hS => ?_)
  refine lv_dup hx hb dX7_init_253 rfl ?_
  refine lv_bipush (v := 38) hx hb dX7_init_254 (by decide) ?_
  refine lv_bipush (v := 114) hx hb dX7_init_256 (by decide) ?_
  refine n_cast hx hb hK hP hD hS (List.mem_append_right _ (List.mem_singleton.mpr rfl)) 6 rfl (ax_in (by decide)) dX7_init_258 (fun H locs f9 hP hS => ?_)
  refine lv_dup hx hb dX7_init_259 rfl ?_
  refine lv_bipush (v := 39) hx hb dX7_init_260 (by decide) ?_
  refine lv_bipush (v := 101) hx hb dX7_init_262 (by decide) ?_
  refine n_cast hx hb hK hP hD hS (List.mem_append_right _ (List.mem_singleton.mpr rfl)) 6 rfl (ax_in (by decide)) dX7_init_264 (fun H locs f9 hP hS => ?_)
  refine lv_dup hx hb dX7_init_265 rfl ?_
  refine lv_bipush (v := 40) hx hb dX7_init_266 (by decide) ?_
  refine lv_bipush (v := 32) hx hb dX7_init_268 (by decide) ?_
  refine n_cast hx hb hK hP hD hS (List.mem_append_right _ (List.mem_singleton.mpr rfl)) 6 rfl (ax_in (by decide)) dX7_init_270 (fun H locs f9 hP hS => ?_)
  refine lv_dup hx hb dX7_init_271 rfl ?_
  refine lv_bipush (v := 41) hx hb dX7_init_272 (by decide) ?_
  refine lv_bipush (v := 103) hx hb dX7_init_274 (by decide) ?_
  refine n_cast hx hb hK hP hD hS (List.mem_append_right _ (List.mem_singleton.mpr rfl)) 6 rfl (ax_in (by decide)) dX7_init_276 (fun H locs f9 hP hS => ?_)
  refine lv_dup hx hb dX7_init_277 rfl ?_
  refine lv_bipush (v := 42) hx hb dX7_init_278 (by decide) ?_
  refine lv_bipush (v := 101) hx hb dX7_init_280 (by decide) ?_
  refine n_cast hx hb hK hP hD hS (List.mem_append_right _ (List.mem_singleton.mpr rfl)) 6 rfl (ax_in (by decide)) dX7_init_282 (fun H locs f9 hP hS => ?_)
  refine lv_dup hx hb dX7_init_283 rfl ?_
  refine lv_bipush (v := 43) hx hb dX7_init_284 (by decide) ?_
  refine lv_bipush (v := 116) hx hb dX7_init_286 (by decide) ?_
  refine n_cast hx hb hK hP hD hS (List.mem_append_right _ (List.mem_singleton.mpr rfl)) 6 rfl (ax_in (by decide)) dX7_init_288 (fun H locs f9 hP hS => ?_)
  refine lv_dup hx hb dX7_init_289 rfl ?_
  refine lv_bipush (v := 44) hx hb dX7_init_290 (by decide) ?_
  refine lv_bipush (v := 32) hx hb dX7_init_292 (by decide) ?_
  refine n_cast hx hb hK hP hD hS (List.mem_append_right _ (List.mem_singleton.mpr rfl)) 6 rfl (ax_in (by decide)) dX7_init_294 (fun H locs f9 hP hS => ?_)
  refine lv_dup hx hb dX7_init_295 rfl ?_
  refine lv_bipush (v := 45) hx hb dX7_init_296 (by decide) ?_
  refine lv_bipush (v := 112) hx hb dX7_init_298 (by decide) ?_
  refine n_cast hx hb hK hP hD hS (List.mem_append_right _ (List.mem_singleton.mpr rfl)) 6 rfl (ax_in (by decide)) dX7_init_300 (fun H locs f9 hP hS => ?_)
  refine lv_dup hx hb dX7_init_301 rfl ?_
  refine lv_bipush (v := 46) hx hb dX7_init_302 (by decide) ?_
  refine lv_bipush (v := 117) hx hb dX7_init_304 (by decide) ?_
  refine n_cast hx hb hK hP hD hS (List.mem_append_right _ (List.mem_singleton.mpr rfl)) 6 rfl (ax_in (by decide)) dX7_init_306 (fun H locs f9 hP hS => ?_)
  refine lv_dup hx hb dX7_init_307 rfl ?_
  refine lv_bipush (v := 47) hx hb dX7_init_308 (by decide) ?_
  refine lv_bipush (v := 116) hx hb dX7_init_310 (by decide) ?_
  refine n_cast hx hb hK hP hD hS (List.mem_append_right _ (List.mem_singleton.mpr rfl)) 6 rfl (ax_in (by decide)) dX7_init_312 (fun H locs f9 hP hS => ?_)
  refine lv_dup hx hb dX7_init_313 rfl ?_
  refine lv_bipush (v := 48) hx hb dX7_init_314 (by decide) ?_
  refine lv_bipush (v := 32) hx hb dX7_init_316 (by decide) ?_
  refine n_cast hx hb hK hP hD hS (List.mem_append_right _ (List.mem_singleton.mpr rfl)) 6 rfl (ax_in (by decide)) dX7_init_318 (fun H locs f9 hP hS => ?_)
  refine lv_dup hx hb dX7_init_319 rfl ?_
  refine lv_bipush (v := 49) hx hb dX7_init_320 (by decide) ?_
  refine lv_bipush (v := 115) hx hb dX7_init_322 (by decide) ?_
  refine n_cast hx hb hK hP hD hS (List.mem_append_right _ (List.mem_singleton.mpr rfl)) 6 rfl (ax_in (by decide)) dX7_init_324 (fun H locs f9 hP hS => ?_)
  refine lv_dup hx hb dX7_init_325 rfl ?_
  refine lv_bipush (v := 50) hx hb dX7_init_326 (by decide) ?_
  refine lv_bipush (v := 119) hx hb dX7_init_328 (by decide) ?_
  refine n_cast hx hb hK hP hD hS (List.mem_append_right _ (List.mem_singleton.mpr rfl)) 6 rfl (ax_in (by decide)) dX7_init_330 (fun H locs f9 hP hS => ?_)
  refine lv_dup hx hb dX7_init_331 rfl ?_
  refine lv_bipush (v := 51) hx hb dX7_init_332 (by decide) ?_
  refine lv_bipush (v := 97) hx hb dX7_init_334 (by decide) ?_
  refine n_cast hx hb hK hP hD hS (List.mem_append_right _ (List.mem_singleton.mpr rfl)) 6 rfl (ax_in (by decide)) dX7_init_336 (fun H locs f9 hP hS => ?_)
  refine lv_dup hx hb dX7_init_337 rfl ?_
  refine lv_bipush (v := 52) hx hb dX7_init_338 (by decide) ?_
  refine lv_bipush (v := 112) hx hb dX7_init_340 (by decide) ?_
  refine n_cast hx hb hK hP hD hS (List.mem_append_right _ (List.mem_singleton.mpr rfl)) 6 rfl (ax_in (by decide)) dX7_init_342 (fun H locs f9 hP hS => ?_)
  refine lv_dup hx hb dX7_init_343 rfl ?_
  refine lv_bipush (v := 53) hx hb dX7_init_344 (by decide) ?_
  refine lv_bipush (v := 32) hx hb dX7_init_346 (by decide) ?_
  refine n_cast hx hb hK hP hD hS (List.mem_append_right _ (List.mem_singleton.mpr rfl)) 6 rfl (ax_in (by decide)) dX7_init_348 (fun H locs f9 hP hS => ?_)
  refine lv_dup hx hb dX7_init_349 rfl ?_
  refine lv_bipush (v := 54) hx hb dX7_init_350 (by decide) ?_
  refine lv_bipush (v := 103) hx hb dX7_init_352 (by decide) ?_
  refine n_cast hx hb hK hP hD hS (List.mem_append_right _ (List.mem_singleton.mpr rfl)) 6 rfl (ax_in (by decide)) dX7_init_354 (fun H locs f9 hP hS => ?_)
  refine lv_dup hx hb dX7_init_355 rfl ?_
  refine lv_bipush (v := 55) hx hb dX7_init_356 (by decide) ?_
  refine lv_bipush (v := 111) hx hb dX7_init_358 (by decide) ?_
  refine n_cast hx hb hK hP hD hS (List.mem_append_right _ (List.mem_singleton.mpr rfl)) 6 rfl (ax_in (by decide)) dX7_init_360 (fun H locs f9 hP hS => ?_)
  refine lv_dup hx hb dX7_init_361 rfl ?_
  refine lv_bipush (v := 56) hx hb dX7_init_362 (by decide) ?_
  refine lv_bipush (v := 32) hx hb dX7_init_364 (by decide) ?_
  refine n_cast hx hb hK hP hD hS (List.mem_append_right _ (List.mem_singleton.mpr rfl)) 6 rfl (ax_in (by decide)) dX7_init_366 (fun H locs f9 hP hS => ?_)
  refine lv_dup hx hb dX7_init_367 rfl ?_
  refine lv_bipush (v := 57) hx hb dX7_init_368 (by decide) ?_
  refine lv_bipush (v := 98) hx hb dX7_init_370 (by decide) ?_
  refine n_cast hx hb hK hP hD hS (List.mem_append_right _ (List.mem_singleton.mpr rfl)) 6 rfl (ax_in (by decide)) dX7_init_372 (fun H locs f9 hP hS => ?_)
  refine lv_dup hx hb dX7_init_373 rfl ?_
  refine lv_bipush (v := 58) hx hb dX7_init_374 (by decide) ?_
  refine lv_bipush (v := 97) hx hb dX7_init_376 (by decide) ?_
  refine n_cast hx hb hK hP hD hS (List.mem_append_right _ (List.mem_singleton.mpr rfl)) 6 rfl (ax_in (by decide)) dX7_init_378 (fun H locs f9 hP hS => ?_)
  refine lv_dup hx hb dX7_init_379 rfl ?_
  refine lv_bipush (v := 59) hx hb dX7_init_380 (by decide) ?_
  refine lv_bipush (v := 114) hx hb dX7_init_382 (by decide) ?_
  refine n_cast hx hb hK hP hD hS (List.mem_append_right _ (List.mem_singleton.mpr rfl)) 6 rfl (ax_in (by decide)) dX7_init_384 (fun H locs f9 hP hS => ?_)
  refine lv_dup hx hb dX7_init_385 rfl ?_
  refine lv_bipush (v := 60) hx hb dX7_init_386 (by decide) ?_
  refine lv_bipush (v := 32) hx hb dX7_init_388 (by decide) ?_
  refine n_cast hx hb hK hP hD hS (List.mem_append_right _ (List.mem_singleton.mpr rfl)) 6 rfl (ax_in (by decide)) dX7_init_390 (fun H locs f9 hP hS => ?_)
  refine lv_dup hx hb dX7_init_391 rfl ?_
  refine lv_bipush (v := 61) hx hb dX7_init_392 (by decide) ?_
  refine lv_bipush (v := 121) hx hb dX7_init_394 (by decide) ?_
  refine n_cast hx hb hK hP hD hS (List.mem_append_right _ (List.mem_singleton.mpr rfl)) 6 rfl (ax_in (by decide)) dX7_init_396 (fun H locs f9 hP hS => ?_)
  refine lv_dup hx hb dX7_init_397 rfl ?_
  refine lv_bipush (v := 62) hx hb dX7_init_398 (by decide) ?_
  refine lv_bipush (v := 105) hx hb dX7_init_400 (by decide) ?_
  refine n_cast hx hb hK hP hD hS (List.mem_append_right _ (List.mem_singleton.mpr rfl)) 6 rfl (ax_in (by decide)) dX7_init_402 (fun H locs f9 hP hS => ?_)
  refine lv_dup hx hb dX7_init_403 rfl ?_
  refine lv_bipush (v := 63) hx hb dX7_init_404 (by decide) ?_
  refine lv_bipush (v := 101) hx hb dX7_init_406 (by decide) ?_
  refine n_cast hx hb hK hP hD hS (List.mem_append_right _ (List.mem_singleton.mpr rfl)) 6 rfl (ax_in (by decide)) dX7_init_408 (fun H locs f9 hP hS => ?_)
  refine lv_dup hx hb dX7_init_409 rfl ?_
  refine lv_bipush (v := 64) hx hb dX7_init_410 (by decide) ?_
  refine lv_bipush (v := 108) hx hb dX7_init_412 (by decide) ?_
  refine n_cast hx hb hK hP hD hS (List.mem_append_right _ (List.mem_singleton.mpr rfl)) 6 rfl (ax_in (by decide)) dX7_init_414 (fun H locs f9 hP hS => ?_)
  refine lv_dup hx hb dX7_init_415 rfl ?_
  refine lv_bipush (v := 65) hx hb dX7_init_416 (by decide) ?_
  refine lv_bipush (v := 100) hx hb dX7_init_418 (by decide) ?_
  refine n_cast hx hb hK hP hD hS (List.mem_append_right _ (List.mem_singleton.mpr rfl)) 6 rfl (ax_in (by decide)) dX7_init_420 (fun H locs f9 hP hS => ?_)
  refine lv_dup hx hb dX7_init_421 rfl ?_
  refine lv_bipush (v := 66) hx hb dX7_init_422 (by decide) ?_
  refine lv_bipush (v := 32) hx hb dX7_init_424 (by decide) ?_
  refine n_cast hx hb hK hP hD hS (List.mem_append_right _ (List.mem_singleton.mpr rfl)) 6 rfl (ax_in (by decide)) dX7_init_426 (fun H locs f9 hP hS => ?_)
  refine lv_dup hx hb dX7_init_427 rfl ?_
  refine lv_bipush (v := 67) hx hb dX7_init_428 (by decide) ?_
  refine lv_bipush (v := 101) hx hb dX7_init_430 (by decide) ?_
  refine n_cast hx hb hK hP hD hS (List.mem_append_right _ (List.mem_singleton.mpr rfl)) 6 rfl (ax_in (by decide)) dX7_init_432 (fun H locs f9 hP hS => ?_)
  refine lv_dup hx hb dX7_init_433 rfl ?_
  refine lv_bipush (v := 68) hx hb dX7_init_434 (by decide) ?_
  refine lv_bipush (v := 110) hx hb dX7_init_436 (by decide) ?_
  refine n_cast hx hb hK hP hD hS (List.mem_append_right _ (List.mem_singleton.mpr rfl)) 6 rfl (ax_in (by decide)) dX7_init_438 (fun H locs f9 hP hS => ?_)
  refine lv_dup hx hb dX7_init_439 rfl ?_
  refine lv_bipush (v := 69) hx hb dX7_init_440 (by decide) ?_
  refine lv_bipush (v := 100) hx hb dX7_init_442 (by decide) ?_
  refine n_cast hx hb hK hP hD hS (List.mem_append_right _ (List.mem_singleton.mpr rfl)) 6 rfl (ax_in (by decide)) dX7_init_444 (fun H locs f9 hP hS => ?_)
  refine lv_dup hx hb dX7_init_445 rfl ?_
  refine lv_bipush (v := 70) hx hb dX7_init_446 (by decide) ?_
  refine lv_bipush (v := 32) hx hb dX7_init_448 (by decide) ?_
  refine n_cast hx hb hK hP hD hS (List.mem_append_right _ (List.mem_singleton.mpr rfl)) 6 rfl (ax_in (by decide)) dX7_init_450 (fun H locs f9 hP hS => ?_)
  refine lv_dup hx hb dX7_init_451 rfl ?_
  refine lv_bipush (v := 71) hx hb dX7_init_452 (by decide) ?_
  refine lv_bipush (v := 97) hx hb dX7_init_454 (by decide) ?_
  refine n_cast hx hb hK hP hD hS (List.mem_append_right _ (List.mem_singleton.mpr rfl)) 6 rfl (ax_in (by decide)) dX7_init_456 (fun H locs f9 hP hS => ?_)
  refine lv_dup hx hb dX7_init_457 rfl ?_
  refine lv_bipush (v := 72) hx hb dX7_init_458 (by decide) ?_
  refine lv_bipush (v := 32) hx hb dX7_init_460 (by decide) ?_
  refine n_cast hx hb hK hP hD hS (List.mem_append_right _ (List.mem_singleton.mpr rfl)) 6 rfl (ax_in (by decide)) dX7_init_462 (fun H locs f9 hP hS => ?_)
  refine lv_dup hx hb dX7_init_463 rfl ?_
  refine lv_bipush (v := 73) hx hb dX7_init_464 (by decide) ?_
  refine lv_bipush (v := 98) hx hb dX7_init_466 (by decide) ?_
  refine n_cast hx hb hK hP hD hS (List.mem_append_right _ (List.mem_singleton.mpr rfl)) 6 rfl (ax_in (by decide)) dX7_init_468 (fun H locs f9 hP hS => ?_)
  refine lv_dup hx hb dX7_init_469 rfl ?_
  refine lv_bipush (v := 74) hx hb dX7_init_470 (by decide) ?_
  refine lv_bipush (v := 32) hx hb dX7_init_472 (by decide) ?_
  refine n_cast hx hb hK hP hD hS (List.mem_append_right _ (List.mem_singleton.mpr rfl)) 6 rfl (ax_in (by decide)) dX7_init_474 (fun H locs f9 hP hS => ?_)
  refine lv_dup hx hb dX7_init_475 rfl ?_
  refine lv_bipush (v := 75) hx hb dX7_init_476 (by decide) ?_
  refine lv_bipush (v := 99) hx hb dX7_init_478 (by decide) ?_
  refine n_cast hx hb hK hP hD hS (List.mem_append_right _ (List.mem_singleton.mpr rfl)) 6 rfl (ax_in (by decide)) dX7_init_480 (fun H locs f9 hP hS => ?_)
  refine lv_dup hx hb dX7_init_481 rfl ?_
  refine lv_bipush (v := 76) hx hb dX7_init_482 (by decide) ?_
  refine lv_bipush (v := 32) hx hb dX7_init_484 (by decide) ?_
  refine n_cast hx hb hK hP hD hS (List.mem_append_right _ (List.mem_singleton.mpr rfl)) 6 rfl (ax_in (by decide)) dX7_init_486 (fun H locs f9 hP hS => ?_)
  refine lv_dup hx hb dX7_init_487 rfl ?_
  refine lv_bipush (v := 77) hx hb dX7_init_488 (by decide) ?_
  refine lv_bipush (v := 100) hx hb dX7_init_490 (by decide) ?_
  refine n_cast hx hb hK hP hD hS (List.mem_append_right _ (List.mem_singleton.mpr rfl)) 6 rfl (ax_in (by decide)) dX7_init_492 (fun H locs f9 hP hS => ?_)
  refine lv_dup hx hb dX7_init_493 rfl ?_
  refine lv_bipush (v := 78) hx hb dX7_init_494 (by decide) ?_
  refine lv_bipush (v := 32) hx hb dX7_init_496 (by decide) ?_
  refine n_cast hx hb hK hP hD hS (List.mem_append_right _ (List.mem_singleton.mpr rfl)) 6 rfl (ax_in (by decide)) dX7_init_498 (fun H locs f9 hP hS => ?_)
  refine lv_dup hx hb dX7_init_499 rfl ?_
  refine lv_bipush (v := 79) hx hb dX7_init_500 (by decide) ?_
  refine lv_bipush (v := 119) hx hb dX7_init_502 (by decide) ?_
  refine n_cast hx hb hK hP hD hS (List.mem_append_right _ (List.mem_singleton.mpr rfl)) 6 rfl (ax_in (by decide)) dX7_init_504 (fun H locs f9 hP hS => ?_)
  refine lv_dup hx hb dX7_init_505 rfl ?_
  refine lv_bipush (v := 80) hx hb dX7_init_506 (by decide) ?_
  refine lv_bipush (v := 97) hx hb dX7_init_508 (by decide) ?_
  refine n_cast hx hb hK hP hD hS (List.mem_append_right _ (List.mem_singleton.mpr rfl)) 6 rfl (ax_in (by decide)) dX7_init_510 (fun H locs f9 hP hS => ?_)
  refine lv_dup hx hb dX7_init_511 rfl ?_
  refine lv_bipush (v := 81) hx hb dX7_init_512 (by decide) ?_
  refine lv_bipush (v := 114) hx hb dX7_init_514 (by decide) ?_
  refine n_cast hx hb hK hP hD hS (List.mem_append_right _ (List.mem_singleton.mpr rfl)) 6 rfl (ax_in (by decide)) dX7_init_516 (fun H locs f9 hP hS => ?_)
  refine lv_dup hx hb dX7_init_517 rfl ?_
  refine lv_bipush (v := 82) hx hb dX7_init_518 (by decide) ?_
  refine lv_bipush (v := 112) hx hb dX7_init_520 (by decide) ?_
  refine n_cast hx hb hK hP hD hS (List.mem_append_right _ (List.mem_singleton.mpr rfl)) 6 rfl (ax_in (by decide)) dX7_init_522 (fun H locs f9 hP hS => ?_)
  refine lv_dup hx hb dX7_init_523 rfl ?_
  refine lv_bipush (v := 83) hx hb dX7_init_524 (by decide) ?_
  refine lv_bipush (v := 115) hx hb dX7_init_526 (by decide) ?_
  refine n_cast hx hb hK hP hD hS (List.mem_append_right _ (List.mem_singleton.mpr rfl)) 6 rfl (ax_in (by decide)) dX7_init_528 (fun H locs f9 hP hS => ?_)
  refine lv_dup hx hb dX7_init_529 rfl ?_
  refine lv_bipush (v := 84) hx hb dX7_init_530 (by decide) ?_
  refine lv_bipush (v := 32) hx hb dX7_init_532 (by decide) ?_
  refine n_cast hx hb hK hP hD hS (List.mem_append_right _ (List.mem_singleton.mpr rfl)) 6 rfl (ax_in (by decide)) dX7_init_534 (fun H locs f9 hP hS => ?_)
  refine lv_dup hx hb dX7_init_535 rfl ?_
  refine lv_bipush (v := 85) hx hb dX7_init_536 (by decide) ?_
  refine lv_bipush (v := 119) hx hb dX7_init_538 (by decide) ?_
  refine n_cast hx hb hK hP hD hS (List.mem_append_right _ (List.mem_singleton.mpr rfl)) 6 rfl (ax_in (by decide)) dX7_init_540 (fun H locs f9 hP hS => ?_)
  refine lv_dup hx hb dX7_init_541 rfl ?_
  refine lv_bipush (v := 86) hx hb dX7_init_542 (by decide) ?_
  refine lv_bipush (v := 111) hx hb dX7_init_544 (by decide) ?_
  refine n_cast hx hb hK hP hD hS (List.mem_append_right _ (List.mem_singleton.mpr rfl)) 6 rfl (ax_in (by decide)) dX7_init_546 (fun H locs f9 hP hS => ?_)
  refine lv_dup hx hb dX7_init_547 rfl ?_
  refine lv_bipush (v := 87) hx hb dX7_init_548 (by decide) ?_
  refine lv_bipush (v := 114) hx hb dX7_init_550 (by decide) ?_
  refine n_cast hx hb hK hP hD hS (List.mem_append_right _ (List.mem_singleton.mpr rfl)) 6 rfl (ax_in (by decide)) dX7_init_552 (fun H locs f9 hP hS => ?_)
  refine lv_dup hx hb dX7_init_553 rfl ?_
  refine lv_bipush (v := 88) hx hb dX7_init_554 (by decide) ?_
  refine lv_bipush (v := 100) hx hb dX7_init_556 (by decide) ?_
  refine n_cast hx hb hK hP hD hS (List.mem_append_right _ (List.mem_singleton.mpr rfl)) 6 rfl (ax_in (by decide)) dX7_init_558 (fun H locs f9 hP hS => ?_)
  refine lv_dup hx hb dX7_init_559 rfl ?_
  refine lv_bipush (v := 89) hx hb dX7_init_560 (by decide) ?_
  refine lv_bipush (v := 32) hx hb dX7_init_562 (by decide) ?_
  refine n_cast hx hb hK hP hD hS (List.mem_append_right _ (List.mem_singleton.mpr rfl)) 6 rfl (ax_in (by decide)) dX7_init_564 (fun H locs f9 hP hS => ?_)
  refine lv_dup hx hb dX7_init_565 rfl ?_
  refine lv_bipush (v := 90) hx hb dX7_init_566 (by decide) ?_
  refine lv_bipush (v := 109) hx hb dX7_init_568 (by decide) ?_
  refine n_cast hx hb hK hP hD hS (List.mem_append_right _ (List.mem_singleton.mpr rfl)) 6 rfl (ax_in (by decide)) dX7_init_570 (fun H locs f9 hP hS => ?_)
  refine lv_dup hx hb dX7_init_571 rfl ?_
  refine lv_bipush (v := 91) hx hb dX7_init_572 (by decide) ?_
  refine lv_bipush (v := 111) hx hb dX7_init_574 (by decide) ?_
  refine n_cast hx hb hK hP hD hS (List.mem_append_right _ (List.mem_singleton.mpr rfl)) 6 rfl (ax_in (by decide)) dX7_init_576 (fun H locs f9 hP hS => ?_)
  refine lv_dup hx hb dX7_init_577 rfl ?_
  refine lv_bipush (v := 92) hx hb dX7_init_578 (by decide) ?_
  refine lv_bipush (v := 100) hx hb dX7_init_580 (by decide) ?_
  refine n_cast hx hb hK hP hD hS (List.mem_append_right _ (List.mem_singleton.mpr rfl)) 6 rfl (ax_in (by decide)) dX7_init_582 (fun H locs f9 hP hS => ?_)
  refine lv_dup hx hb dX7_init_583 rfl ?_
  refine lv_bipush (v := 93) hx hb dX7_init_584 (by decide) ?_
  refine lv_bipush (v := 101) hx hb dX7_init_586 (by decide) ?_
  refine n_cast hx hb hK hP hD hS (List.mem_append_right _ (List.mem_singleton.mpr rfl)) 6 rfl (ax_in (by decide)) dX7_init_588 (fun H locs f9 hP hS => ?_)
  refine lv_dup hx hb dX7_init_589 rfl ?_
  refine lv_bipush (v := 94) hx hb dX7_init_590 (by decide) ?_
  refine lv_bipush (v := 32) hx hb dX7_init_592 (by decide) ?_
  refine n_cast hx hb hK hP hD hS (List.mem_append_right _ (List.mem_singleton.mpr rfl)) 6 rfl (ax_in (by decide)) dX7_init_594 (fun H locs f9 hP hS => ?_)
  refine lv_dup hx hb dX7_init_595 rfl ?_
  refine lv_bipush (v := 95) hx hb dX7_init_596 (by decide) ?_
  refine lv_bipush (v := 115) hx hb dX7_init_598 (by decide) ?_
  refine n_cast hx hb hK hP hD hS (List.mem_append_right _ (List.mem_singleton.mpr rfl)) 6 rfl (ax_in (by decide)) dX7_init_600 (fun H locs f9 hP hS => ?_)
  refine lv_dup hx hb dX7_init_601 rfl ?_
  refine lv_bipush (v := 96) hx hb dX7_init_602 (by decide) ?_
  refine lv_bipush (v := 116) hx hb dX7_init_604 (by decide) ?_
  refine n_cast hx hb hK hP hD hS (List.mem_append_right _ (List.mem_singleton.mpr rfl)) 6 rfl (ax_in (by decide)) dX7_init_606 (fun H locs f9 hP hS => ?_)
  refine lv_dup hx hb dX7_init_607 rfl ?_
  refine lv_bipush (v := 97) hx hb dX7_init_608 (by decide) ?_
  refine lv_bipush (v := 97) hx hb dX7_init_610 (by decide) ?_
  refine n_cast hx hb hK hP hD hS (List.mem_append_right _ (List.mem_singleton.mpr rfl)) 6 rfl (ax_in (by decide)) dX7_init_612 (fun H locs f9 hP hS => ?_)
  refine lv_dup hx hb dX7_init_613 rfl ?_
  refine lv_bipush (v := 98) hx hb dX7_init_614 (by decide) ?_
  refine lv_bipush (v := 99) hx hb dX7_init_616 (by decide) ?_
  refine n_cast hx hb hK hP hD hS (List.mem_append_right _ (List.mem_singleton.mpr rfl)) 6 rfl (ax_in (by decide)) dX7_init_618 (fun H locs f9 hP hS => ?_)
  refine lv_dup hx hb dX7_init_619 rfl ?_
  refine lv_bipush (v := 99) hx hb dX7_init_620 (by decide) ?_
  refine lv_bipush (v := 107) hx hb dX7_init_622 (by decide) ?_
  refine n_cast hx hb hK hP hD hS (List.mem_append_right _ (List.mem_singleton.mpr rfl)) 6 rfl (ax_in (by decide)) dX7_init_624 (fun H locs f9 hP hS => ?_)
  refine lv_dup hx hb dX7_init_625 rfl ?_
  refine lv_bipush (v := 100) hx hb dX7_init_626 (by decide) ?_
  refine lv_bipush (v := 32) hx hb dX7_init_628 (by decide) ?_
  refine n_cast hx hb hK hP hD hS (List.mem_append_right _ (List.mem_singleton.mpr rfl)) 6 rfl (ax_in (by decide)) dX7_init_630 (fun H locs f9 hP hS => ?_)
  refine lv_dup hx hb dX7_init_631 rfl ?_
  refine lv_bipush (v := 101) hx hb dX7_init_632 (by decide) ?_
  refine lv_bipush (v := 102) hx hb dX7_init_634 (by decide) ?_
  refine n_cast hx hb hK hP hD hS (List.mem_append_right _ (List.mem_singleton.mpr rfl)) 6 rfl (ax_in (by decide)) dX7_init_636 (fun H locs f9 hP hS => ?_)
  refine lv_dup hx hb dX7_init_637 rfl ?_
  refine lv_bipush (v := 102) hx hb dX7_init_638 (by decide) ?_
  refine lv_bipush (v := 97) hx hb dX7_init_640 (by decide) ?_
  refine n_cast hx hb hK hP hD hS (List.mem_append_right _ (List.mem_singleton.mpr rfl)) 6 rfl (ax_in (by decide)) dX7_init_642 (fun H locs f9 hP hS => ?_)
  refine lv_dup hx hb dX7_init_643 rfl ?_
  refine lv_bipush (v := 103) hx hb dX7_init_644 (by decide) ?_
  refine lv_bipush (v := 105) hx hb dX7_init_646 (by decide) ?_
  refine n_cast hx hb hK hP hD hS (List.mem_append_right _ (List.mem_singleton.mpr rfl)) 6 rfl (ax_in (by decide)) dX7_init_648 (fun H locs f9 hP hS => ?_)
  refine lv_dup hx hb dX7_init_649 rfl ?_
  refine lv_bipush (v := 104) hx hb dX7_init_650 (by decide) ?_
  refine lv_bipush (v := 114) hx hb dX7_init_652 (by decide) ?_
  refine n_cast hx hb hK hP hD hS (List.mem_append_right _ (List.mem_singleton.mpr rfl)) 6 rfl (ax_in (by decide)) dX7_init_654 (fun H locs f9 hP hS => ?_)
  refine lv_dup hx hb dX7_init_655 rfl ?_
  refine lv_bipush (v := 105) hx hb dX7_init_656 (by decide) ?_
  refine lv_bipush (v := 32) hx hb dX7_init_658 (by decide) ?_
  refine n_cast hx hb hK hP hD hS (List.mem_append_right _ (List.mem_singleton.mpr rfl)) 6 rfl (ax_in (by decide)) dX7_init_660 (fun H locs f9 hP hS => ?_)
  refine lv_dup hx hb dX7_init_661 rfl ?_
  refine lv_bipush (v := 106) hx hb dX7_init_662 (by decide) ?_
  refine lv_bipush (v := 111) hx hb dX7_init_664 (by decide) ?_
  refine n_cast hx hb hK hP hD hS (List.mem_append_right _ (List.mem_singleton.mpr rfl)) 6 rfl (ax_in (by decide)) dX7_init_666 (fun H locs f9 hP hS => ?_)
  refine lv_dup hx hb dX7_init_667 rfl ?_
  refine lv_bipush (v := 107) hx hb dX7_init_668 (by decide) ?_
  refine lv_bipush (v := 114) hx hb dX7_init_670 (by decide) ?_
  refine n_cast hx hb hK hP hD hS (List.mem_append_right _ (List.mem_singleton.mpr rfl)) 6 rfl (ax_in (by decide)) dX7_init_672 (fun H locs f9 hP hS => ?_)
  refine lv_dup hx hb dX7_init_673 rfl ?_
  refine lv_bipush (v := 108) hx hb dX7_init_674 (by decide) ?_
  refine lv_bipush (v := 100) hx hb dX7_init_676 (by decide) ?_
  refine n_cast hx hb hK hP hD hS (List.mem_append_right _ (List.mem_singleton.mpr rfl)) 6 rfl (ax_in (by decide)) dX7_init_678 (fun H locs f9 hP hS => ?_)
  refine lv_dup hx hb dX7_init_679 rfl ?_
  refine lv_bipush (v := 109) hx hb dX7_init_680 (by decide) ?_
  refine lv_bipush (v := 101) hx hb dX7_init_682 (by decide) ?_
  refine n_cast hx hb hK hP hD hS (List.mem_append_right _ (List.mem_singleton.mpr rfl)) 6 rfl (ax_in (by decide)) dX7_init_684 (fun H locs f9 hP hS => ?_)
  refine lv_dup hx hb dX7_init_685 rfl ?_
  refine lv_bipush (v := 110) hx hb dX7_init_686 (by decide) ?_
  refine lv_bipush (v := 114) hx hb dX7_init_688 (by decide) ?_
  refine n_cast hx hb hK hP hD hS (List.mem_append_right _ (List.mem_singleton.mpr rfl)) 6 rfl (ax_in (by decide)) dX7_init_690 (fun H locs f9 hP hS => ?_)
  refine lv_dup hx hb dX7_init_691 rfl ?_
  refine lv_bipush (v := 111) hx hb dX7_init_692 (by decide) ?_
  refine lv_bipush (v := 32) hx hb dX7_init_694 (by decide) ?_
  refine n_cast hx hb hK hP hD hS (List.mem_append_right _ (List.mem_singleton.mpr rfl)) 6 rfl (ax_in (by decide)) dX7_init_696 (fun H locs f9 hP hS => ?_)
  refine lv_dup hx hb dX7_init_697 rfl ?_
  refine lv_bipush (v := 112) hx hb dX7_init_698 (by decide) ?_
  refine lv_bipush (v := 97) hx hb dX7_init_700 (by decide) ?_
  refine n_cast hx hb hK hP hD hS (List.mem_append_right _ (List.mem_singleton.mpr rfl)) 6 rfl (ax_in (by decide)) dX7_init_702 (fun H locs f9 hP hS => ?_)
  refine lv_dup hx hb dX7_init_703 rfl ?_
  refine lv_bipush (v := 113) hx hb dX7_init_704 (by decide) ?_
  refine lv_bipush (v := 103) hx hb dX7_init_706 (by decide) ?_
  refine n_cast hx hb hK hP hD hS (List.mem_append_right _ (List.mem_singleton.mpr rfl)) 6 rfl (ax_in (by decide)) dX7_init_708 (fun H locs f9 hP hS => ?_)
  refine lv_dup hx hb dX7_init_709 rfl ?_
  refine lv_bipush (v := 114) hx hb dX7_init_710 (by decide) ?_
  refine lv_bipush (v := 101) hx hb dX7_init_712 (by decide) ?_
  refine n_cast hx hb hK hP hD hS (List.mem_append_right _ (List.mem_singleton.mpr rfl)) 6 rfl (ax_in (by decide)) dX7_init_714 (fun H locs f9 hP hS => ?_)
  refine lv_dup hx hb dX7_init_715 rfl ?_
  refine lv_bipush (v := 115) hx hb dX7_init_716 (by decide) ?_
  refine lv_bipush (v := 32) hx hb dX7_init_718 (by decide) ?_
  refine n_cast hx hb hK hP hD hS (List.mem_append_right _ (List.mem_singleton.mpr rfl)) 6 rfl (ax_in (by decide)) dX7_init_720 (fun H locs f9 hP hS => ?_)
  refine lv_dup hx hb dX7_init_721 rfl ?_
  refine lv_bipush (v := 116) hx hb dX7_init_722 (by decide) ?_
  refine lv_bipush (v := 116) hx hb dX7_init_724 (by decide) ?_
  refine n_cast hx hb hK hP hD hS (List.mem_append_right _ (List.mem_singleton.mpr rfl)) 6 rfl (ax_in (by decide)) dX7_init_726 (fun H locs f9 hP hS => ?_)
  refine lv_dup hx hb dX7_init_727 rfl ?_
  refine lv_bipush (v := 117) hx hb dX7_init_728 (by decide) ?_
  refine lv_bipush (v := 117) hx hb dX7_init_730 (by decide) ?_
  refine n_cast hx hb hK hP hD hS (List.mem_append_right _ (List.mem_singleton.mpr rfl)) 6 rfl (ax_in (by decide)) dX7_init_732 (fun H locs f9 hP hS => ?_)
  refine lv_dup hx hb dX7_init_733 rfl ?_
  refine lv_bipush (v := 118) hx hb dX7_init_734 (by decide) ?_
  refine lv_bipush (v := 114) hx hb dX7_init_736 (by decide) ?_
  refine n_cast hx hb hK hP hD hS (List.mem_append_right _ (List.mem_singleton.mpr rfl)) 6 rfl (ax_in (by decide)) dX7_init_738 (fun H locs f9 hP hS => ?_)
  refine lv_dup hx hb dX7_init_739 rfl ?_
  refine lv_bipush (v := 119) hx hb dX7_init_740 (by decide) ?_
  refine lv_bipush (v := 110) hx hb dX7_init_742 (by decide) ?_
  refine n_cast hx hb hK hP hD hS (List.mem_append_right _ (List.mem_singleton.mpr rfl)) 6 rfl (ax_in (by decide)) dX7_init_744 (fun H locs f9 hP hS => ?_)
  refine lv_dup hx hb dX7_init_745 rfl ?_
  refine lv_bipush (v := 120) hx hb dX7_init_746 (by decide) ?_
  refine lv_bipush (v := 115) hx hb dX7_init_748 (by decide) ?_
  refine n_cast hx hb hK hP hD hS (List.mem_append_right _ (List.mem_singleton.mpr rfl)) 6 rfl (ax_in (by decide)) dX7_init_750 (fun H locs f9 hP hS => ?_)
  refine lv_dup hx hb dX7_init_751 rfl ?_
  refine lv_bipush (v := 121) hx hb dX7_init_752 (by decide) ?_
  refine lv_bipush (v := 32) hx hb dX7_init_754 (by decide) ?_
  refine n_cast hx hb hK hP hD hS (List.mem_append_right _ (List.mem_singleton.mpr rfl)) 6 rfl (ax_in (by decide)) dX7_init_756 (fun H locs f9 hP hS => ?_)
  refine lv_dup hx hb dX7_init_757 rfl ?_
  refine lv_bipush (v := 122) hx hb dX7_init_758 (by decide) ?_
  refine lv_bipush (v := 105) hx hb dX7_init_760 (by decide) ?_
  refine n_cast hx hb hK hP hD hS (List.mem_append_right _ (List.mem_singleton.mpr rfl)) 6 rfl (ax_in (by decide)) dX7_init_762 (fun H locs f9 hP hS => ?_)
  refine lv_dup hx hb dX7_init_763 rfl ?_
  refine lv_bipush (v := 123) hx hb dX7_init_764 (by decide) ?_
  refine lv_bipush (v := 102) hx hb dX7_init_766 (by decide) ?_
  refine n_cast hx hb hK hP hD hS (List.mem_append_right _ (List.mem_singleton.mpr rfl)) 6 rfl (ax_in (by decide)) dX7_init_768 (fun H locs f9 hP hS => ?_)
  refine lv_dup hx hb dX7_init_769 rfl ?_
  refine lv_bipush (v := 124) hx hb dX7_init_770 (by decide) ?_
  refine lv_bipush (v := 32) hx hb dX7_init_772 (by decide) ?_
  refine n_cast hx hb hK hP hD hS (List.mem_append_right _ (List.mem_singleton.mpr rfl)) 6 rfl (ax_in (by decide)) dX7_init_774 (fun H locs f9 hP hS => ?_)
  obtain ⟨L40, hL40⟩ : ∃ M, M = L20 ++ [q39] := ⟨_, rfl⟩
  rw [← hL40] at hP hD
  obtain ⟨F41, hF41⟩ : ∃ M : Nat → va_E, M = va_up F35 q39 (.inl (cs 6, 125, .inl f9)) := ⟨_, rfl⟩
  rw [← hF41] at hP
  obtain ⟨hI, hLk, hX1⟩ := n_add (c := 60) hI hLk hq trivial
  obtain ⟨K42, hK42⟩ : ∃ M, M = va_up K22 q39 60 := ⟨_, rfl⟩
  rw [← hK42, ← hF41] at hI
  rw [← hK42, ← hL40] at hLk
  rw [← hK42] at hX1
  have ne43 : q39 ≠ h0 := fun h => hq (h ▸ m25)
  have ne44 : q39 ≠ q1 := fun h => hq (h ▸ m28)
  have ne45 : q39 ≠ q19 := fun h => hq (h ▸ m31)
  have m46 : h0 ∈ L40 := by rw [hL40]; exact List.mem_append_left _ m25
  have k47 : K42 h0 = 0 := by rw [hK42]; exact th_ne (Ne.symm ne43) k26
  have o48 : F41 h0 = .inr (7, [.ref q1, .int 0, .int 0, .int 0, .int 0, .int 0, .int 0, .int 0, .int (-1), .ref q19, .null, .int 0, .null, .null, .null, .int 0, .int 0, .null, .null, .int 0, .null, .null, .null, .null, .null, .int 0, .int 0, .int 0, .null, .null, .null, .int 0, .int 0, .long 0]) := by rw [hF41]; exact th_ne (Ne.symm ne43) o38
  have m49 : q1 ∈ L40 := by rw [hL40]; exact List.mem_append_left _ m28
  have k50 : K42 q1 = 50 := by rw [hK42]; exact th_ne (Ne.symm ne44) k29
  have o51 : F41 q1 = .inl (cs 0, 1600, .inl (fun _ => 0)) := by rw [hF41]; exact th_ne (Ne.symm ne44) o36
  have m52 : q19 ∈ L40 := by rw [hL40]; exact List.mem_append_left _ m31
  have k53 : K42 q19 = 59 := by rw [hK42]; exact th_ne (Ne.symm ne45) k33
  have o54 : F41 q19 = .inl (cs 0, 6, .inl (fun _ => 0)) := by rw [hF41]; exact th_ne (Ne.symm ne45) o37
  have m55 : q39 ∈ L40 := by rw [hL40]; exact List.mem_append_right _ (List.mem_singleton.mpr rfl)
  have o56 : F41 q39 = (.inl (cs 6, 125, .inl f9)) := by rw [hF41]; exact th_up
  have k57 : K42 q39 = 60 := by rw [hK42]; exact th_up
  have nl58 : q39 ∉ L := fun h => hq (hsub q39 h)
  have hfr : ∀ a ∈ L, a ≠ h0 → F41 a = F a ∧ K42 a = K a := fun a ha hne => ⟨by rw [hF41]; exact th_ne (fun h => nl58 (h ▸ ha)) (hfr a ha hne).1, by rw [hK42]; exact th_ne (fun h => nl58 (h ▸ ha)) (hfr a ha hne).2⟩
  have hsub : ∀ a ∈ L, a ∈ L40 := fun a ha => by rw [hL40]; exact List.mem_append_left _ (hsub a ha)
  have hX : n_X K K42 := n_Xt hX hX1
  have hks : ∀ a, K42 a = K a ∨ K42 a ∈ [50, 59, 60, 62, 63, 64, 67, 68, 70, 71, 72, 73, 74, 78, 79, 80] := fun a => by rw [hK42]; by_cases e9 : a = q39; (rw [e9, th_up]; right; decide); rw [show va_up K22 q39 60 a = K22 a from if_neg e9]; exact hks a
  refine W.widen (k := 3) (n := 1731) (Nat.le_of_ble_eq_true rfl) (Nat.le_of_ble_eq_true rfl) ?_
  refine n_putF (D := (dC, dI)) (ci := 7) (v := .ref q39) (ty := .array .char) (C := RX7) (T := TX7) (N := 34) hx hb hts inX7 tyX7 tyX7_ok nmX7 hown hK hP hD hS m46 o48 rfl 10 (by decide) (hts _ T_244) (fun _ h9 => h9) rfl hin rfl (by decide +kernel) rfl rfl (Nat.le_of_ble_eq_true rfl) dX7_init_775 (fun H locs hP hS => ?_)
  have hP : va_P (dC, dI) vwCl (va_pl L40 (va_up F41 h0 (.inr (7, [.ref q1, .int 0, .int 0, .int 0, .int 0, .int 0, .int 0, .int 0, .int (-1), .ref q19, .ref q39, .int 0, .null, .null, .null, .int 0, .int 0, .null, .null, .int 0, .null, .null, .null, .null, .null, .int 0, .int 0, .int 0, .null, .null, .null, .int 0, .int 0, .long 0])))) H := hP
  obtain ⟨F59, hF59⟩ : ∃ M : Nat → va_E, M = va_up F41 h0 (.inr (7, [.ref q1, .int 0, .int 0, .int 0, .int 0, .int 0, .int 0, .int 0, .int (-1), .ref q19, .ref q39, .int 0, .null, .null, .null, .int 0, .int 0, .null, .null, .int 0, .null, .null, .null, .null, .null, .int 0, .int 0, .int 0, .null, .null, .null, .int 0, .int 0, .long 0])) := ⟨_, rfl⟩
  rw [← hF59] at hP
  have hI : s_I K42 cs 0 F59 := by rw [hF59]; exact n_put0 hI k47
  have o60 : F59 q1 = .inl (cs 0, 1600, .inl (fun _ => 0)) := by rw [hF59]; exact th_ne ne5 o51
  have o61 : F59 q19 = .inl (cs 0, 6, .inl (fun _ => 0)) := by rw [hF59]; exact th_ne ne23 o54
  have o62 : F59 q39 = .inl (cs 6, 125, .inl f9) := by rw [hF59]; exact th_ne ne43 o56
  have o63 : F59 h0 = .inr (7, [.ref q1, .int 0, .int 0, .int 0, .int 0, .int 0, .int 0, .int 0, .int (-1), .ref q19, .ref q39, .int 0, .null, .null, .null, .int 0, .int 0, .null, .null, .int 0, .null, .null, .null, .null, .null, .int 0, .int 0, .int 0, .null, .null, .null, .int 0, .int 0, .long 0]) := by rw [hF59]; exact th_up
  have hfr : ∀ a ∈ L, a ≠ h0 → F59 a = F a ∧ K42 a = K a := fun a ha hne => ⟨by rw [hF59]; exact th_ne hne (hfr a ha hne).1, (hfr a ha hne).2⟩
  refine lv_aload_n hx hb dX7_init_778 rfl (lv_at hl 0 rfl) ?_
  refine lv_sipush (v := 400) hx hb dX7_init_779 (by decide) ?_
  refine n_newa (atype := .int) (a0 := (400, .inl (fun _ => 0))) hx hb (hts _ T_99) rfl hK hP hD hS hA 0 rfl (fun _ => rfl) (by decide) (by decide) (Nat.le_of_ble_eq_true rfl) (Nat.le_of_ble_eq_true rfl) (Nat.le_of_ble_eq_true rfl) dX7_init_782 (fun q64 H hq hP hD hS => ?_)
  obtain ⟨L65, hL65⟩ : ∃ M, M = L40 ++ [q64] := ⟨_, rfl⟩
  rw [← hL65] at hP hD
  obtain ⟨F66, hF66⟩ : ∃ M : Nat → va_E, M = va_up F59 q64 (.inl (cs 0, 400, .inl (fun _ => 0))) := ⟨_, rfl⟩
  rw [← hF66] at hP
  obtain ⟨hI, hLk, hX1⟩ := n_add (c := 62) hI hLk hq trivial
  obtain ⟨K67, hK67⟩ : ∃ M, M = va_up K42 q64 62 := ⟨_, rfl⟩
  rw [← hK67, ← hF66] at hI
  rw [← hK67, ← hL65] at hLk
  rw [← hK67] at hX1
  have ne68 : q64 ≠ h0 := fun h => hq (h ▸ m46)
  have ne69 : q64 ≠ q1 := fun h => hq (h ▸ m49)
  have ne70 : q64 ≠ q19 := fun h => hq (h ▸ m52)
  have ne71 : q64 ≠ q39 := fun h => hq (h ▸ m55)
  have m72 : h0 ∈ L65 := by rw [hL65]; exact List.mem_append_left _ m46
  have k73 : K67 h0 = 0 := by rw [hK67]; exact th_ne (Ne.symm ne68) k47
  have o74 : F66 h0 = .inr (7, [.ref q1, .int 0, .int 0, .int 0, .int 0, .int 0, .int 0, .int 0, .int (-1), .ref q19, .ref q39, .int 0, .null, .null, .null, .int 0, .int 0, .null, .null, .int 0, .null, .null, .null, .null, .null, .int 0, .int 0, .int 0, .null, .null, .null, .int 0, .int 0, .long 0]) := by rw [hF66]; exact th_ne (Ne.symm ne68) o63
  have m75 : q1 ∈ L65 := by rw [hL65]; exact List.mem_append_left _ m49
  have k76 : K67 q1 = 50 := by rw [hK67]; exact th_ne (Ne.symm ne69) k50
  have o77 : F66 q1 = .inl (cs 0, 1600, .inl (fun _ => 0)) := by rw [hF66]; exact th_ne (Ne.symm ne69) o60
  have m78 : q19 ∈ L65 := by rw [hL65]; exact List.mem_append_left _ m52
  have k79 : K67 q19 = 59 := by rw [hK67]; exact th_ne (Ne.symm ne70) k53
  have o80 : F66 q19 = .inl (cs 0, 6, .inl (fun _ => 0)) := by rw [hF66]; exact th_ne (Ne.symm ne70) o61
  have m81 : q39 ∈ L65 := by rw [hL65]; exact List.mem_append_left _ m55
  have k82 : K67 q39 = 60 := by rw [hK67]; exact th_ne (Ne.symm ne71) k57
  have o83 : F66 q39 = .inl (cs 6, 125, .inl f9) := by rw [hF66]; exact th_ne (Ne.symm ne71) o62
  have m84 : q64 ∈ L65 := by rw [hL65]; exact List.mem_append_right _ (List.mem_singleton.mpr rfl)
  have o85 : F66 q64 = (.inl (cs 0, 400, .inl (fun _ => 0))) := by rw [hF66]; exact th_up
  have k86 : K67 q64 = 62 := by rw [hK67]; exact th_up
  have nl87 : q64 ∉ L := fun h => hq (hsub q64 h)
  have hfr : ∀ a ∈ L, a ≠ h0 → F66 a = F a ∧ K67 a = K a := fun a ha hne => ⟨by rw [hF66]; exact th_ne (fun h => nl87 (h ▸ ha)) (hfr a ha hne).1, by rw [hK67]; exact th_ne (fun h => nl87 (h ▸ ha)) (hfr a ha hne).2⟩
  have hsub : ∀ a ∈ L, a ∈ L65 := fun a ha => by rw [hL65]; exact List.mem_append_left _ (hsub a ha)
  have hX : n_X K K67 := n_Xt hX hX1
  have hks : ∀ a, K67 a = K a ∨ K67 a ∈ [50, 59, 60, 62, 63, 64, 67, 68, 70, 71, 72, 73, 74, 78, 79, 80] := fun a => by rw [hK67]; by_cases e9 : a = q64; (rw [e9, th_up]; right; decide); rw [show va_up K42 q64 62 a = K42 a from if_neg e9]; exact hks a
  refine W.widen (k := 4) (n := 2131) (Nat.le_of_ble_eq_true rfl) (Nat.le_of_ble_eq_true rfl) ?_
  refine n_putF (D := (dC, dI)) (ci := 7) (v := .ref q64) (ty := .array .int) (C := RX7) (T := TX7) (N := 34) hx hb hts inX7 tyX7 tyX7_ok nmX7 hown hK hP hD hS m72 o74 rfl 12 (by decide) (hts _ T_245) (fun _ h9 => h9) rfl hin rfl (by decide +kernel) rfl rfl (Nat.le_of_ble_eq_true rfl) dX7_init_784 (fun H locs hP hS => ?_)
  have hP : va_P (dC, dI) vwCl (va_pl L65 (va_up F66 h0 (.inr (7, [.ref q1, .int 0, .int 0, .int 0, .int 0, .int 0, .int 0, .int 0, .int (-1), .ref q19, .ref q39, .int 0, .ref q64, .null, .null, .int 0, .int 0, .null, .null, .int 0, .null, .null, .null, .null, .null, .int 0, .int 0, .int 0, .null, .null, .null, .int 0, .int 0, .long 0])))) H := hP
  obtain ⟨F88, hF88⟩ : ∃ M : Nat → va_E, M = va_up F66 h0 (.inr (7, [.ref q1, .int 0, .int 0, .int 0, .int 0, .int 0, .int 0, .int 0, .int (-1), .ref q19, .ref q39, .int 0, .ref q64, .null, .null, .int 0, .int 0, .null, .null, .int 0, .null, .null, .null, .null, .null, .int 0, .int 0, .int 0, .null, .null, .null, .int 0, .int 0, .long 0])) := ⟨_, rfl⟩
  rw [← hF88] at hP
  have hI : s_I K67 cs 0 F88 := by rw [hF88]; exact n_put0 hI k73
  have o89 : F88 q1 = .inl (cs 0, 1600, .inl (fun _ => 0)) := by rw [hF88]; exact th_ne ne5 o77
  have o90 : F88 q19 = .inl (cs 0, 6, .inl (fun _ => 0)) := by rw [hF88]; exact th_ne ne23 o80
  have o91 : F88 q39 = .inl (cs 6, 125, .inl f9) := by rw [hF88]; exact th_ne ne43 o83
  have o92 : F88 q64 = .inl (cs 0, 400, .inl (fun _ => 0)) := by rw [hF88]; exact th_ne ne68 o85
  have o93 : F88 h0 = .inr (7, [.ref q1, .int 0, .int 0, .int 0, .int 0, .int 0, .int 0, .int 0, .int (-1), .ref q19, .ref q39, .int 0, .ref q64, .null, .null, .int 0, .int 0, .null, .null, .int 0, .null, .null, .null, .null, .null, .int 0, .int 0, .int 0, .null, .null, .null, .int 0, .int 0, .long 0]) := by rw [hF88]; exact th_up
  have hfr : ∀ a ∈ L, a ≠ h0 → F88 a = F a ∧ K67 a = K a := fun a ha hne => ⟨by rw [hF88]; exact th_ne hne (hfr a ha hne).1, (hfr a ha hne).2⟩
  refine lv_aload_n hx hb dX7_init_787 rfl (lv_at hl 0 rfl) ?_
  refine lv_sipush (v := 400) hx hb dX7_init_788 (by decide) ?_
  refine n_newa (atype := .int) (a0 := (400, .inl (fun _ => 0))) hx hb (hts _ T_99) rfl hK hP hD hS hA 0 rfl (fun _ => rfl) (by decide) (by decide) (Nat.le_of_ble_eq_true rfl) (Nat.le_of_ble_eq_true rfl) (Nat.le_of_ble_eq_true rfl) dX7_init_791 (fun q94 H hq hP hD hS => ?_)
  obtain ⟨L95, hL95⟩ : ∃ M, M = L65 ++ [q94] := ⟨_, rfl⟩
  rw [← hL95] at hP hD
  obtain ⟨F96, hF96⟩ : ∃ M : Nat → va_E, M = va_up F88 q94 (.inl (cs 0, 400, .inl (fun _ => 0))) := ⟨_, rfl⟩
  rw [← hF96] at hP
  obtain ⟨hI, hLk, hX1⟩ := n_add (c := 63) hI hLk hq trivial
  obtain ⟨K97, hK97⟩ : ∃ M, M = va_up K67 q94 63 := ⟨_, rfl⟩
  rw [← hK97, ← hF96] at hI
  rw [← hK97, ← hL95] at hLk
  rw [← hK97] at hX1
  have ne98 : q94 ≠ h0 := fun h => hq (h ▸ m72)
  have ne99 : q94 ≠ q1 := fun h => hq (h ▸ m75)
  have ne100 : q94 ≠ q19 := fun h => hq (h ▸ m78)
  have ne101 : q94 ≠ q39 := fun h => hq (h ▸ m81)
  have ne102 : q94 ≠ q64 := fun h => hq (h ▸ m84)
  have m103 : h0 ∈ L95 := by rw [hL95]; exact List.mem_append_left _ m72
  have k104 : K97 h0 = 0 := by rw [hK97]; exact th_ne (Ne.symm ne98) k73
  have o105 : F96 h0 = .inr (7, [.ref q1, .int 0, .int 0, .int 0, .int 0, .int 0, .int 0, .int 0, .int (-1), .ref q19, .ref q39, .int 0, .ref q64, .null, .null, .int 0, .int 0, .null, .null, .int 0, .null, .null, .null, .null, .null, .int 0, .int 0, .int 0, .null, .null, .null, .int 0, .int 0, .long 0]) := by rw [hF96]; exact th_ne (Ne.symm ne98) o93
  have m106 : q1 ∈ L95 := by rw [hL95]; exact List.mem_append_left _ m75
  have k107 : K97 q1 = 50 := by rw [hK97]; exact th_ne (Ne.symm ne99) k76
  have o108 : F96 q1 = .inl (cs 0, 1600, .inl (fun _ => 0)) := by rw [hF96]; exact th_ne (Ne.symm ne99) o89
  have m109 : q19 ∈ L95 := by rw [hL95]; exact List.mem_append_left _ m78
  have k110 : K97 q19 = 59 := by rw [hK97]; exact th_ne (Ne.symm ne100) k79
  have o111 : F96 q19 = .inl (cs 0, 6, .inl (fun _ => 0)) := by rw [hF96]; exact th_ne (Ne.symm ne100) o90
  have m112 : q39 ∈ L95 := by rw [hL95]; exact List.mem_append_left _ m81
  have k113 : K97 q39 = 60 := by rw [hK97]; exact th_ne (Ne.symm ne101) k82
  have o114 : F96 q39 = .inl (cs 6, 125, .inl f9) := by rw [hF96]; exact th_ne (Ne.symm ne101) o91
  have m115 : q64 ∈ L95 := by rw [hL95]; exact List.mem_append_left _ m84
  have k116 : K97 q64 = 62 := by rw [hK97]; exact th_ne (Ne.symm ne102) k86
  have o117 : F96 q64 = .inl (cs 0, 400, .inl (fun _ => 0)) := by rw [hF96]; exact th_ne (Ne.symm ne102) o92
  have m118 : q94 ∈ L95 := by rw [hL95]; exact List.mem_append_right _ (List.mem_singleton.mpr rfl)
  have o119 : F96 q94 = (.inl (cs 0, 400, .inl (fun _ => 0))) := by rw [hF96]; exact th_up
  have k120 : K97 q94 = 63 := by rw [hK97]; exact th_up
  have nl121 : q94 ∉ L := fun h => hq (hsub q94 h)
  have hfr : ∀ a ∈ L, a ≠ h0 → F96 a = F a ∧ K97 a = K a := fun a ha hne => ⟨by rw [hF96]; exact th_ne (fun h => nl121 (h ▸ ha)) (hfr a ha hne).1, by rw [hK97]; exact th_ne (fun h => nl121 (h ▸ ha)) (hfr a ha hne).2⟩
  have hsub : ∀ a ∈ L, a ∈ L95 := fun a ha => by rw [hL95]; exact List.mem_append_left _ (hsub a ha)
  have hX : n_X K K97 := n_Xt hX hX1
  have hks : ∀ a, K97 a = K a ∨ K97 a ∈ [50, 59, 60, 62, 63, 64, 67, 68, 70, 71, 72, 73, 74, 78, 79, 80] := fun a => by rw [hK97]; by_cases e9 : a = q94; (rw [e9, th_up]; right; decide); rw [show va_up K67 q94 63 a = K67 a from if_neg e9]; exact hks a
  refine W.widen (k := 5) (n := 2531) (Nat.le_of_ble_eq_true rfl) (Nat.le_of_ble_eq_true rfl) ?_
  refine n_putF (D := (dC, dI)) (ci := 7) (v := .ref q94) (ty := .array .int) (C := RX7) (T := TX7) (N := 34) hx hb hts inX7 tyX7 tyX7_ok nmX7 hown hK hP hD hS m103 o105 rfl 13 (by decide) (hts _ T_246) (fun _ h9 => h9) rfl hin rfl (by decide +kernel) rfl rfl (Nat.le_of_ble_eq_true rfl) dX7_init_793 (fun H locs hP hS => ?_)
  have hP : va_P (dC, dI) vwCl (va_pl L95 (va_up F96 h0 (.inr (7, [.ref q1, .int 0, .int 0, .int 0, .int 0, .int 0, .int 0, .int 0, .int (-1), .ref q19, .ref q39, .int 0, .ref q64, .ref q94, .null, .int 0, .int 0, .null, .null, .int 0, .null, .null, .null, .null, .null, .int 0, .int 0, .int 0, .null, .null, .null, .int 0, .int 0, .long 0])))) H := hP
  obtain ⟨F122, hF122⟩ : ∃ M : Nat → va_E, M = va_up F96 h0 (.inr (7, [.ref q1, .int 0, .int 0, .int 0, .int 0, .int 0, .int 0, .int 0, .int (-1), .ref q19, .ref q39, .int 0, .ref q64, .ref q94, .null, .int 0, .int 0, .null, .null, .int 0, .null, .null, .null, .null, .null, .int 0, .int 0, .int 0, .null, .null, .null, .int 0, .int 0, .long 0])) := ⟨_, rfl⟩
  rw [← hF122] at hP
  have hI : s_I K97 cs 0 F122 := by rw [hF122]; exact n_put0 hI k104
  have o123 : F122 q1 = .inl (cs 0, 1600, .inl (fun _ => 0)) := by rw [hF122]; exact th_ne ne5 o108
  have o124 : F122 q19 = .inl (cs 0, 6, .inl (fun _ => 0)) := by rw [hF122]; exact th_ne ne23 o111
  have o125 : F122 q39 = .inl (cs 6, 125, .inl f9) := by rw [hF122]; exact th_ne ne43 o114
  have o126 : F122 q64 = .inl (cs 0, 400, .inl (fun _ => 0)) := by rw [hF122]; exact th_ne ne68 o117
  have o127 : F122 q94 = .inl (cs 0, 400, .inl (fun _ => 0)) := by rw [hF122]; exact th_ne ne98 o119
  have o128 : F122 h0 = .inr (7, [.ref q1, .int 0, .int 0, .int 0, .int 0, .int 0, .int 0, .int 0, .int (-1), .ref q19, .ref q39, .int 0, .ref q64, .ref q94, .null, .int 0, .int 0, .null, .null, .int 0, .null, .null, .null, .null, .null, .int 0, .int 0, .int 0, .null, .null, .null, .int 0, .int 0, .long 0]) := by rw [hF122]; exact th_up
  have hfr : ∀ a ∈ L, a ≠ h0 → F122 a = F a ∧ K97 a = K a := fun a ha hne => ⟨by rw [hF122]; exact th_ne hne (hfr a ha hne).1, (hfr a ha hne).2⟩
  refine lv_aload_n hx hb dX7_init_796 rfl (lv_at hl 0 rfl) ?_
  refine lv_bipush (v := 40) hx hb dX7_init_797 (by decide) ?_
  refine n_newa (atype := .int) (a0 := (40, .inl (fun _ => 0))) hx hb (hts _ T_99) rfl hK hP hD hS hA 0 rfl (fun _ => rfl) (by decide) (by decide) (Nat.le_of_ble_eq_true rfl) (Nat.le_of_ble_eq_true rfl) (Nat.le_of_ble_eq_true rfl) dX7_init_799 (fun q129 H hq hP hD hS => ?_)
  obtain ⟨L130, hL130⟩ : ∃ M, M = L95 ++ [q129] := ⟨_, rfl⟩
  rw [← hL130] at hP hD
  obtain ⟨F131, hF131⟩ : ∃ M : Nat → va_E, M = va_up F122 q129 (.inl (cs 0, 40, .inl (fun _ => 0))) := ⟨_, rfl⟩
  rw [← hF131] at hP
  obtain ⟨hI, hLk, hX1⟩ := n_add (c := 64) hI hLk hq trivial
  obtain ⟨K132, hK132⟩ : ∃ M, M = va_up K97 q129 64 := ⟨_, rfl⟩
  rw [← hK132, ← hF131] at hI
  rw [← hK132, ← hL130] at hLk
  rw [← hK132] at hX1
  have ne133 : q129 ≠ h0 := fun h => hq (h ▸ m103)
  have ne134 : q129 ≠ q1 := fun h => hq (h ▸ m106)
  have ne135 : q129 ≠ q19 := fun h => hq (h ▸ m109)
  have ne136 : q129 ≠ q39 := fun h => hq (h ▸ m112)
  have ne137 : q129 ≠ q64 := fun h => hq (h ▸ m115)
  have ne138 : q129 ≠ q94 := fun h => hq (h ▸ m118)
  have m139 : h0 ∈ L130 := by rw [hL130]; exact List.mem_append_left _ m103
  have k140 : K132 h0 = 0 := by rw [hK132]; exact th_ne (Ne.symm ne133) k104
  have o141 : F131 h0 = .inr (7, [.ref q1, .int 0, .int 0, .int 0, .int 0, .int 0, .int 0, .int 0, .int (-1), .ref q19, .ref q39, .int 0, .ref q64, .ref q94, .null, .int 0, .int 0, .null, .null, .int 0, .null, .null, .null, .null, .null, .int 0, .int 0, .int 0, .null, .null, .null, .int 0, .int 0, .long 0]) := by rw [hF131]; exact th_ne (Ne.symm ne133) o128
  have m142 : q1 ∈ L130 := by rw [hL130]; exact List.mem_append_left _ m106
  have k143 : K132 q1 = 50 := by rw [hK132]; exact th_ne (Ne.symm ne134) k107
  have o144 : F131 q1 = .inl (cs 0, 1600, .inl (fun _ => 0)) := by rw [hF131]; exact th_ne (Ne.symm ne134) o123
  have m145 : q19 ∈ L130 := by rw [hL130]; exact List.mem_append_left _ m109
  have k146 : K132 q19 = 59 := by rw [hK132]; exact th_ne (Ne.symm ne135) k110
  have o147 : F131 q19 = .inl (cs 0, 6, .inl (fun _ => 0)) := by rw [hF131]; exact th_ne (Ne.symm ne135) o124
  have m148 : q39 ∈ L130 := by rw [hL130]; exact List.mem_append_left _ m112
  have k149 : K132 q39 = 60 := by rw [hK132]; exact th_ne (Ne.symm ne136) k113
  have o150 : F131 q39 = .inl (cs 6, 125, .inl f9) := by rw [hF131]; exact th_ne (Ne.symm ne136) o125
  have m151 : q64 ∈ L130 := by rw [hL130]; exact List.mem_append_left _ m115
  have k152 : K132 q64 = 62 := by rw [hK132]; exact th_ne (Ne.symm ne137) k116
  have o153 : F131 q64 = .inl (cs 0, 400, .inl (fun _ => 0)) := by rw [hF131]; exact th_ne (Ne.symm ne137) o126
  have m154 : q94 ∈ L130 := by rw [hL130]; exact List.mem_append_left _ m118
  have k155 : K132 q94 = 63 := by rw [hK132]; exact th_ne (Ne.symm ne138) k120
  have o156 : F131 q94 = .inl (cs 0, 400, .inl (fun _ => 0)) := by rw [hF131]; exact th_ne (Ne.symm ne138) o127
  have m157 : q129 ∈ L130 := by rw [hL130]; exact List.mem_append_right _ (List.mem_singleton.mpr rfl)
  have o158 : F131 q129 = (.inl (cs 0, 40, .inl (fun _ => 0))) := by rw [hF131]; exact th_up
  have k159 : K132 q129 = 64 := by rw [hK132]; exact th_up
  have nl160 : q129 ∉ L := fun h => hq (hsub q129 h)
  have hfr : ∀ a ∈ L, a ≠ h0 → F131 a = F a ∧ K132 a = K a := fun a ha hne => ⟨by rw [hF131]; exact th_ne (fun h => nl160 (h ▸ ha)) (hfr a ha hne).1, by rw [hK132]; exact th_ne (fun h => nl160 (h ▸ ha)) (hfr a ha hne).2⟩
  have hsub : ∀ a ∈ L, a ∈ L130 := fun a ha => by rw [hL130]; exact List.mem_append_left _ (hsub a ha)
  have hX : n_X K K132 := n_Xt hX hX1
  have hks : ∀ a, K132 a = K a ∨ K132 a ∈ [50, 59, 60, 62, 63, 64, 67, 68, 70, 71, 72, 73, 74, 78, 79, 80] := fun a => by rw [hK132]; by_cases e9 : a = q129; (rw [e9, th_up]; right; decide); rw [show va_up K97 q129 64 a = K97 a from if_neg e9]; exact hks a
  refine W.widen (k := 6) (n := 2571) (Nat.le_of_ble_eq_true rfl) (Nat.le_of_ble_eq_true rfl) ?_
  refine n_putF (D := (dC, dI)) (ci := 7) (v := .ref q129) (ty := .array .int) (C := RX7) (T := TX7) (N := 34) hx hb hts inX7 tyX7 tyX7_ok nmX7 hown hK hP hD hS m139 o141 rfl 14 (by decide) (hts _ T_247) (fun _ h9 => h9) rfl hin rfl (by decide +kernel) rfl rfl (Nat.le_of_ble_eq_true rfl) dX7_init_801 (fun H locs hP hS => ?_)
  have hP : va_P (dC, dI) vwCl (va_pl L130 (va_up F131 h0 (.inr (7, [.ref q1, .int 0, .int 0, .int 0, .int 0, .int 0, .int 0, .int 0, .int (-1), .ref q19, .ref q39, .int 0, .ref q64, .ref q94, .ref q129, .int 0, .int 0, .null, .null, .int 0, .null, .null, .null, .null, .null, .int 0, .int 0, .int 0, .null, .null, .null, .int 0, .int 0, .long 0])))) H := hP
  obtain ⟨F161, hF161⟩ : ∃ M : Nat → va_E, M = va_up F131 h0 (.inr (7, [.ref q1, .int 0, .int 0, .int 0, .int 0, .int 0, .int 0, .int 0, .int (-1), .ref q19, .ref q39, .int 0, .ref q64, .ref q94, .ref q129, .int 0, .int 0, .null, .null, .int 0, .null, .null, .null, .null, .null, .int 0, .int 0, .int 0, .null, .null, .null, .int 0, .int 0, .long 0])) := ⟨_, rfl⟩
  rw [← hF161] at hP
  have hI : s_I K132 cs 0 F161 := by rw [hF161]; exact n_put0 hI k140
  have o162 : F161 q1 = .inl (cs 0, 1600, .inl (fun _ => 0)) := by rw [hF161]; exact th_ne ne5 o144
  have o163 : F161 q19 = .inl (cs 0, 6, .inl (fun _ => 0)) := by rw [hF161]; exact th_ne ne23 o147
  have o164 : F161 q39 = .inl (cs 6, 125, .inl f9) := by rw [hF161]; exact th_ne ne43 o150
  have o165 : F161 q64 = .inl (cs 0, 400, .inl (fun _ => 0)) := by rw [hF161]; exact th_ne ne68 o153
  have o166 : F161 q94 = .inl (cs 0, 400, .inl (fun _ => 0)) := by rw [hF161]; exact th_ne ne98 o156
  have o167 : F161 q129 = .inl (cs 0, 40, .inl (fun _ => 0)) := by rw [hF161]; exact th_ne ne133 o158
  have o168 : F161 h0 = .inr (7, [.ref q1, .int 0, .int 0, .int 0, .int 0, .int 0, .int 0, .int 0, .int (-1), .ref q19, .ref q39, .int 0, .ref q64, .ref q94, .ref q129, .int 0, .int 0, .null, .null, .int 0, .null, .null, .null, .null, .null, .int 0, .int 0, .int 0, .null, .null, .null, .int 0, .int 0, .long 0]) := by rw [hF161]; exact th_up
  have hfr : ∀ a ∈ L, a ≠ h0 → F161 a = F a ∧ K132 a = K a := fun a ha hne => ⟨by rw [hF161]; exact th_ne hne (hfr a ha hne).1, (hfr a ha hne).2⟩
  refine lv_aload_n hx hb dX7_init_804 rfl (lv_at hl 0 rfl) ?_
  refine lv_bipush (v := 41) hx hb dX7_init_805 (by decide) ?_
  refine n_newa (atype := .boolean) (a0 := (41, .inl (fun _ => 0))) hx hb (hts _ T_248) rfl hK hP hD hS hA 7 rfl (fun _ => rfl) (by decide) (by decide) (Nat.le_of_ble_eq_true rfl) (Nat.le_of_ble_eq_true rfl) (Nat.le_of_ble_eq_true rfl) dX7_init_807 (fun q169 H hq hP hD hS => ?_)
  obtain ⟨L170, hL170⟩ : ∃ M, M = L130 ++ [q169] := ⟨_, rfl⟩
  rw [← hL170] at hP hD
  obtain ⟨F171, hF171⟩ : ∃ M : Nat → va_E, M = va_up F161 q169 (.inl (cs 7, 41, .inl (fun _ => 0))) := ⟨_, rfl⟩
  rw [← hF171] at hP
  obtain ⟨hI, hLk, hX1⟩ := n_add (c := 67) hI hLk hq trivial
  obtain ⟨K172, hK172⟩ : ∃ M, M = va_up K132 q169 67 := ⟨_, rfl⟩
  rw [← hK172, ← hF171] at hI
  rw [← hK172, ← hL170] at hLk
  rw [← hK172] at hX1
  have ne173 : q169 ≠ h0 := fun h => hq (h ▸ m139)
  have ne174 : q169 ≠ q1 := fun h => hq (h ▸ m142)
  have ne175 : q169 ≠ q19 := fun h => hq (h ▸ m145)
  have ne176 : q169 ≠ q39 := fun h => hq (h ▸ m148)
  have ne177 : q169 ≠ q64 := fun h => hq (h ▸ m151)
  have ne178 : q169 ≠ q94 := fun h => hq (h ▸ m154)
  have ne179 : q169 ≠ q129 := fun h => hq (h ▸ m157)
  have m180 : h0 ∈ L170 := by rw [hL170]; exact List.mem_append_left _ m139
  have k181 : K172 h0 = 0 := by rw [hK172]; exact th_ne (Ne.symm ne173) k140
  have o182 : F171 h0 = .inr (7, [.ref q1, .int 0, .int 0, .int 0, .int 0, .int 0, .int 0, .int 0, .int (-1), .ref q19, .ref q39, .int 0, .ref q64, .ref q94, .ref q129, .int 0, .int 0, .null, .null, .int 0, .null, .null, .null, .null, .null, .int 0, .int 0, .int 0, .null, .null, .null, .int 0, .int 0, .long 0]) := by rw [hF171]; exact th_ne (Ne.symm ne173) o168
  have m183 : q1 ∈ L170 := by rw [hL170]; exact List.mem_append_left _ m142
  have k184 : K172 q1 = 50 := by rw [hK172]; exact th_ne (Ne.symm ne174) k143
  have o185 : F171 q1 = .inl (cs 0, 1600, .inl (fun _ => 0)) := by rw [hF171]; exact th_ne (Ne.symm ne174) o162
  have m186 : q19 ∈ L170 := by rw [hL170]; exact List.mem_append_left _ m145
  have k187 : K172 q19 = 59 := by rw [hK172]; exact th_ne (Ne.symm ne175) k146
  have o188 : F171 q19 = .inl (cs 0, 6, .inl (fun _ => 0)) := by rw [hF171]; exact th_ne (Ne.symm ne175) o163
  have m189 : q39 ∈ L170 := by rw [hL170]; exact List.mem_append_left _ m148
  have k190 : K172 q39 = 60 := by rw [hK172]; exact th_ne (Ne.symm ne176) k149
  have o191 : F171 q39 = .inl (cs 6, 125, .inl f9) := by rw [hF171]; exact th_ne (Ne.symm ne176) o164
  have m192 : q64 ∈ L170 := by rw [hL170]; exact List.mem_append_left _ m151
  have k193 : K172 q64 = 62 := by rw [hK172]; exact th_ne (Ne.symm ne177) k152
  have o194 : F171 q64 = .inl (cs 0, 400, .inl (fun _ => 0)) := by rw [hF171]; exact th_ne (Ne.symm ne177) o165
  have m195 : q94 ∈ L170 := by rw [hL170]; exact List.mem_append_left _ m154
  have k196 : K172 q94 = 63 := by rw [hK172]; exact th_ne (Ne.symm ne178) k155
  have o197 : F171 q94 = .inl (cs 0, 400, .inl (fun _ => 0)) := by rw [hF171]; exact th_ne (Ne.symm ne178) o166
  have m198 : q129 ∈ L170 := by rw [hL170]; exact List.mem_append_left _ m157
  have k199 : K172 q129 = 64 := by rw [hK172]; exact th_ne (Ne.symm ne179) k159
  have o200 : F171 q129 = .inl (cs 0, 40, .inl (fun _ => 0)) := by rw [hF171]; exact th_ne (Ne.symm ne179) o167
  have m201 : q169 ∈ L170 := by rw [hL170]; exact List.mem_append_right _ (List.mem_singleton.mpr rfl)
  have o202 : F171 q169 = (.inl (cs 7, 41, .inl (fun _ => 0))) := by rw [hF171]; exact th_up
  have k203 : K172 q169 = 67 := by rw [hK172]; exact th_up
  have nl204 : q169 ∉ L := fun h => hq (hsub q169 h)
  have hfr : ∀ a ∈ L, a ≠ h0 → F171 a = F a ∧ K172 a = K a := fun a ha hne => ⟨by rw [hF171]; exact th_ne (fun h => nl204 (h ▸ ha)) (hfr a ha hne).1, by rw [hK172]; exact th_ne (fun h => nl204 (h ▸ ha)) (hfr a ha hne).2⟩
  have hsub : ∀ a ∈ L, a ∈ L170 := fun a ha => by rw [hL170]; exact List.mem_append_left _ (hsub a ha)
  have hX : n_X K K172 := n_Xt hX hX1
  have hks : ∀ a, K172 a = K a ∨ K172 a ∈ [50, 59, 60, 62, 63, 64, 67, 68, 70, 71, 72, 73, 74, 78, 79, 80] := fun a => by rw [hK172]; by_cases e9 : a = q169; (rw [e9, th_up]; right; decide); rw [show va_up K132 q169 67 a = K132 a from if_neg e9]; exact hks a
  refine W.widen (k := 7) (n := 2612) (Nat.le_of_ble_eq_true rfl) (Nat.le_of_ble_eq_true rfl) ?_
  refine n_putF (D := (dC, dI)) (ci := 7) (v := .ref q169) (ty := .array .boolean) (C := RX7) (T := TX7) (N := 34) hx hb hts inX7 tyX7 tyX7_ok nmX7 hown hK hP hD hS m180 o182 rfl 17 (by decide) (hts _ T_249) (fun _ h9 => h9) rfl hin rfl (by decide +kernel) rfl rfl (Nat.le_of_ble_eq_true rfl) dX7_init_809 (fun H locs hP hS => ?_)
  have hP : va_P (dC, dI) vwCl (va_pl L170 (va_up F171 h0 (.inr (7, [.ref q1, .int 0, .int 0, .int 0, .int 0, .int 0, .int 0, .int 0, .int (-1), .ref q19, .ref q39, .int 0, .ref q64, .ref q94, .ref q129, .int 0, .int 0, .ref q169, .null, .int 0, .null, .null, .null, .null, .null, .int 0, .int 0, .int 0, .null, .null, .null, .int 0, .int 0, .long 0])))) H := hP
  obtain ⟨F205, hF205⟩ : ∃ M : Nat → va_E, M = va_up F171 h0 (.inr (7, [.ref q1, .int 0, .int 0, .int 0, .int 0, .int 0, .int 0, .int 0, .int (-1), .ref q19, .ref q39, .int 0, .ref q64, .ref q94, .ref q129, .int 0, .int 0, .ref q169, .null, .int 0, .null, .null, .null, .null, .null, .int 0, .int 0, .int 0, .null, .null, .null, .int 0, .int 0, .long 0])) := ⟨_, rfl⟩
  rw [← hF205] at hP
  have hI : s_I K172 cs 0 F205 := by rw [hF205]; exact n_put0 hI k181
  have o206 : F205 q1 = .inl (cs 0, 1600, .inl (fun _ => 0)) := by rw [hF205]; exact th_ne ne5 o185
  have o207 : F205 q19 = .inl (cs 0, 6, .inl (fun _ => 0)) := by rw [hF205]; exact th_ne ne23 o188
  have o208 : F205 q39 = .inl (cs 6, 125, .inl f9) := by rw [hF205]; exact th_ne ne43 o191
  have o209 : F205 q64 = .inl (cs 0, 400, .inl (fun _ => 0)) := by rw [hF205]; exact th_ne ne68 o194
  have o210 : F205 q94 = .inl (cs 0, 400, .inl (fun _ => 0)) := by rw [hF205]; exact th_ne ne98 o197
  have o211 : F205 q129 = .inl (cs 0, 40, .inl (fun _ => 0)) := by rw [hF205]; exact th_ne ne133 o200
  have o212 : F205 q169 = .inl (cs 7, 41, .inl (fun _ => 0)) := by rw [hF205]; exact th_ne ne173 o202
  have o213 : F205 h0 = .inr (7, [.ref q1, .int 0, .int 0, .int 0, .int 0, .int 0, .int 0, .int 0, .int (-1), .ref q19, .ref q39, .int 0, .ref q64, .ref q94, .ref q129, .int 0, .int 0, .ref q169, .null, .int 0, .null, .null, .null, .null, .null, .int 0, .int 0, .int 0, .null, .null, .null, .int 0, .int 0, .long 0]) := by rw [hF205]; exact th_up
  have hfr : ∀ a ∈ L, a ≠ h0 → F205 a = F a ∧ K172 a = K a := fun a ha hne => ⟨by rw [hF205]; exact th_ne hne (hfr a ha hne).1, (hfr a ha hne).2⟩
  refine lv_aload_n hx hb dX7_init_812 rfl (lv_at hl 0 rfl) ?_
  refine lv_bipush (v := 41) hx hb dX7_init_813 (by decide) ?_
  refine n_newa (atype := .int) (a0 := (41, .inl (fun _ => 0))) hx hb (hts _ T_99) rfl hK hP hD hS hA 0 rfl (fun _ => rfl) (by decide) (by decide) (Nat.le_of_ble_eq_true rfl) (Nat.le_of_ble_eq_true rfl) (Nat.le_of_ble_eq_true rfl) dX7_init_815 (fun q214 H hq hP hD hS => ?_)
  obtain ⟨L215, hL215⟩ : ∃ M, M = L170 ++ [q214] := ⟨_, rfl⟩
  rw [← hL215] at hP hD
  obtain ⟨F216, hF216⟩ : ∃ M : Nat → va_E, M = va_up F205 q214 (.inl (cs 0, 41, .inl (fun _ => 0))) := ⟨_, rfl⟩
  rw [← hF216] at hP
  obtain ⟨hI, hLk, hX1⟩ := n_add (c := 68) hI hLk hq trivial
  obtain ⟨K217, hK217⟩ : ∃ M, M = va_up K172 q214 68 := ⟨_, rfl⟩
  rw [← hK217, ← hF216] at hI
  rw [← hK217, ← hL215] at hLk
  rw [← hK217] at hX1
  have ne218 : q214 ≠ h0 := fun h => hq (h ▸ m180)
  have ne219 : q214 ≠ q1 := fun h => hq (h ▸ m183)
  have ne220 : q214 ≠ q19 := fun h => hq (h ▸ m186)
  have ne221 : q214 ≠ q39 := fun h => hq (h ▸ m189)
  have ne222 : q214 ≠ q64 := fun h => hq (h ▸ m192)
  have ne223 : q214 ≠ q94 := fun h => hq (h ▸ m195)
  have ne224 : q214 ≠ q129 := fun h => hq (h ▸ m198)
  have ne225 : q214 ≠ q169 := fun h => hq (h ▸ m201)
  have m226 : h0 ∈ L215 := by rw [hL215]; exact List.mem_append_left _ m180
  have k227 : K217 h0 = 0 := by rw [hK217]; exact th_ne (Ne.symm ne218) k181
  have o228 : F216 h0 = .inr (7, [.ref q1, .int 0, .int 0, .int 0, .int 0, .int 0, .int 0, .int 0, .int (-1), .ref q19, .ref q39, .int 0, .ref q64, .ref q94, .ref q129, .int 0, .int 0, .ref q169, .null, .int 0, .null, .null, .null, .null, .null, .int 0, .int 0, .int 0, .null, .null, .null, .int 0, .int 0, .long 0]) := by rw [hF216]; exact th_ne (Ne.symm ne218) o213
  have m229 : q1 ∈ L215 := by rw [hL215]; exact List.mem_append_left _ m183
  have k230 : K217 q1 = 50 := by rw [hK217]; exact th_ne (Ne.symm ne219) k184
  have o231 : F216 q1 = .inl (cs 0, 1600, .inl (fun _ => 0)) := by rw [hF216]; exact th_ne (Ne.symm ne219) o206
  have m232 : q19 ∈ L215 := by rw [hL215]; exact List.mem_append_left _ m186
  have k233 : K217 q19 = 59 := by rw [hK217]; exact th_ne (Ne.symm ne220) k187
  have o234 : F216 q19 = .inl (cs 0, 6, .inl (fun _ => 0)) := by rw [hF216]; exact th_ne (Ne.symm ne220) o207
  have m235 : q39 ∈ L215 := by rw [hL215]; exact List.mem_append_left _ m189
  have k236 : K217 q39 = 60 := by rw [hK217]; exact th_ne (Ne.symm ne221) k190
  have o237 : F216 q39 = .inl (cs 6, 125, .inl f9) := by rw [hF216]; exact th_ne (Ne.symm ne221) o208
  have m238 : q64 ∈ L215 := by rw [hL215]; exact List.mem_append_left _ m192
  have k239 : K217 q64 = 62 := by rw [hK217]; exact th_ne (Ne.symm ne222) k193
  have o240 : F216 q64 = .inl (cs 0, 400, .inl (fun _ => 0)) := by rw [hF216]; exact th_ne (Ne.symm ne222) o209
  have m241 : q94 ∈ L215 := by rw [hL215]; exact List.mem_append_left _ m195
  have k242 : K217 q94 = 63 := by rw [hK217]; exact th_ne (Ne.symm ne223) k196
  have o243 : F216 q94 = .inl (cs 0, 400, .inl (fun _ => 0)) := by rw [hF216]; exact th_ne (Ne.symm ne223) o210
  have m244 : q129 ∈ L215 := by rw [hL215]; exact List.mem_append_left _ m198
  have k245 : K217 q129 = 64 := by rw [hK217]; exact th_ne (Ne.symm ne224) k199
  have o246 : F216 q129 = .inl (cs 0, 40, .inl (fun _ => 0)) := by rw [hF216]; exact th_ne (Ne.symm ne224) o211
  have m247 : q169 ∈ L215 := by rw [hL215]; exact List.mem_append_left _ m201
  have k248 : K217 q169 = 67 := by rw [hK217]; exact th_ne (Ne.symm ne225) k203
  have o249 : F216 q169 = .inl (cs 7, 41, .inl (fun _ => 0)) := by rw [hF216]; exact th_ne (Ne.symm ne225) o212
  have m250 : q214 ∈ L215 := by rw [hL215]; exact List.mem_append_right _ (List.mem_singleton.mpr rfl)
  have o251 : F216 q214 = (.inl (cs 0, 41, .inl (fun _ => 0))) := by rw [hF216]; exact th_up
  have k252 : K217 q214 = 68 := by rw [hK217]; exact th_up
  have nl253 : q214 ∉ L := fun h => hq (hsub q214 h)
  have hfr : ∀ a ∈ L, a ≠ h0 → F216 a = F a ∧ K217 a = K a := fun a ha hne => ⟨by rw [hF216]; exact th_ne (fun h => nl253 (h ▸ ha)) (hfr a ha hne).1, by rw [hK217]; exact th_ne (fun h => nl253 (h ▸ ha)) (hfr a ha hne).2⟩
  have hsub : ∀ a ∈ L, a ∈ L215 := fun a ha => by rw [hL215]; exact List.mem_append_left _ (hsub a ha)
  have hX : n_X K K217 := n_Xt hX hX1
  have hks : ∀ a, K217 a = K a ∨ K217 a ∈ [50, 59, 60, 62, 63, 64, 67, 68, 70, 71, 72, 73, 74, 78, 79, 80] := fun a => by rw [hK217]; by_cases e9 : a = q214; (rw [e9, th_up]; right; decide); rw [show va_up K172 q214 68 a = K172 a from if_neg e9]; exact hks a
  refine W.widen (k := 8) (n := 2653) (Nat.le_of_ble_eq_true rfl) (Nat.le_of_ble_eq_true rfl) ?_
  refine n_putF (D := (dC, dI)) (ci := 7) (v := .ref q214) (ty := .array .int) (C := RX7) (T := TX7) (N := 34) hx hb hts inX7 tyX7 tyX7_ok nmX7 hown hK hP hD hS m226 o228 rfl 18 (by decide) (hts _ T_250) (fun _ h9 => h9) rfl hin rfl (by decide +kernel) rfl rfl (Nat.le_of_ble_eq_true rfl) dX7_init_817 (fun H locs hP hS => ?_)
  have hP : va_P (dC, dI) vwCl (va_pl L215 (va_up F216 h0 (.inr (7, [.ref q1, .int 0, .int 0, .int 0, .int 0, .int 0, .int 0, .int 0, .int (-1), .ref q19, .ref q39, .int 0, .ref q64, .ref q94, .ref q129, .int 0, .int 0, .ref q169, .ref q214, .int 0, .null, .null, .null, .null, .null, .int 0, .int 0, .int 0, .null, .null, .null, .int 0, .int 0, .long 0])))) H := hP
  obtain ⟨F254, hF254⟩ : ∃ M : Nat → va_E, M = va_up F216 h0 (.inr (7, [.ref q1, .int 0, .int 0, .int 0, .int 0, .int 0, .int 0, .int 0, .int (-1), .ref q19, .ref q39, .int 0, .ref q64, .ref q94, .ref q129, .int 0, .int 0, .ref q169, .ref q214, .int 0, .null, .null, .null, .null, .null, .int 0, .int 0, .int 0, .null, .null, .null, .int 0, .int 0, .long 0])) := ⟨_, rfl⟩
  rw [← hF254] at hP
  have hI : s_I K217 cs 0 F254 := by rw [hF254]; exact n_put0 hI k227
  have o255 : F254 q1 = .inl (cs 0, 1600, .inl (fun _ => 0)) := by rw [hF254]; exact th_ne ne5 o231
  have o256 : F254 q19 = .inl (cs 0, 6, .inl (fun _ => 0)) := by rw [hF254]; exact th_ne ne23 o234
  have o257 : F254 q39 = .inl (cs 6, 125, .inl f9) := by rw [hF254]; exact th_ne ne43 o237
  have o258 : F254 q64 = .inl (cs 0, 400, .inl (fun _ => 0)) := by rw [hF254]; exact th_ne ne68 o240
  have o259 : F254 q94 = .inl (cs 0, 400, .inl (fun _ => 0)) := by rw [hF254]; exact th_ne ne98 o243
  have o260 : F254 q129 = .inl (cs 0, 40, .inl (fun _ => 0)) := by rw [hF254]; exact th_ne ne133 o246
  have o261 : F254 q169 = .inl (cs 7, 41, .inl (fun _ => 0)) := by rw [hF254]; exact th_ne ne173 o249
  have o262 : F254 q214 = .inl (cs 0, 41, .inl (fun _ => 0)) := by rw [hF254]; exact th_ne ne218 o251
  have o263 : F254 h0 = .inr (7, [.ref q1, .int 0, .int 0, .int 0, .int 0, .int 0, .int 0, .int 0, .int (-1), .ref q19, .ref q39, .int 0, .ref q64, .ref q94, .ref q129, .int 0, .int 0, .ref q169, .ref q214, .int 0, .null, .null, .null, .null, .null, .int 0, .int 0, .int 0, .null, .null, .null, .int 0, .int 0, .long 0]) := by rw [hF254]; exact th_up
  have hfr : ∀ a ∈ L, a ≠ h0 → F254 a = F a ∧ K217 a = K a := fun a ha hne => ⟨by rw [hF254]; exact th_ne hne (hfr a ha hne).1, (hfr a ha hne).2⟩
  refine lv_aload_n hx hb dX7_init_820 rfl (lv_at hl 0 rfl) ?_
  refine lv_sipush (v := 918) hx hb dX7_init_821 (by decide) ?_
  refine n_newa (atype := .int) (a0 := (918, .inl (fun _ => 0))) hx hb (hts _ T_99) rfl hK hP hD hS hA 0 rfl (fun _ => rfl) (by decide) (by decide) (Nat.le_of_ble_eq_true rfl) (Nat.le_of_ble_eq_true rfl) (Nat.le_of_ble_eq_true rfl) dX7_init_824 (fun q264 H hq hP hD hS => ?_)
  obtain ⟨L265, hL265⟩ : ∃ M, M = L215 ++ [q264] := ⟨_, rfl⟩
  rw [← hL265] at hP hD
  obtain ⟨F266, hF266⟩ : ∃ M : Nat → va_E, M = va_up F254 q264 (.inl (cs 0, 918, .inl (fun _ => 0))) := ⟨_, rfl⟩
  rw [← hF266] at hP
  obtain ⟨hI, hLk, hX1⟩ := n_add (c := 70) hI hLk hq trivial
  obtain ⟨K267, hK267⟩ : ∃ M, M = va_up K217 q264 70 := ⟨_, rfl⟩
  rw [← hK267, ← hF266] at hI
  rw [← hK267, ← hL265] at hLk
  rw [← hK267] at hX1
  have ne268 : q264 ≠ h0 := fun h => hq (h ▸ m226)
  have ne269 : q264 ≠ q1 := fun h => hq (h ▸ m229)
  have ne270 : q264 ≠ q19 := fun h => hq (h ▸ m232)
  have ne271 : q264 ≠ q39 := fun h => hq (h ▸ m235)
  have ne272 : q264 ≠ q64 := fun h => hq (h ▸ m238)
  have ne273 : q264 ≠ q94 := fun h => hq (h ▸ m241)
  have ne274 : q264 ≠ q129 := fun h => hq (h ▸ m244)
  have ne275 : q264 ≠ q169 := fun h => hq (h ▸ m247)
  have ne276 : q264 ≠ q214 := fun h => hq (h ▸ m250)
  have m277 : h0 ∈ L265 := by rw [hL265]; exact List.mem_append_left _ m226
  have k278 : K267 h0 = 0 := by rw [hK267]; exact th_ne (Ne.symm ne268) k227
  have o279 : F266 h0 = .inr (7, [.ref q1, .int 0, .int 0, .int 0, .int 0, .int 0, .int 0, .int 0, .int (-1), .ref q19, .ref q39, .int 0, .ref q64, .ref q94, .ref q129, .int 0, .int 0, .ref q169, .ref q214, .int 0, .null, .null, .null, .null, .null, .int 0, .int 0, .int 0, .null, .null, .null, .int 0, .int 0, .long 0]) := by rw [hF266]; exact th_ne (Ne.symm ne268) o263
  have m280 : q1 ∈ L265 := by rw [hL265]; exact List.mem_append_left _ m229
  have k281 : K267 q1 = 50 := by rw [hK267]; exact th_ne (Ne.symm ne269) k230
  have o282 : F266 q1 = .inl (cs 0, 1600, .inl (fun _ => 0)) := by rw [hF266]; exact th_ne (Ne.symm ne269) o255
  have m283 : q19 ∈ L265 := by rw [hL265]; exact List.mem_append_left _ m232
  have k284 : K267 q19 = 59 := by rw [hK267]; exact th_ne (Ne.symm ne270) k233
  have o285 : F266 q19 = .inl (cs 0, 6, .inl (fun _ => 0)) := by rw [hF266]; exact th_ne (Ne.symm ne270) o256
  have m286 : q39 ∈ L265 := by rw [hL265]; exact List.mem_append_left _ m235
  have k287 : K267 q39 = 60 := by rw [hK267]; exact th_ne (Ne.symm ne271) k236
  have o288 : F266 q39 = .inl (cs 6, 125, .inl f9) := by rw [hF266]; exact th_ne (Ne.symm ne271) o257
  have m289 : q64 ∈ L265 := by rw [hL265]; exact List.mem_append_left _ m238
  have k290 : K267 q64 = 62 := by rw [hK267]; exact th_ne (Ne.symm ne272) k239
  have o291 : F266 q64 = .inl (cs 0, 400, .inl (fun _ => 0)) := by rw [hF266]; exact th_ne (Ne.symm ne272) o258
  have m292 : q94 ∈ L265 := by rw [hL265]; exact List.mem_append_left _ m241
  have k293 : K267 q94 = 63 := by rw [hK267]; exact th_ne (Ne.symm ne273) k242
  have o294 : F266 q94 = .inl (cs 0, 400, .inl (fun _ => 0)) := by rw [hF266]; exact th_ne (Ne.symm ne273) o259
  have m295 : q129 ∈ L265 := by rw [hL265]; exact List.mem_append_left _ m244
  have k296 : K267 q129 = 64 := by rw [hK267]; exact th_ne (Ne.symm ne274) k245
  have o297 : F266 q129 = .inl (cs 0, 40, .inl (fun _ => 0)) := by rw [hF266]; exact th_ne (Ne.symm ne274) o260
  have m298 : q169 ∈ L265 := by rw [hL265]; exact List.mem_append_left _ m247
  have k299 : K267 q169 = 67 := by rw [hK267]; exact th_ne (Ne.symm ne275) k248
  have o300 : F266 q169 = .inl (cs 7, 41, .inl (fun _ => 0)) := by rw [hF266]; exact th_ne (Ne.symm ne275) o261
  have m301 : q214 ∈ L265 := by rw [hL265]; exact List.mem_append_left _ m250
  have k302 : K267 q214 = 68 := by rw [hK267]; exact th_ne (Ne.symm ne276) k252
  have o303 : F266 q214 = .inl (cs 0, 41, .inl (fun _ => 0)) := by rw [hF266]; exact th_ne (Ne.symm ne276) o262
  have m304 : q264 ∈ L265 := by rw [hL265]; exact List.mem_append_right _ (List.mem_singleton.mpr rfl)
  have o305 : F266 q264 = (.inl (cs 0, 918, .inl (fun _ => 0))) := by rw [hF266]; exact th_up
  have k306 : K267 q264 = 70 := by rw [hK267]; exact th_up
  have nl307 : q264 ∉ L := fun h => hq (hsub q264 h)
  have hfr : ∀ a ∈ L, a ≠ h0 → F266 a = F a ∧ K267 a = K a := fun a ha hne => ⟨by rw [hF266]; exact th_ne (fun h => nl307 (h ▸ ha)) (hfr a ha hne).1, by rw [hK267]; exact th_ne (fun h => nl307 (h ▸ ha)) (hfr a ha hne).2⟩
  have hsub : ∀ a ∈ L, a ∈ L265 := fun a ha => by rw [hL265]; exact List.mem_append_left _ (hsub a ha)
  have hX : n_X K K267 := n_Xt hX hX1
  have hks : ∀ a, K267 a = K a ∨ K267 a ∈ [50, 59, 60, 62, 63, 64, 67, 68, 70, 71, 72, 73, 74, 78, 79, 80] := fun a => by rw [hK267]; by_cases e9 : a = q264; (rw [e9, th_up]; right; decide); rw [show va_up K217 q264 70 a = K217 a from if_neg e9]; exact hks a
  refine W.widen (k := 9) (n := 3571) (Nat.le_of_ble_eq_true rfl) (Nat.le_of_ble_eq_true rfl) ?_
  refine n_putF (D := (dC, dI)) (ci := 7) (v := .ref q264) (ty := .array .int) (C := RX7) (T := TX7) (N := 34) hx hb hts inX7 tyX7 tyX7_ok nmX7 hown hK hP hD hS m277 o279 rfl 20 (by decide) (hts _ T_251) (fun _ h9 => h9) rfl hin rfl (by decide +kernel) rfl rfl (Nat.le_of_ble_eq_true rfl) dX7_init_826 (fun H locs hP hS => ?_)
  have hP : va_P (dC, dI) vwCl (va_pl L265 (va_up F266 h0 (.inr (7, [.ref q1, .int 0, .int 0, .int 0, .int 0, .int 0, .int 0, .int 0, .int (-1), .ref q19, .ref q39, .int 0, .ref q64, .ref q94, .ref q129, .int 0, .int 0, .ref q169, .ref q214, .int 0, .ref q264, .null, .null, .null, .null, .int 0, .int 0, .int 0, .null, .null, .null, .int 0, .int 0, .long 0])))) H := hP
  obtain ⟨F308, hF308⟩ : ∃ M : Nat → va_E, M = va_up F266 h0 (.inr (7, [.ref q1, .int 0, .int 0, .int 0, .int 0, .int 0, .int 0, .int 0, .int (-1), .ref q19, .ref q39, .int 0, .ref q64, .ref q94, .ref q129, .int 0, .int 0, .ref q169, .ref q214, .int 0, .ref q264, .null, .null, .null, .null, .int 0, .int 0, .int 0, .null, .null, .null, .int 0, .int 0, .long 0])) := ⟨_, rfl⟩
  rw [← hF308] at hP
  have hI : s_I K267 cs 0 F308 := by rw [hF308]; exact n_put0 hI k278
  have o309 : F308 q1 = .inl (cs 0, 1600, .inl (fun _ => 0)) := by rw [hF308]; exact th_ne ne5 o282
  have o310 : F308 q19 = .inl (cs 0, 6, .inl (fun _ => 0)) := by rw [hF308]; exact th_ne ne23 o285
  have o311 : F308 q39 = .inl (cs 6, 125, .inl f9) := by rw [hF308]; exact th_ne ne43 o288
  have o312 : F308 q64 = .inl (cs 0, 400, .inl (fun _ => 0)) := by rw [hF308]; exact th_ne ne68 o291
  have o313 : F308 q94 = .inl (cs 0, 400, .inl (fun _ => 0)) := by rw [hF308]; exact th_ne ne98 o294
  have o314 : F308 q129 = .inl (cs 0, 40, .inl (fun _ => 0)) := by rw [hF308]; exact th_ne ne133 o297
  have o315 : F308 q169 = .inl (cs 7, 41, .inl (fun _ => 0)) := by rw [hF308]; exact th_ne ne173 o300
  have o316 : F308 q214 = .inl (cs 0, 41, .inl (fun _ => 0)) := by rw [hF308]; exact th_ne ne218 o303
  have o317 : F308 q264 = .inl (cs 0, 918, .inl (fun _ => 0)) := by rw [hF308]; exact th_ne ne268 o305
  have o318 : F308 h0 = .inr (7, [.ref q1, .int 0, .int 0, .int 0, .int 0, .int 0, .int 0, .int 0, .int (-1), .ref q19, .ref q39, .int 0, .ref q64, .ref q94, .ref q129, .int 0, .int 0, .ref q169, .ref q214, .int 0, .ref q264, .null, .null, .null, .null, .int 0, .int 0, .int 0, .null, .null, .null, .int 0, .int 0, .long 0]) := by rw [hF308]; exact th_up
  have hfr : ∀ a ∈ L, a ≠ h0 → F308 a = F a ∧ K267 a = K a := fun a ha hne => ⟨by rw [hF308]; exact th_ne hne (hfr a ha hne).1, (hfr a ha hne).2⟩
  refine lv_aload_n hx hb dX7_init_829 rfl (lv_at hl 0 rfl) ?_
  refine lv_bipush (v := 8) hx hb dX7_init_830 (by decide) ?_
  refine n_newa (atype := .int) (a0 := (8, .inl (fun _ => 0))) hx hb (hts _ T_99) rfl hK hP hD hS hA 0 rfl (fun _ => rfl) (by decide) (by decide) (Nat.le_of_ble_eq_true rfl) (Nat.le_of_ble_eq_true rfl) (Nat.le_of_ble_eq_true rfl) dX7_init_832 (fun q319 H hq hP hD hS => ?_)
  obtain ⟨L320, hL320⟩ : ∃ M, M = L265 ++ [q319] := ⟨_, rfl⟩
  rw [← hL320] at hP hD
  obtain ⟨F321, hF321⟩ : ∃ M : Nat → va_E, M = va_up F308 q319 (.inl (cs 0, 8, .inl (fun _ => 0))) := ⟨_, rfl⟩
  rw [← hF321] at hP
  obtain ⟨hI, hLk, hX1⟩ := n_add (c := 71) hI hLk hq trivial
  obtain ⟨K322, hK322⟩ : ∃ M, M = va_up K267 q319 71 := ⟨_, rfl⟩
  rw [← hK322, ← hF321] at hI
  rw [← hK322, ← hL320] at hLk
  rw [← hK322] at hX1
  have ne323 : q319 ≠ h0 := fun h => hq (h ▸ m277)
  have ne324 : q319 ≠ q1 := fun h => hq (h ▸ m280)
  have ne325 : q319 ≠ q19 := fun h => hq (h ▸ m283)
  have ne326 : q319 ≠ q39 := fun h => hq (h ▸ m286)
  have ne327 : q319 ≠ q64 := fun h => hq (h ▸ m289)
  have ne328 : q319 ≠ q94 := fun h => hq (h ▸ m292)
  have ne329 : q319 ≠ q129 := fun h => hq (h ▸ m295)
  have ne330 : q319 ≠ q169 := fun h => hq (h ▸ m298)
  have ne331 : q319 ≠ q214 := fun h => hq (h ▸ m301)
  have ne332 : q319 ≠ q264 := fun h => hq (h ▸ m304)
  have m333 : h0 ∈ L320 := by rw [hL320]; exact List.mem_append_left _ m277
  have k334 : K322 h0 = 0 := by rw [hK322]; exact th_ne (Ne.symm ne323) k278
  have o335 : F321 h0 = .inr (7, [.ref q1, .int 0, .int 0, .int 0, .int 0, .int 0, .int 0, .int 0, .int (-1), .ref q19, .ref q39, .int 0, .ref q64, .ref q94, .ref q129, .int 0, .int 0, .ref q169, .ref q214, .int 0, .ref q264, .null, .null, .null, .null, .int 0, .int 0, .int 0, .null, .null, .null, .int 0, .int 0, .long 0]) := by rw [hF321]; exact th_ne (Ne.symm ne323) o318
  have m336 : q1 ∈ L320 := by rw [hL320]; exact List.mem_append_left _ m280
  have k337 : K322 q1 = 50 := by rw [hK322]; exact th_ne (Ne.symm ne324) k281
  have o338 : F321 q1 = .inl (cs 0, 1600, .inl (fun _ => 0)) := by rw [hF321]; exact th_ne (Ne.symm ne324) o309
  have m339 : q19 ∈ L320 := by rw [hL320]; exact List.mem_append_left _ m283
  have k340 : K322 q19 = 59 := by rw [hK322]; exact th_ne (Ne.symm ne325) k284
  have o341 : F321 q19 = .inl (cs 0, 6, .inl (fun _ => 0)) := by rw [hF321]; exact th_ne (Ne.symm ne325) o310
  have m342 : q39 ∈ L320 := by rw [hL320]; exact List.mem_append_left _ m286
  have k343 : K322 q39 = 60 := by rw [hK322]; exact th_ne (Ne.symm ne326) k287
  have o344 : F321 q39 = .inl (cs 6, 125, .inl f9) := by rw [hF321]; exact th_ne (Ne.symm ne326) o311
  have m345 : q64 ∈ L320 := by rw [hL320]; exact List.mem_append_left _ m289
  have k346 : K322 q64 = 62 := by rw [hK322]; exact th_ne (Ne.symm ne327) k290
  have o347 : F321 q64 = .inl (cs 0, 400, .inl (fun _ => 0)) := by rw [hF321]; exact th_ne (Ne.symm ne327) o312
  have m348 : q94 ∈ L320 := by rw [hL320]; exact List.mem_append_left _ m292
  have k349 : K322 q94 = 63 := by rw [hK322]; exact th_ne (Ne.symm ne328) k293
  have o350 : F321 q94 = .inl (cs 0, 400, .inl (fun _ => 0)) := by rw [hF321]; exact th_ne (Ne.symm ne328) o313
  have m351 : q129 ∈ L320 := by rw [hL320]; exact List.mem_append_left _ m295
  have k352 : K322 q129 = 64 := by rw [hK322]; exact th_ne (Ne.symm ne329) k296
  have o353 : F321 q129 = .inl (cs 0, 40, .inl (fun _ => 0)) := by rw [hF321]; exact th_ne (Ne.symm ne329) o314
  have m354 : q169 ∈ L320 := by rw [hL320]; exact List.mem_append_left _ m298
  have k355 : K322 q169 = 67 := by rw [hK322]; exact th_ne (Ne.symm ne330) k299
  have o356 : F321 q169 = .inl (cs 7, 41, .inl (fun _ => 0)) := by rw [hF321]; exact th_ne (Ne.symm ne330) o315
  have m357 : q214 ∈ L320 := by rw [hL320]; exact List.mem_append_left _ m301
  have k358 : K322 q214 = 68 := by rw [hK322]; exact th_ne (Ne.symm ne331) k302
  have o359 : F321 q214 = .inl (cs 0, 41, .inl (fun _ => 0)) := by rw [hF321]; exact th_ne (Ne.symm ne331) o316
  have m360 : q264 ∈ L320 := by rw [hL320]; exact List.mem_append_left _ m304
  have k361 : K322 q264 = 70 := by rw [hK322]; exact th_ne (Ne.symm ne332) k306
  have o362 : F321 q264 = .inl (cs 0, 918, .inl (fun _ => 0)) := by rw [hF321]; exact th_ne (Ne.symm ne332) o317
  have m363 : q319 ∈ L320 := by rw [hL320]; exact List.mem_append_right _ (List.mem_singleton.mpr rfl)
  have o364 : F321 q319 = (.inl (cs 0, 8, .inl (fun _ => 0))) := by rw [hF321]; exact th_up
  have k365 : K322 q319 = 71 := by rw [hK322]; exact th_up
  have nl366 : q319 ∉ L := fun h => hq (hsub q319 h)
  have hfr : ∀ a ∈ L, a ≠ h0 → F321 a = F a ∧ K322 a = K a := fun a ha hne => ⟨by rw [hF321]; exact th_ne (fun h => nl366 (h ▸ ha)) (hfr a ha hne).1, by rw [hK322]; exact th_ne (fun h => nl366 (h ▸ ha)) (hfr a ha hne).2⟩
  have hsub : ∀ a ∈ L, a ∈ L320 := fun a ha => by rw [hL320]; exact List.mem_append_left _ (hsub a ha)
  have hX : n_X K K322 := n_Xt hX hX1
  have hks : ∀ a, K322 a = K a ∨ K322 a ∈ [50, 59, 60, 62, 63, 64, 67, 68, 70, 71, 72, 73, 74, 78, 79, 80] := fun a => by rw [hK322]; by_cases e9 : a = q319; (rw [e9, th_up]; right; decide); rw [show va_up K267 q319 71 a = K267 a from if_neg e9]; exact hks a
  refine W.widen (k := 10) (n := 3579) (Nat.le_of_ble_eq_true rfl) (Nat.le_of_ble_eq_true rfl) ?_
  refine n_putF (D := (dC, dI)) (ci := 7) (v := .ref q319) (ty := .array .int) (C := RX7) (T := TX7) (N := 34) hx hb hts inX7 tyX7 tyX7_ok nmX7 hown hK hP hD hS m333 o335 rfl 21 (by decide) (hts _ T_252) (fun _ h9 => h9) rfl hin rfl (by decide +kernel) rfl rfl (Nat.le_of_ble_eq_true rfl) dX7_init_834 (fun H locs hP hS => ?_)
  have hP : va_P (dC, dI) vwCl (va_pl L320 (va_up F321 h0 (.inr (7, [.ref q1, .int 0, .int 0, .int 0, .int 0, .int 0, .int 0, .int 0, .int (-1), .ref q19, .ref q39, .int 0, .ref q64, .ref q94, .ref q129, .int 0, .int 0, .ref q169, .ref q214, .int 0, .ref q264, .ref q319, .null, .null, .null, .int 0, .int 0, .int 0, .null, .null, .null, .int 0, .int 0, .long 0])))) H := hP
  obtain ⟨F367, hF367⟩ : ∃ M : Nat → va_E, M = va_up F321 h0 (.inr (7, [.ref q1, .int 0, .int 0, .int 0, .int 0, .int 0, .int 0, .int 0, .int (-1), .ref q19, .ref q39, .int 0, .ref q64, .ref q94, .ref q129, .int 0, .int 0, .ref q169, .ref q214, .int 0, .ref q264, .ref q319, .null, .null, .null, .int 0, .int 0, .int 0, .null, .null, .null, .int 0, .int 0, .long 0])) := ⟨_, rfl⟩
  rw [← hF367] at hP
  have hI : s_I K322 cs 0 F367 := by rw [hF367]; exact n_put0 hI k334
  have o368 : F367 q1 = .inl (cs 0, 1600, .inl (fun _ => 0)) := by rw [hF367]; exact th_ne ne5 o338
  have o369 : F367 q19 = .inl (cs 0, 6, .inl (fun _ => 0)) := by rw [hF367]; exact th_ne ne23 o341
  have o370 : F367 q39 = .inl (cs 6, 125, .inl f9) := by rw [hF367]; exact th_ne ne43 o344
  have o371 : F367 q64 = .inl (cs 0, 400, .inl (fun _ => 0)) := by rw [hF367]; exact th_ne ne68 o347
  have o372 : F367 q94 = .inl (cs 0, 400, .inl (fun _ => 0)) := by rw [hF367]; exact th_ne ne98 o350
  have o373 : F367 q129 = .inl (cs 0, 40, .inl (fun _ => 0)) := by rw [hF367]; exact th_ne ne133 o353
  have o374 : F367 q169 = .inl (cs 7, 41, .inl (fun _ => 0)) := by rw [hF367]; exact th_ne ne173 o356
  have o375 : F367 q214 = .inl (cs 0, 41, .inl (fun _ => 0)) := by rw [hF367]; exact th_ne ne218 o359
  have o376 : F367 q264 = .inl (cs 0, 918, .inl (fun _ => 0)) := by rw [hF367]; exact th_ne ne268 o362
  have o377 : F367 q319 = .inl (cs 0, 8, .inl (fun _ => 0)) := by rw [hF367]; exact th_ne ne323 o364
  have o378 : F367 h0 = .inr (7, [.ref q1, .int 0, .int 0, .int 0, .int 0, .int 0, .int 0, .int 0, .int (-1), .ref q19, .ref q39, .int 0, .ref q64, .ref q94, .ref q129, .int 0, .int 0, .ref q169, .ref q214, .int 0, .ref q264, .ref q319, .null, .null, .null, .int 0, .int 0, .int 0, .null, .null, .null, .int 0, .int 0, .long 0]) := by rw [hF367]; exact th_up
  have hfr : ∀ a ∈ L, a ≠ h0 → F367 a = F a ∧ K322 a = K a := fun a ha hne => ⟨by rw [hF367]; exact th_ne hne (hfr a ha hne).1, (hfr a ha hne).2⟩
  refine lv_aload_n hx hb dX7_init_837 rfl (lv_at hl 0 rfl) ?_
  refine lv_bipush (v := 8) hx hb dX7_init_838 (by decide) ?_
  refine n_newa (atype := .int) (a0 := (8, .inl (fun _ => 0))) hx hb (hts _ T_99) rfl hK hP hD hS hA 0 rfl (fun _ => rfl) (by decide) (by decide) (Nat.le_of_ble_eq_true rfl) (Nat.le_of_ble_eq_true rfl) (Nat.le_of_ble_eq_true rfl) dX7_init_840 (fun q379 H hq hP hD hS => ?_)
  obtain ⟨L380, hL380⟩ : ∃ M, M = L320 ++ [q379] := ⟨_, rfl⟩
  rw [← hL380] at hP hD
  obtain ⟨F381, hF381⟩ : ∃ M : Nat → va_E, M = va_up F367 q379 (.inl (cs 0, 8, .inl (fun _ => 0))) := ⟨_, rfl⟩
  rw [← hF381] at hP
  obtain ⟨hI, hLk, hX1⟩ := n_add (c := 72) hI hLk hq trivial
  obtain ⟨K382, hK382⟩ : ∃ M, M = va_up K322 q379 72 := ⟨_, rfl⟩
  rw [← hK382, ← hF381] at hI
  rw [← hK382, ← hL380] at hLk
  rw [← hK382] at hX1
  have ne383 : q379 ≠ h0 := fun h => hq (h ▸ m333)
  have ne384 : q379 ≠ q1 := fun h => hq (h ▸ m336)
  have ne385 : q379 ≠ q19 := fun h => hq (h ▸ m339)
  have ne386 : q379 ≠ q39 := fun h => hq (h ▸ m342)
  have ne387 : q379 ≠ q64 := fun h => hq (h ▸ m345)
  have ne388 : q379 ≠ q94 := fun h => hq (h ▸ m348)
  have ne389 : q379 ≠ q129 := fun h => hq (h ▸ m351)
  have ne390 : q379 ≠ q169 := fun h => hq (h ▸ m354)
  have ne391 : q379 ≠ q214 := fun h => hq (h ▸ m357)
  have ne392 : q379 ≠ q264 := fun h => hq (h ▸ m360)
  have ne393 : q379 ≠ q319 := fun h => hq (h ▸ m363)
  have m394 : h0 ∈ L380 := by rw [hL380]; exact List.mem_append_left _ m333
  have k395 : K382 h0 = 0 := by rw [hK382]; exact th_ne (Ne.symm ne383) k334
  have o396 : F381 h0 = .inr (7, [.ref q1, .int 0, .int 0, .int 0, .int 0, .int 0, .int 0, .int 0, .int (-1), .ref q19, .ref q39, .int 0, .ref q64, .ref q94, .ref q129, .int 0, .int 0, .ref q169, .ref q214, .int 0, .ref q264, .ref q319, .null, .null, .null, .int 0, .int 0, .int 0, .null, .null, .null, .int 0, .int 0, .long 0]) := by rw [hF381]; exact th_ne (Ne.symm ne383) o378
  have m397 : q1 ∈ L380 := by rw [hL380]; exact List.mem_append_left _ m336
  have k398 : K382 q1 = 50 := by rw [hK382]; exact th_ne (Ne.symm ne384) k337
  have o399 : F381 q1 = .inl (cs 0, 1600, .inl (fun _ => 0)) := by rw [hF381]; exact th_ne (Ne.symm ne384) o368
  have m400 : q19 ∈ L380 := by rw [hL380]; exact List.mem_append_left _ m339
  have k401 : K382 q19 = 59 := by rw [hK382]; exact th_ne (Ne.symm ne385) k340
  have o402 : F381 q19 = .inl (cs 0, 6, .inl (fun _ => 0)) := by rw [hF381]; exact th_ne (Ne.symm ne385) o369
  have m403 : q39 ∈ L380 := by rw [hL380]; exact List.mem_append_left _ m342
  have k404 : K382 q39 = 60 := by rw [hK382]; exact th_ne (Ne.symm ne386) k343
  have o405 : F381 q39 = .inl (cs 6, 125, .inl f9) := by rw [hF381]; exact th_ne (Ne.symm ne386) o370
  have m406 : q64 ∈ L380 := by rw [hL380]; exact List.mem_append_left _ m345
  have k407 : K382 q64 = 62 := by rw [hK382]; exact th_ne (Ne.symm ne387) k346
  have o408 : F381 q64 = .inl (cs 0, 400, .inl (fun _ => 0)) := by rw [hF381]; exact th_ne (Ne.symm ne387) o371
  have m409 : q94 ∈ L380 := by rw [hL380]; exact List.mem_append_left _ m348
  have k410 : K382 q94 = 63 := by rw [hK382]; exact th_ne (Ne.symm ne388) k349
  have o411 : F381 q94 = .inl (cs 0, 400, .inl (fun _ => 0)) := by rw [hF381]; exact th_ne (Ne.symm ne388) o372
  have m412 : q129 ∈ L380 := by rw [hL380]; exact List.mem_append_left _ m351
  have k413 : K382 q129 = 64 := by rw [hK382]; exact th_ne (Ne.symm ne389) k352
  have o414 : F381 q129 = .inl (cs 0, 40, .inl (fun _ => 0)) := by rw [hF381]; exact th_ne (Ne.symm ne389) o373
  have m415 : q169 ∈ L380 := by rw [hL380]; exact List.mem_append_left _ m354
  have k416 : K382 q169 = 67 := by rw [hK382]; exact th_ne (Ne.symm ne390) k355
  have o417 : F381 q169 = .inl (cs 7, 41, .inl (fun _ => 0)) := by rw [hF381]; exact th_ne (Ne.symm ne390) o374
  have m418 : q214 ∈ L380 := by rw [hL380]; exact List.mem_append_left _ m357
  have k419 : K382 q214 = 68 := by rw [hK382]; exact th_ne (Ne.symm ne391) k358
  have o420 : F381 q214 = .inl (cs 0, 41, .inl (fun _ => 0)) := by rw [hF381]; exact th_ne (Ne.symm ne391) o375
  have m421 : q264 ∈ L380 := by rw [hL380]; exact List.mem_append_left _ m360
  have k422 : K382 q264 = 70 := by rw [hK382]; exact th_ne (Ne.symm ne392) k361
  have o423 : F381 q264 = .inl (cs 0, 918, .inl (fun _ => 0)) := by rw [hF381]; exact th_ne (Ne.symm ne392) o376
  have m424 : q319 ∈ L380 := by rw [hL380]; exact List.mem_append_left _ m363
  have k425 : K382 q319 = 71 := by rw [hK382]; exact th_ne (Ne.symm ne393) k365
  have o426 : F381 q319 = .inl (cs 0, 8, .inl (fun _ => 0)) := by rw [hF381]; exact th_ne (Ne.symm ne393) o377
  have m427 : q379 ∈ L380 := by rw [hL380]; exact List.mem_append_right _ (List.mem_singleton.mpr rfl)
  have o428 : F381 q379 = (.inl (cs 0, 8, .inl (fun _ => 0))) := by rw [hF381]; exact th_up
  have k429 : K382 q379 = 72 := by rw [hK382]; exact th_up
  have nl430 : q379 ∉ L := fun h => hq (hsub q379 h)
  have hfr : ∀ a ∈ L, a ≠ h0 → F381 a = F a ∧ K382 a = K a := fun a ha hne => ⟨by rw [hF381]; exact th_ne (fun h => nl430 (h ▸ ha)) (hfr a ha hne).1, by rw [hK382]; exact th_ne (fun h => nl430 (h ▸ ha)) (hfr a ha hne).2⟩
  have hsub : ∀ a ∈ L, a ∈ L380 := fun a ha => by rw [hL380]; exact List.mem_append_left _ (hsub a ha)
  have hX : n_X K K382 := n_Xt hX hX1
  have hks : ∀ a, K382 a = K a ∨ K382 a ∈ [50, 59, 60, 62, 63, 64, 67, 68, 70, 71, 72, 73, 74, 78, 79, 80] := fun a => by rw [hK382]; by_cases e9 : a = q379; (rw [e9, th_up]; right; decide); rw [show va_up K322 q379 72 a = K322 a from if_neg e9]; exact hks a
  refine W.widen (k := 11) (n := 3587) (Nat.le_of_ble_eq_true rfl) (Nat.le_of_ble_eq_true rfl) ?_
  refine n_putF (D := (dC, dI)) (ci := 7) (v := .ref q379) (ty := .array .int) (C := RX7) (T := TX7) (N := 34) hx hb hts inX7 tyX7 tyX7_ok nmX7 hown hK hP hD hS m394 o396 rfl 22 (by decide) (hts _ T_253) (fun _ h9 => h9) rfl hin rfl (by decide +kernel) rfl rfl (Nat.le_of_ble_eq_true rfl) dX7_init_842 (fun H locs hP hS => ?_)
  have hP : va_P (dC, dI) vwCl (va_pl L380 (va_up F381 h0 (.inr (7, [.ref q1, .int 0, .int 0, .int 0, .int 0, .int 0, .int 0, .int 0, .int (-1), .ref q19, .ref q39, .int 0, .ref q64, .ref q94, .ref q129, .int 0, .int 0, .ref q169, .ref q214, .int 0, .ref q264, .ref q319, .ref q379, .null, .null, .int 0, .int 0, .int 0, .null, .null, .null, .int 0, .int 0, .long 0])))) H := hP
  obtain ⟨F431, hF431⟩ : ∃ M : Nat → va_E, M = va_up F381 h0 (.inr (7, [.ref q1, .int 0, .int 0, .int 0, .int 0, .int 0, .int 0, .int 0, .int (-1), .ref q19, .ref q39, .int 0, .ref q64, .ref q94, .ref q129, .int 0, .int 0, .ref q169, .ref q214, .int 0, .ref q264, .ref q319, .ref q379, .null, .null, .int 0, .int 0, .int 0, .null, .null, .null, .int 0, .int 0, .long 0])) := ⟨_, rfl⟩
  rw [← hF431] at hP
  have hI : s_I K382 cs 0 F431 := by rw [hF431]; exact n_put0 hI k395
  have o432 : F431 q1 = .inl (cs 0, 1600, .inl (fun _ => 0)) := by rw [hF431]; exact th_ne ne5 o399
  have o433 : F431 q19 = .inl (cs 0, 6, .inl (fun _ => 0)) := by rw [hF431]; exact th_ne ne23 o402
  have o434 : F431 q39 = .inl (cs 6, 125, .inl f9) := by rw [hF431]; exact th_ne ne43 o405
  have o435 : F431 q64 = .inl (cs 0, 400, .inl (fun _ => 0)) := by rw [hF431]; exact th_ne ne68 o408
  have o436 : F431 q94 = .inl (cs 0, 400, .inl (fun _ => 0)) := by rw [hF431]; exact th_ne ne98 o411
  have o437 : F431 q129 = .inl (cs 0, 40, .inl (fun _ => 0)) := by rw [hF431]; exact th_ne ne133 o414
  have o438 : F431 q169 = .inl (cs 7, 41, .inl (fun _ => 0)) := by rw [hF431]; exact th_ne ne173 o417
  have o439 : F431 q214 = .inl (cs 0, 41, .inl (fun _ => 0)) := by rw [hF431]; exact th_ne ne218 o420
  have o440 : F431 q264 = .inl (cs 0, 918, .inl (fun _ => 0)) := by rw [hF431]; exact th_ne ne268 o423
  have o441 : F431 q319 = .inl (cs 0, 8, .inl (fun _ => 0)) := by rw [hF431]; exact th_ne ne323 o426
  have o442 : F431 q379 = .inl (cs 0, 8, .inl (fun _ => 0)) := by rw [hF431]; exact th_ne ne383 o428
  have o443 : F431 h0 = .inr (7, [.ref q1, .int 0, .int 0, .int 0, .int 0, .int 0, .int 0, .int 0, .int (-1), .ref q19, .ref q39, .int 0, .ref q64, .ref q94, .ref q129, .int 0, .int 0, .ref q169, .ref q214, .int 0, .ref q264, .ref q319, .ref q379, .null, .null, .int 0, .int 0, .int 0, .null, .null, .null, .int 0, .int 0, .long 0]) := by rw [hF431]; exact th_up
  have hfr : ∀ a ∈ L, a ≠ h0 → F431 a = F a ∧ K382 a = K a := fun a ha hne => ⟨by rw [hF431]; exact th_ne hne (hfr a ha hne).1, (hfr a ha hne).2⟩
  refine lv_aload_n hx hb dX7_init_845 rfl (lv_at hl 0 rfl) ?_
  refine lv_sipush (v := 918) hx hb dX7_init_846 (by decide) ?_
  refine n_newa (atype := .int) (a0 := (918, .inl (fun _ => 0))) hx hb (hts _ T_99) rfl hK hP hD hS hA 0 rfl (fun _ => rfl) (by decide) (by decide) (Nat.le_of_ble_eq_true rfl) (Nat.le_of_ble_eq_true rfl) (Nat.le_of_ble_eq_true rfl) dX7_init_849 (fun q444 H hq hP hD hS => ?_)
  obtain ⟨L445, hL445⟩ : ∃ M, M = L380 ++ [q444] := ⟨_, rfl⟩
  rw [← hL445] at hP hD
  obtain ⟨F446, hF446⟩ : ∃ M : Nat → va_E, M = va_up F431 q444 (.inl (cs 0, 918, .inl (fun _ => 0))) := ⟨_, rfl⟩
  rw [← hF446] at hP
  obtain ⟨hI, hLk, hX1⟩ := n_add (c := 73) hI hLk hq trivial
  obtain ⟨K447, hK447⟩ : ∃ M, M = va_up K382 q444 73 := ⟨_, rfl⟩
  rw [← hK447, ← hF446] at hI
  rw [← hK447, ← hL445] at hLk
  rw [← hK447] at hX1
  have ne448 : q444 ≠ h0 := fun h => hq (h ▸ m394)
  have ne449 : q444 ≠ q1 := fun h => hq (h ▸ m397)
  have ne450 : q444 ≠ q19 := fun h => hq (h ▸ m400)
  have ne451 : q444 ≠ q39 := fun h => hq (h ▸ m403)
  have ne452 : q444 ≠ q64 := fun h => hq (h ▸ m406)
  have ne453 : q444 ≠ q94 := fun h => hq (h ▸ m409)
  have ne454 : q444 ≠ q129 := fun h => hq (h ▸ m412)
  have ne455 : q444 ≠ q169 := fun h => hq (h ▸ m415)
  have ne456 : q444 ≠ q214 := fun h => hq (h ▸ m418)
  have ne457 : q444 ≠ q264 := fun h => hq (h ▸ m421)
  have ne458 : q444 ≠ q319 := fun h => hq (h ▸ m424)
  have ne459 : q444 ≠ q379 := fun h => hq (h ▸ m427)
  have m460 : h0 ∈ L445 := by rw [hL445]; exact List.mem_append_left _ m394
  have k461 : K447 h0 = 0 := by rw [hK447]; exact th_ne (Ne.symm ne448) k395
  have o462 : F446 h0 = .inr (7, [.ref q1, .int 0, .int 0, .int 0, .int 0, .int 0, .int 0, .int 0, .int (-1), .ref q19, .ref q39, .int 0, .ref q64, .ref q94, .ref q129, .int 0, .int 0, .ref q169, .ref q214, .int 0, .ref q264, .ref q319, .ref q379, .null, .null, .int 0, .int 0, .int 0, .null, .null, .null, .int 0, .int 0, .long 0]) := by rw [hF446]; exact th_ne (Ne.symm ne448) o443
  have m463 : q1 ∈ L445 := by rw [hL445]; exact List.mem_append_left _ m397
  have k464 : K447 q1 = 50 := by rw [hK447]; exact th_ne (Ne.symm ne449) k398
  have o465 : F446 q1 = .inl (cs 0, 1600, .inl (fun _ => 0)) := by rw [hF446]; exact th_ne (Ne.symm ne449) o432
  have m466 : q19 ∈ L445 := by rw [hL445]; exact List.mem_append_left _ m400
  have k467 : K447 q19 = 59 := by rw [hK447]; exact th_ne (Ne.symm ne450) k401
  have o468 : F446 q19 = .inl (cs 0, 6, .inl (fun _ => 0)) := by rw [hF446]; exact th_ne (Ne.symm ne450) o433
  have m469 : q39 ∈ L445 := by rw [hL445]; exact List.mem_append_left _ m403
  have k470 : K447 q39 = 60 := by rw [hK447]; exact th_ne (Ne.symm ne451) k404
  have o471 : F446 q39 = .inl (cs 6, 125, .inl f9) := by rw [hF446]; exact th_ne (Ne.symm ne451) o434
  have m472 : q64 ∈ L445 := by rw [hL445]; exact List.mem_append_left _ m406
  have k473 : K447 q64 = 62 := by rw [hK447]; exact th_ne (Ne.symm ne452) k407
  have o474 : F446 q64 = .inl (cs 0, 400, .inl (fun _ => 0)) := by rw [hF446]; exact th_ne (Ne.symm ne452) o435
  have m475 : q94 ∈ L445 := by rw [hL445]; exact List.mem_append_left _ m409
  have k476 : K447 q94 = 63 := by rw [hK447]; exact th_ne (Ne.symm ne453) k410
  have o477 : F446 q94 = .inl (cs 0, 400, .inl (fun _ => 0)) := by rw [hF446]; exact th_ne (Ne.symm ne453) o436
  have m478 : q129 ∈ L445 := by rw [hL445]; exact List.mem_append_left _ m412
  have k479 : K447 q129 = 64 := by rw [hK447]; exact th_ne (Ne.symm ne454) k413
  have o480 : F446 q129 = .inl (cs 0, 40, .inl (fun _ => 0)) := by rw [hF446]; exact th_ne (Ne.symm ne454) o437
  have m481 : q169 ∈ L445 := by rw [hL445]; exact List.mem_append_left _ m415
  have k482 : K447 q169 = 67 := by rw [hK447]; exact th_ne (Ne.symm ne455) k416
  have o483 : F446 q169 = .inl (cs 7, 41, .inl (fun _ => 0)) := by rw [hF446]; exact th_ne (Ne.symm ne455) o438
  have m484 : q214 ∈ L445 := by rw [hL445]; exact List.mem_append_left _ m418
  have k485 : K447 q214 = 68 := by rw [hK447]; exact th_ne (Ne.symm ne456) k419
  have o486 : F446 q214 = .inl (cs 0, 41, .inl (fun _ => 0)) := by rw [hF446]; exact th_ne (Ne.symm ne456) o439
  have m487 : q264 ∈ L445 := by rw [hL445]; exact List.mem_append_left _ m421
  have k488 : K447 q264 = 70 := by rw [hK447]; exact th_ne (Ne.symm ne457) k422
  have o489 : F446 q264 = .inl (cs 0, 918, .inl (fun _ => 0)) := by rw [hF446]; exact th_ne (Ne.symm ne457) o440
  have m490 : q319 ∈ L445 := by rw [hL445]; exact List.mem_append_left _ m424
  have k491 : K447 q319 = 71 := by rw [hK447]; exact th_ne (Ne.symm ne458) k425
  have o492 : F446 q319 = .inl (cs 0, 8, .inl (fun _ => 0)) := by rw [hF446]; exact th_ne (Ne.symm ne458) o441
  have m493 : q379 ∈ L445 := by rw [hL445]; exact List.mem_append_left _ m427
  have k494 : K447 q379 = 72 := by rw [hK447]; exact th_ne (Ne.symm ne459) k429
  have o495 : F446 q379 = .inl (cs 0, 8, .inl (fun _ => 0)) := by rw [hF446]; exact th_ne (Ne.symm ne459) o442
  have m496 : q444 ∈ L445 := by rw [hL445]; exact List.mem_append_right _ (List.mem_singleton.mpr rfl)
  have o497 : F446 q444 = (.inl (cs 0, 918, .inl (fun _ => 0))) := by rw [hF446]; exact th_up
  have k498 : K447 q444 = 73 := by rw [hK447]; exact th_up
  have nl499 : q444 ∉ L := fun h => hq (hsub q444 h)
  have hfr : ∀ a ∈ L, a ≠ h0 → F446 a = F a ∧ K447 a = K a := fun a ha hne => ⟨by rw [hF446]; exact th_ne (fun h => nl499 (h ▸ ha)) (hfr a ha hne).1, by rw [hK447]; exact th_ne (fun h => nl499 (h ▸ ha)) (hfr a ha hne).2⟩
  have hsub : ∀ a ∈ L, a ∈ L445 := fun a ha => by rw [hL445]; exact List.mem_append_left _ (hsub a ha)
  have hX : n_X K K447 := n_Xt hX hX1
  have hks : ∀ a, K447 a = K a ∨ K447 a ∈ [50, 59, 60, 62, 63, 64, 67, 68, 70, 71, 72, 73, 74, 78, 79, 80] := fun a => by rw [hK447]; by_cases e9 : a = q444; (rw [e9, th_up]; right; decide); rw [show va_up K382 q444 73 a = K382 a from if_neg e9]; exact hks a
  refine W.widen (k := 12) (n := 4505) (Nat.le_of_ble_eq_true rfl) (Nat.le_of_ble_eq_true rfl) ?_
  refine n_putF (D := (dC, dI)) (ci := 7) (v := .ref q444) (ty := .array .int) (C := RX7) (T := TX7) (N := 34) hx hb hts inX7 tyX7 tyX7_ok nmX7 hown hK hP hD hS m460 o462 rfl 23 (by decide) (hts _ T_254) (fun _ h9 => h9) rfl hin rfl (by decide +kernel) rfl rfl (Nat.le_of_ble_eq_true rfl) dX7_init_851 (fun H locs hP hS => ?_)
  have hP : va_P (dC, dI) vwCl (va_pl L445 (va_up F446 h0 (.inr (7, [.ref q1, .int 0, .int 0, .int 0, .int 0, .int 0, .int 0, .int 0, .int (-1), .ref q19, .ref q39, .int 0, .ref q64, .ref q94, .ref q129, .int 0, .int 0, .ref q169, .ref q214, .int 0, .ref q264, .ref q319, .ref q379, .ref q444, .null, .int 0, .int 0, .int 0, .null, .null, .null, .int 0, .int 0, .long 0])))) H := hP
  obtain ⟨F500, hF500⟩ : ∃ M : Nat → va_E, M = va_up F446 h0 (.inr (7, [.ref q1, .int 0, .int 0, .int 0, .int 0, .int 0, .int 0, .int 0, .int (-1), .ref q19, .ref q39, .int 0, .ref q64, .ref q94, .ref q129, .int 0, .int 0, .ref q169, .ref q214, .int 0, .ref q264, .ref q319, .ref q379, .ref q444, .null, .int 0, .int 0, .int 0, .null, .null, .null, .int 0, .int 0, .long 0])) := ⟨_, rfl⟩
  rw [← hF500] at hP
  have hI : s_I K447 cs 0 F500 := by rw [hF500]; exact n_put0 hI k461
  have o501 : F500 q1 = .inl (cs 0, 1600, .inl (fun _ => 0)) := by rw [hF500]; exact th_ne ne5 o465
  have o502 : F500 q19 = .inl (cs 0, 6, .inl (fun _ => 0)) := by rw [hF500]; exact th_ne ne23 o468
  have o503 : F500 q39 = .inl (cs 6, 125, .inl f9) := by rw [hF500]; exact th_ne ne43 o471
  have o504 : F500 q64 = .inl (cs 0, 400, .inl (fun _ => 0)) := by rw [hF500]; exact th_ne ne68 o474
  have o505 : F500 q94 = .inl (cs 0, 400, .inl (fun _ => 0)) := by rw [hF500]; exact th_ne ne98 o477
  have o506 : F500 q129 = .inl (cs 0, 40, .inl (fun _ => 0)) := by rw [hF500]; exact th_ne ne133 o480
  have o507 : F500 q169 = .inl (cs 7, 41, .inl (fun _ => 0)) := by rw [hF500]; exact th_ne ne173 o483
  have o508 : F500 q214 = .inl (cs 0, 41, .inl (fun _ => 0)) := by rw [hF500]; exact th_ne ne218 o486
  have o509 : F500 q264 = .inl (cs 0, 918, .inl (fun _ => 0)) := by rw [hF500]; exact th_ne ne268 o489
  have o510 : F500 q319 = .inl (cs 0, 8, .inl (fun _ => 0)) := by rw [hF500]; exact th_ne ne323 o492
  have o511 : F500 q379 = .inl (cs 0, 8, .inl (fun _ => 0)) := by rw [hF500]; exact th_ne ne383 o495
  have o512 : F500 q444 = .inl (cs 0, 918, .inl (fun _ => 0)) := by rw [hF500]; exact th_ne ne448 o497
  have o513 : F500 h0 = .inr (7, [.ref q1, .int 0, .int 0, .int 0, .int 0, .int 0, .int 0, .int 0, .int (-1), .ref q19, .ref q39, .int 0, .ref q64, .ref q94, .ref q129, .int 0, .int 0, .ref q169, .ref q214, .int 0, .ref q264, .ref q319, .ref q379, .ref q444, .null, .int 0, .int 0, .int 0, .null, .null, .null, .int 0, .int 0, .long 0]) := by rw [hF500]; exact th_up
  have hfr : ∀ a ∈ L, a ≠ h0 → F500 a = F a ∧ K447 a = K a := fun a ha hne => ⟨by rw [hF500]; exact th_ne hne (hfr a ha hne).1, (hfr a ha hne).2⟩
  refine lv_aload_n hx hb dX7_init_854 rfl (lv_at hl 0 rfl) ?_
  refine lv_ldc (v := 191277) hx hb hown (hts _ T_255) dX7_init_855 ?_
  refine n_newa (atype := .int) (a0 := (191277, .inl (fun _ => 0))) hx hb (hts _ T_99) rfl hK hP hD hS hA 0 rfl (fun _ => rfl) (by decide) (by decide) (Nat.le_of_ble_eq_true rfl) (Nat.le_of_ble_eq_true rfl) (Nat.le_of_ble_eq_true rfl) dX7_init_857 (fun q514 H hq hP hD hS => ?_)
  obtain ⟨L515, hL515⟩ : ∃ M, M = L445 ++ [q514] := ⟨_, rfl⟩
  rw [← hL515] at hP hD
  obtain ⟨F516, hF516⟩ : ∃ M : Nat → va_E, M = va_up F500 q514 (.inl (cs 0, 191277, .inl (fun _ => 0))) := ⟨_, rfl⟩
  rw [← hF516] at hP
  obtain ⟨hI, hLk, hX1⟩ := n_add (c := 74) hI hLk hq trivial
  obtain ⟨K517, hK517⟩ : ∃ M, M = va_up K447 q514 74 := ⟨_, rfl⟩
  rw [← hK517, ← hF516] at hI
  rw [← hK517, ← hL515] at hLk
  rw [← hK517] at hX1
  have ne518 : q514 ≠ h0 := fun h => hq (h ▸ m460)
  have ne519 : q514 ≠ q1 := fun h => hq (h ▸ m463)
  have ne520 : q514 ≠ q19 := fun h => hq (h ▸ m466)
  have ne521 : q514 ≠ q39 := fun h => hq (h ▸ m469)
  have ne522 : q514 ≠ q64 := fun h => hq (h ▸ m472)
  have ne523 : q514 ≠ q94 := fun h => hq (h ▸ m475)
  have ne524 : q514 ≠ q129 := fun h => hq (h ▸ m478)
  have ne525 : q514 ≠ q169 := fun h => hq (h ▸ m481)
  have ne526 : q514 ≠ q214 := fun h => hq (h ▸ m484)
  have ne527 : q514 ≠ q264 := fun h => hq (h ▸ m487)
  have ne528 : q514 ≠ q319 := fun h => hq (h ▸ m490)
  have ne529 : q514 ≠ q379 := fun h => hq (h ▸ m493)
  have ne530 : q514 ≠ q444 := fun h => hq (h ▸ m496)
  have m531 : h0 ∈ L515 := by rw [hL515]; exact List.mem_append_left _ m460
  have k532 : K517 h0 = 0 := by rw [hK517]; exact th_ne (Ne.symm ne518) k461
  have o533 : F516 h0 = .inr (7, [.ref q1, .int 0, .int 0, .int 0, .int 0, .int 0, .int 0, .int 0, .int (-1), .ref q19, .ref q39, .int 0, .ref q64, .ref q94, .ref q129, .int 0, .int 0, .ref q169, .ref q214, .int 0, .ref q264, .ref q319, .ref q379, .ref q444, .null, .int 0, .int 0, .int 0, .null, .null, .null, .int 0, .int 0, .long 0]) := by rw [hF516]; exact th_ne (Ne.symm ne518) o513
  have m534 : q1 ∈ L515 := by rw [hL515]; exact List.mem_append_left _ m463
  have k535 : K517 q1 = 50 := by rw [hK517]; exact th_ne (Ne.symm ne519) k464
  have o536 : F516 q1 = .inl (cs 0, 1600, .inl (fun _ => 0)) := by rw [hF516]; exact th_ne (Ne.symm ne519) o501
  have m537 : q19 ∈ L515 := by rw [hL515]; exact List.mem_append_left _ m466
  have k538 : K517 q19 = 59 := by rw [hK517]; exact th_ne (Ne.symm ne520) k467
  have o539 : F516 q19 = .inl (cs 0, 6, .inl (fun _ => 0)) := by rw [hF516]; exact th_ne (Ne.symm ne520) o502
  have m540 : q39 ∈ L515 := by rw [hL515]; exact List.mem_append_left _ m469
  have k541 : K517 q39 = 60 := by rw [hK517]; exact th_ne (Ne.symm ne521) k470
  have o542 : F516 q39 = .inl (cs 6, 125, .inl f9) := by rw [hF516]; exact th_ne (Ne.symm ne521) o503
  have m543 : q64 ∈ L515 := by rw [hL515]; exact List.mem_append_left _ m472
  have k544 : K517 q64 = 62 := by rw [hK517]; exact th_ne (Ne.symm ne522) k473
  have o545 : F516 q64 = .inl (cs 0, 400, .inl (fun _ => 0)) := by rw [hF516]; exact th_ne (Ne.symm ne522) o504
  have m546 : q94 ∈ L515 := by rw [hL515]; exact List.mem_append_left _ m475
  have k547 : K517 q94 = 63 := by rw [hK517]; exact th_ne (Ne.symm ne523) k476
  have o548 : F516 q94 = .inl (cs 0, 400, .inl (fun _ => 0)) := by rw [hF516]; exact th_ne (Ne.symm ne523) o505
  have m549 : q129 ∈ L515 := by rw [hL515]; exact List.mem_append_left _ m478
  have k550 : K517 q129 = 64 := by rw [hK517]; exact th_ne (Ne.symm ne524) k479
  have o551 : F516 q129 = .inl (cs 0, 40, .inl (fun _ => 0)) := by rw [hF516]; exact th_ne (Ne.symm ne524) o506
  have m552 : q169 ∈ L515 := by rw [hL515]; exact List.mem_append_left _ m481
  have k553 : K517 q169 = 67 := by rw [hK517]; exact th_ne (Ne.symm ne525) k482
  have o554 : F516 q169 = .inl (cs 7, 41, .inl (fun _ => 0)) := by rw [hF516]; exact th_ne (Ne.symm ne525) o507
  have m555 : q214 ∈ L515 := by rw [hL515]; exact List.mem_append_left _ m484
  have k556 : K517 q214 = 68 := by rw [hK517]; exact th_ne (Ne.symm ne526) k485
  have o557 : F516 q214 = .inl (cs 0, 41, .inl (fun _ => 0)) := by rw [hF516]; exact th_ne (Ne.symm ne526) o508
  have m558 : q264 ∈ L515 := by rw [hL515]; exact List.mem_append_left _ m487
  have k559 : K517 q264 = 70 := by rw [hK517]; exact th_ne (Ne.symm ne527) k488
  have o560 : F516 q264 = .inl (cs 0, 918, .inl (fun _ => 0)) := by rw [hF516]; exact th_ne (Ne.symm ne527) o509
  have m561 : q319 ∈ L515 := by rw [hL515]; exact List.mem_append_left _ m490
  have k562 : K517 q319 = 71 := by rw [hK517]; exact th_ne (Ne.symm ne528) k491
  have o563 : F516 q319 = .inl (cs 0, 8, .inl (fun _ => 0)) := by rw [hF516]; exact th_ne (Ne.symm ne528) o510
  have m564 : q379 ∈ L515 := by rw [hL515]; exact List.mem_append_left _ m493
  have k565 : K517 q379 = 72 := by rw [hK517]; exact th_ne (Ne.symm ne529) k494
  have o566 : F516 q379 = .inl (cs 0, 8, .inl (fun _ => 0)) := by rw [hF516]; exact th_ne (Ne.symm ne529) o511
  have m567 : q444 ∈ L515 := by rw [hL515]; exact List.mem_append_left _ m496
  have k568 : K517 q444 = 73 := by rw [hK517]; exact th_ne (Ne.symm ne530) k498
  have o569 : F516 q444 = .inl (cs 0, 918, .inl (fun _ => 0)) := by rw [hF516]; exact th_ne (Ne.symm ne530) o512
  have m570 : q514 ∈ L515 := by rw [hL515]; exact List.mem_append_right _ (List.mem_singleton.mpr rfl)
  have o571 : F516 q514 = (.inl (cs 0, 191277, .inl (fun _ => 0))) := by rw [hF516]; exact th_up
  have k572 : K517 q514 = 74 := by rw [hK517]; exact th_up
  have nl573 : q514 ∉ L := fun h => hq (hsub q514 h)
  have hfr : ∀ a ∈ L, a ≠ h0 → F516 a = F a ∧ K517 a = K a := fun a ha hne => ⟨by rw [hF516]; exact th_ne (fun h => nl573 (h ▸ ha)) (hfr a ha hne).1, by rw [hK517]; exact th_ne (fun h => nl573 (h ▸ ha)) (hfr a ha hne).2⟩
  have hsub : ∀ a ∈ L, a ∈ L515 := fun a ha => by rw [hL515]; exact List.mem_append_left _ (hsub a ha)
  have hX : n_X K K517 := n_Xt hX hX1
  have hks : ∀ a, K517 a = K a ∨ K517 a ∈ [50, 59, 60, 62, 63, 64, 67, 68, 70, 71, 72, 73, 74, 78, 79, 80] := fun a => by rw [hK517]; by_cases e9 : a = q514; (rw [e9, th_up]; right; decide); rw [show va_up K447 q514 74 a = K447 a from if_neg e9]; exact hks a
  refine W.widen (k := 13) (n := 195782) (Nat.le_of_ble_eq_true rfl) (Nat.le_of_ble_eq_true rfl) ?_
  refine n_putF (D := (dC, dI)) (ci := 7) (v := .ref q514) (ty := .array .int) (C := RX7) (T := TX7) (N := 34) hx hb hts inX7 tyX7 tyX7_ok nmX7 hown hK hP hD hS m531 o533 rfl 24 (by decide) (hts _ T_256) (fun _ h9 => h9) rfl hin rfl (by decide +kernel) rfl rfl (Nat.le_of_ble_eq_true rfl) dX7_init_859 (fun H locs hP hS => ?_)
  have hP : va_P (dC, dI) vwCl (va_pl L515 (va_up F516 h0 (.inr (7, [.ref q1, .int 0, .int 0, .int 0, .int 0, .int 0, .int 0, .int 0, .int (-1), .ref q19, .ref q39, .int 0, .ref q64, .ref q94, .ref q129, .int 0, .int 0, .ref q169, .ref q214, .int 0, .ref q264, .ref q319, .ref q379, .ref q444, .ref q514, .int 0, .int 0, .int 0, .null, .null, .null, .int 0, .int 0, .long 0])))) H := hP
  obtain ⟨F574, hF574⟩ : ∃ M : Nat → va_E, M = va_up F516 h0 (.inr (7, [.ref q1, .int 0, .int 0, .int 0, .int 0, .int 0, .int 0, .int 0, .int (-1), .ref q19, .ref q39, .int 0, .ref q64, .ref q94, .ref q129, .int 0, .int 0, .ref q169, .ref q214, .int 0, .ref q264, .ref q319, .ref q379, .ref q444, .ref q514, .int 0, .int 0, .int 0, .null, .null, .null, .int 0, .int 0, .long 0])) := ⟨_, rfl⟩
  rw [← hF574] at hP
  have hI : s_I K517 cs 0 F574 := by rw [hF574]; exact n_put0 hI k532
  have o575 : F574 q1 = .inl (cs 0, 1600, .inl (fun _ => 0)) := by rw [hF574]; exact th_ne ne5 o536
  have o576 : F574 q19 = .inl (cs 0, 6, .inl (fun _ => 0)) := by rw [hF574]; exact th_ne ne23 o539
  have o577 : F574 q39 = .inl (cs 6, 125, .inl f9) := by rw [hF574]; exact th_ne ne43 o542
  have o578 : F574 q64 = .inl (cs 0, 400, .inl (fun _ => 0)) := by rw [hF574]; exact th_ne ne68 o545
  have o579 : F574 q94 = .inl (cs 0, 400, .inl (fun _ => 0)) := by rw [hF574]; exact th_ne ne98 o548
  have o580 : F574 q129 = .inl (cs 0, 40, .inl (fun _ => 0)) := by rw [hF574]; exact th_ne ne133 o551
  have o581 : F574 q169 = .inl (cs 7, 41, .inl (fun _ => 0)) := by rw [hF574]; exact th_ne ne173 o554
  have o582 : F574 q214 = .inl (cs 0, 41, .inl (fun _ => 0)) := by rw [hF574]; exact th_ne ne218 o557
  have o583 : F574 q264 = .inl (cs 0, 918, .inl (fun _ => 0)) := by rw [hF574]; exact th_ne ne268 o560
  have o584 : F574 q319 = .inl (cs 0, 8, .inl (fun _ => 0)) := by rw [hF574]; exact th_ne ne323 o563
  have o585 : F574 q379 = .inl (cs 0, 8, .inl (fun _ => 0)) := by rw [hF574]; exact th_ne ne383 o566
  have o586 : F574 q444 = .inl (cs 0, 918, .inl (fun _ => 0)) := by rw [hF574]; exact th_ne ne448 o569
  have o587 : F574 q514 = .inl (cs 0, 191277, .inl (fun _ => 0)) := by rw [hF574]; exact th_ne ne518 o571
  have o588 : F574 h0 = .inr (7, [.ref q1, .int 0, .int 0, .int 0, .int 0, .int 0, .int 0, .int 0, .int (-1), .ref q19, .ref q39, .int 0, .ref q64, .ref q94, .ref q129, .int 0, .int 0, .ref q169, .ref q214, .int 0, .ref q264, .ref q319, .ref q379, .ref q444, .ref q514, .int 0, .int 0, .int 0, .null, .null, .null, .int 0, .int 0, .long 0]) := by rw [hF574]; exact th_up
  have hfr : ∀ a ∈ L, a ≠ h0 → F574 a = F a ∧ K517 a = K a := fun a ha hne => ⟨by rw [hF574]; exact th_ne hne (hfr a ha hne).1, (hfr a ha hne).2⟩
  refine lv_aload_n hx hb dX7_init_862 rfl (lv_at hl 0 rfl) ?_
  refine lv_iconst (v := 5) hx hb dX7_init_863 (by decide) ?_
  refine n_newa (atype := .int) (a0 := (5, .inl (fun _ => 0))) hx hb (hts _ T_99) rfl hK hP hD hS hA 0 rfl (fun _ => rfl) (by decide) (by decide) (Nat.le_of_ble_eq_true rfl) (Nat.le_of_ble_eq_true rfl) (Nat.le_of_ble_eq_true rfl) dX7_init_864 (fun q589 H hq hP hD hS => ?_)
  obtain ⟨L590, hL590⟩ : ∃ M, M = L515 ++ [q589] := ⟨_, rfl⟩
  rw [← hL590] at hP hD
  obtain ⟨F591, hF591⟩ : ∃ M : Nat → va_E, M = va_up F574 q589 (.inl (cs 0, 5, .inl (fun _ => 0))) := ⟨_, rfl⟩
  rw [← hF591] at hP
  obtain ⟨hI, hLk, hX1⟩ := n_add (c := 78) hI hLk hq trivial
  obtain ⟨K592, hK592⟩ : ∃ M, M = va_up K517 q589 78 := ⟨_, rfl⟩
  rw [← hK592, ← hF591] at hI
  rw [← hK592, ← hL590] at hLk
  rw [← hK592] at hX1
  have ne593 : q589 ≠ h0 := fun h => hq (h ▸ m531)
  have ne594 : q589 ≠ q1 := fun h => hq (h ▸ m534)
  have ne595 : q589 ≠ q19 := fun h => hq (h ▸ m537)
  have ne596 : q589 ≠ q39 := fun h => hq (h ▸ m540)
  have ne597 : q589 ≠ q64 := fun h => hq (h ▸ m543)
  have ne598 : q589 ≠ q94 := fun h => hq (h ▸ m546)
  have ne599 : q589 ≠ q129 := fun h => hq (h ▸ m549)
  have ne600 : q589 ≠ q169 := fun h => hq (h ▸ m552)
  have ne601 : q589 ≠ q214 := fun h => hq (h ▸ m555)
  have ne602 : q589 ≠ q264 := fun h => hq (h ▸ m558)
  have ne603 : q589 ≠ q319 := fun h => hq (h ▸ m561)
  have ne604 : q589 ≠ q379 := fun h => hq (h ▸ m564)
  have ne605 : q589 ≠ q444 := fun h => hq (h ▸ m567)
  have ne606 : q589 ≠ q514 := fun h => hq (h ▸ m570)
  have m607 : h0 ∈ L590 := by rw [hL590]; exact List.mem_append_left _ m531
  have k608 : K592 h0 = 0 := by rw [hK592]; exact th_ne (Ne.symm ne593) k532
  have o609 : F591 h0 = .inr (7, [.ref q1, .int 0, .int 0, .int 0, .int 0, .int 0, .int 0, .int 0, .int (-1), .ref q19, .ref q39, .int 0, .ref q64, .ref q94, .ref q129, .int 0, .int 0, .ref q169, .ref q214, .int 0, .ref q264, .ref q319, .ref q379, .ref q444, .ref q514, .int 0, .int 0, .int 0, .null, .null, .null, .int 0, .int 0, .long 0]) := by rw [hF591]; exact th_ne (Ne.symm ne593) o588
  have m610 : q1 ∈ L590 := by rw [hL590]; exact List.mem_append_left _ m534
  have k611 : K592 q1 = 50 := by rw [hK592]; exact th_ne (Ne.symm ne594) k535
  have o612 : F591 q1 = .inl (cs 0, 1600, .inl (fun _ => 0)) := by rw [hF591]; exact th_ne (Ne.symm ne594) o575
  have m613 : q19 ∈ L590 := by rw [hL590]; exact List.mem_append_left _ m537
  have k614 : K592 q19 = 59 := by rw [hK592]; exact th_ne (Ne.symm ne595) k538
  have o615 : F591 q19 = .inl (cs 0, 6, .inl (fun _ => 0)) := by rw [hF591]; exact th_ne (Ne.symm ne595) o576
  have m616 : q39 ∈ L590 := by rw [hL590]; exact List.mem_append_left _ m540
  have k617 : K592 q39 = 60 := by rw [hK592]; exact th_ne (Ne.symm ne596) k541
  have o618 : F591 q39 = .inl (cs 6, 125, .inl f9) := by rw [hF591]; exact th_ne (Ne.symm ne596) o577
  have m619 : q64 ∈ L590 := by rw [hL590]; exact List.mem_append_left _ m543
  have k620 : K592 q64 = 62 := by rw [hK592]; exact th_ne (Ne.symm ne597) k544
  have o621 : F591 q64 = .inl (cs 0, 400, .inl (fun _ => 0)) := by rw [hF591]; exact th_ne (Ne.symm ne597) o578
  have m622 : q94 ∈ L590 := by rw [hL590]; exact List.mem_append_left _ m546
  have k623 : K592 q94 = 63 := by rw [hK592]; exact th_ne (Ne.symm ne598) k547
  have o624 : F591 q94 = .inl (cs 0, 400, .inl (fun _ => 0)) := by rw [hF591]; exact th_ne (Ne.symm ne598) o579
  have m625 : q129 ∈ L590 := by rw [hL590]; exact List.mem_append_left _ m549
  have k626 : K592 q129 = 64 := by rw [hK592]; exact th_ne (Ne.symm ne599) k550
  have o627 : F591 q129 = .inl (cs 0, 40, .inl (fun _ => 0)) := by rw [hF591]; exact th_ne (Ne.symm ne599) o580
  have m628 : q169 ∈ L590 := by rw [hL590]; exact List.mem_append_left _ m552
  have k629 : K592 q169 = 67 := by rw [hK592]; exact th_ne (Ne.symm ne600) k553
  have o630 : F591 q169 = .inl (cs 7, 41, .inl (fun _ => 0)) := by rw [hF591]; exact th_ne (Ne.symm ne600) o581
  have m631 : q214 ∈ L590 := by rw [hL590]; exact List.mem_append_left _ m555
  have k632 : K592 q214 = 68 := by rw [hK592]; exact th_ne (Ne.symm ne601) k556
  have o633 : F591 q214 = .inl (cs 0, 41, .inl (fun _ => 0)) := by rw [hF591]; exact th_ne (Ne.symm ne601) o582
  have m634 : q264 ∈ L590 := by rw [hL590]; exact List.mem_append_left _ m558
  have k635 : K592 q264 = 70 := by rw [hK592]; exact th_ne (Ne.symm ne602) k559
  have o636 : F591 q264 = .inl (cs 0, 918, .inl (fun _ => 0)) := by rw [hF591]; exact th_ne (Ne.symm ne602) o583
  have m637 : q319 ∈ L590 := by rw [hL590]; exact List.mem_append_left _ m561
  have k638 : K592 q319 = 71 := by rw [hK592]; exact th_ne (Ne.symm ne603) k562
  have o639 : F591 q319 = .inl (cs 0, 8, .inl (fun _ => 0)) := by rw [hF591]; exact th_ne (Ne.symm ne603) o584
  have m640 : q379 ∈ L590 := by rw [hL590]; exact List.mem_append_left _ m564
  have k641 : K592 q379 = 72 := by rw [hK592]; exact th_ne (Ne.symm ne604) k565
  have o642 : F591 q379 = .inl (cs 0, 8, .inl (fun _ => 0)) := by rw [hF591]; exact th_ne (Ne.symm ne604) o585
  have m643 : q444 ∈ L590 := by rw [hL590]; exact List.mem_append_left _ m567
  have k644 : K592 q444 = 73 := by rw [hK592]; exact th_ne (Ne.symm ne605) k568
  have o645 : F591 q444 = .inl (cs 0, 918, .inl (fun _ => 0)) := by rw [hF591]; exact th_ne (Ne.symm ne605) o586
  have m646 : q514 ∈ L590 := by rw [hL590]; exact List.mem_append_left _ m570
  have k647 : K592 q514 = 74 := by rw [hK592]; exact th_ne (Ne.symm ne606) k572
  have o648 : F591 q514 = .inl (cs 0, 191277, .inl (fun _ => 0)) := by rw [hF591]; exact th_ne (Ne.symm ne606) o587
  have m649 : q589 ∈ L590 := by rw [hL590]; exact List.mem_append_right _ (List.mem_singleton.mpr rfl)
  have o650 : F591 q589 = (.inl (cs 0, 5, .inl (fun _ => 0))) := by rw [hF591]; exact th_up
  have k651 : K592 q589 = 78 := by rw [hK592]; exact th_up
  have nl652 : q589 ∉ L := fun h => hq (hsub q589 h)
  have hfr : ∀ a ∈ L, a ≠ h0 → F591 a = F a ∧ K592 a = K a := fun a ha hne => ⟨by rw [hF591]; exact th_ne (fun h => nl652 (h ▸ ha)) (hfr a ha hne).1, by rw [hK592]; exact th_ne (fun h => nl652 (h ▸ ha)) (hfr a ha hne).2⟩
  have hsub : ∀ a ∈ L, a ∈ L590 := fun a ha => by rw [hL590]; exact List.mem_append_left _ (hsub a ha)
  have hX : n_X K K592 := n_Xt hX hX1
  have hks : ∀ a, K592 a = K a ∨ K592 a ∈ [50, 59, 60, 62, 63, 64, 67, 68, 70, 71, 72, 73, 74, 78, 79, 80] := fun a => by rw [hK592]; by_cases e9 : a = q589; (rw [e9, th_up]; right; decide); rw [show va_up K517 q589 78 a = K517 a from if_neg e9]; exact hks a
  refine W.widen (k := 14) (n := 195787) (Nat.le_of_ble_eq_true rfl) (Nat.le_of_ble_eq_true rfl) ?_
  refine n_putF (D := (dC, dI)) (ci := 7) (v := .ref q589) (ty := .array .int) (C := RX7) (T := TX7) (N := 34) hx hb hts inX7 tyX7 tyX7_ok nmX7 hown hK hP hD hS m607 o609 rfl 28 (by decide) (hts _ T_257) (fun _ h9 => h9) rfl hin rfl (by decide +kernel) rfl rfl (Nat.le_of_ble_eq_true rfl) dX7_init_866 (fun H locs hP hS => ?_)
  have hP : va_P (dC, dI) vwCl (va_pl L590 (va_up F591 h0 (.inr (7, [.ref q1, .int 0, .int 0, .int 0, .int 0, .int 0, .int 0, .int 0, .int (-1), .ref q19, .ref q39, .int 0, .ref q64, .ref q94, .ref q129, .int 0, .int 0, .ref q169, .ref q214, .int 0, .ref q264, .ref q319, .ref q379, .ref q444, .ref q514, .int 0, .int 0, .int 0, .ref q589, .null, .null, .int 0, .int 0, .long 0])))) H := hP
  obtain ⟨F653, hF653⟩ : ∃ M : Nat → va_E, M = va_up F591 h0 (.inr (7, [.ref q1, .int 0, .int 0, .int 0, .int 0, .int 0, .int 0, .int 0, .int (-1), .ref q19, .ref q39, .int 0, .ref q64, .ref q94, .ref q129, .int 0, .int 0, .ref q169, .ref q214, .int 0, .ref q264, .ref q319, .ref q379, .ref q444, .ref q514, .int 0, .int 0, .int 0, .ref q589, .null, .null, .int 0, .int 0, .long 0])) := ⟨_, rfl⟩
  rw [← hF653] at hP
  have hI : s_I K592 cs 0 F653 := by rw [hF653]; exact n_put0 hI k608
  have o654 : F653 q1 = .inl (cs 0, 1600, .inl (fun _ => 0)) := by rw [hF653]; exact th_ne ne5 o612
  have o655 : F653 q19 = .inl (cs 0, 6, .inl (fun _ => 0)) := by rw [hF653]; exact th_ne ne23 o615
  have o656 : F653 q39 = .inl (cs 6, 125, .inl f9) := by rw [hF653]; exact th_ne ne43 o618
  have o657 : F653 q64 = .inl (cs 0, 400, .inl (fun _ => 0)) := by rw [hF653]; exact th_ne ne68 o621
  have o658 : F653 q94 = .inl (cs 0, 400, .inl (fun _ => 0)) := by rw [hF653]; exact th_ne ne98 o624
  have o659 : F653 q129 = .inl (cs 0, 40, .inl (fun _ => 0)) := by rw [hF653]; exact th_ne ne133 o627
  have o660 : F653 q169 = .inl (cs 7, 41, .inl (fun _ => 0)) := by rw [hF653]; exact th_ne ne173 o630
  have o661 : F653 q214 = .inl (cs 0, 41, .inl (fun _ => 0)) := by rw [hF653]; exact th_ne ne218 o633
  have o662 : F653 q264 = .inl (cs 0, 918, .inl (fun _ => 0)) := by rw [hF653]; exact th_ne ne268 o636
  have o663 : F653 q319 = .inl (cs 0, 8, .inl (fun _ => 0)) := by rw [hF653]; exact th_ne ne323 o639
  have o664 : F653 q379 = .inl (cs 0, 8, .inl (fun _ => 0)) := by rw [hF653]; exact th_ne ne383 o642
  have o665 : F653 q444 = .inl (cs 0, 918, .inl (fun _ => 0)) := by rw [hF653]; exact th_ne ne448 o645
  have o666 : F653 q514 = .inl (cs 0, 191277, .inl (fun _ => 0)) := by rw [hF653]; exact th_ne ne518 o648
  have o667 : F653 q589 = .inl (cs 0, 5, .inl (fun _ => 0)) := by rw [hF653]; exact th_ne ne593 o650
  have o668 : F653 h0 = .inr (7, [.ref q1, .int 0, .int 0, .int 0, .int 0, .int 0, .int 0, .int 0, .int (-1), .ref q19, .ref q39, .int 0, .ref q64, .ref q94, .ref q129, .int 0, .int 0, .ref q169, .ref q214, .int 0, .ref q264, .ref q319, .ref q379, .ref q444, .ref q514, .int 0, .int 0, .int 0, .ref q589, .null, .null, .int 0, .int 0, .long 0]) := by rw [hF653]; exact th_up
  have hfr : ∀ a ∈ L, a ≠ h0 → F653 a = F a ∧ K592 a = K a := fun a ha hne => ⟨by rw [hF653]; exact th_ne hne (hfr a ha hne).1, (hfr a ha hne).2⟩
  refine lv_aload_n hx hb dX7_init_869 rfl (lv_at hl 0 rfl) ?_
  refine lv_bipush (v := 16) hx hb dX7_init_870 (by decide) ?_
  refine n_newa (atype := .int) (a0 := (16, .inl (fun _ => 0))) hx hb (hts _ T_99) rfl hK hP hD hS hA 0 rfl (fun _ => rfl) (by decide) (by decide) (Nat.le_of_ble_eq_true rfl) (Nat.le_of_ble_eq_true rfl) (Nat.le_of_ble_eq_true rfl) dX7_init_872 (fun q669 H hq hP hD hS => ?_)
  obtain ⟨L670, hL670⟩ : ∃ M, M = L590 ++ [q669] := ⟨_, rfl⟩
  rw [← hL670] at hP hD
  obtain ⟨F671, hF671⟩ : ∃ M : Nat → va_E, M = va_up F653 q669 (.inl (cs 0, 16, .inl (fun _ => 0))) := ⟨_, rfl⟩
  rw [← hF671] at hP
  obtain ⟨hI, hLk, hX1⟩ := n_add (c := 79) hI hLk hq trivial
  obtain ⟨K672, hK672⟩ : ∃ M, M = va_up K592 q669 79 := ⟨_, rfl⟩
  rw [← hK672, ← hF671] at hI
  rw [← hK672, ← hL670] at hLk
  rw [← hK672] at hX1
  have ne673 : q669 ≠ h0 := fun h => hq (h ▸ m607)
  have ne674 : q669 ≠ q1 := fun h => hq (h ▸ m610)
  have ne675 : q669 ≠ q19 := fun h => hq (h ▸ m613)
  have ne676 : q669 ≠ q39 := fun h => hq (h ▸ m616)
  have ne677 : q669 ≠ q64 := fun h => hq (h ▸ m619)
  have ne678 : q669 ≠ q94 := fun h => hq (h ▸ m622)
  have ne679 : q669 ≠ q129 := fun h => hq (h ▸ m625)
  have ne680 : q669 ≠ q169 := fun h => hq (h ▸ m628)
  have ne681 : q669 ≠ q214 := fun h => hq (h ▸ m631)
  have ne682 : q669 ≠ q264 := fun h => hq (h ▸ m634)
  have ne683 : q669 ≠ q319 := fun h => hq (h ▸ m637)
  have ne684 : q669 ≠ q379 := fun h => hq (h ▸ m640)
  have ne685 : q669 ≠ q444 := fun h => hq (h ▸ m643)
  have ne686 : q669 ≠ q514 := fun h => hq (h ▸ m646)
  have ne687 : q669 ≠ q589 := fun h => hq (h ▸ m649)
  have m688 : h0 ∈ L670 := by rw [hL670]; exact List.mem_append_left _ m607
  have k689 : K672 h0 = 0 := by rw [hK672]; exact th_ne (Ne.symm ne673) k608
  have o690 : F671 h0 = .inr (7, [.ref q1, .int 0, .int 0, .int 0, .int 0, .int 0, .int 0, .int 0, .int (-1), .ref q19, .ref q39, .int 0, .ref q64, .ref q94, .ref q129, .int 0, .int 0, .ref q169, .ref q214, .int 0, .ref q264, .ref q319, .ref q379, .ref q444, .ref q514, .int 0, .int 0, .int 0, .ref q589, .null, .null, .int 0, .int 0, .long 0]) := by rw [hF671]; exact th_ne (Ne.symm ne673) o668
  have m691 : q1 ∈ L670 := by rw [hL670]; exact List.mem_append_left _ m610
  have k692 : K672 q1 = 50 := by rw [hK672]; exact th_ne (Ne.symm ne674) k611
  have o693 : F671 q1 = .inl (cs 0, 1600, .inl (fun _ => 0)) := by rw [hF671]; exact th_ne (Ne.symm ne674) o654
  have m694 : q19 ∈ L670 := by rw [hL670]; exact List.mem_append_left _ m613
  have k695 : K672 q19 = 59 := by rw [hK672]; exact th_ne (Ne.symm ne675) k614
  have o696 : F671 q19 = .inl (cs 0, 6, .inl (fun _ => 0)) := by rw [hF671]; exact th_ne (Ne.symm ne675) o655
  have m697 : q39 ∈ L670 := by rw [hL670]; exact List.mem_append_left _ m616
  have k698 : K672 q39 = 60 := by rw [hK672]; exact th_ne (Ne.symm ne676) k617
  have o699 : F671 q39 = .inl (cs 6, 125, .inl f9) := by rw [hF671]; exact th_ne (Ne.symm ne676) o656
  have m700 : q64 ∈ L670 := by rw [hL670]; exact List.mem_append_left _ m619
  have k701 : K672 q64 = 62 := by rw [hK672]; exact th_ne (Ne.symm ne677) k620
  have o702 : F671 q64 = .inl (cs 0, 400, .inl (fun _ => 0)) := by rw [hF671]; exact th_ne (Ne.symm ne677) o657
  have m703 : q94 ∈ L670 := by rw [hL670]; exact List.mem_append_left _ m622
  have k704 : K672 q94 = 63 := by rw [hK672]; exact th_ne (Ne.symm ne678) k623
  have o705 : F671 q94 = .inl (cs 0, 400, .inl (fun _ => 0)) := by rw [hF671]; exact th_ne (Ne.symm ne678) o658
  have m706 : q129 ∈ L670 := by rw [hL670]; exact List.mem_append_left _ m625
  have k707 : K672 q129 = 64 := by rw [hK672]; exact th_ne (Ne.symm ne679) k626
  have o708 : F671 q129 = .inl (cs 0, 40, .inl (fun _ => 0)) := by rw [hF671]; exact th_ne (Ne.symm ne679) o659
  have m709 : q169 ∈ L670 := by rw [hL670]; exact List.mem_append_left _ m628
  have k710 : K672 q169 = 67 := by rw [hK672]; exact th_ne (Ne.symm ne680) k629
  have o711 : F671 q169 = .inl (cs 7, 41, .inl (fun _ => 0)) := by rw [hF671]; exact th_ne (Ne.symm ne680) o660
  have m712 : q214 ∈ L670 := by rw [hL670]; exact List.mem_append_left _ m631
  have k713 : K672 q214 = 68 := by rw [hK672]; exact th_ne (Ne.symm ne681) k632
  have o714 : F671 q214 = .inl (cs 0, 41, .inl (fun _ => 0)) := by rw [hF671]; exact th_ne (Ne.symm ne681) o661
  have m715 : q264 ∈ L670 := by rw [hL670]; exact List.mem_append_left _ m634
  have k716 : K672 q264 = 70 := by rw [hK672]; exact th_ne (Ne.symm ne682) k635
  have o717 : F671 q264 = .inl (cs 0, 918, .inl (fun _ => 0)) := by rw [hF671]; exact th_ne (Ne.symm ne682) o662
  have m718 : q319 ∈ L670 := by rw [hL670]; exact List.mem_append_left _ m637
  have k719 : K672 q319 = 71 := by rw [hK672]; exact th_ne (Ne.symm ne683) k638
  have o720 : F671 q319 = .inl (cs 0, 8, .inl (fun _ => 0)) := by rw [hF671]; exact th_ne (Ne.symm ne683) o663
  have m721 : q379 ∈ L670 := by rw [hL670]; exact List.mem_append_left _ m640
  have k722 : K672 q379 = 72 := by rw [hK672]; exact th_ne (Ne.symm ne684) k641
  have o723 : F671 q379 = .inl (cs 0, 8, .inl (fun _ => 0)) := by rw [hF671]; exact th_ne (Ne.symm ne684) o664
  have m724 : q444 ∈ L670 := by rw [hL670]; exact List.mem_append_left _ m643
  have k725 : K672 q444 = 73 := by rw [hK672]; exact th_ne (Ne.symm ne685) k644
  have o726 : F671 q444 = .inl (cs 0, 918, .inl (fun _ => 0)) := by rw [hF671]; exact th_ne (Ne.symm ne685) o665
  have m727 : q514 ∈ L670 := by rw [hL670]; exact List.mem_append_left _ m646
  have k728 : K672 q514 = 74 := by rw [hK672]; exact th_ne (Ne.symm ne686) k647
  have o729 : F671 q514 = .inl (cs 0, 191277, .inl (fun _ => 0)) := by rw [hF671]; exact th_ne (Ne.symm ne686) o666
  have m730 : q589 ∈ L670 := by rw [hL670]; exact List.mem_append_left _ m649
  have k731 : K672 q589 = 78 := by rw [hK672]; exact th_ne (Ne.symm ne687) k651
  have o732 : F671 q589 = .inl (cs 0, 5, .inl (fun _ => 0)) := by rw [hF671]; exact th_ne (Ne.symm ne687) o667
  have m733 : q669 ∈ L670 := by rw [hL670]; exact List.mem_append_right _ (List.mem_singleton.mpr rfl)
  have o734 : F671 q669 = (.inl (cs 0, 16, .inl (fun _ => 0))) := by rw [hF671]; exact th_up
  have k735 : K672 q669 = 79 := by rw [hK672]; exact th_up
  have nl736 : q669 ∉ L := fun h => hq (hsub q669 h)
  have hfr : ∀ a ∈ L, a ≠ h0 → F671 a = F a ∧ K672 a = K a := fun a ha hne => ⟨by rw [hF671]; exact th_ne (fun h => nl736 (h ▸ ha)) (hfr a ha hne).1, by rw [hK672]; exact th_ne (fun h => nl736 (h ▸ ha)) (hfr a ha hne).2⟩
  have hsub : ∀ a ∈ L, a ∈ L670 := fun a ha => by rw [hL670]; exact List.mem_append_left _ (hsub a ha)
  have hX : n_X K K672 := n_Xt hX hX1
  have hks : ∀ a, K672 a = K a ∨ K672 a ∈ [50, 59, 60, 62, 63, 64, 67, 68, 70, 71, 72, 73, 74, 78, 79, 80] := fun a => by rw [hK672]; by_cases e9 : a = q669; (rw [e9, th_up]; right; decide); rw [show va_up K592 q669 79 a = K592 a from if_neg e9]; exact hks a
  refine W.widen (k := 15) (n := 195803) (Nat.le_of_ble_eq_true rfl) (Nat.le_of_ble_eq_true rfl) ?_
  refine n_putF (D := (dC, dI)) (ci := 7) (v := .ref q669) (ty := .array .int) (C := RX7) (T := TX7) (N := 34) hx hb hts inX7 tyX7 tyX7_ok nmX7 hown hK hP hD hS m688 o690 rfl 29 (by decide) (hts _ T_258) (fun _ h9 => h9) rfl hin rfl (by decide +kernel) rfl rfl (Nat.le_of_ble_eq_true rfl) dX7_init_874 (fun H locs hP hS => ?_)
  have hP : va_P (dC, dI) vwCl (va_pl L670 (va_up F671 h0 (.inr (7, [.ref q1, .int 0, .int 0, .int 0, .int 0, .int 0, .int 0, .int 0, .int (-1), .ref q19, .ref q39, .int 0, .ref q64, .ref q94, .ref q129, .int 0, .int 0, .ref q169, .ref q214, .int 0, .ref q264, .ref q319, .ref q379, .ref q444, .ref q514, .int 0, .int 0, .int 0, .ref q589, .ref q669, .null, .int 0, .int 0, .long 0])))) H := hP
  obtain ⟨F737, hF737⟩ : ∃ M : Nat → va_E, M = va_up F671 h0 (.inr (7, [.ref q1, .int 0, .int 0, .int 0, .int 0, .int 0, .int 0, .int 0, .int (-1), .ref q19, .ref q39, .int 0, .ref q64, .ref q94, .ref q129, .int 0, .int 0, .ref q169, .ref q214, .int 0, .ref q264, .ref q319, .ref q379, .ref q444, .ref q514, .int 0, .int 0, .int 0, .ref q589, .ref q669, .null, .int 0, .int 0, .long 0])) := ⟨_, rfl⟩
  rw [← hF737] at hP
  have hI : s_I K672 cs 0 F737 := by rw [hF737]; exact n_put0 hI k689
  have o738 : F737 q1 = .inl (cs 0, 1600, .inl (fun _ => 0)) := by rw [hF737]; exact th_ne ne5 o693
  have o739 : F737 q19 = .inl (cs 0, 6, .inl (fun _ => 0)) := by rw [hF737]; exact th_ne ne23 o696
  have o740 : F737 q39 = .inl (cs 6, 125, .inl f9) := by rw [hF737]; exact th_ne ne43 o699
  have o741 : F737 q64 = .inl (cs 0, 400, .inl (fun _ => 0)) := by rw [hF737]; exact th_ne ne68 o702
  have o742 : F737 q94 = .inl (cs 0, 400, .inl (fun _ => 0)) := by rw [hF737]; exact th_ne ne98 o705
  have o743 : F737 q129 = .inl (cs 0, 40, .inl (fun _ => 0)) := by rw [hF737]; exact th_ne ne133 o708
  have o744 : F737 q169 = .inl (cs 7, 41, .inl (fun _ => 0)) := by rw [hF737]; exact th_ne ne173 o711
  have o745 : F737 q214 = .inl (cs 0, 41, .inl (fun _ => 0)) := by rw [hF737]; exact th_ne ne218 o714
  have o746 : F737 q264 = .inl (cs 0, 918, .inl (fun _ => 0)) := by rw [hF737]; exact th_ne ne268 o717
  have o747 : F737 q319 = .inl (cs 0, 8, .inl (fun _ => 0)) := by rw [hF737]; exact th_ne ne323 o720
  have o748 : F737 q379 = .inl (cs 0, 8, .inl (fun _ => 0)) := by rw [hF737]; exact th_ne ne383 o723
  have o749 : F737 q444 = .inl (cs 0, 918, .inl (fun _ => 0)) := by rw [hF737]; exact th_ne ne448 o726
  have o750 : F737 q514 = .inl (cs 0, 191277, .inl (fun _ => 0)) := by rw [hF737]; exact th_ne ne518 o729
  have o751 : F737 q589 = .inl (cs 0, 5, .inl (fun _ => 0)) := by rw [hF737]; exact th_ne ne593 o732
  have o752 : F737 q669 = .inl (cs 0, 16, .inl (fun _ => 0)) := by rw [hF737]; exact th_ne ne673 o734
  have o753 : F737 h0 = .inr (7, [.ref q1, .int 0, .int 0, .int 0, .int 0, .int 0, .int 0, .int 0, .int (-1), .ref q19, .ref q39, .int 0, .ref q64, .ref q94, .ref q129, .int 0, .int 0, .ref q169, .ref q214, .int 0, .ref q264, .ref q319, .ref q379, .ref q444, .ref q514, .int 0, .int 0, .int 0, .ref q589, .ref q669, .null, .int 0, .int 0, .long 0]) := by rw [hF737]; exact th_up
  have hfr : ∀ a ∈ L, a ≠ h0 → F737 a = F a ∧ K672 a = K a := fun a ha hne => ⟨by rw [hF737]; exact th_ne hne (hfr a ha hne).1, (hfr a ha hne).2⟩
  refine lv_aload_n hx hb dX7_init_877 rfl (lv_at hl 0 rfl) ?_
  refine lv_sipush (v := 18360) hx hb dX7_init_878 (by decide) ?_
  refine n_newa (atype := .int) (a0 := (18360, .inl (fun _ => 0))) hx hb (hts _ T_99) rfl hK hP hD hS hA 0 rfl (fun _ => rfl) (by decide) (by decide) (Nat.le_of_ble_eq_true rfl) (Nat.le_of_ble_eq_true rfl) (Nat.le_of_ble_eq_true rfl) dX7_init_881 (fun q754 H hq hP hD hS => ?_)
  obtain ⟨L755, hL755⟩ : ∃ M, M = L670 ++ [q754] := ⟨_, rfl⟩
  rw [← hL755] at hP hD
  obtain ⟨F756, hF756⟩ : ∃ M : Nat → va_E, M = va_up F737 q754 (.inl (cs 0, 18360, .inl (fun _ => 0))) := ⟨_, rfl⟩
  rw [← hF756] at hP
  obtain ⟨hI, hLk, hX1⟩ := n_add (c := 80) hI hLk hq trivial
  obtain ⟨K757, hK757⟩ : ∃ M, M = va_up K672 q754 80 := ⟨_, rfl⟩
  rw [← hK757, ← hF756] at hI
  rw [← hK757, ← hL755] at hLk
  rw [← hK757] at hX1
  have ne758 : q754 ≠ h0 := fun h => hq (h ▸ m688)
  have ne759 : q754 ≠ q1 := fun h => hq (h ▸ m691)
  have ne760 : q754 ≠ q19 := fun h => hq (h ▸ m694)
  have ne761 : q754 ≠ q39 := fun h => hq (h ▸ m697)
  have ne762 : q754 ≠ q64 := fun h => hq (h ▸ m700)
  have ne763 : q754 ≠ q94 := fun h => hq (h ▸ m703)
  have ne764 : q754 ≠ q129 := fun h => hq (h ▸ m706)
  have ne765 : q754 ≠ q169 := fun h => hq (h ▸ m709)
  have ne766 : q754 ≠ q214 := fun h => hq (h ▸ m712)
  have ne767 : q754 ≠ q264 := fun h => hq (h ▸ m715)
  have ne768 : q754 ≠ q319 := fun h => hq (h ▸ m718)
  have ne769 : q754 ≠ q379 := fun h => hq (h ▸ m721)
  have ne770 : q754 ≠ q444 := fun h => hq (h ▸ m724)
  have ne771 : q754 ≠ q514 := fun h => hq (h ▸ m727)
  have ne772 : q754 ≠ q589 := fun h => hq (h ▸ m730)
  have ne773 : q754 ≠ q669 := fun h => hq (h ▸ m733)
  have m774 : h0 ∈ L755 := by rw [hL755]; exact List.mem_append_left _ m688
  have k775 : K757 h0 = 0 := by rw [hK757]; exact th_ne (Ne.symm ne758) k689
  have o776 : F756 h0 = .inr (7, [.ref q1, .int 0, .int 0, .int 0, .int 0, .int 0, .int 0, .int 0, .int (-1), .ref q19, .ref q39, .int 0, .ref q64, .ref q94, .ref q129, .int 0, .int 0, .ref q169, .ref q214, .int 0, .ref q264, .ref q319, .ref q379, .ref q444, .ref q514, .int 0, .int 0, .int 0, .ref q589, .ref q669, .null, .int 0, .int 0, .long 0]) := by rw [hF756]; exact th_ne (Ne.symm ne758) o753
  have m777 : q1 ∈ L755 := by rw [hL755]; exact List.mem_append_left _ m691
  have k778 : K757 q1 = 50 := by rw [hK757]; exact th_ne (Ne.symm ne759) k692
  have o779 : F756 q1 = .inl (cs 0, 1600, .inl (fun _ => 0)) := by rw [hF756]; exact th_ne (Ne.symm ne759) o738
  have m780 : q19 ∈ L755 := by rw [hL755]; exact List.mem_append_left _ m694
  have k781 : K757 q19 = 59 := by rw [hK757]; exact th_ne (Ne.symm ne760) k695
  have o782 : F756 q19 = .inl (cs 0, 6, .inl (fun _ => 0)) := by rw [hF756]; exact th_ne (Ne.symm ne760) o739
  have m783 : q39 ∈ L755 := by rw [hL755]; exact List.mem_append_left _ m697
  have k784 : K757 q39 = 60 := by rw [hK757]; exact th_ne (Ne.symm ne761) k698
  have o785 : F756 q39 = .inl (cs 6, 125, .inl f9) := by rw [hF756]; exact th_ne (Ne.symm ne761) o740
  have m786 : q64 ∈ L755 := by rw [hL755]; exact List.mem_append_left _ m700
  have k787 : K757 q64 = 62 := by rw [hK757]; exact th_ne (Ne.symm ne762) k701
  have o788 : F756 q64 = .inl (cs 0, 400, .inl (fun _ => 0)) := by rw [hF756]; exact th_ne (Ne.symm ne762) o741
  have m789 : q94 ∈ L755 := by rw [hL755]; exact List.mem_append_left _ m703
  have k790 : K757 q94 = 63 := by rw [hK757]; exact th_ne (Ne.symm ne763) k704
  have o791 : F756 q94 = .inl (cs 0, 400, .inl (fun _ => 0)) := by rw [hF756]; exact th_ne (Ne.symm ne763) o742
  have m792 : q129 ∈ L755 := by rw [hL755]; exact List.mem_append_left _ m706
  have k793 : K757 q129 = 64 := by rw [hK757]; exact th_ne (Ne.symm ne764) k707
  have o794 : F756 q129 = .inl (cs 0, 40, .inl (fun _ => 0)) := by rw [hF756]; exact th_ne (Ne.symm ne764) o743
  have m795 : q169 ∈ L755 := by rw [hL755]; exact List.mem_append_left _ m709
  have k796 : K757 q169 = 67 := by rw [hK757]; exact th_ne (Ne.symm ne765) k710
  have o797 : F756 q169 = .inl (cs 7, 41, .inl (fun _ => 0)) := by rw [hF756]; exact th_ne (Ne.symm ne765) o744
  have m798 : q214 ∈ L755 := by rw [hL755]; exact List.mem_append_left _ m712
  have k799 : K757 q214 = 68 := by rw [hK757]; exact th_ne (Ne.symm ne766) k713
  have o800 : F756 q214 = .inl (cs 0, 41, .inl (fun _ => 0)) := by rw [hF756]; exact th_ne (Ne.symm ne766) o745
  have m801 : q264 ∈ L755 := by rw [hL755]; exact List.mem_append_left _ m715
  have k802 : K757 q264 = 70 := by rw [hK757]; exact th_ne (Ne.symm ne767) k716
  have o803 : F756 q264 = .inl (cs 0, 918, .inl (fun _ => 0)) := by rw [hF756]; exact th_ne (Ne.symm ne767) o746
  have m804 : q319 ∈ L755 := by rw [hL755]; exact List.mem_append_left _ m718
  have k805 : K757 q319 = 71 := by rw [hK757]; exact th_ne (Ne.symm ne768) k719
  have o806 : F756 q319 = .inl (cs 0, 8, .inl (fun _ => 0)) := by rw [hF756]; exact th_ne (Ne.symm ne768) o747
  have m807 : q379 ∈ L755 := by rw [hL755]; exact List.mem_append_left _ m721
  have k808 : K757 q379 = 72 := by rw [hK757]; exact th_ne (Ne.symm ne769) k722
  have o809 : F756 q379 = .inl (cs 0, 8, .inl (fun _ => 0)) := by rw [hF756]; exact th_ne (Ne.symm ne769) o748
  have m810 : q444 ∈ L755 := by rw [hL755]; exact List.mem_append_left _ m724
  have k811 : K757 q444 = 73 := by rw [hK757]; exact th_ne (Ne.symm ne770) k725
  have o812 : F756 q444 = .inl (cs 0, 918, .inl (fun _ => 0)) := by rw [hF756]; exact th_ne (Ne.symm ne770) o749
  have m813 : q514 ∈ L755 := by rw [hL755]; exact List.mem_append_left _ m727
  have k814 : K757 q514 = 74 := by rw [hK757]; exact th_ne (Ne.symm ne771) k728
  have o815 : F756 q514 = .inl (cs 0, 191277, .inl (fun _ => 0)) := by rw [hF756]; exact th_ne (Ne.symm ne771) o750
  have m816 : q589 ∈ L755 := by rw [hL755]; exact List.mem_append_left _ m730
  have k817 : K757 q589 = 78 := by rw [hK757]; exact th_ne (Ne.symm ne772) k731
  have o818 : F756 q589 = .inl (cs 0, 5, .inl (fun _ => 0)) := by rw [hF756]; exact th_ne (Ne.symm ne772) o751
  have m819 : q669 ∈ L755 := by rw [hL755]; exact List.mem_append_left _ m733
  have k820 : K757 q669 = 79 := by rw [hK757]; exact th_ne (Ne.symm ne773) k735
  have o821 : F756 q669 = .inl (cs 0, 16, .inl (fun _ => 0)) := by rw [hF756]; exact th_ne (Ne.symm ne773) o752
  have m822 : q754 ∈ L755 := by rw [hL755]; exact List.mem_append_right _ (List.mem_singleton.mpr rfl)
  have o823 : F756 q754 = (.inl (cs 0, 18360, .inl (fun _ => 0))) := by rw [hF756]; exact th_up
  have k824 : K757 q754 = 80 := by rw [hK757]; exact th_up
  have nl825 : q754 ∉ L := fun h => hq (hsub q754 h)
  have hfr : ∀ a ∈ L, a ≠ h0 → F756 a = F a ∧ K757 a = K a := fun a ha hne => ⟨by rw [hF756]; exact th_ne (fun h => nl825 (h ▸ ha)) (hfr a ha hne).1, by rw [hK757]; exact th_ne (fun h => nl825 (h ▸ ha)) (hfr a ha hne).2⟩
  have hsub : ∀ a ∈ L, a ∈ L755 := fun a ha => by rw [hL755]; exact List.mem_append_left _ (hsub a ha)
  have hX : n_X K K757 := n_Xt hX hX1
  have hks : ∀ a, K757 a = K a ∨ K757 a ∈ [50, 59, 60, 62, 63, 64, 67, 68, 70, 71, 72, 73, 74, 78, 79, 80] := fun a => by rw [hK757]; by_cases e9 : a = q754; (rw [e9, th_up]; right; decide); rw [show va_up K672 q754 80 a = K672 a from if_neg e9]; exact hks a
  refine W.widen (k := 16) (n := 214163) (Nat.le_of_ble_eq_true rfl) (Nat.le_of_ble_eq_true rfl) ?_
  refine n_putF (D := (dC, dI)) (ci := 7) (v := .ref q754) (ty := .array .int) (C := RX7) (T := TX7) (N := 34) hx hb hts inX7 tyX7 tyX7_ok nmX7 hown hK hP hD hS m774 o776 rfl 30 (by decide) (hts _ T_259) (fun _ h9 => h9) rfl hin rfl (by decide +kernel) rfl rfl (Nat.le_of_ble_eq_true rfl) dX7_init_883 (fun H locs hP hS => ?_)
  have hP : va_P (dC, dI) vwCl (va_pl L755 (va_up F756 h0 (.inr (7, [.ref q1, .int 0, .int 0, .int 0, .int 0, .int 0, .int 0, .int 0, .int (-1), .ref q19, .ref q39, .int 0, .ref q64, .ref q94, .ref q129, .int 0, .int 0, .ref q169, .ref q214, .int 0, .ref q264, .ref q319, .ref q379, .ref q444, .ref q514, .int 0, .int 0, .int 0, .ref q589, .ref q669, .ref q754, .int 0, .int 0, .long 0])))) H := hP
  obtain ⟨F826, hF826⟩ : ∃ M : Nat → va_E, M = va_up F756 h0 (.inr (7, [.ref q1, .int 0, .int 0, .int 0, .int 0, .int 0, .int 0, .int 0, .int (-1), .ref q19, .ref q39, .int 0, .ref q64, .ref q94, .ref q129, .int 0, .int 0, .ref q169, .ref q214, .int 0, .ref q264, .ref q319, .ref q379, .ref q444, .ref q514, .int 0, .int 0, .int 0, .ref q589, .ref q669, .ref q754, .int 0, .int 0, .long 0])) := ⟨_, rfl⟩
  rw [← hF826] at hP
  have hI : s_I K757 cs 0 F826 := by rw [hF826]; exact n_put0 hI k775
  have o827 : F826 q1 = .inl (cs 0, 1600, .inl (fun _ => 0)) := by rw [hF826]; exact th_ne ne5 o779
  have o828 : F826 q19 = .inl (cs 0, 6, .inl (fun _ => 0)) := by rw [hF826]; exact th_ne ne23 o782
  have o829 : F826 q39 = .inl (cs 6, 125, .inl f9) := by rw [hF826]; exact th_ne ne43 o785
  have o830 : F826 q64 = .inl (cs 0, 400, .inl (fun _ => 0)) := by rw [hF826]; exact th_ne ne68 o788
  have o831 : F826 q94 = .inl (cs 0, 400, .inl (fun _ => 0)) := by rw [hF826]; exact th_ne ne98 o791
  have o832 : F826 q129 = .inl (cs 0, 40, .inl (fun _ => 0)) := by rw [hF826]; exact th_ne ne133 o794
  have o833 : F826 q169 = .inl (cs 7, 41, .inl (fun _ => 0)) := by rw [hF826]; exact th_ne ne173 o797
  have o834 : F826 q214 = .inl (cs 0, 41, .inl (fun _ => 0)) := by rw [hF826]; exact th_ne ne218 o800
  have o835 : F826 q264 = .inl (cs 0, 918, .inl (fun _ => 0)) := by rw [hF826]; exact th_ne ne268 o803
  have o836 : F826 q319 = .inl (cs 0, 8, .inl (fun _ => 0)) := by rw [hF826]; exact th_ne ne323 o806
  have o837 : F826 q379 = .inl (cs 0, 8, .inl (fun _ => 0)) := by rw [hF826]; exact th_ne ne383 o809
  have o838 : F826 q444 = .inl (cs 0, 918, .inl (fun _ => 0)) := by rw [hF826]; exact th_ne ne448 o812
  have o839 : F826 q514 = .inl (cs 0, 191277, .inl (fun _ => 0)) := by rw [hF826]; exact th_ne ne518 o815
  have o840 : F826 q589 = .inl (cs 0, 5, .inl (fun _ => 0)) := by rw [hF826]; exact th_ne ne593 o818
  have o841 : F826 q669 = .inl (cs 0, 16, .inl (fun _ => 0)) := by rw [hF826]; exact th_ne ne673 o821
  have o842 : F826 q754 = .inl (cs 0, 18360, .inl (fun _ => 0)) := by rw [hF826]; exact th_ne ne758 o823
  have o843 : F826 h0 = .inr (7, [.ref q1, .int 0, .int 0, .int 0, .int 0, .int 0, .int 0, .int 0, .int (-1), .ref q19, .ref q39, .int 0, .ref q64, .ref q94, .ref q129, .int 0, .int 0, .ref q169, .ref q214, .int 0, .ref q264, .ref q319, .ref q379, .ref q444, .ref q514, .int 0, .int 0, .int 0, .ref q589, .ref q669, .ref q754, .int 0, .int 0, .long 0]) := by rw [hF826]; exact th_up
  have hfr : ∀ a ∈ L, a ≠ h0 → F826 a = F a ∧ K757 a = K a := fun a ha hne => ⟨by rw [hF826]; exact th_ne hne (hfr a ha hne).1, (hfr a ha hne).2⟩
  refine lv_aload_n hx hb dX7_init_886 rfl (lv_at hl 0 rfl) ?_
  refine lv_lconst (v := 1) hx hb dX7_init_887 (by decide) ?_
  refine th_put (D := (dC, dI)) (ci := 7) (v := .long 1) (ty := .long) (C := RX7) (T := TX7) (N := 34) hx hb hts inX7 tyX7 tyX7_ok nmX7 hown hK hP hD hS m774 o843 rfl 33 (by decide) (hts _ T_260) (fun _ h9 => h9) rfl (by decide +kernel) rfl rfl (Nat.le_of_ble_eq_true rfl) dX7_init_888 (fun H locs hP hS => ?_)
  have hP : va_P (dC, dI) vwCl (va_pl L755 (va_up F826 h0 (.inr (7, [.ref q1, .int 0, .int 0, .int 0, .int 0, .int 0, .int 0, .int 0, .int (-1), .ref q19, .ref q39, .int 0, .ref q64, .ref q94, .ref q129, .int 0, .int 0, .ref q169, .ref q214, .int 0, .ref q264, .ref q319, .ref q379, .ref q444, .ref q514, .int 0, .int 0, .int 0, .ref q589, .ref q669, .ref q754, .int 0, .int 0, .long 1])))) H := hP
  obtain ⟨F844, hF844⟩ : ∃ M : Nat → va_E, M = va_up F826 h0 (.inr (7, [.ref q1, .int 0, .int 0, .int 0, .int 0, .int 0, .int 0, .int 0, .int (-1), .ref q19, .ref q39, .int 0, .ref q64, .ref q94, .ref q129, .int 0, .int 0, .ref q169, .ref q214, .int 0, .ref q264, .ref q319, .ref q379, .ref q444, .ref q514, .int 0, .int 0, .int 0, .ref q589, .ref q669, .ref q754, .int 0, .int 0, .long 1])) := ⟨_, rfl⟩
  rw [← hF844] at hP
  have hI : s_I K757 cs 0 F844 := by rw [hF844]; exact n_put0 hI k775
  have o845 : F844 q1 = .inl (cs 0, 1600, .inl (fun _ => 0)) := by rw [hF844]; exact th_ne ne5 o827
  have o846 : F844 q19 = .inl (cs 0, 6, .inl (fun _ => 0)) := by rw [hF844]; exact th_ne ne23 o828
  have o847 : F844 q39 = .inl (cs 6, 125, .inl f9) := by rw [hF844]; exact th_ne ne43 o829
  have o848 : F844 q64 = .inl (cs 0, 400, .inl (fun _ => 0)) := by rw [hF844]; exact th_ne ne68 o830
  have o849 : F844 q94 = .inl (cs 0, 400, .inl (fun _ => 0)) := by rw [hF844]; exact th_ne ne98 o831
  have o850 : F844 q129 = .inl (cs 0, 40, .inl (fun _ => 0)) := by rw [hF844]; exact th_ne ne133 o832
  have o851 : F844 q169 = .inl (cs 7, 41, .inl (fun _ => 0)) := by rw [hF844]; exact th_ne ne173 o833
  have o852 : F844 q214 = .inl (cs 0, 41, .inl (fun _ => 0)) := by rw [hF844]; exact th_ne ne218 o834
  have o853 : F844 q264 = .inl (cs 0, 918, .inl (fun _ => 0)) := by rw [hF844]; exact th_ne ne268 o835
  have o854 : F844 q319 = .inl (cs 0, 8, .inl (fun _ => 0)) := by rw [hF844]; exact th_ne ne323 o836
  have o855 : F844 q379 = .inl (cs 0, 8, .inl (fun _ => 0)) := by rw [hF844]; exact th_ne ne383 o837
  have o856 : F844 q444 = .inl (cs 0, 918, .inl (fun _ => 0)) := by rw [hF844]; exact th_ne ne448 o838
  have o857 : F844 q514 = .inl (cs 0, 191277, .inl (fun _ => 0)) := by rw [hF844]; exact th_ne ne518 o839
  have o858 : F844 q589 = .inl (cs 0, 5, .inl (fun _ => 0)) := by rw [hF844]; exact th_ne ne593 o840
  have o859 : F844 q669 = .inl (cs 0, 16, .inl (fun _ => 0)) := by rw [hF844]; exact th_ne ne673 o841
  have o860 : F844 q754 = .inl (cs 0, 18360, .inl (fun _ => 0)) := by rw [hF844]; exact th_ne ne758 o842
  have o861 : F844 h0 = .inr (7, [.ref q1, .int 0, .int 0, .int 0, .int 0, .int 0, .int 0, .int 0, .int (-1), .ref q19, .ref q39, .int 0, .ref q64, .ref q94, .ref q129, .int 0, .int 0, .ref q169, .ref q214, .int 0, .ref q264, .ref q319, .ref q379, .ref q444, .ref q514, .int 0, .int 0, .int 0, .ref q589, .ref q669, .ref q754, .int 0, .int 0, .long 1]) := by rw [hF844]; exact th_up
  have hfr : ∀ a ∈ L, a ≠ h0 → F844 a = F a ∧ K757 a = K a := fun a ha hne => ⟨by rw [hF844]; exact th_ne hne (hfr a ha hne).1, (hfr a ha hne).2⟩
  have hu0 : ∀ a, K757 a ≠ 9 := fun a h9 => (hks a).elim (fun h => (hK9 a).1 (h.symm.trans h9)) (fun h => absurd h (by rw [h9]; decide))
  obtain ⟨hI, hLk, hX1⟩ := n_kind (c := 9) hI hLk m774 k775 (by rw [o861]; exact trivial)
  obtain ⟨K862, hK862⟩ : ∃ M, M = va_up K757 h0 9 := ⟨_, rfl⟩
  rw [← hK862] at hI hLk hX1
  have k863 : K862 q1 = 50 := by rw [hK862]; exact th_ne ne5 k778
  have k864 : K862 q19 = 59 := by rw [hK862]; exact th_ne ne23 k781
  have k865 : K862 q39 = 60 := by rw [hK862]; exact th_ne ne43 k784
  have k866 : K862 q64 = 62 := by rw [hK862]; exact th_ne ne68 k787
  have k867 : K862 q94 = 63 := by rw [hK862]; exact th_ne ne98 k790
  have k868 : K862 q129 = 64 := by rw [hK862]; exact th_ne ne133 k793
  have k869 : K862 q169 = 67 := by rw [hK862]; exact th_ne ne173 k796
  have k870 : K862 q214 = 68 := by rw [hK862]; exact th_ne ne218 k799
  have k871 : K862 q264 = 70 := by rw [hK862]; exact th_ne ne268 k802
  have k872 : K862 q319 = 71 := by rw [hK862]; exact th_ne ne323 k805
  have k873 : K862 q379 = 72 := by rw [hK862]; exact th_ne ne383 k808
  have k874 : K862 q444 = 73 := by rw [hK862]; exact th_ne ne448 k811
  have k875 : K862 q514 = 74 := by rw [hK862]; exact th_ne ne518 k814
  have k876 : K862 q589 = 78 := by rw [hK862]; exact th_ne ne593 k817
  have k877 : K862 q669 = 79 := by rw [hK862]; exact th_ne ne673 k820
  have k878 : K862 q754 = 80 := by rw [hK862]; exact th_ne ne758 k824
  have k879 : K862 h0 = 9 := by rw [hK862]; exact th_up
  have hfr : ∀ a ∈ L, a ≠ h0 → F844 a = F a ∧ K862 a = K a := fun a ha hne => ⟨(hfr a ha hne).1, by rw [hK862]; exact th_ne hne (hfr a ha hne).2⟩
  have hX : n_X K K862 := n_Xt hX hX1
  obtain ⟨A9, hA9⟩ : ∃ w : Nat → Nat, w = fun i => if i = 0 then q1 else if i = 9 then q19 else if i = 10 then q39 else if i = 12 then q64 else if i = 13 then q94 else if i = 14 then q129 else if i = 17 then q169 else if i = 18 then q214 else if i = 20 then q264 else if i = 21 then q319 else if i = 22 then q379 else if i = 23 then q444 else if i = 24 then q514 else if i = 28 then q589 else if i = 29 then q669 else if i = 30 then q754 else 0 := ⟨_, rfl⟩
  have a9_0 : A9 0 = q1 := by rw [hA9]; rfl
  have a9_9 : A9 9 = q19 := by rw [hA9]; rfl
  have a9_10 : A9 10 = q39 := by rw [hA9]; rfl
  have a9_12 : A9 12 = q64 := by rw [hA9]; rfl
  have a9_13 : A9 13 = q94 := by rw [hA9]; rfl
  have a9_14 : A9 14 = q129 := by rw [hA9]; rfl
  have a9_17 : A9 17 = q169 := by rw [hA9]; rfl
  have a9_18 : A9 18 = q214 := by rw [hA9]; rfl
  have a9_20 : A9 20 = q264 := by rw [hA9]; rfl
  have a9_21 : A9 21 = q319 := by rw [hA9]; rfl
  have a9_22 : A9 22 = q379 := by rw [hA9]; rfl
  have a9_23 : A9 23 = q444 := by rw [hA9]; rfl
  have a9_24 : A9 24 = q514 := by rw [hA9]; rfl
  have a9_28 : A9 28 = q589 := by rw [hA9]; rfl
  have a9_29 : A9 29 = q669 := by rw [hA9]; rfl
  have a9_30 : A9 30 = q754 := by rw [hA9]; rfl
  have hyA : y_A K862 A9 := fun i hi => by
    rcases n_yi hi with rfl | rfl | rfl | rfl | rfl | rfl | rfl | rfl | rfl | rfl | rfl | rfl | rfl | rfl | rfl | rfl
    · rw [a9_0]; exact k863
    · rw [a9_9]; exact k864
    · rw [a9_10]; exact k865
    · rw [a9_12]; exact k866
    · rw [a9_13]; exact k867
    · rw [a9_14]; exact k868
    · rw [a9_17]; exact k869
    · rw [a9_18]; exact k870
    · rw [a9_20]; exact k871
    · rw [a9_21]; exact k872
    · rw [a9_22]; exact k873
    · rw [a9_23]; exact k874
    · rw [a9_24]; exact k875
    · rw [a9_28]; exact k876
    · rw [a9_29]; exact k877
    · rw [a9_30]; exact k878
  have hY0 : F844 h0 = .inr (7, y_fl A9 (fun k => if k = 8 then -1 else 0) 1) := o861.trans (by rw [hA9]; rfl)
  have hyI : y_I K862 cs A9 F844 := by
    refine ⟨fun a ha => ?_, fun i => ?_⟩
    · have q9 : a = h0 := by rw [hK862] at ha; exact (n_uu ha).elim (fun w => w.1) (fun w => absurd w (hu0 a))
      rw [q9]
      exact ⟨_, _, hY0, by unfold y_bY; decide, by decide⟩
    · by_cases hn : y_n i = 0
      · exact Or.inl hn
      · refine Or.inr ?_
        rcases n_yi hn with rfl | rfl | rfl | rfl | rfl | rfl | rfl | rfl | rfl | rfl | rfl | rfl | rfl | rfl | rfl | rfl
        · rw [a9_0]; exact ⟨_, o845, trivial⟩
        · rw [a9_9]; exact ⟨_, o846, trivial⟩
        · rw [a9_10]; exact ⟨_, o847, trivial⟩
        · rw [a9_12]; exact ⟨_, o848, (by show 0 ≤ (0 : Int32).toInt ∧ (0 : Int32).toInt ≤ 40; decide)⟩
        · rw [a9_13]; exact ⟨_, o849, trivial⟩
        · rw [a9_14]; exact ⟨_, o850, trivial⟩
        · rw [a9_17]; exact ⟨_, o851, (fun j _ => by decide)⟩
        · rw [a9_18]; exact ⟨_, o852, (fun j _ => by decide)⟩
        · rw [a9_20]; exact ⟨_, o853, trivial⟩
        · rw [a9_21]; exact ⟨_, o854, trivial⟩
        · rw [a9_22]; exact ⟨_, o855, trivial⟩
        · rw [a9_23]; exact ⟨_, o856, trivial⟩
        · rw [a9_24]; exact ⟨_, o857, trivial⟩
        · rw [a9_28]; exact ⟨_, o858, trivial⟩
        · rw [a9_29]; exact ⟨_, o859, trivial⟩
        · rw [a9_30]; exact ⟨_, o860, trivial⟩
  have hks : ∀ a, K862 a = K a ∨ K862 a ∈ [9, 50, 59, 60, 62, 63, 64, 67, 68, 70, 71, 72, 73, 74, 78, 79, 80] := fun a => by rw [hK862]; by_cases e9 : a = h0; (right; rw [e9, th_up]; decide); rw [show va_up _ h0 9 a = _ from if_neg e9]; exact (hks a).imp id (s_sub (by decide))
  exact W.vret hx hb hr (fun t ht hW => ⟨⟨(L755, K862, F844, A9), rfl, ⟨hsub, hX, hfr, k879, hI, hLk, hks, hyA, hyI, hY0, (by show F844 (A9 9) = _; rw [a9_9]; exact o846), (by show F844 (A9 12) = _; rw [a9_12]; exact o848), (by show F844 (A9 20) = _; rw [a9_20]; exact o853), (by show F844 (A9 30) = _; rw [a9_30]; exact o860)⟩, by rw [ht]; exact hP, va_K.moved hW.alike hK, hD⟩, hS.F ht⟩) hS.2.2 dX7_init_891
