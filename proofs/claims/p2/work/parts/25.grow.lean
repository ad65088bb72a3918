/-! a pool that grows: constructors -/
theorem n_get {L : List Nat} {F : Nat → va_E} {k : Nat} {q : Nat × va_E} (h : (va_pl L F)[k]? = some q) : ∃ a, L[k]? = some a ∧ q = (a, F a) := by
  unfold va_pl at h
  rw [List.getElem?_map] at h
  cases e : L[k]? with
  | none => rw [e] at h; cases h
  | some a => rw [e] at h; cases h; exact ⟨a, rfl, rfl⟩
theorem n_geti {L : List Nat} {F : Nat → va_E} {k a : Nat} (h : L[k]? = some a) : (va_pl L F)[k]? = some (a, F a) := by
  unfold va_pl
  rw [List.getElem?_map, h]
  rfl
theorem n_Dany {A : Nat → Prop} {L : List Nat} {F : Nat → va_E} (h : va_D A (va_pl L F)) : ∀ G, va_D A (va_pl L G) := fun G => by
  refine ⟨fun i j p q hp hq e => ?_, fun k q hk => ?_⟩
  · obtain ⟨a, ha, rfl⟩ := n_get hp
    obtain ⟨b, hb, rfl⟩ := n_get hq
    exact h.1 i j (a, F a) (b, F b) (n_geti ha) (n_geti hb) e
  · obtain ⟨a, ha, rfl⟩ := n_get hk
    exact h.2 k (a, F a) (n_geti ha)
theorem n_in {A : Nat → Prop} {L : List Nat} (h : ∀ G, va_D A (va_pl L G)) {a : Nat} (ha : a ∈ L) : A a := by
  obtain ⟨k, hk⟩ := List.mem_iff_getElem?.mp ha
  exact (h (fun _ => .inr (0, []))).2 k _ (n_geti hk)
def n_A (L : List Nat) (sz : Nat) : Nat → Prop := fun q => q ∈ L ∨ sz ≤ q
theorem n_free {A : Nat → Prop} {L : List Nat} {H0 H : Heap} {locs : List Loc} (hD : ∀ G, va_D A (va_pl L G)) (hS : va_S A H0 H locs) (hA : ∀ q, H0.size ≤ q → A q) : ∀ q, n_A L H.size q → A q := fun q h => h.elim (n_in hD) (fun h => hA q (Nat.le_trans hS.1 h))
theorem n_cid {U : State} {c c' : ClassId} {ty : FieldType} (h : va_RA U c ty) (h' : va_RA U c' ty) : c = c' := by
  cases ty with
  | object C =>
    obtain ⟨_, _, _, _, _, a⟩ := h
    obtain ⟨_, _, _, _, _, b⟩ := h'
    exact Option.some.inj (a.symm.trans b)
  | _ =>
    have h1 : U.vm.findClass _ = some c := h
    have h2 : U.vm.findClass _ = some c' := h'
    exact Option.some.inj (h1.symm.trans h2)
theorem n_cidK {D : va_G} {cl : List vw_C} {tys : List (ClassId × FieldType)} {s : State} {c0 cA : ClassId} {ty : FieldType} {t0 : Nat} (ht : tys[t0]? = some (c0, ty)) (h : va_K D cl (tys ++ [(cA, ty)]) s) : cA = c0 := by
  have hl : t0 < tys.length := (List.getElem?_eq_some_iff.mp ht).1
  have h1 := (h.2 t0 (c0, ty) (by rw [List.getElem?_append_left hl]; exact ht)).2
  have h2 := (h.2 tys.length (cA, ty) (by rw [List.getElem?_append_right (Nat.le_refl _)]; simp)).2
  exact n_cid h2 h1
/-- kinds grow -/
def n_X (K K' : Nat → Nat) : Prop := ∀ a, K a ≠ 0 → K' a = K a
theorem n_Xr (K : Nat → Nat) : n_X K K := fun _ _ => rfl
theorem n_Xt {K K' K2 : Nat → Nat} (h : n_X K K') (h2 : n_X K' K2) : n_X K K2 := fun a ha => by
  have e := h a ha
  rw [h2 a (by rw [e]; exact ha), e]
theorem n_Xc {K K' : Nat → Nat} (h : n_X K K') {a c : Nat} (hc : c ≠ 0) (ha : K a = c) : K' a = c := by
  rw [h a (by rw [ha]; exact hc), ha]
theorem n_Xu {K : Nat → Nat} {q c : Nat} (h : K q = 0) : n_X K (va_up K q c) := fun a ha => if_neg (fun e => ha (by rw [e]; exact h))
section NG
variable {p : Program} {l : Launch} {e : Env} {R : Room} {s : State} {m : MethodId} {args : Array Value} {below : List Frame} {meth : Method} {c : Code} {H : Heap} {locs : List Loc} {cells slots : Nat} {Q : State → Prop}
variable {cc : ByteArray} {pc : Nat} {ls : Array Slot} {rest : List Value} {D : va_G} {cl : List vw_C} {A : Nat → Prop} {a : Nat} {tys : List (ClassId × FieldType)} {H0 : Heap} {L : List Nat} {F : Nat → va_E}
theorem n_newa (hexec : p.tables.exec = Jvm.exec) (hb : c.code = cc) {atype : ArrayType} (harr : (Cond.arrayClass (newarray.typeOf atype)).before args s = true) {ty : FieldType} (hty : newarray.typeOf atype = ty) (hK : va_K D cl tys s) (hP : va_P D cl (va_pl L F) H) (hD : ∀ G, va_D A (va_pl L G)) (hS : va_S A H0 H locs) (hA : ∀ q, H0.size ≤ q → A q) (t0 : Nat) {c0 : ClassId} (ht : tys[t0]? = some (c0, ty))
    {n : Int32} {N' : Nat} {a0 : vp_A} (ha : ∀ cA : ClassId, vp_cell cA a0 = arrV cA N' (fun _ => defaultValue ty)) (hn : ¬ n < 0) (hN : n.toNatClampNeg = N') (hbytes : N' * componentBytes ty ≤ 536870912) (hcells : cells + 1 ≤ R.cells) (hslots : slots + N' ≤ R.slots) (hdg : decode cc pc = .ok (.newarray atype, 2))
    (kk : ∀ (q : Nat) (H1 : Heap), q ∉ L → va_P D cl (va_pl (L ++ [q]) (va_up F q (.inl (c0, a0)))) H1 → (∀ G, va_D A (va_pl (L ++ [q]) G)) → va_S A H0 H1 locs → W p l e R s m args below meth c H1 locs (cells + 1) (slots + N') Q (F0 m (pc + 2) ls (.ref q :: rest))) : W p l e R s m args below meth c H locs cells slots Q (F0 m pc ls (.int n :: rest)) := by
  refine va_newa hexec hb harr hty hK hP (hD F) hS hA ha hn hN hbytes hcells hslots hdg (fun q cA H1 hK1 hP1 hD1 hS1 => ?_)
  have hq : q ∉ L := va_pl_fresh2 (X := []) hD1
  have e := n_cidK ht hK1
  subst e
  rw [va_pl_push hq] at hP1 hD1
  exact kk q H1 hq hP1 (n_Dany hD1) hS1
theorem n_newq (hexec : p.tables.exec = Jvm.exec) (hb : c.code = cc) {own C : String} {index : Nat} (hown : s.vm.findClass own = some m.cls) (hclink : (Cond.classLink own index C).before args s = true) (hover : va_AO C s) (hK : va_K D cl tys s) (hP : va_P D cl (va_pl L F) H) (hD : ∀ G, va_D A (va_pl L G)) (hS : va_S A H0 H locs) (hA : ∀ q, H0.size ≤ q → A q) (t0 : Nat) {c0 : ClassId} (ht : tys[t0]? = some (c0, .object C))
    {n : Int32} {N' : Nat} (hn : ¬ n < 0) (hN : n.toNatClampNeg = N') (hbytes : N' * 4 ≤ 536870912) (hcells : cells + 1 ≤ R.cells) (hslots : slots + N' ≤ R.slots) (hdg : decode cc pc = .ok (.anewarray index, 3))
    (kk : ∀ (q : Nat) (H1 : Heap), q ∉ L → va_P D cl (va_pl (L ++ [q]) (va_up F q (.inl (c0, N', .inr (.inr (.inr (.inr (fun _ => none)))))))) H1 → (∀ G, va_D A (va_pl (L ++ [q]) G)) → va_S A H0 H1 locs → W p l e R s m args below meth c H1 locs (cells + 1) (slots + N') Q (F0 m (pc + 3) ls (.ref q :: rest))) : W p l e R s m args below meth c H locs cells slots Q (F0 m pc ls (.int n :: rest)) := by
  refine va_newq (N' := N') hexec hb hown hclink hover hK hP (hD F) hS hA hn hN hbytes hcells hslots hdg (fun q cA H1 hK1 hP1 hD1 hS1 => ?_)
  have hq : q ∉ L := va_pl_fresh2 (X := []) hD1
  have e := n_cidK ht hK1
  subst e
  rw [va_pl_push hq] at hP1 hD1
  exact kk q H1 hq hP1 (n_Dany hD1) hS1
theorem n_new (hexec : p.tables.exec = Jvm.exec) (hb : c.code = cc) {own C : String} {T : u_T} {N ci index : Nat} {Ts : List Cond} (hts : ∀ w ∈ Ts, w.before args s = true) (hin : ∀ w ∈ u_ws C T N, w ∈ Ts) (ty : Nat → FieldType) (hty : ∀ k, k < N → parseFieldDescriptor (T k).2.2.1 = some (ty k)) (hown : s.vm.findClass own = some m.cls) (hcl : (Cond.classLink own index C).before args s = true) (hinst : (Cond.instantiable C N).before args s = true) (hini : (Cond.initialized C).before args s = true)
    (hK : va_K D cl tys s) (hP : va_P D cl (va_pl L F) H) (hD : ∀ G, va_D A (va_pl L G)) (hS : va_S A H0 H locs) (hA : ∀ q, H0.size ≤ q → A q) (hc : cl[ci]? = some (C, T, N)) {fs : List Value} (hfs : ∀ j, j < N → defaultValue (ty j) = vp_V fs j) (hcells : cells + 1 ≤ R.cells) (hslots : slots + N ≤ R.slots) (hdg : decode cc pc = .ok (.new index, 3))
    (kk : ∀ (q : Nat) (H1 : Heap), q ∉ L → va_P D cl (va_pl (L ++ [q]) (va_up F q (.inr (ci, fs)))) H1 → (∀ G, va_D A (va_pl (L ++ [q]) G)) → va_S A H0 H1 locs → W p l e R s m args below meth c H1 locs (cells + 1) (slots + N) Q (F0 m (pc + 3) ls (.ref q :: rest))) : W p l e R s m args below meth c H locs cells slots Q (F0 m pc ls rest) := by
  refine va_new hexec hb hts hin ty hty hown hcl hinst hini hK hP (hD F) hS hA hc hfs hcells hslots hdg (fun q H1 hP1 hD1 hS1 => ?_)
  have hq : q ∉ L := va_pl_fresh2 (X := []) hD1
  rw [va_pl_push hq] at hP1 hD1
  exact kk q H1 hq hP1 (n_Dany hD1) hS1
theorem n_putF (hexec : p.tables.exec = Jvm.exec) (hb : c.code = cc) {own ref C : String} {T : u_T} {N ci index : Nat} {Ts : List Cond} (hts : ∀ w ∈ Ts, w.before args s = true) (hin : ∀ w ∈ u_ws C T N, w ∈ Ts) (ty0 : Nat → FieldType) (hty : ∀ k, k < N → parseFieldDescriptor (T k).2.2.1 = some (ty0 k)) (hnm : ∀ a, a < N → ∀ b, b < N → a ≠ b → (T a).2.1 ≠ (T b).2.1) (hown : s.vm.findClass own = some m.cls) (hK : va_K D cl tys s) (hP : va_P D cl (va_pl L F) H) (hD : ∀ G, va_D A (va_pl L G)) (hS0 : va_S A H0 H locs) (ha : a ∈ L) {fs : List Value} (he : F a = .inr (ci, fs)) (hc : cl[ci]? = some (C, T, N)) (k : Nat) (hk : k < N) (hlink : (Cond.fieldLink own index ref (T k).2.1 (T k).2.2.1).before args s = true) (hsame : ∀ x, s.fieldFound? (T k).1 (T k).2.1 (T k).2.2.1 = some x → s.fieldFound? ref (T k).2.1 (T k).2.2.1 = some x) (hfin : (T k).2.2.2 = true) (hin2 : meth.name = "<init>") (hdecl : (T k).1 = own) {ty : FieldType} {v : Value} (hd : parseFieldDescriptor (T k).2.2.1 = some ty) (hn : narrow ty v = v) (hfit : fits ty v = true) (hl : k < fs.length)
    (hdg : decode cc pc = .ok (.putfield index, 3)) (kk : ∀ (H1 : Heap) (locs1 : List Loc), va_P D cl (va_pl L (va_up F a (.inr (ci, fs.set k v)))) H1 → va_S A H0 H1 locs1 → W p l e R s m args below meth c H1 locs1 cells slots Q (F0 m (pc + 3) ls rest)) : W p l e R s m args below meth c H locs cells slots Q (F0 m pc ls (v :: .ref a :: rest)) := by
  obtain ⟨q0, hq⟩ := th_at (F := F) ha
  have hq2 := hq
  rw [he] at hq
  refine va_putF hexec hb hts hin ty0 hty hnm hown hK hP (hD F) hS0 q0 hq hc k hk hlink hsame hfin hin2 hdecl hd hn hfit hl hdg (fun H1 locs1 h1 _ h3 => kk H1 locs1 ?_ h3)
  rw [th_set (hD F) ha hq2] at h1
  exact h1
theorem n_astq (hexec : p.tables.exec = Jvm.exec) (hb : c.code = cc) (hK : va_K D cl tys s) (hP : va_P D cl (va_pl L F) H) (hD : ∀ G, va_D A (va_pl L G)) (hS : va_S A H0 H locs) (ha : a ∈ L) {v : Nat} (hva : v ∈ L) (t0 ci : Nat) {cA : ClassId} {r : vw_C} {n : Nat} {vs : List Value} {f : Nat → Option Nat} (he : F a = .inl (cA, n, .inr (.inr (.inr (.inr f))))) (ht : tys[t0]? = some (cA, .object r.1)) (hv : F v = .inr (ci, vs)) (hc : cl[ci]? = some r) {i : Int32} (hin : vp_in i n) (hdg : decode cc pc = .ok (.aastore, 1))
    (kk : ∀ (H1 : Heap) (locs1 : List Loc), va_P D cl (va_pl L (va_up F a (.inl (cA, n, .inr (.inr (.inr (.inr (va_up f i.toNatClampNeg (some v))))))))) H1 → va_S A H0 H1 locs1 → W p l e R s m args below meth c H1 locs1 cells slots Q (F0 m (pc + 1) ls rest)) : W p l e R s m args below meth c H locs cells slots Q (F0 m pc ls (.ref v :: .int i :: .ref a :: rest)) := by
  obtain ⟨q0, hq⟩ := th_at (F := F) ha
  have hq2 := hq
  rw [he] at hq
  obtain ⟨qk, hqk⟩ := th_at (F := F) hva
  rw [hv] at hqk
  refine va_astq hexec hb hK hP (hD F) hS q0 t0 qk ci hq ht hqk hc hin hdg (fun H1 locs1 h1 _ h3 => kk H1 locs1 ?_ h3)
  rw [th_set (hD F) ha hq2] at h1
  exact h1
end NG
theorem n_okx {K K' : Nat → Nat} {cs : Nat → ClassId} {D : Nat} (h : n_X K K') : ∀ (k : Nat) (e : va_E), s_ok K cs D k e → s_ok K' cs D k e := by
  intro k e q
  unfold s_ok at q ⊢
  split at q
  · obtain ⟨z0, z1, z2, z3, z4, z5, z6, z7, z8, z9, z10, z11, z12, z13, o, f0, f1, f2, f3, f4, f5, f6, f7, f8, r⟩ := q
    exact ⟨z0, z1, z2, z3, z4, z5, z6, z7, z8, z9, z10, z11, z12, z13, o, n_Xc h (by decide) f0, n_Xc h (by decide) f1, n_Xc h (by decide) f2, n_Xc h (by decide) f3, n_Xc h (by decide) f4, n_Xc h (by decide) f5, n_Xc h (by decide) f6, n_Xc h (by decide) f7, f8, r⟩
  · obtain ⟨z0, z1, z2, z3, z4, z5, z6, z7, z8, z9, z10, z11, o, f0, f1, f2, f3, f4, f5, f6, r⟩ := q
    exact ⟨z0, z1, z2, z3, z4, z5, z6, z7, z8, z9, z10, z11, o, n_Xc h (by decide) f0, n_Xc h (by decide) f1, n_Xc h (by decide) f2, (fun q e => n_Xc h (by decide) (f3 q e)), (fun q e => n_Xc h (by decide) (f4 q e)), f5, f6, r⟩
  · obtain ⟨z0, z1, z2, z3, z4, z5, z6, o, f0, f1, f2, f3, f4, r⟩ := q
    exact ⟨z0, z1, z2, z3, z4, z5, z6, o, n_Xc h (by decide) f0, n_Xc h (by decide) f1, n_Xc h (by decide) f2, f3, f4, r⟩
  · obtain ⟨z0, z1, z2, z3, z4, z5, z6, z7, z8, z9, z10, z11, z12, z13, z14, o, f0, f1, f2, f3, f4, f5, f6, f7, f8, r⟩ := q
    exact ⟨z0, z1, z2, z3, z4, z5, z6, z7, z8, z9, z10, z11, z12, z13, z14, o, n_Xc h (by decide) f0, n_Xc h (by decide) f1, n_Xc h (by decide) f2, n_Xc h (by decide) f3, (fun q e => n_Xc h (by decide) (f4 q e)), f5, f6, f7, f8, r⟩
  · obtain ⟨z0, z1, z2, z3, z4, z5, z6, z7, z8, z9, z10, z11, z12, z13, z14, o, f0, f1, f2, f3, f4, f5, f6, f7, f8, f9, f10, r⟩ := q
    exact ⟨z0, z1, z2, z3, z4, z5, z6, z7, z8, z9, z10, z11, z12, z13, z14, o, n_Xc h (by decide) f0, n_Xc h (by decide) f1, n_Xc h (by decide) f2, n_Xc h (by decide) f3, n_Xc h (by decide) f4, n_Xc h (by decide) f5, n_Xc h (by decide) f6, f7, f8, f9, f10, r⟩
  · obtain ⟨z0, z1, z2, z3, z4, z5, z6, z7, z8, z9, z10, o, f0, f1, f2, f3, f4, f5, f6, r⟩ := q
    exact ⟨z0, z1, z2, z3, z4, z5, z6, z7, z8, z9, z10, o, n_Xc h (by decide) f0, n_Xc h (by decide) f1, n_Xc h (by decide) f2, n_Xc h (by decide) f3, n_Xc h (by decide) f4, f5, f6, r⟩
  · obtain ⟨z0, z1, z2, z3, z4, z5, z6, z7, z8, z9, z10, z11, z12, z13, o, f0, f1, f2, f3, f4, f5, f6, f7, f8, f9, f10, f11, r⟩ := q
    exact ⟨z0, z1, z2, z3, z4, z5, z6, z7, z8, z9, z10, z11, z12, z13, o, n_Xc h (by decide) f0, f1, n_Xc h (by decide) f2, n_Xc h (by decide) f3, n_Xc h (by decide) f4, n_Xc h (by decide) f5, n_Xc h (by decide) f6, f7, f8, n_Xc h (by decide) f9, n_Xc h (by decide) f10, n_Xc h (by decide) f11, r⟩
  · obtain ⟨z0, z1, z2, z3, z4, z5, z6, o, f0, f1, f2, f3, f4, r⟩ := q
    exact ⟨z0, z1, z2, z3, z4, z5, z6, o, n_Xc h (by decide) f0, n_Xc h (by decide) f1, n_Xc h (by decide) f2, f3, f4, r⟩
  · exact q
  · exact q
  · obtain ⟨f, o, r⟩ := q
    exact ⟨f, o, fun j hj => by obtain ⟨x, a, b⟩ := r j hj; exact ⟨x, a, n_Xc h (by decide) b⟩⟩
  · exact q
  · exact q
  · exact q
  · obtain ⟨f, o, r⟩ := q
    exact ⟨f, o, fun j hj => by obtain ⟨x, a, b⟩ := r j hj; exact ⟨x, a, n_Xc h (by decide) b⟩⟩
  · exact q
  · exact q
  · exact q
  · exact q
  · exact q
  · exact q
  · obtain ⟨f, o, r⟩ := q
    exact ⟨f, o, fun j hj => by obtain ⟨x, a, b⟩ := r j hj; exact ⟨x, a, n_Xc h (by decide) b⟩⟩
  · exact q
  · exact q
  · exact q
  · exact q
  · exact q
  · exact q
  · obtain ⟨f, o, r⟩ := q
    exact ⟨f, o, fun j hj => by obtain ⟨x, a, b⟩ := r j hj; exact ⟨x, a, n_Xc h (by decide) b⟩⟩
  · exact q
  · trivial
theorem n_Ix {K K' : Nat → Nat} {cs : Nat → ClassId} {D : Nat} {F F' : Nat → va_E} (h : n_X K K') (hI : s_I K cs D F) (hn : ∀ a, K a ≠ 0 → F' a = F a) (hk : ∀ a, K a = 0 → K' a ≠ 0 → s_ok K' cs D (K' a) (F' a)) : s_I K' cs D F' := fun a => by
  by_cases e : K a = 0
  · by_cases e2 : K' a = 0
    · rw [e2]; trivial
    · exact hk a e e2
  · rw [h a e, hn a e]
    exact n_okx h _ _ (hI a)
/-- a cell more, of a kind (0: of none yet) -/
theorem n_add {K : Nat → Nat} {cs : Nat → ClassId} {D : Nat} {F : Nat → va_E} {L : List Nat} {q c : Nat} {e : va_E} (hI : s_I K cs D F) (hL : ∀ a, K a ≠ 0 → a ∈ L) (hq : q ∉ L) (he : s_ok (va_up K q c) cs D c e) : s_I (va_up K q c) cs D (va_up F q e) ∧ (∀ a, va_up K q c a ≠ 0 → a ∈ L ++ [q]) ∧ n_X K (va_up K q c) := by
  have k0 : K q = 0 := Classical.byContradiction (fun h => hq (hL q h))
  refine ⟨n_Ix (n_Xu k0) hI (fun a ha => if_neg (fun e2 => ha (by rw [e2]; exact k0))) (fun a h0 h1 => ?_), fun a ha => ?_, n_Xu k0⟩
  · by_cases e2 : a = q
    · rw [e2, th_up, th_up]; exact he
    · rw [show va_up K q c a = K a from if_neg e2] at h1
      exact absurd h0 h1
  · by_cases e2 : a = q
    · rw [e2]; exact List.mem_append_right _ (List.mem_singleton.mpr rfl)
    · rw [show va_up K q c a = K a from if_neg e2] at ha
      exact List.mem_append_left _ (hL a ha)
/-- a cell that was of no kind gets one -/
theorem n_kind {K : Nat → Nat} {cs : Nat → ClassId} {D : Nat} {F : Nat → va_E} {L : List Nat} {q c : Nat} (hI : s_I K cs D F) (hL : ∀ a, K a ≠ 0 → a ∈ L) (hq : q ∈ L) (k0 : K q = 0) (he : s_ok (va_up K q c) cs D c (F q)) : s_I (va_up K q c) cs D F ∧ (∀ a, va_up K q c a ≠ 0 → a ∈ L) ∧ n_X K (va_up K q c) := by
  refine ⟨n_Ix (n_Xu k0) hI (fun a ha => rfl) (fun a h0 h1 => ?_), fun a ha => ?_, n_Xu k0⟩
  · by_cases e2 : a = q
    · rw [e2, th_up]; exact he
    · rw [show va_up K q c a = K a from if_neg e2] at h1
      exact absurd h0 h1
  · by_cases e2 : a = q
    · rw [e2]; exact hq
    · rw [show va_up K q c a = K a from if_neg e2] at ha
      exact hL a ha
/-- a cell of no kind is written -/
theorem n_put0 {K : Nat → Nat} {cs : Nat → ClassId} {D : Nat} {F : Nat → va_E} {q : Nat} {e : va_E} (hI : s_I K cs D F) (k0 : K q = 0) : s_I K cs D (va_up F q e) := n_Ix (n_Xr K) hI (fun a ha => if_neg (fun e2 => ha (by rw [e2]; exact k0))) (fun a h0 h1 => absurd h0 h1)
/-- a constructor's start, on a pool -/
def n_W (dC : Nat → ClassId) (dI : Nat → Nat → Nat) (sz : Nat) (L : List Nat) (F : Nat → va_E) (tys : List (ClassId × FieldType)) (U : State) : Prop := U.heap.size = sz ∧ va_P (dC, dI) vwCl (va_pl L F) U.heap ∧ va_K (dC, dI) vwCl tys U ∧ (∀ G, va_D (n_A L sz) (va_pl L G)) ∧ ax_N U
theorem n_pc {dC : Nat → ClassId} {dI : Nat → Nat → Nat} {sz : Nat} {L : List Nat} {F : Nat → va_E} {tys : List (ClassId × FieldType)} {U U' : State} (h1 : U'.heap = U.heap) (h2 : U.vm = U'.vm) (q : n_W dC dI sz L F tys U) : n_W dC dI sz L F tys U' := by
  obtain ⟨a, b, c, d, e⟩ := q
  exact ⟨by rw [h1]; exact a, by rw [h1]; exact b, va_K.moved (by rw [h2]; exact Vm.Alike.refl _) c, d, ax_Nsame h2 e⟩
theorem n_Dself {A : Nat → Prop} {L : List Nat} {sz : Nat} (h : ∀ G, va_D A (va_pl L G)) : ∀ G, va_D (n_A L sz) (va_pl L G) := fun G => ⟨(h G).1, fun k q hk => by
  obtain ⟨a, ha, rfl⟩ := n_get hk
  exact Or.inl (List.mem_of_getElem? ha)⟩
theorem n_pw {dC : Nat → ClassId} {dI : Nat → Nat → Nat} {A : Nat → Prop} {L : List Nat} {F : Nat → va_E} {tys : List (ClassId × FieldType)} {s U : State} {H : Heap} (hU : U.heap = H) (hW : s.WarmedH U.vm) (hP : va_P (dC, dI) vwCl (va_pl L F) H) (hK : va_K (dC, dI) vwCl tys s) (hD : ∀ G, va_D A (va_pl L G)) (hN : ax_N s) : n_W dC dI H.size L F tys U :=
  ⟨by rw [hU], by rw [hU]; exact hP, va_K.moved hW.alike hK, n_Dself hD, ax_Nmoved hW hN⟩
/-- behind a constructor: the pool has grown by it, the rest is as it was -/
def n_Q (cs : Nat → ClassId) (L : List Nat) (K : Nat → Nat) (F : Nat → va_E) (h0 kd : Nat) (ks : List Nat) (u : List Nat × (Nat → Nat) × (Nat → va_E)) : Prop := (∀ a ∈ L, a ∈ u.1) ∧ n_X K u.2.1 ∧ (∀ a ∈ L, a ≠ h0 → u.2.2 a = F a ∧ u.2.1 a = K a) ∧ u.2.1 h0 = kd ∧ s_I u.2.1 cs 0 u.2.2 ∧ (∀ a, u.2.1 a ≠ 0 → a ∈ u.1) ∧ (∀ a, u.2.1 a = K a ∨ u.2.1 a ∈ ks)

/-! rows of rows, made at once -/
def n_mF (F : Nat → va_E) (q : Nat) (c5 c0 : ClassId) : Nat → va_E := fun a => if a = q then .inl (c5, 40, .inr (.inr (.inr (.inr (fun j => some (q + 1 + j)))))) else if q < a ∧ a ≤ q + 40 then .inl (c0, 7, .inl (fun _ => 0)) else F a
def n_mL (L : List Nat) (q : Nat) : List Nat := L ++ (List.range 41).map (fun j => q + j)
theorem n_mLm {L : List Nat} {q a : Nat} : a ∈ n_mL L q ↔ a ∈ L ∨ (q ≤ a ∧ a ≤ q + 40) := by
  unfold n_mL
  rw [List.mem_append, List.mem_map]
  constructor
  · rintro (h | ⟨j, hj, e⟩)
    · exact Or.inl h
    · rw [List.mem_range] at hj
      exact Or.inr (by omega)
  · rintro (h | h)
    · exact Or.inl h
    · exact Or.inr ⟨a - q, List.mem_range.mpr (by omega), by omega⟩
theorem n_outerS (cA : ClassId) (N q : Nat) : ∀ i, ∃ sl, Jvm.Free.Multi.outerC cA N q i = { cls := cA, slots := sl, vm := .none } := by
  intro i
  induction i with
  | zero => exact ⟨_, rfl⟩
  | succ i ih =>
    obtain ⟨sl, e⟩ := ih
    refine ⟨(({ cls := cA, slots := sl, vm := .none } : Cell).setSlot i (.ref (q + 1 + i))).slots, ?_⟩
    rw [Jvm.Free.Multi.outerC, e]
    rfl
theorem n_outer (cA : ClassId) (q : Nat) : Jvm.Free.Multi.outerC cA 40 q 40 = vp_cell cA (40, .inr (.inr (.inr (.inr (fun j => some (q + 1 + j)))))) := by
  rw [vp_cell_q]
  obtain ⟨a, b, d⟩ := Jvm.Free.Multi.outerC_facts cA 40 q 40
  have hs : (Jvm.Free.Multi.outerC cA 40 q 40).slots = (arrV cA 40 (fun j => va_rf (some (q + 1 + j)))).slots := by
    apply Array.ext_getElem?
    intro j
    by_cases hj : j < 40
    · rw [Jvm.Free.Multi.outerC_slot cA 40 q 40 j hj, if_pos hj, arrV_read _ _ hj]
      rfl
    · rw [Array.getElem?_eq_none (by rw [d]; omega), Array.getElem?_eq_none (by rw [arrV_size]; omega)]
  obtain ⟨sl, e⟩ := n_outerS cA 40 q 40
  rw [e] at hs ⊢
  have hs2 : sl = (arrV cA 40 (fun j => va_rf (some (q + 1 + j)))).slots := hs
  rw [hs2]
  rfl
section NM
variable {p : Program} {l : Launch} {e : Env} {R : Room} {s : State} {m : MethodId} {args : Array Value} {below : List Frame} {meth : Method} {c : Code} {H : Heap} {locs : List Loc} {cells slots : Nat} {Q : State → Prop}
variable {cc : ByteArray} {pc : Nat} {ls : Array Slot} {rest : List Value} {D : va_G} {cl : List vw_C} {A : Nat → Prop} {tys : List (ClassId × FieldType)} {H0 : Heap} {L : List Nat} {F : Nat → va_E}
theorem n_mna (hexec : p.tables.exec = Jvm.exec) (hb : c.code = cc) {own : String} {index : Nat} (hown : s.vm.findClass own = some m.cls) (hclink : (Cond.classLink own index ("[" ++ (FieldType.array .int).toString)).before args s = true) (hover : (Cond.arrayOver (.array .int)).before #[] s = true) (harr : (Cond.arrayClass .int).before args s = true) (hK : va_K D cl tys s) (hP : va_P D cl (va_pl L F) H) (hD : ∀ G, va_D A (va_pl L G)) (hS : va_S A H0 H locs) (hA : ∀ q, H0.size ≤ q → A q) (t5 t0 : Nat) {c5 c0 : ClassId} (ht5 : tys[t5]? = some (c5, .array .int)) (ht0 : tys[t0]? = some (c0, .int)) (hcells : cells + (1 + 40) ≤ R.cells) (hslots : slots + (40 + 40 * 7) ≤ R.slots) (hdg : decode cc pc = .ok (.multianewarray index 2, 4))
    (kk : ∀ (q : Nat) (H1 : Heap), (∀ a ∈ L, a < q) → va_P D cl (va_pl (n_mL L q) (n_mF F q c5 c0)) H1 → (∀ G, va_D A (va_pl (n_mL L q) G)) → va_S A H0 H1 locs → W p l e R s m args below meth c H1 locs (cells + 1 + 40) (slots + 40 + 40 * 7) Q (F0 m (pc + 4) ls (.ref q :: rest))) : W p l e R s m args below meth c H locs cells slots Q (F0 m pc ls (.int 7 :: .int 40 :: rest)) := by
  intro T hT Xs
  have hover2 : (Cond.arrayOver (.array .int)).before args s = true := hover
  obtain ⟨vm₁, cA, comp, -, fA, fC, hO, -, X', step⟩ := Xs.multianewarray2F hexec hown hclink hover2 harr (g := F0 m pc ls (.int 7 :: .int 40 :: rest)) rfl (by rw [hb]; exact hdg) rfl (by decide) (by decide) (by decide) (by decide) (by decide) rfl rfl hcells hslots
  have e5 : cA = c5 := Option.some.inj (fA.symm.trans (show s.vm.findClass ("[" ++ (FieldType.array .int).toString) = some c5 from (hK.2 t5 _ ht5).2))
  have e0 : comp = c0 := Option.some.inj (fC.symm.trans (show s.vm.findClass (FieldType.array .int).toString = some c0 from (hK.2 t0 _ ht0).2))
  subst e5; subst e0
  have hTh : (T.setVm vm₁).heap = H := hT
  have f1 := (Jvm.Free.Multi.fill_facts (T.setVm vm₁) cA comp 40 7 (defaultValue .int) 40).1
  have f2 := (Jvm.Free.Multi.fill_facts (T.setVm vm₁) cA comp 40 7 (defaultValue .int) 40).2.1
  have f3 := Jvm.Free.Multi.fill_inner (T.setVm vm₁) cA comp 40 7 (defaultValue .int) 40
  have f4 : ∀ x : Nat, x < H.size → (Jvm.Free.Multi.fill (T.setVm vm₁) cA comp 40 7 (defaultValue .int) 40).heap[x]? = H[x]? := fun x hx => by
    have := Jvm.Free.Multi.fill_old (T.setVm vm₁) cA comp 40 7 (defaultValue .int) (a := x) (by rw [hTh]; exact hx) 40
    rw [hTh] at this
    exact this
  rw [hTh] at f1 f2 f3
  have hlt : ∀ a ∈ L, a < H.size := fun a ha => va_pl_lt (X := []) hP ha
  have X'' : Stand p l e R s m args below meth c (Jvm.Free.Multi.fill (T.setVm vm₁) cA comp 40 7 (defaultValue .int) 40) locs (cells + 1 + 40) (slots + 40 + 40 * 7) := X'
  have step' : ∀ target, Steps p.tables e below ((Jvm.Free.Multi.fill (T.setVm vm₁) cA comp 40 7 (defaultValue .int) 40).setTop (F0 m (pc + 4) ls (.ref T.heap.size :: rest))) target → Steps p.tables e below (T.setTop (F0 m pc ls (.int 7 :: .int 40 :: rest))) target := step
  generalize Jvm.Free.Multi.fill (T.setVm vm₁) cA comp 40 7 (defaultValue .int) 40 = Fl at f1 f2 f3 f4 X'' step'
  have hTs : T.heap.size = H.size := by rw [show T.heap = H from hT]
  have hP1 : va_P D cl (va_pl (n_mL L H.size) (n_mF F H.size cA comp)) Fl.heap := by
    intro k x hx
    obtain ⟨a, ha, rfl⟩ := n_get hx
    have hm := List.mem_of_getElem? ha
    rw [n_mLm] at hm
    unfold n_mF
    rcases hm with h | h
    · have hl := hlt a h
      rw [if_neg (by omega), if_neg (by omega)]
      obtain ⟨k2, hk2⟩ := th_at (F := F) h
      have q := hP k2 _ hk2
      exact va_at.kept q (f4 a hl)
    · by_cases e : a = H.size
      · rw [if_pos e]
        show Fl.heap[a]? = some (vp_cell cA _)
        rw [e, f2, n_outer]
      · rw [if_neg e, if_pos (by omega)]
        show Fl.heap[a]? = some (vp_cell comp _)
        have q := f3 (a - H.size - 1) (by omega)
        rw [show H.size + 1 + (a - H.size - 1) = a by omega] at q
        rw [q]
        exact congrArg some (arrV_new comp 7 (defaultValue .int))
  have hD1 : ∀ G, va_D A (va_pl (n_mL L H.size) G) := fun G => by
    have h0 := hD G
    refine ⟨fun i j x y hx hy exy => ?_, fun k x hk => ?_⟩
    · obtain ⟨a, ha, rfl⟩ := n_get hx
      obtain ⟨b, hb9, rfl⟩ := n_get hy
      have exy : a = b := exy
      unfold n_mL at ha hb9
      by_cases hi : i < L.length
      · rw [List.getElem?_append_left hi] at ha
        by_cases hj : j < L.length
        · rw [List.getElem?_append_left hj] at hb9
          exact h0.1 i j _ _ (n_geti ha) (n_geti hb9) exy
        · rw [List.getElem?_append_right (by omega)] at hb9
          have l1 := hlt a (List.mem_of_getElem? ha)
          obtain ⟨j2, -, e2⟩ := List.mem_map.mp (List.mem_of_getElem? hb9)
          omega
      · rw [List.getElem?_append_right (by omega)] at ha
        rw [List.getElem?_map] at ha
        by_cases hj : j < L.length
        · rw [List.getElem?_append_left hj] at hb9
          have l1 := hlt b (List.mem_of_getElem? hb9)
          cases e2 : (List.range 41)[i - L.length]? with
          | none => rw [e2] at ha; cases ha
          | some w =>
            rw [e2] at ha
            have ha2 : H.size + w = a := Option.some.inj ha
            omega
        · rw [List.getElem?_append_right (by omega), List.getElem?_map] at hb9
          cases e2 : (List.range 41)[i - L.length]? with
          | none => rw [e2] at ha; cases ha
          | some w =>
            rw [e2] at ha
            have ha2 : H.size + w = a := Option.some.inj ha
            cases e3 : (List.range 41)[j - L.length]? with
            | none => rw [e3] at hb9; cases hb9
            | some w2 =>
              rw [e3] at hb9
              have hb2 : H.size + w2 = b := Option.some.inj hb9
              have a1 := (List.getElem?_eq_some_iff.mp e2)
              have a2 := (List.getElem?_eq_some_iff.mp e3)
              obtain ⟨b1, c1⟩ := a1
              obtain ⟨b2, c2⟩ := a2
              rw [List.getElem_range] at c1 c2
              omega
    · obtain ⟨a, ha, rfl⟩ := n_get hk
      have hm := List.mem_of_getElem? ha
      rw [n_mLm] at hm
      rcases hm with h | h
      · exact n_in hD h
      · exact hA a (Nat.le_trans hS.1 h.1)
  obtain ⟨t, a1, b1⟩ := kk H.size Fl.heap hlt hP1 hD1 ⟨by rw [f1]; have := hS.1; omega, fun x h1 h2 => (f4 x (Nat.lt_of_lt_of_le h1 hS.1)).trans (hS.2.1 x h1 h2), hS.2.2⟩ Fl rfl X''
  rw [← hTs] at a1
  exact ⟨t, step' t a1, b1⟩
end NM
def n_mK (K : Nat → Nat) (q c1 c2 : Nat) : Nat → Nat := fun a => if a = q then c1 else if q < a ∧ a ≤ q + 40 then c2 else K a
theorem n_mKq {K : Nat → Nat} {q c1 c2 : Nat} : n_mK K q c1 c2 q = c1 := if_pos rfl
theorem n_mKr {K : Nat → Nat} {q c1 c2 a : Nat} (h : q < a ∧ a ≤ q + 40) : n_mK K q c1 c2 a = c2 := by
  unfold n_mK
  rw [if_neg (by omega), if_pos h]
theorem n_mKo {K : Nat → Nat} {q c1 c2 a : Nat} (h : a < q) : n_mK K q c1 c2 a = K a := by
  unfold n_mK
  rw [if_neg (by omega), if_neg (by omega)]
theorem n_mFo {F : Nat → va_E} {q a : Nat} {c5 c0 : ClassId} (h : a < q) : n_mF F q c5 c0 a = F a := by
  unfold n_mF
  rw [if_neg (by omega), if_neg (by omega)]
theorem n_addM {K : Nat → Nat} {cs : Nat → ClassId} {F : Nat → va_E} {L : List Nat} {q : Nat} (c1 c2 : Nat) (hc : (c1 = 22 ∧ c2 = 23) ∨ (c1 = 42 ∧ c2 = 43)) (hI : s_I K cs 0 F) (hL : ∀ a, K a ≠ 0 → a ∈ L) (hq : ∀ a ∈ L, a < q) : s_I (n_mK K q c1 c2) cs 0 (n_mF F q (cs 5) (cs 0)) ∧ (∀ a, n_mK K q c1 c2 a ≠ 0 → a ∈ n_mL L q) ∧ n_X K (n_mK K q c1 c2) := by
  have hX : n_X K (n_mK K q c1 c2) := fun a ha => n_mKo (hq a (hL a ha))
  refine ⟨n_Ix hX hI (fun a ha => n_mFo (hq a (hL a ha))) (fun a h0 h1 => ?_), fun a ha => ?_, hX⟩
  · by_cases e : a = q
    · subst e
      rw [n_mKq]
      have e2 : n_mF F a (cs 5) (cs 0) a = .inl (cs 5, 40, .inr (.inr (.inr (.inr (fun j => some (a + 1 + j)))))) := if_pos rfl
      rw [e2]
      rcases hc with ⟨r1, r2⟩ | ⟨r1, r2⟩
      · subst r1; subst r2
        exact (show ok_22 (n_mK K a 22 23) cs _ from ⟨_, rfl, fun j hj => ⟨a + 1 + j, rfl, n_mKr (by omega)⟩⟩)
      · subst r1; subst r2
        exact (show ok_42 (n_mK K a 42 43) cs _ from ⟨_, rfl, fun j hj => ⟨a + 1 + j, rfl, n_mKr (by omega)⟩⟩)
    · by_cases h2 : q < a ∧ a ≤ q + 40
      · have e2 : n_mF F q (cs 5) (cs 0) a = .inl (cs 0, 7, .inl (fun _ => 0)) := by
          unfold n_mF
          rw [if_neg e, if_pos h2]
        rw [e2, n_mKr h2]
        rcases hc with ⟨r1, r2⟩ | ⟨r1, r2⟩
        · subst r1; subst r2
          exact (show ok_23 cs _ from ⟨_, rfl, by decide⟩)
        · subst r1; subst r2
          exact (show ok_43 cs _ from ⟨_, rfl, by decide⟩)
      · unfold n_mK at h1
        rw [if_neg e, if_neg h2] at h1
        exact absurd h0 h1
  · rw [n_mLm]
    by_cases e : a = q
    · exact Or.inr (by omega)
    · by_cases h2 : q < a ∧ a ≤ q + 40
      · exact Or.inr (by omega)
      · unfold n_mK at ha
        rw [if_neg e, if_neg h2] at ha
        exact Or.inl (hL a ha)

/-! what the class's own constructor leaves behind -/
theorem n_uu {K : Nat → Nat} {q c a k : Nat} (h : va_up K q c a = k) : (a = q ∧ c = k) ∨ K a = k := by
  by_cases e : a = q
  · subst e
    rw [th_up] at h
    exact Or.inl ⟨rfl, h⟩
  · rw [show va_up K q c a = K a from if_neg e] at h
    exact Or.inr h
theorem n_um {K : Nat → Nat} {q c1 c2 a k : Nat} (h : n_mK K q c1 c2 a = k) (hk : c2 ≠ k) : a = q ∨ K a = k := by
  unfold n_mK at h
  split at h
  · exact Or.inl (by assumption)
  · split at h
    · exact absurd h hk
    · exact Or.inr h
theorem n_DL {A : Nat → Prop} {L : List Nat} (h : ∀ G, va_D A (va_pl L G)) : ∀ G, va_D (fun q => q ∈ L) (va_pl L G) := fun G => ⟨(h G).1, fun k q hk => by
  obtain ⟨a, ha, rfl⟩ := n_get hk
  exact List.mem_of_getElem? ha⟩
theorem n_put2 {K : Nat → Nat} {cs : Nat → ClassId} {D : Nat} {F G : Nat → va_E} {f m : Nat} (hI : s_I K cs D F) (kf : K f = 0) (km : K m = 0) (h : ∀ b, b ≠ f → b ≠ m → G b = F b) : s_I K cs D G := n_Ix (n_Xr K) hI (fun a ha => h a (fun e => ha (by rw [e]; exact kf)) (fun e => ha (by rw [e]; exact km))) (fun a h0 h1 => absurd h0 h1)
theorem n_uq {K : Nat → Nat} {cs : Nat → ClassId} {h0 f m2 m sp cu : Nat} (hz : ∀ a, K a ≠ 1 ∧ K a ≠ 2 ∧ K a ≠ 3 ∧ K a ≠ 7 ∧ K a ≠ 8) (hm : m = cs 20) (hm2 : m2 = cs 21) (hf : f = cs 22) (hne : m ≠ m2) : s_UQ (va_up (va_up (va_up (va_up (va_up (va_up K cu 3) sp 8) m 2) m2 2) f 1) h0 7) cs h0 := by
  have hu : ∀ a k, va_up (va_up (va_up (va_up (va_up (va_up K cu 3) sp 8) m 2) m2 2) f 1) h0 7 a = k → (a = h0 ∧ 7 = k) ∨ (a = f ∧ 1 = k) ∨ (a = m2 ∧ 2 = k) ∨ (a = m ∧ 2 = k) ∨ (a = sp ∧ 8 = k) ∨ (a = cu ∧ 3 = k) ∨ K a = k := by
    intro a k h
    rcases n_uu h with w | h
    · exact Or.inl w
    rcases n_uu h with w | h
    · exact Or.inr (Or.inl w)
    rcases n_uu h with w | h
    · exact Or.inr (Or.inr (Or.inl w))
    rcases n_uu h with w | h
    · exact Or.inr (Or.inr (Or.inr (Or.inl w)))
    rcases n_uu h with w | h
    · exact Or.inr (Or.inr (Or.inr (Or.inr (Or.inl w))))
    rcases n_uu h with w | h
    · exact Or.inr (Or.inr (Or.inr (Or.inr (Or.inr (Or.inl w)))))
    · exact Or.inr (Or.inr (Or.inr (Or.inr (Or.inr (Or.inr h)))))
  refine ⟨fun a ha => ?_, fun a ha => ?_, fun a ha => ?_, by rw [← hm, ← hm2]; exact hne, fun a b ha hb => ?_, fun a b ha hb => ?_⟩
  · have w := hu a 7 ha
    have z := hz a
    omega
  · have w := hu a 1 ha
    have z := hz a
    omega
  · have w := hu a 2 ha
    have z := hz a
    omega
  · have w := hu a 3 ha
    have w2 := hu b 3 hb
    have z := hz a
    have z2 := hz b
    omega
  · have w := hu a 8 ha
    have w2 := hu b 8 hb
    have z := hz a
    have z2 := hz b
    omega
theorem n_uc {K : Nat → Nat} {h0 f m2 m sp cu a : Nat} (hz : ∀ a, K a ≠ 1 ∧ K a ≠ 2 ∧ K a ≠ 3 ∧ K a ≠ 7 ∧ K a ≠ 8) (h : va_up (va_up (va_up (va_up (va_up (va_up K cu 3) sp 8) m 2) m2 2) f 1) h0 7 a = 3) : a = cu := by
  have z := hz a
  rcases n_uu h with w | h
  · omega
  rcases n_uu h with w | h
  · omega
  rcases n_uu h with w | h
  · omega
  rcases n_uu h with w | h
  · omega
  rcases n_uu h with w | h
  · omega
  rcases n_uu h with w | h
  · omega
  · omega
theorem n_pg {K : Nat → Nat} {cs : Nat → ClassId} {F : Nat → va_E} {cu r f p : Nat} (hu : ∀ a, K a = 3 → a = cu) (o : F cu = .inr (2, [.ref r, .ref f, .ref p, .int 0, .int 0, .int 0, .int 0])) : s_PG K cs F := by
  intro p9 hp w0 vs ln fr i r9 f9 q1 q2 q3 hi hn
  rw [hu p9 hp, o] at q1
  cases q1
  cases q2
  have q9 : (0 : Int32).toInt = 0 := by decide
  rw [q9] at hn
  omega
theorem n_ri {K : Nat → Nat} {cs : Nat → ClassId} {F : Nat → va_E} {r : Nat} (hu : ∀ a, K a = 42 → a = r) (o : F r = .inl (cs 5, 40, .inr (.inr (.inr (.inr (fun j => some (r + 1 + j))))))) : s_RI K cs F := by
  intro a ha fr q i j x hi hj h1 h2
  rw [hu a ha, o] at q
  cases q
  have e1 := Option.some.inj h1
  have e2 := Option.some.inj h2
  omega
theorem n_rj {K : Nat → Nat} {cs : Nat → ClassId} {F : Nat → va_E} {r : Nat} (hu : ∀ a, K a = 22 → a = r) (o : F r = .inl (cs 5, 40, .inr (.inr (.inr (.inr (fun j => some (r + 1 + j))))))) : s_RJ K cs F := by
  intro a ha fr q i j x hi hj h1 h2
  rw [hu a ha, o] at q
  cases q
  have e1 := Option.some.inj h1
  have e2 := Option.some.inj h2
  omega
section NL
variable {p : Program} {l : Launch} {e : Env} {R : Room} {s : State} {m : MethodId} {args : Array Value} {below : List Frame} {meth : Method} {c : Code} {H : Heap} {locs : List Loc} {cells slots : Nat} {Q : State → Prop}
/-- a loop that makes cells: each time the same number -/
theorem n_loop (P : Nat → JFrame → Heap → List Loc → Prop) (N kc ks : Nat) {g0 : JFrame} (h0 : P 0 g0 H locs) (k : ∀ i, i < N → (∀ g H locs, P (i + 1) g H locs → W p l e R s m args below meth c H locs (cells + (i + 1) * kc) (slots + (i + 1) * ks) Q g) → ∀ g H locs, P i g H locs → W p l e R s m args below meth c H locs (cells + i * kc) (slots + i * ks) Q g) (kend : ∀ g H locs, P N g H locs → W p l e R s m args below meth c H locs (cells + N * kc) (slots + N * ks) Q g) : W p l e R s m args below meth c H locs cells slots Q g0 := by
  have key : ∀ d i, i + d = N → ∀ g H locs, P i g H locs → W p l e R s m args below meth c H locs (cells + i * kc) (slots + i * ks) Q g := by
    intro d
    induction d with
    | zero =>
      intro i hi
      have e : i = N := by omega
      subst e
      exact kend
    | succ d ih => exact fun i hi => k i (by omega) (ih (i + 1) (by omega))
  have w := key N 0 (by omega) g0 H locs h0
  rw [Nat.zero_mul, Nat.zero_mul] at w
  exact w
end NL

theorem n_cs {K : Nat → Nat} {cs cs' : Nat → ClassId} {D : Nat} {F : Nat → va_E} (hI : s_I K cs D F) (hz : ∀ a, K a ≠ 1 ∧ K a ≠ 7) (hc : ∀ i, i < 20 → cs' i = cs i) : s_I K cs' D F := fun a => by
  have q := hI a
  by_cases e1 : K a = 1
  · exact absurd e1 (hz a).1
  by_cases e2 : K a = 2
  · rw [e2] at q ⊢
    exact (show ok_2 K cs D (F a) from q)
  by_cases e3 : K a = 3
  · rw [e3] at q ⊢
    exact (show ok_3 K cs D (F a) from q)
  by_cases e4 : K a = 4
  · rw [e4] at q ⊢
    exact (show ok_4 K cs D (F a) from q)
  by_cases e5 : K a = 5
  · rw [e5] at q ⊢
    exact (show ok_5 K cs D (F a) from q)
  by_cases e6 : K a = 6
  · rw [e6] at q ⊢
    exact (show ok_6 K cs D (F a) from q)
  by_cases e7 : K a = 7
  · exact absurd e7 (hz a).2
  by_cases e8 : K a = 8
  · rw [e8] at q ⊢
    exact (show ok_8 K cs D (F a) from q)
  by_cases e20 : K a = 20
  · rw [e20] at q ⊢
    obtain ⟨f, o, h⟩ := q
    exact ⟨f, by rw [hc 1 (by decide)]; exact o, h⟩
  by_cases e21 : K a = 21
  · rw [e21] at q ⊢
    obtain ⟨f, o, h⟩ := q
    exact ⟨f, by rw [hc 0 (by decide)]; exact o, h⟩
  by_cases e22 : K a = 22
  · rw [e22] at q ⊢
    obtain ⟨f, o, h⟩ := q
    exact ⟨f, by rw [hc 5 (by decide)]; exact o, h⟩
  by_cases e23 : K a = 23
  · rw [e23] at q ⊢
    obtain ⟨f, o, h⟩ := q
    exact ⟨f, by rw [hc 0 (by decide)]; exact o, h⟩
  by_cases e24 : K a = 24
  · rw [e24] at q ⊢
    obtain ⟨f, o, h⟩ := q
    exact ⟨f, by rw [hc 0 (by decide)]; exact o, h⟩
  by_cases e25 : K a = 25
  · rw [e25] at q ⊢
    obtain ⟨f, o, h⟩ := q
    exact ⟨f, by rw [hc 2 (by decide)]; exact o, h⟩
  by_cases e26 : K a = 26
  · rw [e26] at q ⊢
    obtain ⟨f, o, h⟩ := q
    exact ⟨f, by rw [hc 3 (by decide)]; exact o, h⟩
  by_cases e27 : K a = 27
  · rw [e27] at q ⊢
    obtain ⟨f, o, h⟩ := q
    exact ⟨f, by rw [hc 0 (by decide)]; exact o, h⟩
  by_cases e28 : K a = 28
  · rw [e28] at q ⊢
    obtain ⟨f, o, h⟩ := q
    exact ⟨f, by rw [hc 0 (by decide)]; exact o, h⟩
  by_cases e29 : K a = 29
  · rw [e29] at q ⊢
    obtain ⟨f, o, h⟩ := q
    exact ⟨f, by rw [hc 0 (by decide)]; exact o, h⟩
  by_cases e30 : K a = 30
  · rw [e30] at q ⊢
    obtain ⟨f, o, h⟩ := q
    exact ⟨f, by rw [hc 0 (by decide)]; exact o, h⟩
  by_cases e31 : K a = 31
  · rw [e31] at q ⊢
    obtain ⟨f, o, h⟩ := q
    exact ⟨f, by rw [hc 0 (by decide)]; exact o, h⟩
  by_cases e32 : K a = 32
  · rw [e32] at q ⊢
    obtain ⟨f, o, h⟩ := q
    exact ⟨f, by rw [hc 0 (by decide)]; exact o, h⟩
  by_cases e33 : K a = 33
  · rw [e33] at q ⊢
    obtain ⟨f, o, h⟩ := q
    exact ⟨f, by rw [hc 4 (by decide)]; exact o, h⟩
  by_cases e34 : K a = 34
  · rw [e34] at q ⊢
    obtain ⟨f, o, h⟩ := q
    exact ⟨f, by rw [hc 0 (by decide)]; exact o, h⟩
  by_cases e35 : K a = 35
  · rw [e35] at q ⊢
    obtain ⟨f, o, h⟩ := q
    exact ⟨f, by rw [hc 0 (by decide)]; exact o, h⟩
  by_cases e36 : K a = 36
  · rw [e36] at q ⊢
    obtain ⟨f, o, h⟩ := q
    exact ⟨f, by rw [hc 0 (by decide)]; exact o, h⟩
  by_cases e37 : K a = 37
  · rw [e37] at q ⊢
    obtain ⟨f, o, h⟩ := q
    exact ⟨f, by rw [hc 0 (by decide)]; exact o, h⟩
  by_cases e38 : K a = 38
  · rw [e38] at q ⊢
    obtain ⟨f, o, h⟩ := q
    exact ⟨f, by rw [hc 0 (by decide)]; exact o, h⟩
  by_cases e39 : K a = 39
  · rw [e39] at q ⊢
    obtain ⟨f, o, h⟩ := q
    exact ⟨f, by rw [hc 0 (by decide)]; exact o, h⟩
  by_cases e42 : K a = 42
  · rw [e42] at q ⊢
    obtain ⟨f, o, h⟩ := q
    exact ⟨f, by rw [hc 5 (by decide)]; exact o, h⟩
  by_cases e43 : K a = 43
  · rw [e43] at q ⊢
    obtain ⟨f, o, h⟩ := q
    exact ⟨f, by rw [hc 0 (by decide)]; exact o, h⟩
  refine s_okn (fun h => ?_)
  rcases (show K a = 1 ∨ K a = 2 ∨ K a = 3 ∨ K a = 4 ∨ K a = 5 ∨ K a = 6 ∨ K a = 7 ∨ K a = 8 ∨ K a = 20 ∨ K a = 21 ∨ K a = 22 ∨ K a = 23 ∨ K a = 24 ∨ K a = 25 ∨ K a = 26 ∨ K a = 27 ∨ K a = 28 ∨ K a = 29 ∨ K a = 30 ∨ K a = 31 ∨ K a = 32 ∨ K a = 33 ∨ K a = 34 ∨ K a = 35 ∨ K a = 36 ∨ K a = 37 ∨ K a = 38 ∨ K a = 39 ∨ K a = 42 ∨ K a = 43 from by simpa using h) with h | h | h | h | h | h | h | h | h | h | h | h | h | h | h | h | h | h | h | h | h | h | h | h | h | h | h | h | h | h
  · exact e1 h
  · exact e2 h
  · exact e3 h
  · exact e4 h
  · exact e5 h
  · exact e6 h
  · exact e7 h
  · exact e8 h
  · exact e20 h
  · exact e21 h
  · exact e22 h
  · exact e23 h
  · exact e24 h
  · exact e25 h
  · exact e26 h
  · exact e27 h
  · exact e28 h
  · exact e29 h
  · exact e30 h
  · exact e31 h
  · exact e32 h
  · exact e33 h
  · exact e34 h
  · exact e35 h
  · exact e36 h
  · exact e37 h
  · exact e38 h
  · exact e39 h
  · exact e42 h
  · exact e43 h

