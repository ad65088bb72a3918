/-! the pool: all cells of both sides, by address; what a cell is, by its kind -/
theorem th_at {L : List Nat} {F : Nat → va_E} {a : Nat} (h : a ∈ L) : ∃ k : Nat, (va_pl L F)[k]? = some (a, F a) := va_pl_get (X := []) h
theorem th_set {A : Nat → Prop} {L : List Nat} {F : Nat → va_E} {a k : Nat} {e : va_E} (hD : va_D A (va_pl L F)) (h : a ∈ L) (hk : (va_pl L F)[k]? = some (a, F a)) : (va_pl L F).set k (a, e) = va_pl L (va_up F a e) := va_pl_set (X := []) hD h hk
theorem th_up {α : Type} {F : Nat → α} {a : Nat} {e : α} : va_up F a e a = e := if_pos rfl
theorem th_ne {α : Type} {F : Nat → α} {a b : Nat} {e x : α} (h : b ≠ a) (q : F b = x) : va_up F a e b = x := (if_neg h).trans q
theorem th_kd {K : Nat → Nat} {a b i j : Nat} (h1 : K a = i) (h2 : K b = j) (h : i ≠ j) : a ≠ b := fun e => h (by rw [← h1, ← h2, e])
section TH
variable {p : Program} {l : Launch} {e : Env} {R : Room} {s : State} {m : MethodId} {args : Array Value} {below : List Frame} {meth : Method} {c : Code} {H : Heap} {locs : List Loc} {cells slots : Nat} {Q : State → Prop}
variable {cc : ByteArray} {pc : Nat} {ls : Array Slot} {rest : List Value} {D : va_G} {cl : List vw_C} {A : Nat → Prop} {a : Nat} {tys : List (ClassId × FieldType)} {H0 : Heap} {L : List Nat} {F : Nat → va_E}
theorem th_get (hexec : p.tables.exec = Jvm.exec) (hb : c.code = cc) {own ref C : String} {T : u_T} {N ci index : Nat} {Ts : List Cond} (hts : ∀ w ∈ Ts, w.before args s = true) (hin : ∀ w ∈ u_ws C T N, w ∈ Ts) (hown : s.vm.findClass own = some m.cls) (hK : va_K D cl tys s) (hP : va_P D cl (va_pl L F) H) (ha : a ∈ L) {fs : List Value} (he : F a = .inr (ci, fs)) (hc : cl[ci]? = some (C, T, N)) (k : Nat) (hk : k < N) (hlink : (Cond.fieldLink own index ref (T k).2.1 (T k).2.2.1).before args s = true) (hsame : ∀ x, s.fieldFound? (T k).1 (T k).2.1 (T k).2.2.1 = some x → s.fieldFound? ref (T k).2.1 (T k).2.2.1 = some x) {v : Value} (hv : fs[k]? = some v) (hdg : decode cc pc = .ok (.getfield index, 3))
    (kk : W p l e R s m args below meth c H locs cells slots Q (F0 m (pc + 3) ls (v :: rest))) : W p l e R s m args below meth c H locs cells slots Q (F0 m pc ls (.ref a :: rest)) := by
  obtain ⟨q0, hq⟩ := th_at (F := F) ha
  rw [he] at hq
  exact va_get hexec hb hts hin hown hK hP q0 hq hc k hk hlink hsame hv hdg kk
theorem th_getN (hexec : p.tables.exec = Jvm.exec) (hb : c.code = cc) {own ref C host : String} {T : u_T} {N ci index : Nat} {Ts : List Cond} (hts : ∀ w ∈ Ts, w.before args s = true) (hin : ∀ w ∈ u_ws C T N, w ∈ Ts) (hown : s.vm.findClass own = some m.cls) (hK : va_K D cl tys s) (hP : va_P D cl (va_pl L F) H) (ha : a ∈ L) {fs : List Value} (he : F a = .inr (ci, fs)) (hc : cl[ci]? = some (C, T, N)) (k : Nat) (hk : k < N) (hlink : (Cond.fieldLinkNest own index ref (T k).2.1 (T k).2.2.1 host).before args s = true) (hsame : ∀ x, s.fieldFound? (T k).1 (T k).2.1 (T k).2.2.1 = some x → s.fieldFound? ref (T k).2.1 (T k).2.2.1 = some x) {v : Value} (hv : fs[k]? = some v) (hdg : decode cc pc = .ok (.getfield index, 3))
    (kk : W p l e R s m args below meth c H locs cells slots Q (F0 m (pc + 3) ls (v :: rest))) : W p l e R s m args below meth c H locs cells slots Q (F0 m pc ls (.ref a :: rest)) := by
  obtain ⟨q0, hq⟩ := th_at (F := F) ha
  rw [he] at hq
  exact va_getN hexec hb hts hin hown hK hP q0 hq hc k hk hlink hsame hv hdg kk
theorem th_put (hexec : p.tables.exec = Jvm.exec) (hb : c.code = cc) {own ref C : String} {T : u_T} {N ci index : Nat} {Ts : List Cond} (hts : ∀ w ∈ Ts, w.before args s = true) (hin : ∀ w ∈ u_ws C T N, w ∈ Ts) (ty0 : Nat → FieldType) (hty : ∀ k, k < N → parseFieldDescriptor (T k).2.2.1 = some (ty0 k)) (hnm : ∀ a, a < N → ∀ b, b < N → a ≠ b → (T a).2.1 ≠ (T b).2.1) (hown : s.vm.findClass own = some m.cls) (hK : va_K D cl tys s) (hP : va_P D cl (va_pl L F) H) (hD : ∀ G, va_D A (va_pl L G)) (hS0 : va_S A H0 H locs) (ha : a ∈ L) {fs : List Value} (he : F a = .inr (ci, fs)) (hc : cl[ci]? = some (C, T, N)) (k : Nat) (hk : k < N) (hlink : (Cond.fieldLink own index ref (T k).2.1 (T k).2.2.1).before args s = true) (hsame : ∀ x, s.fieldFound? (T k).1 (T k).2.1 (T k).2.2.1 = some x → s.fieldFound? ref (T k).2.1 (T k).2.2.1 = some x) (hfin : (T k).2.2.2 = false) {ty : FieldType} {v : Value} (hd : parseFieldDescriptor (T k).2.2.1 = some ty) (hn : narrow ty v = v) (hfit : fits ty v = true) (hl : k < fs.length)
    (hdg : decode cc pc = .ok (.putfield index, 3)) (kk : ∀ (H1 : Heap) (locs1 : List Loc), va_P D cl (va_pl L (va_up F a (.inr (ci, fs.set k v)))) H1 → va_S A H0 H1 locs1 → W p l e R s m args below meth c H1 locs1 cells slots Q (F0 m (pc + 3) ls rest)) : W p l e R s m args below meth c H locs cells slots Q (F0 m pc ls (v :: .ref a :: rest)) := by
  obtain ⟨q0, hq⟩ := th_at (F := F) ha
  have hq2 := hq
  rw [he] at hq
  refine va_put hexec hb hts hin ty0 hty hnm hown hK hP (hD F) hS0 q0 hq hc k hk hlink hsame hfin hd hn hfit hl hdg (fun H1 locs1 h1 _ h3 => kk H1 locs1 ?_ h3)
  rw [th_set (hD F) ha hq2] at h1
  exact h1
theorem th_putN (hexec : p.tables.exec = Jvm.exec) (hb : c.code = cc) {own ref C host : String} {T : u_T} {N ci index : Nat} {Ts : List Cond} (hts : ∀ w ∈ Ts, w.before args s = true) (hin : ∀ w ∈ u_ws C T N, w ∈ Ts) (ty0 : Nat → FieldType) (hty : ∀ k, k < N → parseFieldDescriptor (T k).2.2.1 = some (ty0 k)) (hnm : ∀ a, a < N → ∀ b, b < N → a ≠ b → (T a).2.1 ≠ (T b).2.1) (hown : s.vm.findClass own = some m.cls) (hK : va_K D cl tys s) (hP : va_P D cl (va_pl L F) H) (hD : ∀ G, va_D A (va_pl L G)) (hS0 : va_S A H0 H locs) (ha : a ∈ L) {fs : List Value} (he : F a = .inr (ci, fs)) (hc : cl[ci]? = some (C, T, N)) (k : Nat) (hk : k < N) (hlink : (Cond.fieldLinkNest own index ref (T k).2.1 (T k).2.2.1 host).before args s = true) (hsame : ∀ x, s.fieldFound? (T k).1 (T k).2.1 (T k).2.2.1 = some x → s.fieldFound? ref (T k).2.1 (T k).2.2.1 = some x) (hfin : (T k).2.2.2 = false) {ty : FieldType} {v : Value} (hd : parseFieldDescriptor (T k).2.2.1 = some ty) (hn : narrow ty v = v) (hfit : fits ty v = true) (hl : k < fs.length)
    (hdg : decode cc pc = .ok (.putfield index, 3)) (kk : ∀ (H1 : Heap) (locs1 : List Loc), va_P D cl (va_pl L (va_up F a (.inr (ci, fs.set k v)))) H1 → va_S A H0 H1 locs1 → W p l e R s m args below meth c H1 locs1 cells slots Q (F0 m (pc + 3) ls rest)) : W p l e R s m args below meth c H locs cells slots Q (F0 m pc ls (v :: .ref a :: rest)) := by
  obtain ⟨q0, hq⟩ := th_at (F := F) ha
  have hq2 := hq
  rw [he] at hq
  refine va_putN hexec hb hts hin ty0 hty hnm hown hK hP (hD F) hS0 q0 hq hc k hk hlink hsame hfin hd hn hfit hl hdg (fun H1 locs1 h1 _ h3 => kk H1 locs1 ?_ h3)
  rw [th_set (hD F) ha hq2] at h1
  exact h1
theorem th_iald (hexec : p.tables.exec = Jvm.exec) (hb : c.code = cc) (hK : va_K D cl tys s) (hP : va_P D cl (va_pl L F) H) (ha : a ∈ L) (t0 : Nat) {cA : ClassId} {n : Nat} {f : Nat → Int32} (he : F a = .inl (cA, n, .inl f)) (ht : tys[t0]? = some (cA, .int)) {i : Int32} (hin : vp_in i n) (hdg : decode cc pc = .ok (.iaload, 1)) (kk : W p l e R s m args below meth c H locs cells slots Q (F0 m (pc + 1) ls (.int (f i.toNatClampNeg) :: rest))) : W p l e R s m args below meth c H locs cells slots Q (F0 m pc ls (.int i :: .ref a :: rest)) := by
  obtain ⟨q0, hq⟩ := th_at (F := F) ha
  rw [he] at hq
  exact va_iald hexec hb hK hP q0 t0 hq ht hin hdg kk
theorem th_bald (hexec : p.tables.exec = Jvm.exec) (hb : c.code = cc) (hK : va_K D cl tys s) (hP : va_P D cl (va_pl L F) H) (ha : a ∈ L) (t0 : Nat) {cA : ClassId} {n : Nat} {f : Nat → Int32} (he : F a = .inl (cA, n, .inl f)) (ht : tys[t0]? = some (cA, .byte)) {i : Int32} (hin : vp_in i n) (hdg : decode cc pc = .ok (.baload, 1)) (kk : W p l e R s m args below meth c H locs cells slots Q (F0 m (pc + 1) ls (.int (f i.toNatClampNeg) :: rest))) : W p l e R s m args below meth c H locs cells slots Q (F0 m pc ls (.int i :: .ref a :: rest)) := by
  obtain ⟨q0, hq⟩ := th_at (F := F) ha
  rw [he] at hq
  exact va_bald hexec hb hK hP q0 t0 hq ht hin hdg kk
theorem th_zald (hexec : p.tables.exec = Jvm.exec) (hb : c.code = cc) (hK : va_K D cl tys s) (hP : va_P D cl (va_pl L F) H) (ha : a ∈ L) (t0 : Nat) {cA : ClassId} {n : Nat} {f : Nat → Int32} (he : F a = .inl (cA, n, .inl f)) (ht : tys[t0]? = some (cA, .boolean)) {i : Int32} (hin : vp_in i n) (hdg : decode cc pc = .ok (.baload, 1)) (kk : W p l e R s m args below meth c H locs cells slots Q (F0 m (pc + 1) ls (.int (f i.toNatClampNeg) :: rest))) : W p l e R s m args below meth c H locs cells slots Q (F0 m pc ls (.int i :: .ref a :: rest)) := by
  obtain ⟨q0, hq⟩ := th_at (F := F) ha
  rw [he] at hq
  exact va_zald hexec hb hK hP q0 t0 hq ht hin hdg kk
theorem th_cald (hexec : p.tables.exec = Jvm.exec) (hb : c.code = cc) (hK : va_K D cl tys s) (hP : va_P D cl (va_pl L F) H) (ha : a ∈ L) (t0 : Nat) {cA : ClassId} {n : Nat} {f : Nat → Int32} (he : F a = .inl (cA, n, .inl f)) (ht : tys[t0]? = some (cA, .char)) {i : Int32} (hin : vp_in i n) (hdg : decode cc pc = .ok (.caload, 1)) (kk : W p l e R s m args below meth c H locs cells slots Q (F0 m (pc + 1) ls (.int (f i.toNatClampNeg) :: rest))) : W p l e R s m args below meth c H locs cells slots Q (F0 m pc ls (.int i :: .ref a :: rest)) := by
  obtain ⟨q0, hq⟩ := th_at (F := F) ha
  rw [he] at hq
  exact va_cald hexec hb hK hP q0 t0 hq ht hin hdg kk
theorem th_lald (hexec : p.tables.exec = Jvm.exec) (hb : c.code = cc) (hK : va_K D cl tys s) (hP : va_P D cl (va_pl L F) H) (ha : a ∈ L) (t0 : Nat) {cA : ClassId} {n : Nat} {f : Nat → Int64} (he : F a = .inl (cA, n, .inr (.inl f))) (ht : tys[t0]? = some (cA, .long)) {i : Int32} (hin : vp_in i n) (hdg : decode cc pc = .ok (.laload, 1)) (kk : W p l e R s m args below meth c H locs cells slots Q (F0 m (pc + 1) ls (.long (f i.toNatClampNeg) :: rest))) : W p l e R s m args below meth c H locs cells slots Q (F0 m pc ls (.int i :: .ref a :: rest)) := by
  obtain ⟨q0, hq⟩ := th_at (F := F) ha
  rw [he] at hq
  exact va_lald hexec hb hK hP q0 t0 hq ht hin hdg kk
theorem th_iast (hexec : p.tables.exec = Jvm.exec) (hb : c.code = cc) (hK : va_K D cl tys s) (hP : va_P D cl (va_pl L F) H) (hD : ∀ G, va_D A (va_pl L G)) (hS : va_S A H0 H locs) (ha : a ∈ L) (t0 : Nat) {cA : ClassId} {n : Nat} {f : Nat → Int32} (he : F a = .inl (cA, n, .inl f)) (ht : tys[t0]? = some (cA, .int)) {i : Int32} {x : Int32} (hin : vp_in i n) (hdg : decode cc pc = .ok (.iastore, 1)) (kk : ∀ (H1 : Heap) (locs1 : List Loc), va_P D cl (va_pl L (va_up F a (.inl (cA, n, .inl (upd f i.toNatClampNeg x))))) H1 → va_S A H0 H1 locs1 → W p l e R s m args below meth c H1 locs1 cells slots Q (F0 m (pc + 1) ls rest)) : W p l e R s m args below meth c H locs cells slots Q (F0 m pc ls (.int x :: .int i :: .ref a :: rest)) := by
  obtain ⟨q0, hq⟩ := th_at (F := F) ha
  have hq2 := hq
  rw [he] at hq
  refine va_iast hexec hb hK hP (hD F) hS q0 t0 hq ht hin hdg (fun H1 locs1 h1 _ h3 => kk H1 locs1 ?_ h3)
  rw [th_set (hD F) ha hq2] at h1
  exact h1
theorem th_bast (hexec : p.tables.exec = Jvm.exec) (hb : c.code = cc) (hK : va_K D cl tys s) (hP : va_P D cl (va_pl L F) H) (hD : ∀ G, va_D A (va_pl L G)) (hS : va_S A H0 H locs) (ha : a ∈ L) (t0 : Nat) {cA : ClassId} {n : Nat} {f : Nat → Int32} (he : F a = .inl (cA, n, .inl f)) (ht : tys[t0]? = some (cA, .byte)) {i : Int32} {x : Int32} (hin : vp_in i n) (hdg : decode cc pc = .ok (.bastore, 1)) (kk : ∀ (H1 : Heap) (locs1 : List Loc), va_P D cl (va_pl L (va_up F a (.inl (cA, n, .inl (upd f i.toNatClampNeg (vp_nar .byte x)))))) H1 → va_S A H0 H1 locs1 → W p l e R s m args below meth c H1 locs1 cells slots Q (F0 m (pc + 1) ls rest)) : W p l e R s m args below meth c H locs cells slots Q (F0 m pc ls (.int x :: .int i :: .ref a :: rest)) := by
  obtain ⟨q0, hq⟩ := th_at (F := F) ha
  have hq2 := hq
  rw [he] at hq
  refine va_bast hexec hb hK hP (hD F) hS q0 t0 hq ht hin hdg (fun H1 locs1 h1 _ h3 => kk H1 locs1 ?_ h3)
  rw [th_set (hD F) ha hq2] at h1
  exact h1
theorem th_zast (hexec : p.tables.exec = Jvm.exec) (hb : c.code = cc) (hK : va_K D cl tys s) (hP : va_P D cl (va_pl L F) H) (hD : ∀ G, va_D A (va_pl L G)) (hS : va_S A H0 H locs) (ha : a ∈ L) (t0 : Nat) {cA : ClassId} {n : Nat} {f : Nat → Int32} (he : F a = .inl (cA, n, .inl f)) (ht : tys[t0]? = some (cA, .boolean)) {i : Int32} {x : Int32} (hin : vp_in i n) (hdg : decode cc pc = .ok (.bastore, 1)) (kk : ∀ (H1 : Heap) (locs1 : List Loc), va_P D cl (va_pl L (va_up F a (.inl (cA, n, .inl (upd f i.toNatClampNeg (vp_nar .boolean x)))))) H1 → va_S A H0 H1 locs1 → W p l e R s m args below meth c H1 locs1 cells slots Q (F0 m (pc + 1) ls rest)) : W p l e R s m args below meth c H locs cells slots Q (F0 m pc ls (.int x :: .int i :: .ref a :: rest)) := by
  obtain ⟨q0, hq⟩ := th_at (F := F) ha
  have hq2 := hq
  rw [he] at hq
  refine va_zast hexec hb hK hP (hD F) hS q0 t0 hq ht hin hdg (fun H1 locs1 h1 _ h3 => kk H1 locs1 ?_ h3)
  rw [th_set (hD F) ha hq2] at h1
  exact h1
theorem th_last (hexec : p.tables.exec = Jvm.exec) (hb : c.code = cc) (hK : va_K D cl tys s) (hP : va_P D cl (va_pl L F) H) (hD : ∀ G, va_D A (va_pl L G)) (hS : va_S A H0 H locs) (ha : a ∈ L) (t0 : Nat) {cA : ClassId} {n : Nat} {f : Nat → Int64} (he : F a = .inl (cA, n, .inr (.inl f))) (ht : tys[t0]? = some (cA, .long)) {i : Int32} {x : Int64} (hin : vp_in i n) (hdg : decode cc pc = .ok (.lastore, 1)) (kk : ∀ (H1 : Heap) (locs1 : List Loc), va_P D cl (va_pl L (va_up F a (.inl (cA, n, .inr (.inl (vp_updL f i.toNatClampNeg x)))))) H1 → va_S A H0 H1 locs1 → W p l e R s m args below meth c H1 locs1 cells slots Q (F0 m (pc + 1) ls rest)) : W p l e R s m args below meth c H locs cells slots Q (F0 m pc ls (.long x :: .int i :: .ref a :: rest)) := by
  obtain ⟨q0, hq⟩ := th_at (F := F) ha
  have hq2 := hq
  rw [he] at hq
  refine va_last hexec hb hK hP (hD F) hS q0 t0 hq ht hin hdg (fun H1 locs1 h1 _ h3 => kk H1 locs1 ?_ h3)
  rw [th_set (hD F) ha hq2] at h1
  exact h1
theorem th_aald (hexec : p.tables.exec = Jvm.exec) (hb : c.code = cc) (hK : va_K D cl tys s) (hP : va_P D cl (va_pl L F) H) (ha : a ∈ L) (t0 : Nat) {cA : ClassId} {C : String} {n : Nat} {f : Nat → Option Nat} (he : F a = .inl (cA, n, .inr (.inr (.inr (.inr f))))) (ht : tys[t0]? = some (cA, .object C)) {i : Int32} {x : Nat} (hin : vp_in i n) (hv : f i.toNatClampNeg = some x) (hdg : decode cc pc = .ok (.aaload, 1)) (kk : W p l e R s m args below meth c H locs cells slots Q (F0 m (pc + 1) ls (.ref x :: rest))) : W p l e R s m args below meth c H locs cells slots Q (F0 m pc ls (.int i :: .ref a :: rest)) := by
  obtain ⟨q0, hq⟩ := th_at (F := F) ha
  rw [he] at hq
  refine va_aldq hexec hb hK hP q0 t0 hq ht hin hdg ?_
  rw [hv]
  exact kk
theorem th_alen (hexec : p.tables.exec = Jvm.exec) (hb : c.code = cc) (hK : va_K D cl tys s) (hP : va_P D cl (va_pl L F) H) (ha : a ∈ L) (t0 : Nat) {cA : ClassId} {x : vp_A} (he : F a = .inl (cA, x)) {ty : FieldType} (ht : tys[t0]? = some (cA, ty)) {v : Int32} (hv : Int32.ofNat x.1 = v) (hdg : decode cc pc = .ok (.arraylength, 1)) (kk : W p l e R s m args below meth c H locs cells slots Q (F0 m (pc + 1) ls (.int v :: rest))) : W p l e R s m args below meth c H locs cells slots Q (F0 m pc ls (.ref a :: rest)) := by
  obtain ⟨q0, hq⟩ := th_at (F := F) ha
  rw [he] at hq
  exact va_alen hexec hb hK hP q0 t0 hq ht hv hdg kk
theorem th_join (P : JFrame → Heap → List Loc → Prop) {g0 : JFrame} (k1 : (∀ g H locs, P g H locs → W p l e R s m args below meth c H locs cells slots Q g) → W p l e R s m args below meth c H locs cells slots Q g0) (k2 : ∀ g H locs, P g H locs → W p l e R s m args below meth c H locs cells slots Q g) : W p l e R s m args below meth c H locs cells slots Q g0 := k1 k2
theorem th_loop (P : Nat → JFrame → Heap → List Loc → Prop) (n0 : Nat) {g0 : JFrame} (h0 : P n0 g0 H locs) (k : ∀ n, (∀ m' g H locs, m' < n → P m' g H locs → W p l e R s m args below meth c H locs cells slots Q g) → ∀ g H locs, P n g H locs → W p l e R s m args below meth c H locs cells slots Q g) : W p l e R s m args below meth c H locs cells slots Q g0 := by
  have key : ∀ n g H locs, P n g H locs → W p l e R s m args below meth c H locs cells slots Q g := by
    intro n
    induction n using Nat.strongRecOn with
    | _ n ih => exact fun g H locs h => k n (fun m' g H locs hm h => ih m' hm g H locs h) g H locs h
  exact key n0 g0 H locs h0
end TH

/-- a method's start on the pool -/
def s_W (dC : Nat → ClassId) (dI : Nat → Nat → Nat) (sz : Nat) (L : List Nat) (F : Nat → va_E) (tys : List (ClassId × FieldType)) (U : State) : Prop := U.heap.size = sz ∧ va_P (dC, dI) vwCl (va_pl L F) U.heap ∧ va_K (dC, dI) vwCl tys U ∧ (∀ G, va_D (fun q => q ∈ L) (va_pl L G)) ∧ ax_N U
theorem s_pc {dC : Nat → ClassId} {dI : Nat → Nat → Nat} {sz : Nat} {L : List Nat} {F : Nat → va_E} {tys : List (ClassId × FieldType)} {U U' : State} (h1 : U'.heap = U.heap) (h2 : U.vm = U'.vm) (q : s_W dC dI sz L F tys U) : s_W dC dI sz L F tys U' := by
  obtain ⟨a, b, c, d, e⟩ := q
  exact ⟨by rw [h1]; exact a, by rw [h1]; exact b, va_K.moved (by rw [h2]; exact Vm.Alike.refl _) c, d, ax_Nsame h2 e⟩
theorem s_pw {dC : Nat → ClassId} {dI : Nat → Nat → Nat} {L : List Nat} {F : Nat → va_E} {tys : List (ClassId × FieldType)} {s U : State} {H : Heap} (hU : U.heap = H) (hW : s.WarmedH U.vm) (hP : va_P (dC, dI) vwCl (va_pl L F) H) (hK : va_K (dC, dI) vwCl tys s) (hD : ∀ G, va_D (fun q => q ∈ L) (va_pl L G)) (hN : ax_N s) : s_W dC dI H.size L F tys U :=
  ⟨by rw [hU], by rw [hU]; exact hP, va_K.moved hW.alike hK, hD, ax_Nmoved hW hN⟩
theorem s_recv {s : State} {H : Heap} {D : va_G} {cl : List vw_C} {a ci : Nat} {q : vw_C} {fs : List Value} {L : List Nat} {F : Nat → va_E} {tys : List (ClassId × FieldType)} (hK : va_K D cl tys s) (hP : va_P D cl (va_pl L F) H) (ha : a ∈ L) (hc : cl[ci]? = some q) (he : F a = .inr (ci, fs)) : ∃ cell : Cell, H[a]? = some cell ∧ cell.vm.isStatics = false ∧ s.vm.findClass q.1 = some cell.cls := by
  obtain ⟨k, hk⟩ := th_at (F := F) ha
  rw [he] at hk
  exact va_recv hK hP hc hk
theorem th_add {x y : Int32} {a b : Int} (hx : x.toInt = a) (hy : y.toInt = b) (h : -2147483648 ≤ a + b ∧ a + b < 2147483648) : (x + y).toInt = a + b := by
  subst hx; subst hy
  rw [Int32.toInt_add, Int.bmod_eq_of_le (by omega) (by omega)]
theorem th_sub {x y : Int32} {a b : Int} (hx : x.toInt = a) (hy : y.toInt = b) (h : -2147483648 ≤ a - b ∧ a - b < 2147483648) : (x - y).toInt = a - b := by
  subst hx; subst hy
  rw [Int32.toInt_sub, Int.bmod_eq_of_le (by omega) (by omega)]
theorem th_mul {x y : Int32} {a b : Int} (hx : x.toInt = a) (hy : y.toInt = b) (h : -2147483648 ≤ a * b ∧ a * b < 2147483648) : (x * y).toInt = a * b := by
  subst hx; subst hy
  rw [Int32.toInt_mul, Int.bmod_eq_of_le (by omega) (by omega)]
theorem th_in {i : Int32} {n : Nat} (h : 0 ≤ i.toInt ∧ i.toInt < n) : vp_in i n := vp_in_iff.mpr h
theorem th_cl {i : Int32} {n : Nat} (h : 0 ≤ i.toInt ∧ i.toInt < n) : i.toNatClampNeg < n := by
  have q : i.toInt = (i.toNatClampNeg : Int) := (Int.toNat_of_nonneg h.1).symm
  omega

theorem s_fr {K : Nat → Nat} {F Fc : Nat → va_E} {a k : Nat} {e : va_E} {E : List Nat} (h : ∀ b, K b ∉ E → Fc b = F b) (ha : K a = k) (hm : k ∈ E) : ∀ b, K b ∉ E → va_up Fc a e b = F b := fun b hb => th_ne (fun q => hb (by rw [q, ha]; exact hm)) (h b hb)
theorem s_sub {E1 E2 : List Nat} {x : Nat} (h : ∀ y ∈ E1, y ∈ E2) (hx : x ∈ E1) : x ∈ E2 := h x hx
theorem ax_eq2 {x k : Int32} {n : Int} (hk : k.toInt = n) : k = x ↔ n = x.toInt := by rw [← Int32.toInt_inj, hk]
theorem th_lo (x : Int32) : -2147483648 ≤ x.toInt := Int32.le_toInt x
theorem th_hi (x : Int32) : x.toInt < 2147483648 := Int32.toInt_lt x
theorem th_nn {x : Int32} (h : 0 ≤ x.toInt) : ∃ j : Nat, j < 2147483648 ∧ x = nI j ∧ x.toInt = (j : Int) := by
  have h0 : ¬ x < 0 := fun q => by
    have q2 := Int32.lt_iff_toInt_lt.mp q
    have q3 : (0 : Int32).toInt = 0 := by decide
    omega
  obtain ⟨j, hj, e⟩ := nI_of h0
  exact ⟨j, hj, e, by rw [e]; exact nI_toInt hj⟩
theorem th_and {x m : Int32} {n : Int} (k : Nat) (hm : m.toBitVec.toNat = 2 ^ k - 1) (hn : ((2 ^ k : Nat) : Int) = n + 1 ∧ 2 ^ k ≤ 2147483648) : 0 ≤ (x &&& m).toInt ∧ (x &&& m).toInt ≤ n := by
  obtain ⟨j, hj, e⟩ := pk_andE x k hm
  rw [e, nI_toInt (by omega)]
  omega
theorem th_div {x y : Int32} {a b : Int} (hx : x.toInt = a) (hy : y.toInt = b) (h0 : 0 ≤ a) (hb : 0 < b) : (x / y).toInt = a / b := by
  subst hx; subst hy
  obtain ⟨j, hj, ej, tj⟩ := th_nn h0
  obtain ⟨k, hk, ek, tk⟩ := th_nn (Int.le_of_lt hb)
  rw [tj, tk, ej, ek, pk_div hj (by omega) hk, nI_toInt (Nat.lt_of_le_of_lt (Nat.div_le_self j k) hj)]
  rfl
theorem th_remN {x y : Int32} (h0 : 0 ≤ x.toInt) (hb : 0 < y.toInt) : (x - x / y * y).toInt = x.toInt % y.toInt := by
  obtain ⟨j, hj, ej, tj⟩ := th_nn h0
  obtain ⟨k, hk, ek, tk⟩ := th_nn (Int.le_of_lt hb)
  rw [tj, tk, ej, ek, pk_rem hj (by omega) hk, nI_toInt (Nat.lt_of_lt_of_le (Nat.mod_lt j (by omega)) (Nat.le_of_lt hk))]
  rfl
theorem th_rem {x y : Int32} {a b : Int} (hx : x.toInt = a) (hy : y.toInt = b) (h0 : 0 ≤ a) (hb : 0 < b) : (x - x / y * y).toInt = a % b := by
  subst hx; subst hy
  exact th_remN h0 hb
theorem th_remV {x y : Int32} (h0 : 0 ≤ x.toInt) (hb : 0 < y.toInt) : 0 ≤ (x - x / y * y).toInt ∧ (x - x / y * y).toInt < y.toInt := by
  rw [th_remN h0 hb]
  exact ⟨Int.emod_nonneg _ (by omega), Int.emod_lt_of_pos _ hb⟩
theorem th_tdiv {a b : Int} (hb : 0 < b) : (0 ≤ a → 0 ≤ a.tdiv b ∧ a.tdiv b ≤ a) ∧ (a < 0 → a ≤ a.tdiv b ∧ a.tdiv b ≤ 0) := by
  have key : ∀ n : Int, 0 ≤ n → 0 ≤ n.tdiv b ∧ n.tdiv b ≤ n := fun n hn => by
    rw [Int.tdiv_eq_ediv_of_nonneg hn]
    exact ⟨Int.ediv_nonneg hn (Int.le_of_lt hb), Int.ediv_le_self b hn⟩
  refine ⟨key a, fun h => ?_⟩
  have k := key (-a) (by omega)
  rw [Int.neg_tdiv] at k
  omega
theorem th_tmod {a b : Int} (hb : 0 < b) : (0 ≤ a → 0 ≤ a.tmod b ∧ a.tmod b < b) ∧ (a < 0 → -b < a.tmod b ∧ a.tmod b ≤ 0) := by
  have key : ∀ n : Int, 0 ≤ n → 0 ≤ n.tmod b ∧ n.tmod b < b := fun n hn => by
    rw [Int.tmod_eq_emod_of_nonneg hn]
    exact ⟨Int.emod_nonneg _ (by omega), Int.emod_lt_of_pos _ hb⟩
  refine ⟨key a, fun h => ?_⟩
  have k := key (-a) (by omega)
  rw [Int.neg_tmod] at k
  omega
theorem th_remT {x y : Int32} (hy : 0 < y.toInt) : (x - x / y * y).toInt = x.toInt.tmod y.toInt := by
  have lo := th_lo x
  have hi := th_hi x
  have d := th_tdiv (a := x.toInt) hy
  have t := th_tmod (a := x.toInt) hy
  have e := Int.tmod_def x.toInt y.toInt
  have p1 : 0 ≤ x.toInt → 0 ≤ y.toInt * x.toInt.tdiv y.toInt := fun h => Int.mul_nonneg (by omega) (d.1 h).1
  have p2 : x.toInt < 0 → y.toInt * x.toInt.tdiv y.toInt ≤ 0 := fun h => by
    have q := Int.mul_nonneg (a := y.toInt) (b := -(x.toInt.tdiv y.toInt)) (by omega) (by have := (d.2 h).2; omega)
    rw [Int.mul_neg] at q
    omega
  have hq : (x / y).toInt = x.toInt.tdiv y.toInt := by
    rw [Int32.toInt_div, Int.bmod_eq_of_le (by omega) (by omega)]
  have hm : (x / y * y).toInt = x.toInt.tdiv y.toInt * y.toInt := by
    rw [Int32.toInt_mul, hq, Int.mul_comm, Int.bmod_eq_of_le (by omega) (by omega)]
  rw [Int32.toInt_sub, hm, Int.mul_comm, Int.bmod_eq_of_le (by omega) (by omega)]
  omega
theorem th_remS {x y : Int32} (hy : 0 < y.toInt) : (-y.toInt < (x - x / y * y).toInt ∧ (x - x / y * y).toInt < y.toInt) ∧ (0 ≤ x.toInt → 0 ≤ (x - x / y * y).toInt) ∧ (x.toInt < 0 → (x - x / y * y).toInt ≤ 0) := by
  rw [th_remT hy]
  have t := th_tmod (a := x.toInt) hy
  omega
theorem th_xor {x y : Int32} (hy : 0 ≤ y.toInt) : (0 ≤ x.toInt → 0 ≤ (x ^^^ y).toInt) ∧ (x.toInt < 0 → (x ^^^ y).toInt < 0) := by
  have e1 : (x ^^^ y).toBitVec.msb = (x.toBitVec.msb ^^ y.toBitVec.msb) := by
    rw [Int32.toBitVec_xor, BitVec.msb_xor]
  have a1 := BitVec.msb_eq_toInt (x := x.toBitVec)
  have a2 := BitVec.msb_eq_toInt (x := y.toBitVec)
  have a3 := BitVec.msb_eq_toInt (x := (x ^^^ y).toBitVec)
  have b1 : x.toBitVec.toInt = x.toInt := rfl
  have b2 : y.toBitVec.toInt = y.toInt := rfl
  have b3 : (x ^^^ y).toBitVec.toInt = (x ^^^ y).toInt := rfl
  rw [b1] at a1
  rw [b2] at a2
  rw [b3] at a3
  rw [a1, a2, a3] at e1
  have hy2 : decide (y.toInt < 0) = false := decide_eq_false (by omega)
  rw [hy2, Bool.xor_false] at e1
  have e2 : (x ^^^ y).toInt < 0 ↔ x.toInt < 0 := by
    constructor
    · intro q
      have := (decide_eq_true q).symm.trans e1
      exact of_decide_eq_true this.symm
    · intro q
      exact of_decide_eq_true (e1.trans (decide_eq_true q))
  omega
theorem th_mulB {x y : Int32} {a b : Int} (hx : 0 ≤ x.toInt ∧ x.toInt ≤ a) (hy : 0 ≤ y.toInt ∧ y.toInt ≤ b) (h : a * b < 2147483648) : 0 ≤ (x * y).toInt ∧ (x * y).toInt ≤ a * b := by
  have h1 : 0 ≤ x.toInt * y.toInt := Int.mul_nonneg hx.1 hy.1
  have h2 : x.toInt * y.toInt ≤ a * b := Int.mul_le_mul hx.2 hy.2 hy.1 (by omega)
  rw [th_mul rfl rfl ⟨by omega, by omega⟩]
  exact ⟨h1, h2⟩
theorem th_mmin {v x y : Int32} {a b : Int} (e : v = if y < x then y else x) (hx : x.toInt = a) (hy : y.toInt = b) : (v.toInt = a ∧ a ≤ b) ∨ (v.toInt = b ∧ b ≤ a) := by
  subst hx; subst hy
  by_cases q : y < x
  · rw [if_pos q] at e
    have := Int32.lt_iff_toInt_lt.mp q
    rw [e]; right; exact ⟨rfl, by omega⟩
  · rw [if_neg q] at e
    have := mt Int32.lt_iff_toInt_lt.mpr q
    rw [e]; left; exact ⟨rfl, by omega⟩
theorem th_mmax {v x y : Int32} {a b : Int} (e : v = if x < y then y else x) (hx : x.toInt = a) (hy : y.toInt = b) : (v.toInt = a ∧ b ≤ a) ∨ (v.toInt = b ∧ a ≤ b) := by
  subst hx; subst hy
  by_cases q : x < y
  · rw [if_pos q] at e
    have := Int32.lt_iff_toInt_lt.mp q
    rw [e]; right; exact ⟨rfl, by omega⟩
  · rw [if_neg q] at e
    have := mt Int32.lt_iff_toInt_lt.mpr q
    rw [e]; left; exact ⟨rfl, by omega⟩
theorem th_nz {v : Int32} (h : 0 ≤ v.toInt ∧ v.toInt ≤ 1) : narrow .boolean (.int v) = .int v := by
  rcases (show v.toInt = 0 ∨ v.toInt = 1 by omega) with q | q
  · have e : v = 0 := Int32.toInt_inj.mp (q.trans (by decide))
    rw [e]; rfl
  · have e : v = 1 := Int32.toInt_inj.mp (q.trans (by decide))
    rw [e]; rfl
theorem th_updB {f : Nat → Int32} {n i : Nat} {lo hi : Int} {x : Int32} (h : ∀ j, j < n → lo ≤ (f j).toInt ∧ (f j).toInt ≤ hi) (hx : lo ≤ x.toInt ∧ x.toInt ≤ hi) : ∀ j, j < n → lo ≤ (upd f i x j).toInt ∧ (upd f i x j).toInt ≤ hi := fun j hj => by
  unfold upd
  by_cases q : j = i
  · rw [if_pos q]; exact hx
  · rw [if_neg q]; exact h j hj
theorem th_updJ {f : Nat → Int32} {i j : Nat} {x : Int32} {P : Int32 → Prop} (h : P (f j)) (hx : i = j → P x) : P (upd f i x j) := by
  unfold upd
  by_cases q : j = i
  · rw [if_pos q]; exact hx q.symm
  · rw [if_neg q]; exact h
theorem th_tn {i : Int32} {j : Nat} (h : 0 ≤ i.toInt) (e : i.toNatClampNeg = j) : i.toInt = (j : Int) := by
  have q : i.toInt = (i.toNatClampNeg : Int) := (Int.toNat_of_nonneg h).symm
  omega
section TH2
variable {p : Program} {l : Launch} {e : Env} {R : Room} {s : State} {m : MethodId} {args : Array Value} {below : List Frame} {meth : Method} {c : Code} {H : Heap} {locs : List Loc} {cells slots : Nat} {Q : State → Prop}
variable {cc : ByteArray} {pc : Nat} {ls : Array Slot} {rest : List Value} {D : va_G} {cl : List vw_C} {A : Nat → Prop} {a : Nat} {tys : List (ClassId × FieldType)} {H0 : Heap} {L : List Nat} {F : Nat → va_E}
theorem s_gen {g : JFrame} {ws : va_W} (hP : va_P D cl ws H) (hS : va_S A H0 H locs) (kk : ∀ (H1 : Heap) (locs1 : List Loc), va_P D cl ws H1 → va_S A H0 H1 locs1 → W p l e R s m args below meth c H1 locs1 cells slots Q g) : W p l e R s m args below meth c H locs cells slots Q g := kk H locs hP hS
theorem th_aaldA (hexec : p.tables.exec = Jvm.exec) (hb : c.code = cc) (hK : va_K D cl tys s) (hP : va_P D cl (va_pl L F) H) (ha : a ∈ L) (t0 : Nat) {cA : ClassId} {ty : FieldType} {n : Nat} {f : Nat → Option Nat} (he : F a = .inl (cA, n, .inr (.inr (.inr (.inr f))))) (ht : tys[t0]? = some (cA, .array ty)) {i : Int32} {x : Nat} (hin : vp_in i n) (hv : f i.toNatClampNeg = some x) (hdg : decode cc pc = .ok (.aaload, 1)) (kk : W p l e R s m args below meth c H locs cells slots Q (F0 m (pc + 1) ls (.ref x :: rest))) : W p l e R s m args below meth c H locs cells slots Q (F0 m pc ls (.int i :: .ref a :: rest)) := by
  obtain ⟨q0, hq⟩ := th_at (F := F) ha
  rw [he] at hq
  have hlt : i.toNatClampNeg < n := Nat.not_le.mp fun q => hin (Or.inr q)
  refine W.aald (v := va_rf (f i.toNatClampNeg)) (ty := .array ty) hexec hb (hP q0 _ hq) ((hK.2 t0 _ ht).1 n (fun j => va_rf (f j))) rfl (fun q => by cases q) (by show ¬ (i < 0 ∨ (arrV _ _ _).slots.size ≤ _); rw [arrV_size]; exact hin) (by show (arrV _ _ _).slots[_]? = _; rw [arrV_read _ _ hlt]) rfl rfl hdg ?_
  rw [hv]
  exact kk
theorem th_copy (hexec : p.tables.exec = Jvm.exec) (hb : c.code = cc) (hml : c.maxLocals = ls.size) {own : String} {index : Nat} (hown : s.vm.findClass own = some m.cls) (hlink : (Cond.methodLink own index arraycopyName).before args s = true) (hnat : (Cond.native arraycopyName).before args s = true) (hstat : (Cond.static arraycopyName).before args s = true) (hini : (Cond.initialized "java/lang/System").before args s = true)
    (hK : va_K D cl tys s) (hP : va_P D cl (va_pl L F) H) (hD : ∀ G, va_D A (va_pl L G)) (hS : va_S A H0 H locs) {a0 : Nat} (hm0 : a0 ∈ L) (hm1 : a ∈ L) (t0 t1 : Nat) {c0 c1 : ClassId} {n0 n1 : Nat} {f g : Nat → Int32} (ha0 : F a0 = .inl (c0, n0, .inl f)) (ha1 : F a = .inl (c1, n1, .inl g)) (ht0 : tys[t0]? = some (c0, .int)) (ht1 : tys[t1]? = some (c1, .int))
    {sp dp n : Int32} (h1 : ¬ sp < 0) (h2 : ¬ dp < 0) (h3 : ¬ n < 0) (h4 : sp.toNatClampNeg + n.toNatClampNeg ≤ n0) (h5 : dp.toNatClampNeg + n.toNatClampNeg ≤ n1) (hfit : ∀ i, i < n.toNatClampNeg → fits .int (.int (f (sp.toNatClampNeg + i))) = true)
    (hframes : 1 ≤ R.frames) (hlocals : (rest.map fun v => v.category).sum + (nativeFrameWords "java/lang/System" "arraycopy" 5 + 11) ≤ R.locals) (hdg : decode cc pc = .ok (.invokestatic index, 3))
    (kk : ∀ (H1 : Heap) (locs1 : List Loc), va_P D cl (va_pl L (va_up F a (.inl (c1, n1, .inl (va_cpy f g sp.toNatClampNeg dp.toNatClampNeg n.toNatClampNeg))))) H1 → va_S A H0 H1 locs1 → W p l e R s m args below meth c H1 locs1 cells slots Q (F0 m (pc + 3) ls rest)) : W p l e R s m args below meth c H locs cells slots Q (F0 m pc ls (.int n :: .int dp :: .ref a :: .int sp :: .ref a0 :: rest)) := by
  obtain ⟨q0, hq0⟩ := th_at (F := F) hm0
  obtain ⟨q1, hq1⟩ := th_at (F := F) hm1
  have hq2 := hq1
  rw [ha0] at hq0
  rw [ha1] at hq1
  refine va_copyi hexec hb hml hown hlink hnat hstat hini hK hP (hD F) hS q0 q1 t0 t1 hq0 hq1 ht0 ht1 rfl h1 h2 h3 h4 h5 hfit hframes hlocals hdg (fun H1 locs1 h1 _ h3 => kk H1 locs1 ?_ h3)
  rw [th_set (hD F) hm1 hq2] at h1
  exact h1
end TH2
theorem th_cln {i : Int32} {n : Int} (h : 0 ≤ i.toInt) (hn : i.toInt < n) : (i.toNatClampNeg : Int) < n := by
  have q : i.toInt = (i.toNatClampNeg : Int) := (Int.toNat_of_nonneg h).symm
  omega
theorem th_updE {f : Nat → Int32} {i : Nat} {x : Int32} : upd f i x i = x := if_pos rfl
theorem th_updN {f : Nat → Int32} {i j : Int32} {x : Int32} (hi : 0 ≤ i.toInt) (hj : 0 ≤ j.toInt) (h : i.toInt ≠ j.toInt) : upd f j.toNatClampNeg x i.toNatClampNeg = f i.toNatClampNeg := if_neg fun q => h ((th_tn hi q).trans (th_tn hj rfl).symm)
/-- a method whose class's name isn't plain, but that is no native one -/
theorem th_ofW {l : Launch} {y : MethodName} {ws ws' : List Cond} {rm : Room} {Pc : Array Value → State → Prop} {Qc : Array Value → State → Outcome → State → Prop} {mc ms : Nat} {free : Addr → Prop} {cc : ByteArray} {maxL : Nat} {ret : Option FieldType} (hy : plainFor y = true) (hw : ws = Cond.code y cc maxL ret :: ws') (body : ∀ p e s m args below meth c s₁, BodyLoose p l y (headSpec ws rm) cc maxL ret e s m args below meth c s₁ → c.maxLocals = maxL → Pc args s → W p l e (headSpec ws rm).room s m args below meth c s.heap [] 0 0 (MQ below Qc args s mc ms free) (entryFrame m args maxL)) : Met l y ws rm Pc Qc mc ms free := by
  refine MetFree.of_bodySF (code := cc) (maxLocals := maxL) (ret := ret) hy ?_ ?_
  · intro args s m h hn
    obtain ⟨meth, c, h1, h2, h3, h4, h5, h6, -, -⟩ := Cond.code_spec hn (atoms_spec (ws := ws) h _ (by rw [hw]; exact List.mem_cons_self))
    exact ⟨meth, c, h1, h2, h3, h4, h5, h6⟩
  · intro p e s m args below meth c s₁ B hml hP _
    obtain ⟨t, a1, o, b1, b2, b3⟩ := body p e s m args below meth c s₁ B hml hP s₁ (by rw [B.state]; rfl) (Stand.of_body B)
    exact ⟨t, o, a1, b1, b2, ⟨b3.1, b3.2⟩⟩

/-! long numbers -/
theorem th_i64 (x : Int32) : x.toInt64.toInt = x.toInt := Int32.toInt_toInt64 x
theorem th_l32 {x : Int64} (h : -2147483648 ≤ x.toInt ∧ x.toInt < 2147483648) : x.toInt32.toInt = x.toInt := by
  rw [Int64.toInt_toInt32]
  exact Int.bmod_eq_of_le (by omega) (by omega)
theorem th_loL (x : Int64) : -9223372036854775808 ≤ x.toInt := Int64.le_toInt x
theorem th_hiL (x : Int64) : x.toInt < 9223372036854775808 := Int64.toInt_lt x
theorem th_remTL {x y : Int64} (hy : 0 < y.toInt) : (x - x / y * y).toInt = x.toInt.tmod y.toInt := by
  have lo := th_loL x
  have hi := th_hiL x
  have d := th_tdiv (a := x.toInt) hy
  have t := th_tmod (a := x.toInt) hy
  have e := Int.tmod_def x.toInt y.toInt
  have p1 : 0 ≤ x.toInt → 0 ≤ y.toInt * x.toInt.tdiv y.toInt := fun h => Int.mul_nonneg (by omega) (d.1 h).1
  have p2 : x.toInt < 0 → y.toInt * x.toInt.tdiv y.toInt ≤ 0 := fun h => by
    have q := Int.mul_nonneg (a := y.toInt) (b := -(x.toInt.tdiv y.toInt)) (by omega) (by have := (d.2 h).2; omega)
    rw [Int.mul_neg] at q
    omega
  have hq : (x / y).toInt = x.toInt.tdiv y.toInt := by
    rw [Int64.toInt_div, Int.bmod_eq_of_le (by omega) (by omega)]
  have hm : (x / y * y).toInt = x.toInt.tdiv y.toInt * y.toInt := by
    rw [Int64.toInt_mul, hq, Int.mul_comm, Int.bmod_eq_of_le (by omega) (by omega)]
  rw [Int64.toInt_sub, hm, Int.mul_comm, Int.bmod_eq_of_le (by omega) (by omega)]
  omega
theorem th_divL {x y : Int64} (hx : 0 ≤ x.toInt) (hy : 0 < y.toInt) : 0 ≤ (x / y).toInt ∧ (x / y).toInt ≤ x.toInt := by
  have hi := th_hiL x
  have d := (th_tdiv (a := x.toInt) hy).1 hx
  rw [Int64.toInt_div, Int.bmod_eq_of_le (by omega) (by omega)]
  exact d
theorem th_nzL {x : Int32} (h : 1 ≤ x.toInt) : ¬ x.toInt64 = 0 := fun q => by
  have q2 := congrArg Int64.toInt q
  rw [th_i64] at q2
  have q3 : (0 : Int64).toInt = 0 := by decide
  omega
theorem th_andL (d : Int64) : 0 ≤ (d &&& 2147483647).toInt ∧ (d &&& 2147483647).toInt < 2147483648 := by
  have h1 : (d &&& 2147483647).toBitVec.toNat ≤ 2147483647 := by
    rw [Int64.toBitVec_and, BitVec.toNat_and]
    exact Nat.and_le_right
  have h2 : (d &&& 2147483647).toInt = ((d &&& 2147483647).toBitVec.toNat : Int) := BitVec.toInt_eq_toNat_of_lt (by omega)
  omega
theorem th_draw {d : Int64} {x : Int32} (hx : 1 ≤ x.toInt) : 0 ≤ ((d &&& 2147483647) / 64 - (d &&& 2147483647) / 64 / x.toInt64 * x.toInt64).toInt32.toInt ∧ ((d &&& 2147483647) / 64 - (d &&& 2147483647) / 64 / x.toInt64 * x.toInt64).toInt32.toInt < x.toInt := by
  have a := th_andL d
  have b := th_divL (y := 64) a.1 (by decide)
  have c := th_i64 x
  have e := th_remTL (x := (d &&& 2147483647) / 64) (y := x.toInt64) (by omega)
  have t := (th_tmod (a := ((d &&& 2147483647) / 64).toInt) (b := x.toInt64.toInt) (by omega)).1 b.1
  have hi := th_hi x
  rw [th_l32 (by omega), e]
  omega

