/-- what the tables say of nest mates and of arrays of references, carried along -/
def ax_N (U : State) : Prop := va_AO RX5 U ∧ va_Nw (Cond.methodLinkNest RX4 40 yX5_init "LaneWarps") U ∧ (Cond.arrayOver (.array .int)).before #[] U = true ∧ va_Nw (Cond.methodLinkNest RX0 11 yX1_init "LaneWarps") U ∧ va_Nw (Cond.methodLinkNest RX6 15 yX3_init "LaneWarps") U ∧ va_Nw (Cond.methodLinkNest RX6 22 yX2_init "LaneWarps") U ∧ va_AO RX4 U ∧ va_Nw (Cond.methodLinkNest RX6 43 yX1_init "LaneWarps") U ∧ va_Nw (Cond.methodLinkNest RX6 50 yX0_init "LaneWarps") U ∧ va_Nw (Cond.fieldLinkNest RX3 60 "LaneWarps$Program" "lines" "I" "LaneWarps") U ∧ va_Nw (Cond.fieldLinkNest RX6 113 "LaneWarps$Reader" "place" "I" "LaneWarps") U ∧ va_Nw (Cond.fieldLinkNest RX6 110 "LaneWarps$Reader" "fault" "I" "LaneWarps") U ∧ va_Nw (Cond.fieldLinkNest RX6 122 "LaneWarps$State" "done" "I" "LaneWarps") U
theorem ax_Nmoved {s U : State} (hW : s.WarmedH U.vm) (h : ax_N s) : ax_N U := ⟨va_AO.moved hW.alike h.1, va_Nw.warmM hW h.2.1, Jvm.Stand.arrayOver_alikeB hW.alike h.2.2.1, va_Nw.warmM hW h.2.2.2.1, va_Nw.warmM hW h.2.2.2.2.1, va_Nw.warmM hW h.2.2.2.2.2.1, va_AO.moved hW.alike h.2.2.2.2.2.2.1, va_Nw.warmM hW h.2.2.2.2.2.2.2.1, va_Nw.warmM hW h.2.2.2.2.2.2.2.2.1, va_Nw.warmF hW h.2.2.2.2.2.2.2.2.2.1, va_Nw.warmF hW h.2.2.2.2.2.2.2.2.2.2.1, va_Nw.warmF hW h.2.2.2.2.2.2.2.2.2.2.2.1, va_Nw.warmF hW h.2.2.2.2.2.2.2.2.2.2.2.2⟩
theorem ax_Nsame {u U : State} (e : u.vm = U.vm) (h : ax_N u) : ax_N U := ⟨va_AO.moved (by rw [e]; exact Vm.Alike.refl _) h.1, va_Nw.same rfl e h.2.1, Jvm.Stand.arrayOver_alikeB (by rw [e]; exact Vm.Alike.refl _) h.2.2.1, va_Nw.same rfl e h.2.2.2.1, va_Nw.same rfl e h.2.2.2.2.1, va_Nw.same rfl e h.2.2.2.2.2.1, va_AO.moved (by rw [e]; exact Vm.Alike.refl _) h.2.2.2.2.2.2.1, va_Nw.same rfl e h.2.2.2.2.2.2.2.1, va_Nw.same rfl e h.2.2.2.2.2.2.2.2.1, va_Nw.same rfl e h.2.2.2.2.2.2.2.2.2.1, va_Nw.same rfl e h.2.2.2.2.2.2.2.2.2.2.1, va_Nw.same rfl e h.2.2.2.2.2.2.2.2.2.2.2.1, va_Nw.same rfl e h.2.2.2.2.2.2.2.2.2.2.2.2⟩
theorem ax_Nlaw {A : Array Value} {s : State} (hts : ∀ w ∈ lw_tbl, w.before A s = true) : ax_N s := ⟨va_AO.of (hts (Cond.arrayOver (.object RX5)) (List.mem_of_getElem? (i := 158) (by decide +kernel))), va_Nw.of rfl (hts (Cond.methodLinkNest RX4 40 yX5_init "LaneWarps") (List.mem_of_getElem? (i := 160) (by decide +kernel))), hts (Cond.arrayOver (.array .int)) (List.mem_of_getElem? (i := 110) (by decide +kernel)), va_Nw.of rfl (hts (Cond.methodLinkNest RX0 11 yX1_init "LaneWarps") (List.mem_of_getElem? (i := 347) (by decide +kernel))), va_Nw.of rfl (hts (Cond.methodLinkNest RX6 15 yX3_init "LaneWarps") (List.mem_of_getElem? (i := 49) (by decide +kernel))), va_Nw.of rfl (hts (Cond.methodLinkNest RX6 22 yX2_init "LaneWarps") (List.mem_of_getElem? (i := 105) (by decide +kernel))), va_AO.of (hts (Cond.arrayOver (.object RX4)) (List.mem_of_getElem? (i := 291) (by decide +kernel))), va_Nw.of rfl (hts (Cond.methodLinkNest RX6 43 yX1_init "LaneWarps") (List.mem_of_getElem? (i := 294) (by decide +kernel))), va_Nw.of rfl (hts (Cond.methodLinkNest RX6 50 yX0_init "LaneWarps") (List.mem_of_getElem? (i := 342) (by decide +kernel))), va_Nw.of rfl (hts (Cond.fieldLinkNest RX3 60 "LaneWarps$Program" "lines" "I" "LaneWarps") (List.mem_of_getElem? (i := 120) (by decide +kernel))), va_Nw.of rfl (hts (Cond.fieldLinkNest RX6 113 "LaneWarps$Reader" "place" "I" "LaneWarps") (List.mem_of_getElem? (i := 69) (by decide +kernel))), va_Nw.of rfl (hts (Cond.fieldLinkNest RX6 110 "LaneWarps$Reader" "fault" "I" "LaneWarps") (List.mem_of_getElem? (i := 67) (by decide +kernel))), va_Nw.of rfl (hts (Cond.fieldLinkNest RX6 122 "LaneWarps$State" "done" "I" "LaneWarps") (List.mem_of_getElem? (i := 253) (by decide +kernel)))⟩
/-- a method's start: the size of the heap, the cells, the tables -/
def ax_W (dC : Nat → ClassId) (dI : Nat → Nat → Nat) (sz : Nat) (ws : va_W) (tys : List (ClassId × FieldType)) (U : State) : Prop := U.heap.size = sz ∧ va_P (dC, dI) vwCl ws U.heap ∧ va_K (dC, dI) vwCl tys U ∧ va_D (fun _ => True) ws ∧ ax_N U
theorem ax_pc {dC : Nat → ClassId} {dI : Nat → Nat → Nat} {sz : Nat} {ws : va_W} {tys : List (ClassId × FieldType)} {U U' : State} (h1 : U'.heap = U.heap) (h2 : U.vm = U'.vm) (q : ax_W dC dI sz ws tys U) : ax_W dC dI sz ws tys U' := by
  obtain ⟨a, b, c, d, e⟩ := q
  exact ⟨by rw [h1]; exact a, by rw [h1]; exact b, va_K.moved (by rw [h2]; exact Vm.Alike.refl _) c, d, ax_Nsame h2 e⟩
theorem ax_pw {dC : Nat → ClassId} {dI : Nat → Nat → Nat} {ws : va_W} {tys : List (ClassId × FieldType)} {s U : State} {H : Heap} {A : Nat → Prop} (hU : U.heap = H) (hW : s.WarmedH U.vm) (hP : va_P (dC, dI) vwCl ws H) (hK : va_K (dC, dI) vwCl tys s) (hD : va_D A ws) (hN : ax_N s) : ax_W dC dI H.size ws tys U :=
  ⟨by rw [hU], by rw [hU]; exact hP, va_K.moved hW.alike hK, hD.weaken (fun _ _ _ _ => trivial), ax_Nmoved hW hN⟩
theorem ax_gT {c1 : Cond} (h : c1 ∈ T0) : GoodIn T0 (c1 :: T0) := fun w hw => (List.mem_cons.mp hw).elim (fun e => by rw [e]; exact ⟨h, good_of_word (List.all_eq_true.mp ax_good _ h)⟩) (fun q => ⟨q, good_of_word (List.all_eq_true.mp ax_good _ q)⟩)
theorem ax_gA {ws : List Cond} (h : ∀ w ∈ ws, w ∈ T0) : GoodIn T0 ws := fun w hw => ⟨h w hw, good_of_word (List.all_eq_true.mp ax_good _ (h w hw))⟩
theorem ax_gV {own : String} {idx : Nat} {C : String} {y : MethodName} {c1 : Cond} (h1 : Cond.methodLink own idx y ∈ T0) (h2 : Cond.instanceMethod y ∈ T0) (h3 : Cond.selects C y y ∈ T0) (h4 : Cond.initialized C ∈ T0) (h5 : c1 ∈ T0) : GoodIn T0 (wsV own idx C y (c1 :: T0)) := ax_gA (fun w hw => by
  unfold wsV at hw
  simp only [List.cons_append, List.nil_append, List.mem_cons] at hw
  rcases hw with rfl | rfl | rfl | rfl | rfl | hw
  · exact h1
  · exact h2
  · exact h3
  · exact h4
  · exact h5
  · exact hw)
theorem ax_gS {own : String} {idx : Nat} {y : MethodName} {c1 : Cond} (h1 : Cond.methodLink own idx y ∈ T0) (h2 : Cond.static y ∈ T0) (h4 : Cond.initialized own ∈ T0) (h5 : c1 ∈ T0) : GoodIn T0 (wsS own idx y (c1 :: T0)) := ax_gA (fun w hw => by
  unfold wsS at hw
  simp only [List.cons_append, List.nil_append, List.mem_cons] at hw
  rcases hw with rfl | rfl | rfl | rfl | hw
  · exact h1
  · exact h2
  · exact h4
  · exact h5
  · exact hw)
theorem ax_in {i : Int32} {n : Nat} (h : ¬ (i < 0 ∨ n ≤ i.toNatClampNeg)) : vp_in i n := h
theorem ax_upd0 {k : Nat} : upd (fun _ => (0 : Int32)) k 0 = fun _ => 0 := by
  funext j
  simp [upd]
theorem ax_lt {x k : Int32} {n : Int} (hk : k.toInt = n) : x < k ↔ x.toInt < n := by rw [Int32.lt_iff_toInt_lt, hk]
theorem ax_gt {x k : Int32} {n : Int} (hk : k.toInt = n) : k < x ↔ n < x.toInt := by rw [Int32.lt_iff_toInt_lt, hk]
theorem ax_le {x k : Int32} {n : Int} (hk : k.toInt = n) : x ≤ k ↔ x.toInt ≤ n := by rw [Int32.le_iff_toInt_le, hk]
theorem ax_ge {x k : Int32} {n : Int} (hk : k.toInt = n) : k ≤ x ↔ n ≤ x.toInt := by rw [Int32.le_iff_toInt_le, hk]
theorem ax_eq {x k : Int32} {n : Int} (hk : k.toInt = n) : x = k ↔ x.toInt = n := by rw [← Int32.toInt_inj, hk]
/-- what the reference's isIn answers -/
def a_isIn (v a b : Int64) : Int32 := if v.toInt < a.toInt ∨ b.toInt < v.toInt then 0 else 1
theorem ax_isIn {r x : Int32} {a b : Int64} {m n : Int} (ha : a.toInt = m) (hb : b.toInt = n) (e : r = a_isIn x.toInt64 a b) : r = 0 ↔ (x.toInt < m ∨ n < x.toInt) := by
  rw [e]
  unfold a_isIn
  rw [ha, hb, Int32.toInt_toInt64]
  by_cases h : x.toInt < m ∨ n < x.toInt
  · rw [if_pos h]
    exact ⟨fun _ => h, fun _ => rfl⟩
  · rw [if_neg h]
    exact ⟨fun q => absurd q (by decide), fun q => absurd q h⟩
/-- what the first call of has, status, fault, end, seed answers -/
def a_has (x : Int32) : Int32 := if x.toInt < 0 ∨ 13 < x.toInt then -1 else 0
def a_status (x : Int32) : Int32 := if x.toInt < 0 ∨ 5 < x.toInt then -1 else 0
def a_fault (x : Int32) : Int32 := if x.toInt = 0 then 0 else -1
def a_end (x : Int32) : Int32 := if x.toInt < 0 ∨ 0 < x.toInt then 0 else 1
def a_seed (x : Int32) : Int32 := if x.toInt < 0 then 0 else 1
theorem ax_short {L : Nat} (h : L < 6) : Int32.ofNat L - 6 < 0 := by
  have q : ∀ k, k < 6 → Int32.ofNat k - 6 < 0 := by decide
  exact q L h
theorem ax_in6 {i : Int32} {L k : Nat} (h : i = nI k ∧ k < 6) (hL : L = 6) : vp_in i L := by
  obtain ⟨rfl, h⟩ := h
  subst hL
  exact vp_in_nI h (by decide)
section AXW
variable {p : Program} {l : Launch} {e : Env} {R : Room} {s : State} {m : MethodId} {args : Array Value} {below : List Frame} {meth : Method} {c : Code} {H : Heap} {locs : List Loc} {cells slots : Nat} {Q : State → Prop}
variable {cc : ByteArray} {pc : Nat} {ls : Array Slot} {rest : List Value} {D : va_G} {cl : List vw_C} {A : Nat → Prop} {ws : va_W} {H0 : Heap}
theorem ax_eqi {x y : Int32} (h : x = y) (k : W p l e R s m args below meth c H locs cells slots Q (F0 m pc ls (.int y :: rest))) : W p l e R s m args below meth c H locs cells slots Q (F0 m pc ls (.int x :: rest)) := by
  subst h
  exact k
theorem ax_gen {g : JFrame} (hP : va_P D cl ws H) (hD : va_D A ws) (hS : va_S A H0 H locs) (kk : ∀ (H1 : Heap) (locs1 : List Loc), va_P D cl ws H1 → va_D A ws → va_S A H0 H1 locs1 → W p l e R s m args below meth c H1 locs1 cells slots Q g) : W p l e R s m args below meth c H locs cells slots Q g := kk H locs hP hD hS
/-- new int[n][k]: what comes is forgotten, what was there stays -/
theorem ax_mna (hexec : p.tables.exec = Jvm.exec) (hb : c.code = cc) {own : String} {index : Nat} {ty : FieldType} (hown : s.vm.findClass own = some m.cls) (hclink : (Cond.classLink own index ("[" ++ (FieldType.array ty).toString)).before args s = true) (hover : (Cond.arrayOver (.array ty)).before #[] s = true) (harr : (Cond.arrayClass ty).before args s = true)
    (hP : va_P D cl ws H) (hD : va_D A ws) (hS : va_S A H0 H locs) (hA : ∀ q, H0.size ≤ q → A q) {n k : Int32} {N' K' : Nat} (hn : ¬ n < 0) (hk : ¬ k < 0) (hN : n.toNatClampNeg = N') (hM : k.toNatClampNeg = K')
    (hb1 : N' * 4 ≤ 536870912) (hb2 : K' * componentBytes ty ≤ 536870912) (hb3 : K' ≤ 536870912) (hdf : fits ty (defaultValue ty) = true) (hdd : (defaultValue ty).isDefault = true) (hcells : cells + (1 + N') ≤ R.cells) (hslots : slots + (N' + N' * K') ≤ R.slots) (hdg : decode cc pc = .ok (.multianewarray index 2, 4))
    (kk : ∀ (q : Nat) (H1 : Heap), va_P D cl ws H1 → va_D A ws → va_S A H0 H1 locs → W p l e R s m args below meth c H1 locs (cells + 1 + N') (slots + N' + N' * K') Q (F0 m (pc + 4) ls (.ref q :: rest))) : W p l e R s m args below meth c H locs cells slots Q (F0 m pc ls (.int k :: .int n :: rest)) := by
  subst hN
  subst hM
  intro T hT Xs
  have hover2 : (Cond.arrayOver (.array ty)).before args s = true := hover
  obtain ⟨vm₁, cA, comp, -, fA, fC, hO, -, X', step⟩ := Xs.multianewarray2F hexec hown hclink hover2 harr (g := F0 m pc ls (.int k :: .int n :: rest)) rfl (by rw [hb]; exact hdg) rfl hn hk hb1 hb2 hb3 hdf hdd hcells hslots
  generalize hF : Jvm.Free.Multi.fill (T.setVm vm₁) cA comp n.toNatClampNeg k.toNatClampNeg (defaultValue ty) n.toNatClampNeg = F at X' step
  have hTh : (T.setVm vm₁).heap = H := hT
  obtain ⟨f1, f2, -, -⟩ := Jvm.Free.Multi.fill_facts (T.setVm vm₁) cA comp n.toNatClampNeg k.toNatClampNeg (defaultValue ty) n.toNatClampNeg
  rw [hF, hTh] at f1 f2
  have hold : ∀ x : Nat, x < H.size → F.heap[x]? = H[x]? := fun x hx => by
    have := Jvm.Free.Multi.fill_old (T.setVm vm₁) cA comp n.toNatClampNeg k.toNatClampNeg (defaultValue ty) (a := x) (by rw [hTh]; exact hx) n.toNatClampNeg
    rw [hF, hTh] at this
    exact this
  have hP0 : va_P D cl ws F.heap := hP.kept (fun k9 x hx => hold x.1 ((hP k9 x hx).lt))
  obtain ⟨t, a1, b1⟩ := kk T.heap.size F.heap hP0 hD ⟨by rw [f1]; have := hS.1; omega, fun x h1 h2 => (hold x (Nat.lt_of_lt_of_le h1 hS.1)).trans (hS.2.1 x h1 h2), hS.2.2⟩ F rfl X'
  exact ⟨t, step t a1, b1⟩
end AXW

