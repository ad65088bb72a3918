/-! the rows of the spare program, as the reader lays them -/
def s_QH (cs : Nat → ClassId) (F : Nat → va_E) (q m : Nat) : Prop := ∀ (w0 : Nat) (vs : List Value) (ln : Int32) (fr : Nat → Option Nat) (i r : Nat) (f : Nat → Int32), F q = .inr (2, .ref w0 :: vs) → vs[2]? = some (.int ln) → F w0 = .inl (cs 5, 40, .inr (.inr (.inr (.inr fr)))) → (i : Int) + m < ln.toInt → fr i = some r → F r = .inl (cs 0, 7, .inl f) → (f 0).toInt < 7 → 0 ≤ (f 1).toInt
def s_AQ (cs : Nat → ClassId) (F : Nat → va_E) (q : Nat) (n : Int) : Prop := ∀ (w0 : Nat) (vs : List Value) (fr : Nat → Option Nat) (i r : Nat) (f : Nat → Int32), F q = .inr (2, .ref w0 :: vs) → F w0 = .inl (cs 5, 40, .inr (.inr (.inr (.inr fr)))) → i < 40 → (i : Int) < n → fr i = some r → F r = .inl (cs 0, 7, .inl f) → (f 0).toInt = 12 → 0 ≤ (f 4).toInt ∧ (f 4).toInt ≤ 39
/-- no row lies at two places -/
def s_RI (K : Nat → Nat) (cs : Nat → ClassId) (F : Nat → va_E) : Prop := ∀ a, K a = 42 → ∀ (fr : Nat → Option Nat), F a = .inl (cs 5, 40, .inr (.inr (.inr (.inr fr)))) → ∀ i j r, i < 40 → j < 40 → fr i = some r → fr j = some r → i = j
theorem s_RIt {K : Nat → Nat} {cs : Nat → ClassId} {F G : Nat → va_E} {E : List Nat} (hfr : ∀ b, K b ∉ E → G b = F b) (he : 42 ∉ E) (h : s_RI K cs F) : s_RI K cs G := fun a ha fr q => h a ha fr (by rw [← hfr a (by rw [ha]; exact he)]; exact q)
theorem s_qrow {K : Nat → Nat} {cs : Nat → ClassId} {D : Nat} {F : Nat → va_E} {q w0 i r : Nat} {vs : List Value} {fr : Nat → Option Nat} (hI : s_I K cs D F) (hq : K q = 8) (q1 : F q = .inr (2, .ref w0 :: vs)) (q3 : F w0 = .inl (cs 5, 40, .inr (.inr (.inr (.inr fr))))) (hi : i < 40) (q4 : fr i = some r) : K w0 = 42 ∧ K r = 43 := by
  obtain ⟨z0, z1, z2, z3, z4, z5, z6, o, h0, -⟩ := s_op8 hI hq
  rw [o] at q1
  cases q1
  obtain ⟨fr', o2, h2⟩ := s_op42 hI h0
  rw [o2] at q3
  cases q3
  obtain ⟨x, e1, h3⟩ := h2 i hi
  rw [q4] at e1
  cases e1
  exact ⟨h0, h3⟩
theorem s_qln {K : Nat → Nat} {cs : Nat → ClassId} {D : Nat} {F : Nat → va_E} {q w0 : Nat} {vs : List Value} {ln : Int32} (hI : s_I K cs D F) (hq : K q = 8) (q1 : F q = .inr (2, .ref w0 :: vs)) (q2 : vs[2]? = some (.int ln)) : K w0 = 42 ∧ 0 ≤ ln.toInt ∧ ln.toInt ≤ 40 := by
  obtain ⟨z0, z1, z2, z3, z4, z5, z6, o, h0, h1, h2, h3, -⟩ := s_op8 hI hq
  rw [o] at q1
  cases q1
  cases q2
  exact ⟨h0, h3⟩
theorem s_QHt {K : Nat → Nat} {cs : Nat → ClassId} {D q m : Nat} {F G : Nat → va_E} (hI : s_I K cs D F) (hq : K q = 8) (hfr : ∀ b, K b = 8 ∨ K b = 42 ∨ K b = 43 → G b = F b) (h : s_QH cs F q m) : s_QH cs G q m := by
  intro w0 vs ln fr i r f q1 q2 q3 hi q4 q5
  rw [hfr q (Or.inl hq)] at q1
  have hl := s_qln hI hq q1 q2
  rw [hfr w0 (Or.inr (Or.inl hl.1))] at q3
  have hr := s_qrow hI hq q1 q3 (i := i) (by omega) q4
  rw [hfr r (Or.inr (Or.inr hr.2))] at q5
  exact h w0 vs ln fr i r f q1 q2 q3 hi q4 q5
theorem s_AQt {K : Nat → Nat} {cs : Nat → ClassId} {D q : Nat} {n : Int} {F G : Nat → va_E} (hI : s_I K cs D F) (hq : K q = 8) (hfr : ∀ b, K b = 8 ∨ K b = 42 ∨ K b = 43 → G b = F b) (h : s_AQ cs F q n) : s_AQ cs G q n := by
  intro w0 vs fr i r f q1 q3 hi hn q4 q5
  rw [hfr q (Or.inl hq)] at q1
  obtain ⟨z0, z1, z2, z3, z4, z5, z6, o, h0, -⟩ := s_op8 hI hq
  have q1' := q1
  rw [o] at q1'
  cases q1'
  rw [hfr w0 (Or.inr (Or.inl h0))] at q3
  have hr := s_qrow hI hq q1 q3 hi q4
  rw [hfr r (Or.inr (Or.inr hr.2))] at q5
  exact h w0 _ fr i r f q1 q3 hi hn q4 q5
theorem s_QHm {cs : Nat → ClassId} {q m : Nat} {F : Nat → va_E} (h : s_QH cs F q 0) : s_QH cs F q m := fun w0 vs ln fr i r f q1 q2 q3 hi => h w0 vs ln fr i r f q1 q2 q3 (by omega)
/-- a row is written at another place than its sign and its register -/
theorem s_QHrow {K : Nat → Nat} {cs : Nat → ClassId} {D q m a j : Nat} {x : Int32} {f0 : Nat → Int32} {F G : Nat → va_E} (hI : s_I K cs D F) (hq : K q = 8) (ha : K a = 43) (o : F a = .inl (cs 0, 7, .inl f0)) (hG : G = va_up F a (.inl (cs 0, 7, .inl (upd f0 j x)))) (h0 : j ≠ 0) (h1 : j ≠ 1) (h : s_QH cs F q m) : s_QH cs G q m := by
  intro w0 vs ln fr i r f q1 q2 q3 hi q4 q5
  have e : ∀ b, b ≠ a → G b = F b := fun b hb => by rw [hG]; exact if_neg hb
  rw [e q (th_kd hq ha (by decide))] at q1
  have hl := s_qln hI hq q1 q2
  rw [e w0 (th_kd hl.1 ha (by decide))] at q3
  by_cases hr : r = a
  · have q6 : G a = .inl (cs 0, 7, .inl (upd f0 j x)) := by rw [hG]; exact th_up
    rw [hr, q6] at q5
    cases q5
    have e0 : upd f0 j x 0 = f0 0 := if_neg (Ne.symm h0)
    have e1 : upd f0 j x 1 = f0 1 := if_neg (Ne.symm h1)
    rw [e0, e1]
    rw [hr] at q4
    exact h w0 vs ln fr i a f0 q1 q2 q3 hi q4 o
  · rw [e r hr] at q5
    exact h w0 vs ln fr i r f q1 q2 q3 hi q4 q5
theorem s_AQrow {K : Nat → Nat} {cs : Nat → ClassId} {D q a j : Nat} {n : Int} {x : Int32} {f0 : Nat → Int32} {F G : Nat → va_E} (hI : s_I K cs D F) (hq : K q = 8) (ha : K a = 43) (o : F a = .inl (cs 0, 7, .inl f0)) (hG : G = va_up F a (.inl (cs 0, 7, .inl (upd f0 j x)))) (h0 : j ≠ 0) (h4 : j = 4 → 0 ≤ x.toInt ∧ x.toInt ≤ 39) (h : s_AQ cs F q n) : s_AQ cs G q n := by
  intro w0 vs fr i r f q1 q3 hi hn q4 q5
  have e : ∀ b, b ≠ a → G b = F b := fun b hb => by rw [hG]; exact if_neg hb
  rw [e q (th_kd hq ha (by decide))] at q1
  obtain ⟨z0, z1, z2, z3, z4, z5, z6, oq, hz, -⟩ := s_op8 hI hq
  have q1' := q1
  rw [oq] at q1'
  cases q1'
  rw [e w0 (th_kd hz ha (by decide))] at q3
  by_cases hr : r = a
  · have q6 : G a = .inl (cs 0, 7, .inl (upd f0 j x)) := by rw [hG]; exact th_up
    rw [hr, q6] at q5
    cases q5
    have e0 : upd f0 j x 0 = f0 0 := if_neg (Ne.symm h0)
    rw [e0]
    rw [hr] at q4
    intro h12
    by_cases hj : j = 4
    · rw [show upd f0 j x 4 = x from if_pos hj.symm]
      exact h4 hj
    · rw [show upd f0 j x 4 = f0 4 from if_neg (Ne.symm hj)]
      exact h w0 _ fr i a f0 q1 q3 hi hn q4 o h12
  · rw [e r hr] at q5
    exact h w0 _ fr i r f q1 q3 hi hn q4 q5
/-- the newest row's register is told -/
theorem s_QHinto {K : Nat → Nat} {cs : Nat → ClassId} {D q a : Nat} {x : Int32} {f0 : Nat → Int32} {F G : Nat → va_E} (hI : s_I K cs D F) (hq : K q = 8) (ha : K a = 43) (hG : G = va_up F a (.inl (cs 0, 7, .inl (upd f0 1 x)))) (hx : 0 ≤ x.toInt) (hl : ∀ (w0 : Nat) (vs : List Value) (ln : Int32) (fr : Nat → Option Nat), F q = .inr (2, .ref w0 :: vs) → vs[2]? = some (.int ln) → F w0 = .inl (cs 5, 40, .inr (.inr (.inr (.inr fr)))) → 1 ≤ ln.toInt → fr (ln.toInt - 1).toNat = some a) (h : s_QH cs F q 1) : s_QH cs G q 0 := by
  intro w0 vs ln fr i r f q1 q2 q3 hi q4 q5
  have e : ∀ b, b ≠ a → G b = F b := fun b hb => by rw [hG]; exact if_neg hb
  rw [e q (th_kd hq ha (by decide))] at q1
  have hk := s_qln hI hq q1 q2
  rw [e w0 (th_kd hk.1 ha (by decide))] at q3
  by_cases hr : r = a
  · have q6 : G a = .inl (cs 0, 7, .inl (upd f0 1 x)) := by rw [hG]; exact th_up
    rw [hr, q6] at q5
    cases q5
    intro _
    rw [show upd f0 1 x 1 = x from if_pos rfl]
    exact hx
  · rw [e r hr] at q5
    refine h w0 vs ln fr i r f q1 q2 q3 ?_ q4 q5
    by_cases hi2 : (i : Int) = ln.toInt - 1
    · exfalso
      have q7 := hl w0 vs ln fr q1 q2 q3 (by omega)
      rw [show (ln.toInt - 1).toNat = i by omega, q4] at q7
      cases q7
      exact hr rfl
    · omega
/-- what else the program holds is written -/
theorem s_QHq {K : Nat → Nat} {cs : Nat → ClassId} {D q m : Nat} {vs vs' : List Value} {F G : Nat → va_E} (hI : s_I K cs D F) (hq : K q = 8) (o : F q = .inr (2, vs)) (hG : G = va_up F q (.inr (2, vs'))) (h0 : vs'[0]? = vs[0]?) (h3 : vs'[3]? = vs[3]?) (h : s_QH cs F q m) : s_QH cs G q m := by
  intro w0 ws ln fr i r f q1 q2 q3 hi q4 q5
  have e : ∀ b, b ≠ q → G b = F b := fun b hb => by rw [hG]; exact if_neg hb
  have q6 : G q = .inr (2, vs') := by rw [hG]; exact th_up
  rw [q6] at q1
  cases q1
  obtain ⟨z0, z1, z2, z3, z4, z5, z6, o', hz, ha, hb, hc, -⟩ := s_op8 hI hq
  rw [o] at o'
  cases o'
  cases h0
  have h3' : some (Value.int ln) = some (.int z3) := q2.symm.trans h3
  cases h3'
  rw [e w0 (th_kd hz hq (by decide))] at q3
  have hr := s_qrow hI hq o q3 (i := i) (by omega) q4
  rw [e r (th_kd hr.2 hq (by decide))] at q5
  exact h w0 _ _ fr i r f o rfl q3 hi q4 q5
theorem s_QHo {K : Nat → Nat} {cs : Nat → ClassId} {D q m a k : Nat} {e : va_E} {F G : Nat → va_E} (hI : s_I K cs D F) (hq : K q = 8) (ha : K a = k) (hk : k ≠ 8 ∧ k ≠ 42 ∧ k ≠ 43) (hG : G = va_up F a e) (h : s_QH cs F q m) : s_QH cs G q m := s_QHt hI hq (fun b hb => by
  rw [hG]
  refine if_neg fun q => ?_
  rw [q, ha] at hb
  omega) h
theorem s_AQo {K : Nat → Nat} {cs : Nat → ClassId} {D q a k : Nat} {n : Int} {e : va_E} {F G : Nat → va_E} (hI : s_I K cs D F) (hq : K q = 8) (ha : K a = k) (hk : k ≠ 8 ∧ k ≠ 42 ∧ k ≠ 43) (hG : G = va_up F a e) (h : s_AQ cs F q n) : s_AQ cs G q n := s_AQt hI hq (fun b hb => by
  rw [hG]
  refine if_neg fun q => ?_
  rw [q, ha] at hb
  omega) h
/-- which row is the newest -/
def s_LT (cs : Nat → ClassId) (F : Nat → va_E) (q a : Nat) : Prop := ∀ (w0 : Nat) (vs : List Value) (ln : Int32) (fr : Nat → Option Nat), F q = .inr (2, .ref w0 :: vs) → vs[2]? = some (.int ln) → F w0 = .inl (cs 5, 40, .inr (.inr (.inr (.inr fr)))) → 1 ≤ ln.toInt → fr (ln.toInt - 1).toNat = some a
theorem s_LTt {K : Nat → Nat} {cs : Nat → ClassId} {D q a : Nat} {F G : Nat → va_E} (hI : s_I K cs D F) (hq : K q = 8) (hfr : ∀ b, K b = 8 ∨ K b = 42 ∨ K b = 43 → G b = F b) (h : s_LT cs F q a) : s_LT cs G q a := by
  intro w0 vs ln fr q1 q2 q3 h1
  rw [hfr q (Or.inl hq)] at q1
  have hl := s_qln hI hq q1 q2
  rw [hfr w0 (Or.inr (Or.inl hl.1))] at q3
  exact h w0 vs ln fr q1 q2 q3 h1
/-- a new row is laid -/
theorem s_QHadd {K : Nat → Nat} {cs : Nat → ClassId} {D q a w0 : Nat} {vs vs' : List Value} {ln ln' op : Int32} {fr : Nat → Option Nat} {f3 : Nat → Int32} {F G : Nat → va_E} (hI : s_I K cs D F) (hq : K q = 8) (hRI : s_RI K cs F) (o : F q = .inr (2, .ref w0 :: vs)) (hln : vs[2]? = some (.int ln)) (oW : F w0 = .inl (cs 5, 40, .inr (.inr (.inr (.inr fr))))) (h40 : ln.toInt < 40) (hfa : fr ln.toNatClampNeg = some a) (e : ∀ b, b ≠ a → b ≠ q → G b = F b) (o3 : G q = .inr (2, .ref w0 :: vs')) (hln' : vs'[2]? = some (.int ln')) (hl1 : ln'.toInt = ln.toInt + 1) (oa : G a = .inl (cs 0, 7, .inl f3)) (h0 : f3 0 = op) (h : s_QH cs F q 0) : s_QH cs G q 1 ∧ (7 ≤ op.toInt → s_QH cs G q 0) := by
  have hl := s_qln hI hq o hln
  have hn : (ln.toNatClampNeg : Int) = ln.toInt := Int.toNat_of_nonneg hl.2.1
  have hka := s_qrow hI hq o oW (i := ln.toNatClampNeg) (by omega) hfa
  have key : ∀ (i r : Nat) (f : Nat → Int32), (i : Int) < ln.toInt → fr i = some r → G r = .inl (cs 0, 7, .inl f) → (f 0).toInt < 7 → 0 ≤ (f 1).toInt := by
    intro i r f hi q4 q5
    have hr := s_qrow hI hq o oW (i := i) (by omega) q4
    have hra : r ≠ a := fun hh => by
      have := hRI w0 hl.1 fr oW i ln.toNatClampNeg r (by omega) (by omega) q4 (by rw [hh]; exact hfa)
      omega
    rw [e r hra (th_kd hr.2 hq (by decide))] at q5
    exact h w0 vs ln fr i r f o hln oW (by omega) q4 q5
  refine ⟨?_, fun h7 => ?_⟩
  · intro w0' ws ln2 fr2 i r f q1 q2 q3 hi q4 q5
    rw [o3] at q1
    cases q1
    have e2 : some (Value.int ln') = some (.int ln2) := hln'.symm.trans q2
    cases e2
    rw [e w0 (th_kd hl.1 hka.2 (by decide)) (th_kd hl.1 hq (by decide)), oW] at q3
    cases q3
    exact key i r f (by omega) q4 q5
  · intro w0' ws ln2 fr2 i r f q1 q2 q3 hi q4 q5
    rw [o3] at q1
    cases q1
    have e2 : some (Value.int ln') = some (.int ln2) := hln'.symm.trans q2
    cases e2
    rw [e w0 (th_kd hl.1 hka.2 (by decide)) (th_kd hl.1 hq (by decide)), oW] at q3
    cases q3
    by_cases hi2 : (i : Int) = ln.toInt
    · have e3 : i = ln.toNatClampNeg := by omega
      rw [e3, hfa] at q4
      cases q4
      rw [oa] at q5
      cases q5
      rw [h0]
      intro h8
      omega
    · exact key i r f (by omega) q4 q5
theorem s_noG : ∀ k, k < 12 → k ≠ 8 → ∀ j, ¬ (((s_byt.getD k []).getD j 0).toInt = 71) := by
  intro k hk h8 j
  have h : ∀ k, k < 12 → k ≠ 8 → ∀ x ∈ s_byt.getD k [], ¬ x.toInt = 71 := by decide +kernel
  rw [List.getD_eq_getElem?_getD]
  cases e : (s_byt.getD k [])[j]? with
  | none => decide
  | some x => exact h k hk h8 x (List.mem_of_getElem? e)
theorem s_R0 : ∀ k, 4 ≤ k → k ≤ 6 → (s_byt.getD k []).getD 0 0 = 82 := by
  intro k h1 h2
  have h : ∀ k, k < 7 → 4 ≤ k → (s_byt.getD k []).getD 0 0 = 82 := by decide +kernel
  exact h k (by omega) h1
theorem th_z0 {r : Int32} (h : 0 ≤ r.toInt ∧ r.toInt ≤ 0) : r = 0 := Int32.toInt_inj.mp (by rw [show (0 : Int32).toInt = 0 by decide]; omega)
theorem s_R0c {k : Nat} {i c : Int32} (hk : 4 ≤ k ∧ k ≤ 6) (hi : i.toInt = 0) (hc : c = (s_byt.getD k []).getD i.toNatClampNeg 0) : c.toInt = 82 := by
  have e : i.toNatClampNeg = 0 := by show i.toInt.toNat = 0; omega
  rw [hc, e, s_R0 k hk.1 hk.2]
  decide
theorem s_len46 {k : Nat} (h1 : 4 ≤ k) (h2 : k ≤ 6) : 2 ≤ s_len.getD k 0 := by
  have h : ∀ k, k < 7 → 4 ≤ k → 2 ≤ s_len.getD k 0 := by decide +kernel
  exact h k (by omega) h1
def s_L1 (F : Nat → va_E) (q : Nat) : Prop := ∀ (vs : List Value) (z : Int32), F q = .inr (2, vs) → vs[3]? = some (.int z) → 1 ≤ z.toInt
theorem s_L1t {K : Nat → Nat} {cs : Nat → ClassId} {D q : Nat} {F G : Nat → va_E} (hI : s_I K cs D F) (hq : K q = 8) (h : ∀ vs, F q = .inr (2, vs) → ∃ vs2, G q = .inr (2, vs2) ∧ vs2[3]? = vs[3]?) (l1 : s_L1 F q) : s_L1 G q := by
  intro vs z q1 q2
  obtain ⟨z0, z1, z2, z3, z4, z5, z6, o, -⟩ := s_op8 hI hq
  obtain ⟨w, h1, h2⟩ := h _ o
  rw [h1] at q1
  cases q1
  exact l1 _ z o (h2.symm.trans q2)
theorem s_AQle {cs : Nat → ClassId} {F : Nat → va_E} {q : Nat} {n n2 : Int} (h : n2 ≤ n) (ha : s_AQ cs F q n) : s_AQ cs F q n2 := fun w0 vs fr i r f q1 q3 hi hn => ha w0 vs fr i r f q1 q3 hi (by omega)
theorem s_AQs {cs : Nat → ClassId} {F : Nat → va_E} {q w0 : Nat} {vs : List Value} {fr : Nat → Option Nat} {n : Int} (o : F q = .inr (2, .ref w0 :: vs)) (oW : F w0 = .inl (cs 5, 40, .inr (.inr (.inr (.inr fr))))) {i : Nat} (hn : n = (i : Int)) (ha : s_AQ cs F q n) (hl : ∀ (r : Nat) (f : Nat → Int32), fr i = some r → F r = .inl (cs 0, 7, .inl f) → (f 0).toInt = 12 → 0 ≤ (f 4).toInt ∧ (f 4).toInt ≤ 39) : s_AQ cs F q (n + 1) := by
  intro w1 ws fr1 j r f q1 q3 hj hn1 q4 q5
  have q1' := q1
  rw [o] at q1'
  cases q1'
  have q3' := q3
  rw [oW] at q3'
  cases q3'
  by_cases e : j = i
  · rw [e] at q4
    exact hl r f q4 q5
  · exact ha w0 _ fr j r f q1 q3 hj (by omega) q4 q5
theorem th_upd44 {f : Nat → Int32} {x : Int32} : upd f (4 : Int32).toNatClampNeg x 4 = x := if_pos (by decide)

/-- mode and order of the spare program are told -/
def s_QM (F : Nat → va_E) (q : Nat) : Prop := ∀ (vs : List Value) (z : Int32), F q = .inr (2, vs) → (vs[5]? = some (.int z) ∨ vs[6]? = some (.int z)) → 0 ≤ z.toInt ∧ z.toInt ≤ 1
def s_QG (cs : Nat → ClassId) (F : Nat → va_E) (q m : Nat) : Prop := s_QH cs F q m ∧ s_QM F q
theorem s_QMt {F G : Nat → va_E} {q : Nat} (e : G q = F q) (h : s_QM F q) : s_QM G q := fun vs z o => h vs z (e.symm.trans o)
theorem s_QGt {K : Nat → Nat} {cs : Nat → ClassId} {D q m : Nat} {F G : Nat → va_E} (hI : s_I K cs D F) (hq : K q = 8) (hfr : ∀ b, K b = 8 ∨ K b = 42 ∨ K b = 43 → G b = F b) (h : s_QG cs F q m) : s_QG cs G q m := ⟨s_QHt hI hq hfr h.1, s_QMt (hfr q (Or.inl hq)) h.2⟩
theorem s_QGm {cs : Nat → ClassId} {q m : Nat} {F : Nat → va_E} (h : s_QG cs F q 0) : s_QG cs F q m := ⟨s_QHm h.1, h.2⟩
theorem s_QGrow {K : Nat → Nat} {cs : Nat → ClassId} {D q m a j : Nat} {x : Int32} {f0 : Nat → Int32} {F G : Nat → va_E} (hI : s_I K cs D F) (hq : K q = 8) (ha : K a = 43) (o : F a = .inl (cs 0, 7, .inl f0)) (hG : G = va_up F a (.inl (cs 0, 7, .inl (upd f0 j x)))) (h0 : j ≠ 0) (h1 : j ≠ 1) (h : s_QG cs F q m) : s_QG cs G q m := ⟨s_QHrow hI hq ha o hG h0 h1 h.1, s_QMt (by rw [hG]; exact th_ne (th_kd hq ha (by decide)) rfl) h.2⟩
theorem s_QGinto {K : Nat → Nat} {cs : Nat → ClassId} {D q a : Nat} {x : Int32} {f0 : Nat → Int32} {F G : Nat → va_E} (hI : s_I K cs D F) (hq : K q = 8) (ha : K a = 43) (hG : G = va_up F a (.inl (cs 0, 7, .inl (upd f0 1 x)))) (hx : 0 ≤ x.toInt) (hl : ∀ (w0 : Nat) (vs : List Value) (ln : Int32) (fr : Nat → Option Nat), F q = .inr (2, .ref w0 :: vs) → vs[2]? = some (.int ln) → F w0 = .inl (cs 5, 40, .inr (.inr (.inr (.inr fr)))) → 1 ≤ ln.toInt → fr (ln.toInt - 1).toNat = some a) (h : s_QG cs F q 1) : s_QG cs G q 0 := ⟨s_QHinto hI hq ha hG hx hl h.1, s_QMt (by rw [hG]; exact th_ne (th_kd hq ha (by decide)) rfl) h.2⟩
theorem s_QGq {K : Nat → Nat} {cs : Nat → ClassId} {D q m : Nat} {vs vs' : List Value} {F G : Nat → va_E} (hI : s_I K cs D F) (hq : K q = 8) (o : F q = .inr (2, vs)) (hG : G = va_up F q (.inr (2, vs'))) (h0 : vs'[0]? = vs[0]?) (h3 : vs'[3]? = vs[3]?) (hm : ∀ z : Int32, (vs'[5]? = some (.int z) ∨ vs'[6]? = some (.int z)) → (vs[5]? = some (.int z) ∨ vs[6]? = some (.int z)) ∨ (0 ≤ z.toInt ∧ z.toInt ≤ 1)) (h : s_QG cs F q m) : s_QG cs G q m := ⟨s_QHq hI hq o hG h0 h3 h.1, fun us z p hz => by
  have p2 : va_up F q (.inr (2, vs')) q = .inr (2, us) := by rw [← hG]; exact p
  rw [th_up] at p2
  cases p2
  exact (hm z hz).elim (h.2 vs z o) id⟩
theorem s_QGo {K : Nat → Nat} {cs : Nat → ClassId} {D q m a k : Nat} {e : va_E} {F G : Nat → va_E} (hI : s_I K cs D F) (hq : K q = 8) (ha : K a = k) (hk : k ≠ 8 ∧ k ≠ 42 ∧ k ≠ 43) (hG : G = va_up F a e) (h : s_QG cs F q m) : s_QG cs G q m := ⟨s_QHo hI hq ha hk hG h.1, s_QMt (by rw [hG]; exact th_ne (fun e => hk.1 (by rw [← ha, ← e]; exact hq)) rfl) h.2⟩
theorem s_QGadd {K : Nat → Nat} {cs : Nat → ClassId} {D q a w0 : Nat} {vs vs' : List Value} {ln ln' op : Int32} {fr : Nat → Option Nat} {f3 : Nat → Int32} {F G : Nat → va_E} (hI : s_I K cs D F) (hq : K q = 8) (hRI : s_RI K cs F) (o : F q = .inr (2, .ref w0 :: vs)) (hln : vs[2]? = some (.int ln)) (oW : F w0 = .inl (cs 5, 40, .inr (.inr (.inr (.inr fr))))) (h40 : ln.toInt < 40) (hfa : fr ln.toNatClampNeg = some a) (e : ∀ b, b ≠ a → b ≠ q → G b = F b) (o3 : G q = .inr (2, .ref w0 :: vs')) (hln' : vs'[2]? = some (.int ln')) (hl1 : ln'.toInt = ln.toInt + 1) (oa : G a = .inl (cs 0, 7, .inl f3)) (h0 : f3 0 = op) (hm4 : vs'[4]? = vs[4]?) (hm5 : vs'[5]? = vs[5]?) (h : s_QG cs F q 0) : s_QG cs G q 1 ∧ (7 ≤ op.toInt → s_QG cs G q 0) := by
  have z := s_QHadd hI hq hRI o hln oW h40 hfa e o3 hln' hl1 oa h0 h.1
  have w : s_QM G q := fun us x p hx => by
    have p2 := o3.symm.trans p
    cases p2
    refine h.2 _ x o (hx.imp (fun e => ?_) (fun e => ?_))
    · have e2 : vs'[4]? = some (.int x) := e
      exact hm4.symm.trans e2
    · have e2 : vs'[5]? = some (.int x) := e
      exact hm5.symm.trans e2
  exact ⟨⟨z.1, w⟩, fun q => ⟨z.2 q, w⟩⟩

