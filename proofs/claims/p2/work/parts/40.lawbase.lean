
/-- what stands between two calls: the class's object xo, the reference's om, one pool L -/
def lw_V (cs : Nat → ClassId) (L : List Nat) (A : Nat → Nat) (xo om : Nat) (K : Nat → Nat) (D : Nat) (F : Nat → va_E) : Prop := (∀ a, K a ≠ 0 → a ∈ L) ∧ K xo = 7 ∧ K om = 9 ∧ s_I K cs D F ∧ s_PG K cs F ∧ s_RI K cs F ∧ s_RJ K cs F ∧ s_UQ K cs xo ∧ y_A K A ∧ y_I K cs A F ∧ y_T (y_fi F om 15) (y_at F (A 13)) (y_at F (A 20)) (y_at F (A 30)) (y_fi F om 31) (y_fi F om 32)
theorem lw_fi {F G : Nat → va_E} {a : Nat} (h : G a = F a) (k : Nat) : y_fi G a k = y_fi F a k := by unfold y_fi; rw [h]
theorem lw_at {F G : Nat → va_E} {a : Nat} (h : G a = F a) : y_at G a = y_at F a := by unfold y_at; rw [h]
theorem lw_o6 {K : Nat → Nat} {cs : Nat → ClassId} {D : Nat} {F : Nat → va_E} {a : Nat} (hI : s_I K cs D F) (ha : K a = 7) : ∃ fs, F a = .inr (6, fs) := by
  obtain ⟨z0, z1, z2, z3, z4, z5, z6, z7, z8, z9, z10, z11, z12, z13, o, -⟩ := s_op7 hI ha
  exact ⟨_, o⟩
theorem lw_ok {K : Nat → Nat} {cs : Nat → ClassId} {D k : Nat} {e : va_E} (h : k = 9 ∨ 50 ≤ k) : s_ok K cs D k e := by
  unfold s_ok
  split <;> first | trivial | (exfalso; omega)
theorem lw_x {cs : Nat → ClassId} {L : List Nat} {A : Nat → Nat} {xo om : Nat} {K : Nat → Nat} {D D2 : Nat} {F G : Nat → va_E} {E : List Nat} (h : lw_V cs L A xo om K D F) (hI : s_I K cs D2 G) (hfr : ∀ b, K b ∉ E → G b = F b) (he : E.all (fun k => decide (k < 50) && (k != 9 && (k != 3 && (k != 22 && (k != 23 && k != 42))))) = true) : lw_V cs L A xo om K D2 G := by
  obtain ⟨h1, h2, h3, h4, h5, h6, h7, h8, h9, h10, h11⟩ := h
  have q : ∀ k ∈ E, k < 50 ∧ k ≠ 9 ∧ k ≠ 3 ∧ k ≠ 22 ∧ k ≠ 23 ∧ k ≠ 42 := fun k hk => by
    have z := List.all_eq_true.mp he k hk
    simpa using z
  have n : ∀ k, (k = 9 ∨ 50 ≤ k) → k ∉ E := fun k hk hm => by
    have z := q k hm
    omega
  have e : ∀ b, K b = 9 ∨ 50 ≤ K b → G b = F b := fun b hb => hfr b (n _ hb)
  have a : ∀ i, y_n i ≠ 0 → G (A i) = F (A i) := fun i hi => e _ (Or.inr (by rw [h9 i hi]; omega))
  refine ⟨h1, h2, h3, hI, s_PGt h4 hfr ⟨fun m => (q 3 m).2.2.1 rfl, fun m => (q 22 m).2.2.2.1 rfl, fun m => (q 23 m).2.2.2.2.1 rfl⟩ h5, s_RIt hfr (fun m => (q 42 m).2.2.2.2.2 rfl) h6, s_RJt hfr (fun m => (q 22 m).2.2.2.1 rfl) h7, h8, h9, y_It h9 h10 e, ?_⟩
  have eo := e om (Or.inl h3)
  rw [lw_fi eo 15, lw_fi eo 31, lw_fi eo 32, lw_at (a 13 (by decide)), lw_at (a 20 (by decide)), lw_at (a 30 (by decide))]
  exact h11
theorem lw_sw {k c : Nat} (h : s_sw k = c) (hc : c = 0 ∨ c = 7 ∨ c = 9 ∨ 50 ≤ c) : k = c := by
  unfold s_sw at h
  split at h
  · omega
  · split at h
    · omega
    · split at h
      · omega
      · split at h
        · omega
        · split at h
          · omega
          · split at h <;> omega
theorem lw_sw2 {c : Nat} (hc : c = 0 ∨ c = 7 ∨ c = 9 ∨ 50 ≤ c) : s_sw c = c := by
  unfold s_sw
  rw [if_neg (by omega), if_neg (by omega), if_neg (by omega), if_neg (by omega), if_neg (by omega), if_neg (by omega)]
theorem lw_p {cs : Nat → ClassId} {L : List Nat} {A : Nat → Nat} {xo om : Nat} {K K2 : Nat → Nat} {D : Nat} {F G : Nat → va_E} {E : List Nat} (h : lw_V cs L A xo om K D F) (hI : s_I K2 cs D G) (hk : K2 = K ∨ K2 = fun b => s_sw (K b)) (hp : s_PG K2 cs G) (hri : s_RI K2 cs G) (hrj : s_RJ K2 cs G) (hfr : ∀ b, K b ∉ E → G b = F b) (he : E.all (fun k => decide (k < 50) && k != 9) = true) : lw_V cs L A xo om K2 D G := by
  obtain ⟨h1, h2, h3, h4, h5, h6, h7, h8, h9, h10, h11⟩ := h
  have q : ∀ k ∈ E, k < 50 ∧ k ≠ 9 := fun k hk => by
    have z := List.all_eq_true.mp he k hk
    simpa using z
  have n : ∀ k, (k = 9 ∨ 50 ≤ k) → k ∉ E := fun k hk hm => by
    have z := q k hm
    omega
  have e : ∀ b, K b = 9 ∨ 50 ≤ K b → G b = F b := fun b hb => hfr b (n _ hb)
  have a : ∀ i, y_n i ≠ 0 → G (A i) = F (A i) := fun i hi => e _ (Or.inr (by rw [h9 i hi]; omega))
  have t : y_T (y_fi G om 15) (y_at G (A 13)) (y_at G (A 20)) (y_at G (A 30)) (y_fi G om 31) (y_fi G om 32) := by
    have eo := e om (Or.inl h3)
    rw [lw_fi eo 15, lw_fi eo 31, lw_fi eo 32, lw_at (a 13 (by decide)), lw_at (a 20 (by decide)), lw_at (a 30 (by decide))]
    exact h11
  have y := y_It h9 h10 e
  rcases hk with rfl | rfl
  · exact ⟨h1, h2, h3, hI, hp, hri, hrj, h8, h9, y, t⟩
  · refine ⟨fun a ha => h1 a (fun z => ha (by show s_sw (K a) = 0; rw [z]; rfl)), by show s_sw (K xo) = 7; rw [h2]; rfl, by show s_sw (K om) = 9; rw [h3]; rfl, hI, hp, hri, hrj, s_UQs h8, fun i hi => ?_, ⟨fun a ha => y.1 a (lw_sw ha (by omega)), y.2⟩, t⟩
    show s_sw (K (A i)) = 50 + i
    rw [h9 i hi]
    exact lw_sw2 (by omega)
theorem lw_y {cs : Nat → ClassId} {L : List Nat} {A : Nat → Nat} {xo om : Nat} {K : Nat → Nat} {D : Nat} {F G : Nat → va_E} {E : List Nat} (h : lw_V cs L A xo om K D F) (hy : y_I K cs A G) (hfr : ∀ b, K b ∉ E → G b = F b) (he : E.all (fun k => k == 9 || decide (50 ≤ k)) = true) (hT : y_T (y_fi G om 15) (y_at G (A 13)) (y_at G (A 20)) (y_at G (A 30)) (y_fi G om 31) (y_fi G om 32)) : lw_V cs L A xo om K D G := by
  obtain ⟨h1, h2, h3, h4, h5, h6, h7, h8, h9, h10, h11⟩ := h
  have q : ∀ k ∈ E, k = 9 ∨ 50 ≤ k := fun k hk => by
    have z := List.all_eq_true.mp he k hk
    simpa using z
  have n : ∀ k, ¬ (k = 9 ∨ 50 ≤ k) → k ∉ E := fun k hk hm => hk (q k hm)
  have i : s_I K cs D G := fun a => by
    by_cases z : K a = 9 ∨ 50 ≤ K a
    · exact lw_ok z
    · rw [hfr a (n _ z)]
      exact h4 a
  exact ⟨h1, h2, h3, i, s_PGt h4 hfr ⟨n 3 (by omega), n 22 (by omega), n 23 (by omega)⟩ h5, s_RIt hfr (n 42 (by omega)) h6, s_RJt hfr (n 22 (by omega)) h7, h8, h9, hy, hT⟩
theorem lw_T {cs : Nat → ClassId} {L : List Nat} {A : Nat → Nat} {xo om : Nat} {K : Nat → Nat} {D : Nat} {F G : Nat → va_E} {E : List Nat} (h : lw_V cs L A xo om K D F) (hfr : ∀ b, K b ∉ E → G b = F b) (e1 : 63 ∉ E) (e2 : 70 ∉ E) (e3 : 80 ∉ E) (f1 : y_fi G om 15 = y_fi F om 15) (f2 : y_fi G om 31 = y_fi F om 31) (f3 : y_fi G om 32 = y_fi F om 32) : y_T (y_fi G om 15) (y_at G (A 13)) (y_at G (A 20)) (y_at G (A 30)) (y_fi G om 31) (y_fi G om 32) := by
  obtain ⟨h1, h2, h3, h4, h5, h6, h7, h8, h9, h10, h11⟩ := h
  rw [f1, f2, f3, lw_at (hfr (A 13) (by rw [h9 13 (by decide)]; exact e1)), lw_at (hfr (A 20) (by rw [h9 20 (by decide)]; exact e2)), lw_at (hfr (A 30) (by rw [h9 30 (by decide)]; exact e3))]
  exact h11
theorem lw_in {i k : Int32} {N : Nat} (hi : 0 ≤ i.toInt ∧ i.toInt + 6 ≤ N) (hN : N ≤ 3072) (hk : 0 ≤ k.toInt ∧ k.toInt ≤ 5) : vp_in (i + k) N := th_in (by
  rw [th_add rfl rfl (by omega)]
  omega)
theorem lw_Dl {A : Nat → Prop} {L : List Nat} (h : ∀ G, va_D A (va_pl L G)) : ∀ G, va_D (fun q => q ∈ L) (va_pl L G) := fun G => ⟨(h G).1, fun k q hk => by
  obtain ⟨a, ha, rfl⟩ := n_get hk
  exact List.mem_of_getElem? ha⟩
theorem lw_ac {args : Array Value} {s : State} {ty : FieldType} (h : (Cond.arrayClass ty).before args s = true) : ∃ cA, ArrOfT s cA ty ∧ s.vm.findClass ("[" ++ ty.toString) = some cA := by
  obtain ⟨c, k, comp, h1, h2, h3⟩ := Cond.arrayClass_spec h
  exact ⟨c, fun n z => ⟨fun k h => (by cases h), k, h2, comp, h3⟩, h1⟩
theorem lw_ao {s : State} {C : String} (h : va_AO C s) : ∃ cA, ArrOfT s cA (.object C) ∧ va_RA s cA (.object C) := by
  obtain ⟨comp, c, k, h1, h2, h3, h4, h5⟩ := Cond.arrayOver_spec h
  exact ⟨c, fun n z => ⟨fun k h => (by cases h), k, h3, comp, h4⟩, k, comp, h3, h4, h1, h5⟩
theorem lw_aa {s : State} (h : (Cond.arrayOver (.array .int)).before #[] s = true) : ∃ cA, ArrOfT s cA (.array .int) ∧ s.vm.findClass ("[" ++ (FieldType.array .int).toString) = some cA := by
  simp only [Cond.before, Cond.holds, Cond.value, beq_iff_eq] at h
  cases hc : s.vm.findClass (FieldType.array .int).toString with
  | none => simp [hc] at h
  | some comp =>
    simp only [hc, Option.bind_some, Option.bind_eq_some_iff, Option.map_eq_some_iff] at h
    obtain ⟨c, hi, k, hk, hb⟩ := h
    obtain ⟨hlt, hp, -⟩ := Array.findIdx?_eq_some_iff_getElem.mp hi
    have hkk : s.vm.classes[c] = k := (Array.getElem?_eq_some_iff.mp hk).2
    rw [hkk] at hp
    cases hkind : k.kind with
    | array component ty =>
      rw [hkind] at hb hp
      simp at hb hp
      exact ⟨c, fun n z => ⟨fun k h => (by cases h), k, hk, component, by rw [hkind, hb.1]⟩, hb.2⟩
    | _ => rw [hkind] at hb; simp at hb
/-- the kinds grow by the reference's: what was told of the class's stands -/
theorem lw_grow {cs : Nat → ClassId} {K K3 : Nat → Nat} {F G : Nat → va_E} {xo : Nat} (hI : s_I K cs 0 F) (hk : ∀ a, K3 a = K a ∨ K3 a = 9 ∨ 50 ≤ K3 a) (hf : ∀ a, K a ≠ 0 → G a = F a) (h5 : s_PG K cs F) (h6 : s_RI K cs F) (h7 : s_RJ K cs F) (h8 : s_UQ K cs xo) : s_PG K3 cs G ∧ s_RI K3 cs G ∧ s_RJ K3 cs G ∧ s_UQ K3 cs xo := by
  have hfr : ∀ b, K b ∉ [0] → G b = F b := fun b hb => hf b (fun z => hb (by rw [z]; decide))
  have d : ∀ a c, K3 a = c → c ≠ 9 → c < 50 → K a = c := fun a c e h9 h50 => by
    have z := hk a
    omega
  have p5 := s_PGt hI hfr (by decide) h5
  have p6 := s_RIt hfr (by decide) h6
  have p7 := s_RJt hfr (by decide) h7
  exact ⟨fun p hp => p5 p (d p 3 hp (by decide) (by decide)), fun a ha => p6 a (d a 42 ha (by decide) (by decide)), fun a ha => p7 a (d a 22 ha (by decide) (by decide)), fun a ha => h8.1 a (d a 7 ha (by decide) (by decide)), fun a ha => h8.2.1 a (d a 1 ha (by decide) (by decide)), fun a ha => h8.2.2.1 a (d a 2 ha (by decide) (by decide)), h8.2.2.2.1, fun a b ha hb => h8.2.2.2.2.1 a b (d a 3 ha (by decide) (by decide)) (d b 3 hb (by decide) (by decide)), fun a b ha hb => h8.2.2.2.2.2 a b (d a 8 ha (by decide) (by decide)) (d b 8 hb (by decide) (by decide))⟩
theorem lw_T0 {cs : Nat → ClassId} {A : Nat → Nat} {om : Nat} {G : Nat → va_E} (o : G om = .inr (7, y_fl A (fun k => if k = 8 then -1 else 0) 1)) (o2 : G (A 20) = .inl (cs 0, 918, .inl (fun _ => 0))) : y_T (y_fi G om 15) (y_at G (A 13)) (y_at G (A 20)) (y_at G (A 30)) (y_fi G om 31) (y_fi G om 32) := by
  have e1 : y_fi G om 15 = 0 := by unfold y_fi; rw [o]; rfl
  have e2 : y_fi G om 31 = 0 := by unfold y_fi; rw [o]; rfl
  rw [e1, e2, y_atE o2]
  exact Or.inl ⟨by decide, by decide, by unfold y_c; decide, by unfold y_c; decide⟩

/-- the table of numbers, with how many bytes there are told in it -/
def lw_c1 (cs : Nat → ClassId) (n : Nat) : Nat → ClassId := fun i => if i = 24 then 1 else if i = 23 then n else cs i
theorem lw_cI {K : Nat → Nat} {cs : Nat → ClassId} {D n : Nat} {F : Nat → va_E} {xo : Nat} (hu : ∀ a, K a = 7 → a = xo) (hn : (y_fi F xo 1).toInt = Int.ofNat n) (hI : s_I K cs D F) : s_I K (lw_c1 cs n) D F := fun a => by
  have q := hI a
  by_cases e1 : K a = 1
  · rw [e1] at q ⊢
    obtain ⟨z0, z1, z2, z3, z4, z5, z6, z7, z8, z9, z10, z11, z12, z13, o, h0, h1, h2, h3, h4, h6, h8, h10, h11, h12, h13, hr, -⟩ := q
    exact ⟨z0, z1, z2, z3, z4, z5, z6, z7, z8, z9, z10, z11, z12, z13, o, h0, h1, h2, h3, h4, h6, h8, h10, h11, h12, h13, hr, trivial⟩
  by_cases e2 : K a = 2
  · rw [e2] at q ⊢
    exact (show ok_2 K cs D (F a) from q)
  by_cases e3 : K a = 3
  · rw [e3] at q ⊢
    exact (show ok_3 K cs D (F a) from q)
  by_cases e4 : K a = 4
  · rw [e4] at q ⊢
    exact (show ok_4 K cs D (F a) from q)
  by_cases e5 : K a = 5
  · rw [e5] at q ⊢
    exact (show ok_5 K cs D (F a) from q)
  by_cases e6 : K a = 6
  · rw [e6] at q ⊢
    exact (show ok_6 K cs D (F a) from q)
  by_cases e7 : K a = 7
  · rw [e7] at q ⊢
    obtain ⟨z0, z1, z2, z3, z4, z5, z6, z7, z8, z9, z10, z11, z12, z13, o, h0, h1, h2, h3, h4, h6, h7, h8, h9, h10, h11, h12, hr, -⟩ := q
    exact ⟨z0, z1, z2, z3, z4, z5, z6, z7, z8, z9, z10, z11, z12, z13, o, h0, h1, h2, h3, h4, h6, h7, h8, h9, h10, h11, h12, ⟨hr.1, Or.inr (by rw [hu a e7] at o; rw [y_fi6 o] at hn; exact hn)⟩, trivial⟩
  by_cases e8 : K a = 8
  · rw [e8] at q ⊢
    exact (show ok_8 K cs D (F a) from q)
  by_cases e20 : K a = 20
  · rw [e20] at q ⊢
    obtain ⟨f, o, h⟩ := q
    exact ⟨f, o, h⟩
  by_cases e21 : K a = 21
  · rw [e21] at q ⊢
    obtain ⟨f, o, h⟩ := q
    exact ⟨f, o, h⟩
  by_cases e22 : K a = 22
  · rw [e22] at q ⊢
    obtain ⟨f, o, h⟩ := q
    exact ⟨f, o, h⟩
  by_cases e23 : K a = 23
  · rw [e23] at q ⊢
    obtain ⟨f, o, h⟩ := q
    exact ⟨f, o, h⟩
  by_cases e24 : K a = 24
  · rw [e24] at q ⊢
    obtain ⟨f, o, h⟩ := q
    exact ⟨f, o, h⟩
  by_cases e25 : K a = 25
  · rw [e25] at q ⊢
    obtain ⟨f, o, h⟩ := q
    exact ⟨f, o, h⟩
  by_cases e26 : K a = 26
  · rw [e26] at q ⊢
    obtain ⟨f, o, h⟩ := q
    exact ⟨f, o, h⟩
  by_cases e27 : K a = 27
  · rw [e27] at q ⊢
    obtain ⟨f, o, h⟩ := q
    exact ⟨f, o, h⟩
  by_cases e28 : K a = 28
  · rw [e28] at q ⊢
    obtain ⟨f, o, h⟩ := q
    exact ⟨f, o, h⟩
  by_cases e29 : K a = 29
  · rw [e29] at q ⊢
    obtain ⟨f, o, h⟩ := q
    exact ⟨f, o, h⟩
  by_cases e30 : K a = 30
  · rw [e30] at q ⊢
    obtain ⟨f, o, h⟩ := q
    exact ⟨f, o, h⟩
  by_cases e31 : K a = 31
  · rw [e31] at q ⊢
    obtain ⟨f, o, h⟩ := q
    exact ⟨f, o, h⟩
  by_cases e32 : K a = 32
  · rw [e32] at q ⊢
    obtain ⟨f, o, h⟩ := q
    exact ⟨f, o, h⟩
  by_cases e33 : K a = 33
  · rw [e33] at q ⊢
    obtain ⟨f, o, h⟩ := q
    exact ⟨f, o, h⟩
  by_cases e34 : K a = 34
  · rw [e34] at q ⊢
    obtain ⟨f, o, h⟩ := q
    exact ⟨f, o, h⟩
  by_cases e35 : K a = 35
  · rw [e35] at q ⊢
    obtain ⟨f, o, h⟩ := q
    exact ⟨f, o, h⟩
  by_cases e36 : K a = 36
  · rw [e36] at q ⊢
    obtain ⟨f, o, h⟩ := q
    exact ⟨f, o, h⟩
  by_cases e37 : K a = 37
  · rw [e37] at q ⊢
    obtain ⟨f, o, h⟩ := q
    exact ⟨f, o, h⟩
  by_cases e38 : K a = 38
  · rw [e38] at q ⊢
    obtain ⟨f, o, h⟩ := q
    exact ⟨f, o, h⟩
  by_cases e39 : K a = 39
  · rw [e39] at q ⊢
    obtain ⟨f, o, h⟩ := q
    exact ⟨f, o, h⟩
  by_cases e42 : K a = 42
  · rw [e42] at q ⊢
    obtain ⟨f, o, h⟩ := q
    exact ⟨f, o, h⟩
  by_cases e43 : K a = 43
  · rw [e43] at q ⊢
    obtain ⟨f, o, h⟩ := q
    exact ⟨f, o, h⟩
  refine s_okn (fun h => ?_)
  rcases (show K a = 1 ∨ K a = 2 ∨ K a = 3 ∨ K a = 4 ∨ K a = 5 ∨ K a = 6 ∨ K a = 7 ∨ K a = 8 ∨ K a = 20 ∨ K a = 21 ∨ K a = 22 ∨ K a = 23 ∨ K a = 24 ∨ K a = 25 ∨ K a = 26 ∨ K a = 27 ∨ K a = 28 ∨ K a = 29 ∨ K a = 30 ∨ K a = 31 ∨ K a = 32 ∨ K a = 33 ∨ K a = 34 ∨ K a = 35 ∨ K a = 36 ∨ K a = 37 ∨ K a = 38 ∨ K a = 39 ∨ K a = 42 ∨ K a = 43 from by simpa using h) with h | h | h | h | h | h | h | h | h | h | h | h | h | h | h | h | h | h | h | h | h | h | h | h | h | h | h | h | h | h
  · exact e1 h
  · exact e2 h
  · exact e3 h
  · exact e4 h
  · exact e5 h
  · exact e6 h
  · exact e7 h
  · exact e8 h
  · exact e20 h
  · exact e21 h
  · exact e22 h
  · exact e23 h
  · exact e24 h
  · exact e25 h
  · exact e26 h
  · exact e27 h
  · exact e28 h
  · exact e29 h
  · exact e30 h
  · exact e31 h
  · exact e32 h
  · exact e33 h
  · exact e34 h
  · exact e35 h
  · exact e36 h
  · exact e37 h
  · exact e38 h
  · exact e39 h
  · exact e42 h
  · exact e43 h
theorem lw_cB {K : Nat → Nat} {cs : Nat → ClassId} {D n : Nat} {F : Nat → va_E} (h24 : cs 24 = 0) (hI : s_I K (lw_c1 cs n) D F) : s_I K cs D F := fun a => by
  have q := hI a
  by_cases e1 : K a = 1
  · rw [e1] at q ⊢
    obtain ⟨z0, z1, z2, z3, z4, z5, z6, z7, z8, z9, z10, z11, z12, z13, o, h0, h1, h2, h3, h4, h6, h8, h10, h11, h12, h13, hr, -⟩ := q
    exact ⟨z0, z1, z2, z3, z4, z5, z6, z7, z8, z9, z10, z11, z12, z13, o, h0, h1, h2, h3, h4, h6, h8, h10, h11, h12, h13, hr, trivial⟩
  by_cases e2 : K a = 2
  · rw [e2] at q ⊢
    exact (show ok_2 K (lw_c1 cs n) D (F a) from q)
  by_cases e3 : K a = 3
  · rw [e3] at q ⊢
    exact (show ok_3 K (lw_c1 cs n) D (F a) from q)
  by_cases e4 : K a = 4
  · rw [e4] at q ⊢
    exact (show ok_4 K (lw_c1 cs n) D (F a) from q)
  by_cases e5 : K a = 5
  · rw [e5] at q ⊢
    exact (show ok_5 K (lw_c1 cs n) D (F a) from q)
  by_cases e6 : K a = 6
  · rw [e6] at q ⊢
    exact (show ok_6 K (lw_c1 cs n) D (F a) from q)
  by_cases e7 : K a = 7
  · rw [e7] at q ⊢
    obtain ⟨z0, z1, z2, z3, z4, z5, z6, z7, z8, z9, z10, z11, z12, z13, o, h0, h1, h2, h3, h4, h6, h7, h8, h9, h10, h11, h12, hr, -⟩ := q
    exact ⟨z0, z1, z2, z3, z4, z5, z6, z7, z8, z9, z10, z11, z12, z13, o, h0, h1, h2, h3, h4, h6, h7, h8, h9, h10, h11, h12, ⟨hr.1, Or.inl h24⟩, trivial⟩
  by_cases e8 : K a = 8
  · rw [e8] at q ⊢
    exact (show ok_8 K (lw_c1 cs n) D (F a) from q)
  by_cases e20 : K a = 20
  · rw [e20] at q ⊢
    obtain ⟨f, o, h⟩ := q
    exact ⟨f, o, h⟩
  by_cases e21 : K a = 21
  · rw [e21] at q ⊢
    obtain ⟨f, o, h⟩ := q
    exact ⟨f, o, h⟩
  by_cases e22 : K a = 22
  · rw [e22] at q ⊢
    obtain ⟨f, o, h⟩ := q
    exact ⟨f, o, h⟩
  by_cases e23 : K a = 23
  · rw [e23] at q ⊢
    obtain ⟨f, o, h⟩ := q
    exact ⟨f, o, h⟩
  by_cases e24 : K a = 24
  · rw [e24] at q ⊢
    obtain ⟨f, o, h⟩ := q
    exact ⟨f, o, h⟩
  by_cases e25 : K a = 25
  · rw [e25] at q ⊢
    obtain ⟨f, o, h⟩ := q
    exact ⟨f, o, h⟩
  by_cases e26 : K a = 26
  · rw [e26] at q ⊢
    obtain ⟨f, o, h⟩ := q
    exact ⟨f, o, h⟩
  by_cases e27 : K a = 27
  · rw [e27] at q ⊢
    obtain ⟨f, o, h⟩ := q
    exact ⟨f, o, h⟩
  by_cases e28 : K a = 28
  · rw [e28] at q ⊢
    obtain ⟨f, o, h⟩ := q
    exact ⟨f, o, h⟩
  by_cases e29 : K a = 29
  · rw [e29] at q ⊢
    obtain ⟨f, o, h⟩ := q
    exact ⟨f, o, h⟩
  by_cases e30 : K a = 30
  · rw [e30] at q ⊢
    obtain ⟨f, o, h⟩ := q
    exact ⟨f, o, h⟩
  by_cases e31 : K a = 31
  · rw [e31] at q ⊢
    obtain ⟨f, o, h⟩ := q
    exact ⟨f, o, h⟩
  by_cases e32 : K a = 32
  · rw [e32] at q ⊢
    obtain ⟨f, o, h⟩ := q
    exact ⟨f, o, h⟩
  by_cases e33 : K a = 33
  · rw [e33] at q ⊢
    obtain ⟨f, o, h⟩ := q
    exact ⟨f, o, h⟩
  by_cases e34 : K a = 34
  · rw [e34] at q ⊢
    obtain ⟨f, o, h⟩ := q
    exact ⟨f, o, h⟩
  by_cases e35 : K a = 35
  · rw [e35] at q ⊢
    obtain ⟨f, o, h⟩ := q
    exact ⟨f, o, h⟩
  by_cases e36 : K a = 36
  · rw [e36] at q ⊢
    obtain ⟨f, o, h⟩ := q
    exact ⟨f, o, h⟩
  by_cases e37 : K a = 37
  · rw [e37] at q ⊢
    obtain ⟨f, o, h⟩ := q
    exact ⟨f, o, h⟩
  by_cases e38 : K a = 38
  · rw [e38] at q ⊢
    obtain ⟨f, o, h⟩ := q
    exact ⟨f, o, h⟩
  by_cases e39 : K a = 39
  · rw [e39] at q ⊢
    obtain ⟨f, o, h⟩ := q
    exact ⟨f, o, h⟩
  by_cases e42 : K a = 42
  · rw [e42] at q ⊢
    obtain ⟨f, o, h⟩ := q
    exact ⟨f, o, h⟩
  by_cases e43 : K a = 43
  · rw [e43] at q ⊢
    obtain ⟨f, o, h⟩ := q
    exact ⟨f, o, h⟩
  refine s_okn (fun h => ?_)
  rcases (show K a = 1 ∨ K a = 2 ∨ K a = 3 ∨ K a = 4 ∨ K a = 5 ∨ K a = 6 ∨ K a = 7 ∨ K a = 8 ∨ K a = 20 ∨ K a = 21 ∨ K a = 22 ∨ K a = 23 ∨ K a = 24 ∨ K a = 25 ∨ K a = 26 ∨ K a = 27 ∨ K a = 28 ∨ K a = 29 ∨ K a = 30 ∨ K a = 31 ∨ K a = 32 ∨ K a = 33 ∨ K a = 34 ∨ K a = 35 ∨ K a = 36 ∨ K a = 37 ∨ K a = 38 ∨ K a = 39 ∨ K a = 42 ∨ K a = 43 from by simpa using h) with h | h | h | h | h | h | h | h | h | h | h | h | h | h | h | h | h | h | h | h | h | h | h | h | h | h | h | h | h | h
  · exact e1 h
  · exact e2 h
  · exact e3 h
  · exact e4 h
  · exact e5 h
  · exact e6 h
  · exact e7 h
  · exact e8 h
  · exact e20 h
  · exact e21 h
  · exact e22 h
  · exact e23 h
  · exact e24 h
  · exact e25 h
  · exact e26 h
  · exact e27 h
  · exact e28 h
  · exact e29 h
  · exact e30 h
  · exact e31 h
  · exact e32 h
  · exact e33 h
  · exact e34 h
  · exact e35 h
  · exact e36 h
  · exact e37 h
  · exact e38 h
  · exact e39 h
  · exact e42 h
  · exact e43 h
theorem lw_cE {K : Nat → Nat} {cs : Nat → ClassId} {D n xo : Nat} {F : Nat → va_E} (hk : K xo = 7) (hI : s_I K (lw_c1 cs n) D F) : (y_fi F xo 1).toInt = Int.ofNat n := by
  obtain ⟨z0, z1, z2, z3, z4, z5, z6, z7, z8, z9, z10, z11, z12, z13, o, h0, h1, h2, h3, h4, h6, h7, h8, h9, h10, h11, h12, hr, -⟩ := s_op7 hI hk
  rw [y_fi6 o]
  exact hr.2.elim (fun h => absurd (show (1 : Nat) = 0 from h) (by decide)) (fun h => h)
theorem lw_nn {K : Nat → Nat} {cs : Nat → ClassId} {D xo : Nat} {F : Nat → va_E} (hk : K xo = 7) (hI : s_I K cs D F) : (y_fi F xo 1).toInt = Int.ofNat (y_fi F xo 1).toInt.toNat := by
  obtain ⟨z0, z1, z2, z3, z4, z5, z6, z7, z8, z9, z10, z11, z12, z13, o, h0, h1, h2, h3, h4, h6, h7, h8, h9, h10, h11, h12, hr, -⟩ := s_op7 hI hk
  rw [y_fi6 o]
  exact (Int.toNat_of_nonneg h1.1).symm
