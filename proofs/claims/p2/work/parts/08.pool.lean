/-- how many bytes the tape has: as cs 23 says, where cs 24 is not 0 -/
def s_by (cs : Nat → ClassId) (z : Int32) : Prop := cs 24 = 0 ∨ z.toInt = Int.ofNat (cs 23)
theorem y_fi6 {F : Nat → va_E} {a : Nat} {v0 : Value} {z : Int32} {vs : List Value} (o : F a = .inr (6, v0 :: .int z :: vs)) : y_fi F a 1 = z := by
  unfold y_fi
  rw [o]
  rfl
def ok_1 (K : Nat → Nat) (cs : Nat → ClassId) (D : Nat) (e : va_E) : Prop := ∃ (z0 : Nat) (z1 : Nat) (z2 : Nat) (z3 : Nat) (z4 : Nat) (z5 : Int32) (z6 : Nat) (z7 : Int64) (z8 : Nat) (z9 : Int32) (z10 : Nat) (z11 : Int32) (z12 : Int32) (z13 : Int32), e = .inr (0, [.ref z0, .ref z1, .ref z2, .ref z3, .ref z4, .int z5, .ref z6, .long z7, .ref z8, .int z9, .ref z10, .int z11, .int z12, .int z13]) ∧ K z0 = 2 ∧ K z1 = 5 ∧ K z2 = 5 ∧ K z3 = 5 ∧ K z4 = 36 ∧ K z6 = 37 ∧ K z8 = 38 ∧ K z10 = 3 ∧ (0 ≤ z11.toInt ∧ z11.toInt ≤ 1) ∧ (0 ≤ z12.toInt ∧ z12.toInt ≤ 1) ∧ (0 ≤ z13.toInt ∧ z13.toInt ≤ 3) ∧ z0 = cs 21 ∧ True
def ok_2 (K : Nat → Nat) (cs : Nat → ClassId) (D : Nat) (e : va_E) : Prop := ∃ (z0 : Nat) (z1 : Nat) (z2 : Nat) (z3 : Option Nat) (z4 : Option Nat) (z5 : Option Nat) (z6 : Int32) (z7 : Int32) (z8 : Int32) (z9 : Int32) (z10 : Int32) (z11 : Int64), e = .inr (1, [.ref z0, .ref z1, .ref z2, va_rf z3, va_rf z4, va_rf z5, .int z6, .int z7, .int z8, .int z9, .int z10, .long z11]) ∧ K z0 = 34 ∧ K z1 = 35 ∧ K z2 = 3 ∧ (∀ q, z3 = some q → K q = 5) ∧ (∀ q, z4 = some q → K q = 6) ∧ (0 ≤ z6.toInt ∧ z6.toInt ≤ 3) ∧ (0 ≤ z9.toInt ∧ z9.toInt ≤ 7) ∧ True
def ok_3 (K : Nat → Nat) (cs : Nat → ClassId) (D : Nat) (e : va_E) : Prop := ∃ (z0 : Nat) (z1 : Nat) (z2 : Nat) (z3 : Int32) (z4 : Int32) (z5 : Int32) (z6 : Int32), e = .inr (2, [.ref z0, .ref z1, .ref z2, .int z3, .int z4, .int z5, .int z6]) ∧ K z0 = 22 ∧ K z1 = 24 ∧ K z2 = 25 ∧ (0 ≤ z3.toInt ∧ z3.toInt ≤ 40) ∧ (-1 ≤ z4.toInt ∧ z4.toInt ≤ 4) ∧ True
def ok_4 (K : Nat → Nat) (cs : Nat → ClassId) (D : Nat) (e : va_E) : Prop := ∃ (z0 : Nat) (z1 : Nat) (z2 : Nat) (z3 : Nat) (z4 : Option Nat) (z5 : Int32) (z6 : Option Nat) (z7 : Int32) (z8 : Int32) (z9 : Int32) (z10 : Int32) (z11 : Int32) (z12 : Int32) (z13 : Int32) (z14 : Int32), e = .inr (3, [.ref z0, .ref z1, .ref z2, .ref z3, va_rf z4, .int z5, va_rf z6, .int z7, .int z8, .int z9, .int z10, .int z11, .int z12, .int z13, .int z14]) ∧ K z0 = 21 ∧ K z1 = 21 ∧ K z2 = 21 ∧ K z3 = 21 ∧ (∀ q, z4 = some q → K q = 20) ∧ (0 ≤ z5.toInt ∧ z5.toInt ≤ 1600) ∧ (0 ≤ z8.toInt ∧ z8.toInt ≤ 1600) ∧ (0 ≤ z9.toInt ∧ z9.toInt ≤ 1600) ∧ (-1 ≤ z12.toInt ∧ z12.toInt ≤ 63) ∧ True
def ok_5 (K : Nat → Nat) (cs : Nat → ClassId) (D : Nat) (e : va_E) : Prop := ∃ (z0 : Nat) (z1 : Nat) (z2 : Nat) (z3 : Nat) (z4 : Nat) (z5 : Nat) (z6 : Nat) (z7 : Int32) (z8 : Int32) (z9 : Int32) (z10 : Int32) (z11 : Int32) (z12 : Int32) (z13 : Int32) (z14 : Int32), e = .inr (4, [.ref z0, .ref z1, .ref z2, .ref z3, .ref z4, .ref z5, .ref z6, .int z7, .int z8, .int z9, .int z10, .int z11, .int z12, .int z13, .int z14]) ∧ K z0 = 26 ∧ K z1 = 24 ∧ K z2 = 27 ∧ K z3 = 28 ∧ K z4 = 28 ∧ K z5 = 28 ∧ K z6 = 29 ∧ (-1 ≤ z7.toInt ∧ z7.toInt ≤ 4) ∧ (0 ≤ z8.toInt ∧ z8.toInt ≤ 1) ∧ (0 ≤ z9.toInt ∧ z9.toInt ≤ 1) ∧ (0 ≤ z10.toInt ∧ z10.toInt ≤ 3) ∧ (0 ≤ z12.toInt ∧ z12.toInt ≤ D) ∧ (-1 ≤ z14.toInt ∧ z14.toInt ≤ 3) ∧ True
def ok_6 (K : Nat → Nat) (cs : Nat → ClassId) (D : Nat) (e : va_E) : Prop := ∃ (z0 : Nat) (z1 : Nat) (z2 : Nat) (z3 : Nat) (z4 : Nat) (z5 : Int32) (z6 : Int32) (z7 : Int32) (z8 : Int32) (z9 : Int32) (z10 : Int32), e = .inr (5, [.ref z0, .ref z1, .ref z2, .ref z3, .ref z4, .int z5, .int z6, .int z7, .int z8, .int z9, .int z10]) ∧ K z0 = 30 ∧ K z1 = 31 ∧ K z2 = 32 ∧ K z3 = 32 ∧ K z4 = 32 ∧ (0 ≤ z5.toInt ∧ z5.toInt ≤ 16) ∧ (0 ≤ z10.toInt ∧ z10.toInt ≤ 7) ∧ True
def ok_7 (K : Nat → Nat) (cs : Nat → ClassId) (D : Nat) (e : va_E) : Prop := ∃ (z0 : Nat) (z1 : Int32) (z2 : Nat) (z3 : Nat) (z4 : Nat) (z5 : Int32) (z6 : Nat) (z7 : Nat) (z8 : Int32) (z9 : Int32) (z10 : Nat) (z11 : Nat) (z12 : Nat) (z13 : Int64), e = .inr (6, [.ref z0, .int z1, .ref z2, .ref z3, .ref z4, .int z5, .ref z6, .ref z7, .int z8, .int z9, .ref z10, .ref z11, .ref z12, .long z13]) ∧ K z0 = 20 ∧ (0 ≤ z1.toInt ∧ z1.toInt ≤ 1600) ∧ K z2 = 4 ∧ K z3 = 3 ∧ K z4 = 8 ∧ K z6 = 5 ∧ K z7 = 33 ∧ (0 ≤ z8.toInt ∧ z8.toInt ≤ 19) ∧ (0 ≤ z9.toInt ∧ z9.toInt ≤ 20) ∧ K z10 = 2 ∧ K z11 = 1 ∧ K z12 = 39 ∧ ((z10 = cs 20 ∧ z11 = cs 22) ∧ s_by cs z1) ∧ True
def ok_8 (K : Nat → Nat) (cs : Nat → ClassId) (D : Nat) (e : va_E) : Prop := ∃ (z0 : Nat) (z1 : Nat) (z2 : Nat) (z3 : Int32) (z4 : Int32) (z5 : Int32) (z6 : Int32), e = .inr (2, [.ref z0, .ref z1, .ref z2, .int z3, .int z4, .int z5, .int z6]) ∧ K z0 = 42 ∧ K z1 = 24 ∧ K z2 = 25 ∧ (0 ≤ z3.toInt ∧ z3.toInt ≤ 40) ∧ (-1 ≤ z4.toInt ∧ z4.toInt ≤ 4) ∧ True
def ok_20 (cs : Nat → ClassId) (e : va_E) : Prop := ∃ f : Nat → Int32, e = .inl (cs 1, 1600, .inl f) ∧ True
def ok_21 (cs : Nat → ClassId) (e : va_E) : Prop := ∃ f : Nat → Int32, e = .inl (cs 0, 40, .inl f) ∧ ∀ j, j < 40 → (0 ≤ (f j).toInt ∧ (f j).toInt ≤ 1600)
def ok_22 (K : Nat → Nat) (cs : Nat → ClassId) (e : va_E) : Prop := ∃ f : Nat → Option Nat, e = .inl (cs 5, 40, .inr (.inr (.inr (.inr f)))) ∧ ∀ j, j < 40 → ∃ x, f j = some x ∧ K x = 23
def ok_23 (cs : Nat → ClassId) (e : va_E) : Prop := ∃ f : Nat → Int32, e = .inl (cs 0, 7, .inl f) ∧ (f 1).toInt ≤ 3
def ok_24 (cs : Nat → ClassId) (e : va_E) : Prop := ∃ f : Nat → Int32, e = .inl (cs 0, 64, .inl f) ∧ True
def ok_25 (cs : Nat → ClassId) (e : va_E) : Prop := ∃ f : Nat → Int64, e = .inl (cs 2, 41, .inr (.inl f)) ∧ True
def ok_26 (K : Nat → Nat) (cs : Nat → ClassId) (e : va_E) : Prop := ∃ f : Nat → Option Nat, e = .inl (cs 3, 4, .inr (.inr (.inr (.inr f)))) ∧ ∀ j, j < 4 → ∃ x, f j = some x ∧ K x = 6
def ok_27 (cs : Nat → ClassId) (e : va_E) : Prop := ∃ f : Nat → Int32, e = .inl (cs 0, 32, .inl f) ∧ True
def ok_28 (cs : Nat → ClassId) (e : va_E) : Prop := ∃ f : Nat → Int32, e = .inl (cs 0, 96, .inl f) ∧ True
def ok_29 (cs : Nat → ClassId) (e : va_E) : Prop := ∃ f : Nat → Int32, e = .inl (cs 0, 150, .inl f) ∧ True
def ok_30 (cs : Nat → ClassId) (e : va_E) : Prop := ∃ f : Nat → Int32, e = .inl (cs 0, 32, .inl f) ∧ True
def ok_31 (cs : Nat → ClassId) (e : va_E) : Prop := ∃ f : Nat → Int32, e = .inl (cs 0, 8, .inl f) ∧ True
def ok_32 (cs : Nat → ClassId) (e : va_E) : Prop := ∃ f : Nat → Int32, e = .inl (cs 0, 16, .inl f) ∧ True
def ok_33 (K : Nat → Nat) (cs : Nat → ClassId) (e : va_E) : Prop := ∃ f : Nat → Option Nat, e = .inl (cs 4, 20, .inr (.inr (.inr (.inr f)))) ∧ ∀ j, j < 20 → ∃ x, f j = some x ∧ K x = 5
def ok_34 (cs : Nat → ClassId) (e : va_E) : Prop := ∃ f : Nat → Int32, e = .inl (cs 0, 8, .inl f) ∧ ∀ j, j < 8 → (0 ≤ (f j).toInt ∧ (f j).toInt ≤ 63)
def ok_35 (cs : Nat → ClassId) (e : va_E) : Prop := ∃ f : Nat → Int32, e = .inl (cs 0, 4, .inl f) ∧ True
def ok_36 (cs : Nat → ClassId) (e : va_E) : Prop := ∃ f : Nat → Int32, e = .inl (cs 0, 51, .inl f) ∧ True
def ok_37 (cs : Nat → ClassId) (e : va_E) : Prop := ∃ f : Nat → Int32, e = .inl (cs 0, 1024, .inl f) ∧ True
def ok_38 (cs : Nat → ClassId) (e : va_E) : Prop := ∃ f : Nat → Int32, e = .inl (cs 0, 160, .inl f) ∧ True
def ok_39 (cs : Nat → ClassId) (e : va_E) : Prop := ∃ f : Nat → Int32, e = .inl (cs 0, 6, .inl f) ∧ True
def ok_42 (K : Nat → Nat) (cs : Nat → ClassId) (e : va_E) : Prop := ∃ f : Nat → Option Nat, e = .inl (cs 5, 40, .inr (.inr (.inr (.inr f)))) ∧ ∀ j, j < 40 → ∃ x, f j = some x ∧ K x = 43
def ok_43 (cs : Nat → ClassId) (e : va_E) : Prop := ∃ f : Nat → Int32, e = .inl (cs 0, 7, .inl f) ∧ (f 1).toInt ≤ 3
/-- what a cell of a kind is -/
def s_ok (K : Nat → Nat) (cs : Nat → ClassId) (D : Nat) (k : Nat) (e : va_E) : Prop := match k with
  | 1 => ok_1 K cs D e
  | 2 => ok_2 K cs D e
  | 3 => ok_3 K cs D e
  | 4 => ok_4 K cs D e
  | 5 => ok_5 K cs D e
  | 6 => ok_6 K cs D e
  | 7 => ok_7 K cs D e
  | 8 => ok_8 K cs D e
  | 20 => ok_20 cs e
  | 21 => ok_21 cs e
  | 22 => ok_22 K cs e
  | 23 => ok_23 cs e
  | 24 => ok_24 cs e
  | 25 => ok_25 cs e
  | 26 => ok_26 K cs e
  | 27 => ok_27 cs e
  | 28 => ok_28 cs e
  | 29 => ok_29 cs e
  | 30 => ok_30 cs e
  | 31 => ok_31 cs e
  | 32 => ok_32 cs e
  | 33 => ok_33 K cs e
  | 34 => ok_34 cs e
  | 35 => ok_35 cs e
  | 36 => ok_36 cs e
  | 37 => ok_37 cs e
  | 38 => ok_38 cs e
  | 39 => ok_39 cs e
  | 42 => ok_42 K cs e
  | 43 => ok_43 cs e
  | _ => True
/-- every cell is what its kind says -/
def s_I (K : Nat → Nat) (cs : Nat → ClassId) (D : Nat) (F : Nat → va_E) : Prop := ∀ a, s_ok K cs D (K a) (F a)
theorem s_mono {K : Nat → Nat} {cs : Nat → ClassId} {D D2 : Nat} {F : Nat → va_E} (hd : D ≤ D2) (h : s_I K cs D F) : s_I K cs D2 F := fun a => by
  have q := h a
  by_cases e : K a = 5
  · rw [e] at q ⊢
    obtain ⟨z0, z1, z2, z3, z4, z5, z6, z7, z8, z9, z10, z11, z12, z13, z14, o, f0, f1, f2, f3, f4, f5, f6, f7, f8, f9, f10, f11, f12, f13⟩ := q
    exact ⟨z0, z1, z2, z3, z4, z5, z6, z7, z8, z9, z10, z11, z12, z13, z14, o, f0, f1, f2, f3, f4, f5, f6, f7, f8, f9, f10, ⟨f11.1, Int.le_trans f11.2 (by omega)⟩, f12, f13⟩
  · revert q
    generalize K a = k at e ⊢
    intro q
    unfold s_ok at q ⊢
    split at q <;> first | exact q | exact absurd rfl e | trivial
theorem s_up {K : Nat → Nat} {cs : Nat → ClassId} {D : Nat} {F : Nat → va_E} {a : Nat} {e : va_E} (h : s_I K cs D F) (he : s_ok K cs D (K a) e) : s_I K cs D (va_up F a e) := fun b => by
  by_cases q : b = a
  · subst q
    rw [th_up]
    exact he
  · rw [show va_up F a e b = F b from if_neg q]
    exact h b
theorem s_op1 {K : Nat → Nat} {cs : Nat → ClassId} {D : Nat} {F : Nat → va_E} {a : Nat} (h : s_I K cs D F) (ha : K a = 1) : ok_1 K cs D (F a) := by
  have q := h a
  rw [ha] at q
  exact q
theorem s_cl1 {K : Nat → Nat} {cs : Nat → ClassId} {D : Nat} {F : Nat → va_E} {a : Nat} {e : va_E} (h : s_I K cs D F) (ha : K a = 1) (he : ok_1 K cs D e) : s_I K cs D (va_up F a e) := s_up h (by rw [ha]; exact he)
theorem s_op2 {K : Nat → Nat} {cs : Nat → ClassId} {D : Nat} {F : Nat → va_E} {a : Nat} (h : s_I K cs D F) (ha : K a = 2) : ok_2 K cs D (F a) := by
  have q := h a
  rw [ha] at q
  exact q
theorem s_cl2 {K : Nat → Nat} {cs : Nat → ClassId} {D : Nat} {F : Nat → va_E} {a : Nat} {e : va_E} (h : s_I K cs D F) (ha : K a = 2) (he : ok_2 K cs D e) : s_I K cs D (va_up F a e) := s_up h (by rw [ha]; exact he)
theorem s_op3 {K : Nat → Nat} {cs : Nat → ClassId} {D : Nat} {F : Nat → va_E} {a : Nat} (h : s_I K cs D F) (ha : K a = 3) : ok_3 K cs D (F a) := by
  have q := h a
  rw [ha] at q
  exact q
theorem s_cl3 {K : Nat → Nat} {cs : Nat → ClassId} {D : Nat} {F : Nat → va_E} {a : Nat} {e : va_E} (h : s_I K cs D F) (ha : K a = 3) (he : ok_3 K cs D e) : s_I K cs D (va_up F a e) := s_up h (by rw [ha]; exact he)
theorem s_op4 {K : Nat → Nat} {cs : Nat → ClassId} {D : Nat} {F : Nat → va_E} {a : Nat} (h : s_I K cs D F) (ha : K a = 4) : ok_4 K cs D (F a) := by
  have q := h a
  rw [ha] at q
  exact q
theorem s_cl4 {K : Nat → Nat} {cs : Nat → ClassId} {D : Nat} {F : Nat → va_E} {a : Nat} {e : va_E} (h : s_I K cs D F) (ha : K a = 4) (he : ok_4 K cs D e) : s_I K cs D (va_up F a e) := s_up h (by rw [ha]; exact he)
theorem s_op5 {K : Nat → Nat} {cs : Nat → ClassId} {D : Nat} {F : Nat → va_E} {a : Nat} (h : s_I K cs D F) (ha : K a = 5) : ok_5 K cs D (F a) := by
  have q := h a
  rw [ha] at q
  exact q
theorem s_cl5 {K : Nat → Nat} {cs : Nat → ClassId} {D : Nat} {F : Nat → va_E} {a : Nat} {e : va_E} (h : s_I K cs D F) (ha : K a = 5) (he : ok_5 K cs D e) : s_I K cs D (va_up F a e) := s_up h (by rw [ha]; exact he)
theorem s_op6 {K : Nat → Nat} {cs : Nat → ClassId} {D : Nat} {F : Nat → va_E} {a : Nat} (h : s_I K cs D F) (ha : K a = 6) : ok_6 K cs D (F a) := by
  have q := h a
  rw [ha] at q
  exact q
theorem s_cl6 {K : Nat → Nat} {cs : Nat → ClassId} {D : Nat} {F : Nat → va_E} {a : Nat} {e : va_E} (h : s_I K cs D F) (ha : K a = 6) (he : ok_6 K cs D e) : s_I K cs D (va_up F a e) := s_up h (by rw [ha]; exact he)
theorem s_op7 {K : Nat → Nat} {cs : Nat → ClassId} {D : Nat} {F : Nat → va_E} {a : Nat} (h : s_I K cs D F) (ha : K a = 7) : ok_7 K cs D (F a) := by
  have q := h a
  rw [ha] at q
  exact q
theorem s_cl7 {K : Nat → Nat} {cs : Nat → ClassId} {D : Nat} {F : Nat → va_E} {a : Nat} {e : va_E} (h : s_I K cs D F) (ha : K a = 7) (he : ok_7 K cs D e) : s_I K cs D (va_up F a e) := s_up h (by rw [ha]; exact he)
theorem s_op8 {K : Nat → Nat} {cs : Nat → ClassId} {D : Nat} {F : Nat → va_E} {a : Nat} (h : s_I K cs D F) (ha : K a = 8) : ok_8 K cs D (F a) := by
  have q := h a
  rw [ha] at q
  exact q
theorem s_cl8 {K : Nat → Nat} {cs : Nat → ClassId} {D : Nat} {F : Nat → va_E} {a : Nat} {e : va_E} (h : s_I K cs D F) (ha : K a = 8) (he : ok_8 K cs D e) : s_I K cs D (va_up F a e) := s_up h (by rw [ha]; exact he)
theorem s_op20 {K : Nat → Nat} {cs : Nat → ClassId} {D : Nat} {F : Nat → va_E} {a : Nat} (h : s_I K cs D F) (ha : K a = 20) : ok_20 cs (F a) := by
  have q := h a
  rw [ha] at q
  exact q
theorem s_cl20 {K : Nat → Nat} {cs : Nat → ClassId} {D : Nat} {F : Nat → va_E} {a : Nat} {e : va_E} (h : s_I K cs D F) (ha : K a = 20) (he : ok_20 cs e) : s_I K cs D (va_up F a e) := s_up h (by rw [ha]; exact he)
theorem s_op21 {K : Nat → Nat} {cs : Nat → ClassId} {D : Nat} {F : Nat → va_E} {a : Nat} (h : s_I K cs D F) (ha : K a = 21) : ok_21 cs (F a) := by
  have q := h a
  rw [ha] at q
  exact q
theorem s_cl21 {K : Nat → Nat} {cs : Nat → ClassId} {D : Nat} {F : Nat → va_E} {a : Nat} {e : va_E} (h : s_I K cs D F) (ha : K a = 21) (he : ok_21 cs e) : s_I K cs D (va_up F a e) := s_up h (by rw [ha]; exact he)
theorem s_op22 {K : Nat → Nat} {cs : Nat → ClassId} {D : Nat} {F : Nat → va_E} {a : Nat} (h : s_I K cs D F) (ha : K a = 22) : ok_22 K cs (F a) := by
  have q := h a
  rw [ha] at q
  exact q
theorem s_cl22 {K : Nat → Nat} {cs : Nat → ClassId} {D : Nat} {F : Nat → va_E} {a : Nat} {e : va_E} (h : s_I K cs D F) (ha : K a = 22) (he : ok_22 K cs e) : s_I K cs D (va_up F a e) := s_up h (by rw [ha]; exact he)
theorem s_op23 {K : Nat → Nat} {cs : Nat → ClassId} {D : Nat} {F : Nat → va_E} {a : Nat} (h : s_I K cs D F) (ha : K a = 23) : ok_23 cs (F a) := by
  have q := h a
  rw [ha] at q
  exact q
theorem s_cl23 {K : Nat → Nat} {cs : Nat → ClassId} {D : Nat} {F : Nat → va_E} {a : Nat} {e : va_E} (h : s_I K cs D F) (ha : K a = 23) (he : ok_23 cs e) : s_I K cs D (va_up F a e) := s_up h (by rw [ha]; exact he)
theorem s_op24 {K : Nat → Nat} {cs : Nat → ClassId} {D : Nat} {F : Nat → va_E} {a : Nat} (h : s_I K cs D F) (ha : K a = 24) : ok_24 cs (F a) := by
  have q := h a
  rw [ha] at q
  exact q
theorem s_cl24 {K : Nat → Nat} {cs : Nat → ClassId} {D : Nat} {F : Nat → va_E} {a : Nat} {e : va_E} (h : s_I K cs D F) (ha : K a = 24) (he : ok_24 cs e) : s_I K cs D (va_up F a e) := s_up h (by rw [ha]; exact he)
theorem s_op25 {K : Nat → Nat} {cs : Nat → ClassId} {D : Nat} {F : Nat → va_E} {a : Nat} (h : s_I K cs D F) (ha : K a = 25) : ok_25 cs (F a) := by
  have q := h a
  rw [ha] at q
  exact q
theorem s_cl25 {K : Nat → Nat} {cs : Nat → ClassId} {D : Nat} {F : Nat → va_E} {a : Nat} {e : va_E} (h : s_I K cs D F) (ha : K a = 25) (he : ok_25 cs e) : s_I K cs D (va_up F a e) := s_up h (by rw [ha]; exact he)
theorem s_op26 {K : Nat → Nat} {cs : Nat → ClassId} {D : Nat} {F : Nat → va_E} {a : Nat} (h : s_I K cs D F) (ha : K a = 26) : ok_26 K cs (F a) := by
  have q := h a
  rw [ha] at q
  exact q
theorem s_cl26 {K : Nat → Nat} {cs : Nat → ClassId} {D : Nat} {F : Nat → va_E} {a : Nat} {e : va_E} (h : s_I K cs D F) (ha : K a = 26) (he : ok_26 K cs e) : s_I K cs D (va_up F a e) := s_up h (by rw [ha]; exact he)
theorem s_op27 {K : Nat → Nat} {cs : Nat → ClassId} {D : Nat} {F : Nat → va_E} {a : Nat} (h : s_I K cs D F) (ha : K a = 27) : ok_27 cs (F a) := by
  have q := h a
  rw [ha] at q
  exact q
theorem s_cl27 {K : Nat → Nat} {cs : Nat → ClassId} {D : Nat} {F : Nat → va_E} {a : Nat} {e : va_E} (h : s_I K cs D F) (ha : K a = 27) (he : ok_27 cs e) : s_I K cs D (va_up F a e) := s_up h (by rw [ha]; exact he)
theorem s_op28 {K : Nat → Nat} {cs : Nat → ClassId} {D : Nat} {F : Nat → va_E} {a : Nat} (h : s_I K cs D F) (ha : K a = 28) : ok_28 cs (F a) := by
  have q := h a
  rw [ha] at q
  exact q
theorem s_cl28 {K : Nat → Nat} {cs : Nat → ClassId} {D : Nat} {F : Nat → va_E} {a : Nat} {e : va_E} (h : s_I K cs D F) (ha : K a = 28) (he : ok_28 cs e) : s_I K cs D (va_up F a e) := s_up h (by rw [ha]; exact he)
theorem s_op29 {K : Nat → Nat} {cs : Nat → ClassId} {D : Nat} {F : Nat → va_E} {a : Nat} (h : s_I K cs D F) (ha : K a = 29) : ok_29 cs (F a) := by
  have q := h a
  rw [ha] at q
  exact q
theorem s_cl29 {K : Nat → Nat} {cs : Nat → ClassId} {D : Nat} {F : Nat → va_E} {a : Nat} {e : va_E} (h : s_I K cs D F) (ha : K a = 29) (he : ok_29 cs e) : s_I K cs D (va_up F a e) := s_up h (by rw [ha]; exact he)
theorem s_op30 {K : Nat → Nat} {cs : Nat → ClassId} {D : Nat} {F : Nat → va_E} {a : Nat} (h : s_I K cs D F) (ha : K a = 30) : ok_30 cs (F a) := by
  have q := h a
  rw [ha] at q
  exact q
theorem s_cl30 {K : Nat → Nat} {cs : Nat → ClassId} {D : Nat} {F : Nat → va_E} {a : Nat} {e : va_E} (h : s_I K cs D F) (ha : K a = 30) (he : ok_30 cs e) : s_I K cs D (va_up F a e) := s_up h (by rw [ha]; exact he)
theorem s_op31 {K : Nat → Nat} {cs : Nat → ClassId} {D : Nat} {F : Nat → va_E} {a : Nat} (h : s_I K cs D F) (ha : K a = 31) : ok_31 cs (F a) := by
  have q := h a
  rw [ha] at q
  exact q
theorem s_cl31 {K : Nat → Nat} {cs : Nat → ClassId} {D : Nat} {F : Nat → va_E} {a : Nat} {e : va_E} (h : s_I K cs D F) (ha : K a = 31) (he : ok_31 cs e) : s_I K cs D (va_up F a e) := s_up h (by rw [ha]; exact he)
theorem s_op32 {K : Nat → Nat} {cs : Nat → ClassId} {D : Nat} {F : Nat → va_E} {a : Nat} (h : s_I K cs D F) (ha : K a = 32) : ok_32 cs (F a) := by
  have q := h a
  rw [ha] at q
  exact q
theorem s_cl32 {K : Nat → Nat} {cs : Nat → ClassId} {D : Nat} {F : Nat → va_E} {a : Nat} {e : va_E} (h : s_I K cs D F) (ha : K a = 32) (he : ok_32 cs e) : s_I K cs D (va_up F a e) := s_up h (by rw [ha]; exact he)
theorem s_op33 {K : Nat → Nat} {cs : Nat → ClassId} {D : Nat} {F : Nat → va_E} {a : Nat} (h : s_I K cs D F) (ha : K a = 33) : ok_33 K cs (F a) := by
  have q := h a
  rw [ha] at q
  exact q
theorem s_cl33 {K : Nat → Nat} {cs : Nat → ClassId} {D : Nat} {F : Nat → va_E} {a : Nat} {e : va_E} (h : s_I K cs D F) (ha : K a = 33) (he : ok_33 K cs e) : s_I K cs D (va_up F a e) := s_up h (by rw [ha]; exact he)
theorem s_op34 {K : Nat → Nat} {cs : Nat → ClassId} {D : Nat} {F : Nat → va_E} {a : Nat} (h : s_I K cs D F) (ha : K a = 34) : ok_34 cs (F a) := by
  have q := h a
  rw [ha] at q
  exact q
theorem s_cl34 {K : Nat → Nat} {cs : Nat → ClassId} {D : Nat} {F : Nat → va_E} {a : Nat} {e : va_E} (h : s_I K cs D F) (ha : K a = 34) (he : ok_34 cs e) : s_I K cs D (va_up F a e) := s_up h (by rw [ha]; exact he)
theorem s_op35 {K : Nat → Nat} {cs : Nat → ClassId} {D : Nat} {F : Nat → va_E} {a : Nat} (h : s_I K cs D F) (ha : K a = 35) : ok_35 cs (F a) := by
  have q := h a
  rw [ha] at q
  exact q
theorem s_cl35 {K : Nat → Nat} {cs : Nat → ClassId} {D : Nat} {F : Nat → va_E} {a : Nat} {e : va_E} (h : s_I K cs D F) (ha : K a = 35) (he : ok_35 cs e) : s_I K cs D (va_up F a e) := s_up h (by rw [ha]; exact he)
theorem s_op36 {K : Nat → Nat} {cs : Nat → ClassId} {D : Nat} {F : Nat → va_E} {a : Nat} (h : s_I K cs D F) (ha : K a = 36) : ok_36 cs (F a) := by
  have q := h a
  rw [ha] at q
  exact q
theorem s_cl36 {K : Nat → Nat} {cs : Nat → ClassId} {D : Nat} {F : Nat → va_E} {a : Nat} {e : va_E} (h : s_I K cs D F) (ha : K a = 36) (he : ok_36 cs e) : s_I K cs D (va_up F a e) := s_up h (by rw [ha]; exact he)
theorem s_op37 {K : Nat → Nat} {cs : Nat → ClassId} {D : Nat} {F : Nat → va_E} {a : Nat} (h : s_I K cs D F) (ha : K a = 37) : ok_37 cs (F a) := by
  have q := h a
  rw [ha] at q
  exact q
theorem s_cl37 {K : Nat → Nat} {cs : Nat → ClassId} {D : Nat} {F : Nat → va_E} {a : Nat} {e : va_E} (h : s_I K cs D F) (ha : K a = 37) (he : ok_37 cs e) : s_I K cs D (va_up F a e) := s_up h (by rw [ha]; exact he)
theorem s_op38 {K : Nat → Nat} {cs : Nat → ClassId} {D : Nat} {F : Nat → va_E} {a : Nat} (h : s_I K cs D F) (ha : K a = 38) : ok_38 cs (F a) := by
  have q := h a
  rw [ha] at q
  exact q
theorem s_cl38 {K : Nat → Nat} {cs : Nat → ClassId} {D : Nat} {F : Nat → va_E} {a : Nat} {e : va_E} (h : s_I K cs D F) (ha : K a = 38) (he : ok_38 cs e) : s_I K cs D (va_up F a e) := s_up h (by rw [ha]; exact he)
theorem s_op39 {K : Nat → Nat} {cs : Nat → ClassId} {D : Nat} {F : Nat → va_E} {a : Nat} (h : s_I K cs D F) (ha : K a = 39) : ok_39 cs (F a) := by
  have q := h a
  rw [ha] at q
  exact q
theorem s_cl39 {K : Nat → Nat} {cs : Nat → ClassId} {D : Nat} {F : Nat → va_E} {a : Nat} {e : va_E} (h : s_I K cs D F) (ha : K a = 39) (he : ok_39 cs e) : s_I K cs D (va_up F a e) := s_up h (by rw [ha]; exact he)
theorem s_op42 {K : Nat → Nat} {cs : Nat → ClassId} {D : Nat} {F : Nat → va_E} {a : Nat} (h : s_I K cs D F) (ha : K a = 42) : ok_42 K cs (F a) := by
  have q := h a
  rw [ha] at q
  exact q
theorem s_cl42 {K : Nat → Nat} {cs : Nat → ClassId} {D : Nat} {F : Nat → va_E} {a : Nat} {e : va_E} (h : s_I K cs D F) (ha : K a = 42) (he : ok_42 K cs e) : s_I K cs D (va_up F a e) := s_up h (by rw [ha]; exact he)
theorem s_op43 {K : Nat → Nat} {cs : Nat → ClassId} {D : Nat} {F : Nat → va_E} {a : Nat} (h : s_I K cs D F) (ha : K a = 43) : ok_43 cs (F a) := by
  have q := h a
  rw [ha] at q
  exact q
theorem s_cl43 {K : Nat → Nat} {cs : Nat → ClassId} {D : Nat} {F : Nat → va_E} {a : Nat} {e : va_E} (h : s_I K cs D F) (ha : K a = 43) (he : ok_43 cs e) : s_I K cs D (va_up F a e) := s_up h (by rw [ha]; exact he)
def s_rd1 (K : Nat → Nat) (F : Nat → va_E) (a : Nat) : Prop := ∃ (z0 : Nat) (z1 : Nat) (z2 : Nat) (z3 : Nat) (z4 : Option Nat) (z5 : Option Nat) (z6 : Int32) (z7 : Int32) (z8 : Int32) (z9 : Int32) (z10 : Int32) (z11 : Int64), F a = .inr (1, [.ref z0, .ref z1, .ref z2, .ref z3, va_rf z4, va_rf z5, .int z6, .int z7, .int z8, .int z9, .int z10, .long z11]) ∧ K z0 = 34 ∧ K z1 = 35 ∧ K z2 = 3 ∧ K z3 = 5 ∧ (∀ q, z4 = some q → K q = 6) ∧ (0 ≤ z6.toInt ∧ z6.toInt ≤ 3) ∧ (0 ≤ z9.toInt ∧ z9.toInt ≤ 7) ∧ True
def s_rd2 (K : Nat → Nat) (F : Nat → va_E) (a : Nat) : Prop := ∃ (z0 : Nat) (z1 : Nat) (z2 : Nat) (z3 : Nat) (z4 : Nat) (z5 : Option Nat) (z6 : Int32) (z7 : Int32) (z8 : Int32) (z9 : Int32) (z10 : Int32) (z11 : Int64), F a = .inr (1, [.ref z0, .ref z1, .ref z2, .ref z3, .ref z4, va_rf z5, .int z6, .int z7, .int z8, .int z9, .int z10, .long z11]) ∧ K z0 = 34 ∧ K z1 = 35 ∧ K z2 = 3 ∧ K z3 = 5 ∧ K z4 = 6 ∧ (0 ≤ z6.toInt ∧ z6.toInt ≤ 3) ∧ (0 ≤ z9.toInt ∧ z9.toInt ≤ 7) ∧ True
def s_rd3 (K : Nat → Nat) (F : Nat → va_E) (a : Nat) : Prop := ∃ (z0 : Nat) (z1 : Nat) (z2 : Nat) (z3 : Nat) (z4 : Nat) (z5 : Nat) (z6 : Int32) (z7 : Int32) (z8 : Int32) (z9 : Int32) (z10 : Int32) (z11 : Int64), F a = .inr (1, [.ref z0, .ref z1, .ref z2, .ref z3, .ref z4, .ref z5, .int z6, .int z7, .int z8, .int z9, .int z10, .long z11]) ∧ K z0 = 34 ∧ K z1 = 35 ∧ K z2 = 3 ∧ K z3 = 5 ∧ K z4 = 6 ∧ K z5 = 23 ∧ (0 ≤ z6.toInt ∧ z6.toInt ≤ 3) ∧ (0 ≤ z9.toInt ∧ z9.toInt ≤ 7) ∧ True
def s_rd4 (K : Nat → Nat) (F : Nat → va_E) (a tt qq : Nat) : Prop := ∃ (z0 : Nat) (z1 : Nat) (z2 : Nat) (z3 : Nat) (z5 : Int32) (z7 : Int32) (z8 : Int32) (z9 : Int32) (z10 : Int32) (z11 : Int32) (z12 : Int32) (z13 : Int32) (z14 : Int32), F a = .inr (3, [.ref z0, .ref z1, .ref z2, .ref z3, .ref tt, .int z5, .ref qq, .int z7, .int z8, .int z9, .int z10, .int z11, .int z12, .int z13, .int z14]) ∧ K z0 = 21 ∧ K z1 = 21 ∧ K z2 = 21 ∧ K z3 = 21 ∧ K tt = 20 ∧ (0 ≤ z5.toInt ∧ z5.toInt ≤ 1600) ∧ K qq = 8 ∧ (0 ≤ z8.toInt ∧ z8.toInt ≤ 1600) ∧ (0 ≤ z9.toInt ∧ z9.toInt ≤ 1600) ∧ (-1 ≤ z12.toInt ∧ z12.toInt ≤ 63) ∧ (z7.toInt = 3 → z8.toInt ≤ 1599) ∧ True
def s_rd5 (K : Nat → Nat) (F : Nat → va_E) (a tt qq : Nat) : Prop := ∃ (z0 : Nat) (z1 : Nat) (z2 : Nat) (z3 : Nat) (z5 : Int32) (z7 : Int32) (z8 : Int32) (z9 : Int32) (z10 : Int32) (z11 : Int32) (z12 : Int32) (z13 : Int32) (z14 : Int32), F a = .inr (3, [.ref z0, .ref z1, .ref z2, .ref z3, .ref tt, .int z5, .ref qq, .int z7, .int z8, .int z9, .int z10, .int z11, .int z12, .int z13, .int z14]) ∧ K z0 = 21 ∧ K z1 = 21 ∧ K z2 = 21 ∧ K z3 = 21 ∧ K tt = 20 ∧ (0 ≤ z5.toInt ∧ z5.toInt ≤ 1600) ∧ K qq = 8 ∧ (0 ≤ z8.toInt ∧ z8.toInt ≤ 1600) ∧ (0 ≤ z9.toInt ∧ z9.toInt ≤ 1600) ∧ (-1 ≤ z12.toInt ∧ z12.toInt ≤ 63) ∧ True
/-- in the current program a line that works with a register names one -/
def s_PG (K : Nat → Nat) (cs : Nat → ClassId) (F : Nat → va_E) : Prop := ∀ p, K p = 3 → ∀ (w0 : Nat) (vs : List Value) (ln : Int32) (fr : Nat → Option Nat) (i r : Nat) (f : Nat → Int32), F p = .inr (2, .ref w0 :: vs) → vs[2]? = some (.int ln) → F w0 = .inl (cs 5, 40, .inr (.inr (.inr (.inr fr)))) → i < 40 → (i : Int) < ln.toInt → fr i = some r → F r = .inl (cs 0, 7, .inl f) → (f 0).toInt < 7 → 0 ≤ (f 1).toInt
theorem s_PGt {K : Nat → Nat} {cs : Nat → ClassId} {D : Nat} {F G : Nat → va_E} {E : List Nat} (hI : s_I K cs D F) (hfr : ∀ b, K b ∉ E → G b = F b) (he : 3 ∉ E ∧ 22 ∉ E ∧ 23 ∉ E) (h : s_PG K cs F) : s_PG K cs G := by
  intro p hp w0 vs ln fr i r f q1 q2 q3 hi hn q4 q5
  rw [hfr p (by rw [hp]; exact he.1)] at q1
  obtain ⟨z0, z1, z2, z3, z4, z5, z6, o, h0, -⟩ := s_op3 hI hp
  have q1' := q1
  rw [o] at q1'
  cases q1'
  rw [hfr w0 (by rw [h0]; exact he.2.1)] at q3
  obtain ⟨fr', o2, h2⟩ := s_op22 hI h0
  have q3' := q3
  rw [o2] at q3'
  cases q3'
  obtain ⟨x, e1, h3⟩ := h2 i hi
  rw [q4] at e1
  cases e1
  rw [hfr r (by rw [h3]; exact he.2.2)] at q5
  exact h p hp _ _ _ _ _ _ _ q1 q2 q3 hi hn q4 q5

