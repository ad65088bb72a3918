/-! copies of all that is; what may be undone -/
def y_CP (f g : Nat → Int32) : Prop := ∀ j : Int, 0 ≤ j → j < 918 → y_c g j = y_c f j
theorem y_CP_r (f : Nat → Int32) : y_CP f f := fun _ _ _ => rfl
theorem y_CP_t {f g h : Nat → Int32} (a : y_CP f g) (b : y_CP g h) : y_CP f h := fun j h0 h1 => (b j h0 h1).trans (a j h0 h1)
theorem y_NGcp {p f g : Nat → Int32} (h : y_CP f g) (hp : (y_c p 384).toInt ≤ 4) (q : y_NG p f) : y_NG p g := y_NGe (fun j h0 h1 => h j h0 (by omega)) q (by rw [h 6 (by omega) (by omega)]; exact q.2.2.1) (by rw [h 7 (by omega) (by omega)]; exact q.2.2.2.1) hp
def y_sl (k : Nat → Int32) (s : Int) : Nat → Int32 := fun j => y_c k (918 * s + (j : Int))
theorem y_slc {k : Nat → Int32} {s j : Int} (hj : 0 ≤ j) : y_c (y_sl k s) j = y_c k (918 * s + j) := by
  show y_c k (918 * s + (j.toNat : Int)) = _
  rw [Int.toNat_of_nonneg hj]
def y_UG (p k : Nat → Int32) (u n : Int) : Prop := ∀ i : Int, 0 ≤ i → i < u → y_NG p (y_sl k ((n + 20 - i) % 20))
theorem y_UG0 {p k : Nat → Int32} {n : Int} : y_UG p k 0 n := fun i h0 h1 => absurd h1 (by omega)
/-- all that is is kept, one place further -/
theorem y_UGk {p k k2 f : Nat → Int32} {u u2 n n2 : Int} (hp : (y_c p 384).toInt ≤ 4) (hn : 0 ≤ n ∧ n ≤ 19) (hn2 : n2 = (n + 1) % 20) (hu : u ≤ 20) (hu2 : u2 ≤ u + 1 ∧ u2 ≤ 20) (h1 : ∀ j : Int, 0 ≤ j → j < 918 → y_c k2 (918 * n2 + j) = y_c f j) (h2 : ∀ j : Int, 0 ≤ j → (j < 918 * n2 ∨ 918 * n2 + 918 ≤ j) → y_c k2 j = y_c k j) (hf : y_NG p f) (q : y_UG p k u n) : y_UG p k2 u2 n2 := by
  intro i i0 i1
  by_cases e : i = 0
  · rw [e, show (n2 + 20 - 0) % 20 = n2 by omega]
    exact y_NGcp (fun j h0 h3 => by rw [y_slc h0]; exact h1 j h0 h3) hp hf
  · have q1 := q (i - 1) (by omega) (by omega)
    have es : (n2 + 20 - i) % 20 = (n + 20 - (i - 1)) % 20 := by omega
    rw [es]
    refine y_NGcp (fun j h0 h3 => ?_) hp q1
    rw [y_slc h0, y_slc h0]
    have a : 0 ≤ (n + 20 - (i - 1)) % 20 := by omega
    have b : (n + 20 - (i - 1)) % 20 ≠ n2 := by omega
    exact h2 _ (by omega) (by omega)
theorem y_UGs {p k : Nat → Int32} {u n n2 : Int} (hn : 0 ≤ n ∧ n ≤ 19) (hn2 : n2 = (n + 20 - 1) % 20) (q : y_UG p k u n) : y_UG p k (u - 1) n2 := by
  intro i i0 i1
  have q1 := q (i + 1) (by omega) (by omega)
  rw [show (n2 + 20 - i) % 20 = (n + 20 - (i + 1)) % 20 by omega]
  exact q1
theorem y_UGt {p k : Nat → Int32} {u n : Int} (hn : 0 ≤ n ∧ n ≤ 19) (hu : 0 < u) (q : y_UG p k u n) : y_NG p (y_sl k n) := by
  have q1 := q 0 (by omega) hu
  rw [show (n + 20 - 0) % 20 = n by omega] at q1
  exact q1
/-- the reference, as far as its going on needs it -/
def y_T (told : Int32) (p f k : Nat → Int32) (u n : Int32) : Prop := (told.toInt = 0 ∧ u.toInt = 0 ∧ (0 ≤ (y_c f 7).toInt ∧ (y_c f 7).toInt ≤ 30)) ∨ (told.toInt = 1 ∧ y_PG p ∧ y_NG p f ∧ y_UG p k u.toInt n.toInt)
theorem y_T7 {told : Int32} {p f k : Nat → Int32} {u n : Int32} (h : y_T told p f k u n) : 0 ≤ (y_c f 7).toInt ∧ (y_c f 7).toInt ≤ 30 := by
  rcases h with ⟨_, _, q⟩ | ⟨_, _, q, _⟩
  · exact q
  · exact q.2.2.2.1
theorem y_TT {told : Int32} {p f k : Nat → Int32} {u n : Int32} (h : y_T told p f k u n) (c : ¬ told.toInt = 0) : told.toInt = 1 ∧ y_PG p ∧ y_NG p f ∧ y_UG p k u.toInt n.toInt := h.resolve_left (fun q => c q.1)
theorem y_TU {told : Int32} {p f k : Nat → Int32} {u n : Int32} (h : y_T told p f k u n) (c : ¬ u.toInt = 0) : told.toInt = 1 ∧ y_PG p ∧ y_NG p f ∧ y_UG p k u.toInt n.toInt := h.resolve_left (fun q => c q.2.1)
theorem y_Tc {told : Int32} {p f g k : Nat → Int32} {u n : Int32} (hc : y_CP f g) (h : y_T told p f k u n) : y_T told p g k u n := by
  rcases h with ⟨a, b, q⟩ | ⟨a, b, q, c⟩
  · exact Or.inl ⟨a, b, by rw [hc 7 (by omega) (by omega)]; exact q⟩
  · exact Or.inr ⟨a, b, y_NGcp hc (y_P0W b.1).2 q, c⟩
theorem y_lmul {q : Int64} (h : 0 ≤ q.toInt ∧ q.toInt < 2147483648) : (1103515245 * q).toInt = 1103515245 * q.toInt := by
  rw [Int64.toInt_mul, show (1103515245 : Int64).toInt = 1103515245 by decide, Int.bmod_eq_of_le (by omega) (by omega)]
theorem y_l12 {q : Int64} (h : 0 ≤ q.toInt ∧ q.toInt < 4611686018427387904) : (q + 12345).toInt = q.toInt + 12345 := by
  have e : (12345 : Int64).toInt = 12345 := by decide
  rw [y_addL (by rw [e]; omega), e]
