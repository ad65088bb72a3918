/-! rows on bits, shifts and unsigned numbers, to paste: each family out of a closed proof of our own, whole with what it rests on; each by itself clean at Lean in its own claim (generation 39, form 5). Take a family whole -/
/-! ===== Int32 by its bits: bt x i ===== -/
def bt (x : Int32) (i : Nat) : Bool := x.toBitVec.getLsbD i
theorem b_ext {x y : Int32} (h : ∀ i, i < 32 → bt x i = bt y i) : x = y := Int32.toBitVec_inj.mp (BitVec.eq_of_getLsbD_eq (fun i hi => h i hi))
theorem b_or (x y : Int32) (i : Nat) : bt (x ||| y) i = (bt x i || bt y i) := by unfold bt; rw [Int32.toBitVec_or, BitVec.getLsbD_or]
theorem b_and (x y : Int32) (i : Nat) : bt (x &&& y) i = (bt x i && bt y i) := by unfold bt; rw [Int32.toBitVec_and, BitVec.getLsbD_and]
theorem b_xor (x y : Int32) (i : Nat) : bt (x ^^^ y) i = (bt x i ^^ bt y i) := by unfold bt; rw [Int32.toBitVec_xor, BitVec.getLsbD_xor]
theorem b_big {x : Int32} {i : Nat} (h : 32 ≤ i) : bt x i = false := BitVec.getLsbD_of_ge _ _ h
theorem b_255 (i : Nat) : bt 255 i = decide (i < 8) := by
  rcases Nat.lt_or_ge i 32 with h | h
  · exact (by decide +kernel : ∀ i, i < 32 → bt 255 i = decide (i < 8)) i h
  · rw [b_big h, decide_eq_false (by omega)]
theorem b_65535 (i : Nat) : bt 65535 i = decide (i < 16) := by
  rcases Nat.lt_or_ge i 32 with h | h
  · exact (by decide +kernel : ∀ i, i < 32 → bt 65535 i = decide (i < 16)) i h
  · rw [b_big h, decide_eq_false (by omega)]
theorem b_m1 : ∀ i, i < 32 → bt (-1) i = true := by decide +kernel
theorem b_0 (i : Nat) : bt 0 i = false := BitVec.getLsbD_zero
theorem s_l : ∀ n, n < 32 → ((nI n &&& 31).toBitVec.smod 32).toNat = n := by decide +kernel
theorem s_u : ∀ n, n < 32 → (((nI n).toUInt32 &&& Int32.toUInt32 31).toBitVec % 32).toNat = n := by decide +kernel
theorem b_shl (n : Nat) (hn : n < 32) (x : Int32) {i : Nat} (hi : i < 32) : bt (x <<< (nI n &&& 31)) i = (decide (n ≤ i) && bt x (i - n)) := by
  unfold bt
  rw [Int32.toBitVec_shiftLeft]
  show (x.toBitVec <<< ((nI n &&& 31).toBitVec.smod 32).toNat).getLsbD i = _
  rw [s_l n hn, BitVec.getLsbD_shiftLeft]
  rcases Nat.lt_or_ge i n with h | h
  · simp [h, Nat.not_le.mpr h]
  · simp [hi, h, Nat.not_lt.mpr h]
theorem b_ushr (n : Nat) (hn : n < 32) (x : Int32) (i : Nat) : bt ((x.toUInt32 >>> ((nI n).toUInt32 &&& Int32.toUInt32 31)).toInt32) i = bt x (n + i) := by
  show (x.toUInt32 >>> ((nI n).toUInt32 &&& Int32.toUInt32 31)).toBitVec.getLsbD i = x.toUInt32.toBitVec.getLsbD (n + i)
  rw [UInt32.toBitVec_shiftRight]
  show (x.toUInt32.toBitVec >>> (((nI n).toUInt32 &&& Int32.toUInt32 31).toBitVec % 32).toNat).getLsbD i = _
  rw [s_u n hn, BitVec.getLsbD_ushiftRight]
theorem b_sshr (n : Nat) (hn : n < 32) (x : Int32) {i : Nat} (hi : i < 32) : bt (x >>> (nI n &&& 31)) i = if n + i < 32 then bt x (n + i) else bt x 31 := by
  unfold bt
  rw [Int32.toBitVec_shiftRight]
  show (x.toBitVec.sshiftRight ((nI n &&& 31).toBitVec.smod 32).toNat).getLsbD i = _
  rw [s_l n hn, BitVec.getLsbD_sshiftRight, BitVec.msb_eq_getLsbD_last]
  simp [hi]
theorem b_shl8 (x : Int32) {i : Nat} (hi : i < 32) : bt (x <<< ((8 : Int32) &&& 31)) i = (decide (8 ≤ i) && bt x (i - 8)) := b_shl 8 (by omega) x hi
theorem b_shl16 (x : Int32) {i : Nat} (hi : i < 32) : bt (x <<< ((16 : Int32) &&& 31)) i = (decide (16 ≤ i) && bt x (i - 16)) := b_shl 16 (by omega) x hi
theorem b_shl24 (x : Int32) {i : Nat} (hi : i < 32) : bt (x <<< ((24 : Int32) &&& 31)) i = (decide (24 ≤ i) && bt x (i - 24)) := b_shl 24 (by omega) x hi
/-! sets of lanes, by their bits; what a warp of the reference is -/
theorem y_1 : ∀ i, i < 32 → bt 1 i = decide (i = 0) := by decide +kernel
theorem y_b1 (i : Nat) : bt 1 i = decide (i = 0) := by
  by_cases h : i < 32
  · exact y_1 i h
  · rw [b_big (by omega)]
    exact (decide_eq_false (by omega)).symm
theorem y_nat {k : Int32} (h : 0 ≤ k.toInt ∧ k.toInt ≤ 31) : ∃ j : Nat, j < 32 ∧ k = nI j ∧ k.toInt = (j : Int) ∧ k.toInt.toNat = j := by
  obtain ⟨j, hj, e, t⟩ := th_nn h.1
  exact ⟨j, by omega, e, t, by omega⟩
theorem y_isOf {x k : Int32} (hk : 0 ≤ k.toInt ∧ k.toInt ≤ 31) : (x >>> (k &&& 31) &&& 1) = 1 ↔ bt x k.toInt.toNat = true := by
  obtain ⟨j, hj, e, t, tn⟩ := y_nat hk
  rw [tn, e]
  have key : ∀ i, i < 32 → bt (x >>> (nI j &&& 31) &&& 1) i = (decide (i = 0) && bt x j) := by
    intro i hi
    rw [b_and, y_b1, b_sshr j hj x hi]
    by_cases h0 : i = 0
    · subst h0
      rw [if_pos (by omega)]
      simp
    · simp [h0]
  constructor
  · intro h
    have k0 := key 0 (by omega)
    rw [h] at k0
    simpa [y_b1] using k0.symm
  · intro h
    refine b_ext (fun i hi => ?_)
    rw [key i hi, y_b1, h]
    simp
theorem y_bit1 {k : Int32} (hk : 0 ≤ k.toInt ∧ k.toInt ≤ 31) (i : Nat) : bt ((1 : Int32) <<< (k &&& 31)) i = decide (i = k.toInt.toNat) := by
  obtain ⟨j, hj, e, t, tn⟩ := y_nat hk
  rw [tn, e]
  by_cases hi : i < 32
  · rw [b_shl j hj 1 hi, y_b1]
    by_cases h : i = j
    · subst h
      simp
    · by_cases h2 : j ≤ i
      · have h3 : ¬ i - j = 0 := by omega
        simp [h, h3]
      · simp [h, h2]
  · rw [b_big (by omega)]
    exact (decide_eq_false (by omega)).symm
theorem y_mi (a l : Int32) (i : Nat) : bt (a &&& (l ^^^ (-1))) i = (bt a i && !bt l i) := by
  by_cases hi : i < 32
  · rw [b_and, b_xor, b_m1 i hi]
    simp
  · rw [b_big (by omega), b_big (x := a) (by omega)]
    rfl
def y_8 (x : Int32) : Prop := ∀ i, 8 ≤ i → bt x i = false
def y_sub (a b : Int32) : Prop := ∀ i, bt a i = true → bt b i = true
theorem y_sub_t {a b c : Int32} (h1 : y_sub a b) (h2 : y_sub b c) : y_sub a c := fun i h => h2 i (h1 i h)
theorem y_sub_r (a : Int32) : y_sub a a := fun _ h => h
theorem y_sub_0 (a : Int32) : y_sub 0 a := fun i h => by rw [b_0] at h; cases h
theorem y_sub_mi (a l : Int32) : y_sub (a &&& (l ^^^ (-1))) a := fun i h => by
  rw [y_mi, Bool.and_eq_true] at h
  exact h.1
theorem y_sub_and (a b : Int32) : y_sub (a &&& b) a ∧ y_sub (a &&& b) b := ⟨fun i h => by rw [b_and, Bool.and_eq_true] at h; exact h.1, fun i h => by rw [b_and, Bool.and_eq_true] at h; exact h.2⟩
theorem y_8s {a b : Int32} (h : y_sub a b) (q : y_8 b) : y_8 a := fun i hi => by
  cases e : bt a i with
  | false => rfl
  | true => have k := h i e; rw [q i hi] at k; cases k
theorem y_0 {a : Int32} (h : ∀ i, i < 8 → bt a i = false) (q : y_8 a) : a = 0 := b_ext (fun i _ => by
  rw [b_0]
  by_cases hi : i < 8
  · exact h i hi
  · exact q i (by omega))
theorem y_ex {a : Int32} (q : y_8 a) (h : ¬ a = 0) : ∃ i, i < 8 ∧ bt a i = true := by
  apply Classical.byContradiction
  intro hn
  apply h
  refine y_0 (fun i hi => ?_) q
  cases e : bt a i with
  | false => rfl
  | true => exact absurd ⟨i, hi, e⟩ hn
theorem y_nz {a : Int32} {i : Nat} (h : bt a i = true) : ¬ a = 0 := fun q => by
  rw [q, b_0] at h
  cases h
theorem y_sub0 {a b : Int32} (h : y_sub a b) (hb : b = 0) (q : y_8 a) : a = 0 := y_0 (fun i _ => by
  cases e : bt a i with
  | false => rfl
  | true => have := h i e; rw [hb, b_0] at this; cases this) q
def y_pop (x : Int32) : Nat → Nat
  | 0 => 0
  | n + 1 => y_pop x n + (if bt x n = true then 1 else 0)
theorem y_pop_le {a b : Int32} (h : y_sub a b) : ∀ n, y_pop a n ≤ y_pop b n
  | 0 => Nat.le_refl _
  | n + 1 => by
    have ih := y_pop_le h n
    show y_pop a n + _ ≤ y_pop b n + _
    by_cases e : bt a n = true
    · rw [if_pos e, if_pos (h n e)]
      omega
    · rw [if_neg e]
      omega
theorem y_pop_lt {a b : Int32} (h : y_sub a b) {i : Nat} (hb : bt b i = true) (ha : bt a i = false) : ∀ n, i < n → y_pop a n < y_pop b n
  | 0, hn => absurd hn (by omega)
  | n + 1, hn => by
    show y_pop a n + _ < y_pop b n + _
    by_cases e : i = n
    · subst e
      have ih := y_pop_le h i
      rw [if_pos hb, if_neg (by rw [ha]; decide)]
      omega
    · have ih := y_pop_lt h hb ha n (by omega)
      by_cases e2 : bt a n = true
      · rw [if_pos e2, if_pos (h n e2)]
        omega
      · rw [if_neg e2]
        omega
theorem y_pop_ge {a : Int32} {i : Nat} (h : bt a i = true) (n : Nat) (hn : i < n) : 1 ≤ y_pop a n := by
  have q := y_pop_lt (y_sub_0 a) h (b_0 i) n hn
  omega
def y_pc (x : Int32) : Int := (y_pop x 8 : Int)
theorem y_pc0 (x : Int32) : 0 ≤ y_pc x := by unfold y_pc; omega
theorem y_pc_le {a b : Int32} (h : y_sub a b) : y_pc a ≤ y_pc b := by
  have := y_pop_le h 8
  unfold y_pc
  omega
theorem y_pc_lt {a b : Int32} (h : y_sub a b) {i : Nat} (hi : i < 8) (hb : bt b i = true) (ha : bt a i = false) : y_pc a < y_pc b := by
  have := y_pop_lt h hb ha 8 hi
  unfold y_pc
  omega
/-- a part of a set that is neither empty nor all: it and what is left are smaller -/
theorem y_split {go la : Int32} (h8 : y_8 la) (hs : y_sub go la) (h0 : ¬ go = 0) (h1 : ¬ go = la) : y_pc go < y_pc la ∧ y_pc (la &&& (go ^^^ (-1))) < y_pc la ∧ ¬ (la &&& (go ^^^ (-1))) = 0 := by
  have g8 := y_8s hs h8
  obtain ⟨i, hi, bi⟩ := y_ex g8 h0
  have hm : ¬ (la &&& (go ^^^ (-1))) = 0 := fun q => h1 (b_ext (fun j _ => by
    have k := y_mi la go j
    rw [q, b_0] at k
    cases e : bt go j with
    | true => exact (hs j e).symm
    | false => rw [e] at k; simpa using k))
  obtain ⟨j, hj, bj⟩ := y_ex (y_8s (y_sub_mi la go) h8) hm
  rw [y_mi, Bool.and_eq_true] at bj
  have gj : bt go j = false := by simpa using bj.2
  refine ⟨y_pc_lt hs hj bj.1 gj, y_pc_lt (y_sub_mi la go) hi (hs i bi) ?_, hm⟩
  rw [y_mi, bi]
  simp
/-! a warp -/
def y_W0 (f : Nat → Int32) (w : Int) : Prop := y_8 (y_c f (107 + 6 * w)) ∧ y_sub (y_c f (108 + 6 * w)) (y_c f (107 + 6 * w)) ∧ (0 ≤ (y_c f (105 + 6 * w)).toInt ∧ (y_c f (105 + 6 * w)).toInt ≤ 7) ∧ (0 ≤ (y_c f (109 + 6 * w)).toInt ∧ (y_c f (109 + 6 * w)).toInt ≤ 15)
def y_Wf (L : Int) (f : Nat → Int32) (w : Int) : Prop := ∀ k : Int, 0 ≤ k → k < 8 → (0 ≤ (y_c f (256 + 8 * w + k)).toInt ∧ (y_c f (256 + 8 * w + k)).toInt ≤ L) ∧ (bt (y_c f (107 + 6 * w)) k.toNat = true → (y_c f (256 + 8 * w + k)).toInt < L)
def y_Ws (L : Int) (f : Nat → Int32) (w : Int) : Prop := (∀ k : Int, 0 ≤ k → k < (y_c f (109 + 6 * w)).toInt → (0 ≤ (y_c f (288 + 48 * w + 3 * k)).toInt ∧ (y_c f (288 + 48 * w + 3 * k)).toInt ≤ L) ∧ y_8 (y_c f (290 + 48 * w + 3 * k)) ∧ k + 2 * y_pc (y_c f (290 + 48 * w + 3 * k)) ≤ 16) ∧ (∀ k : Int, 0 ≤ k → k + 1 < (y_c f (109 + 6 * w)).toInt → (y_c f (288 + 48 * w + 3 * k)).toInt = (y_c f (292 + 48 * w + 3 * k)).toInt ∨ (1 ≤ k ∧ k + 1 + 2 * y_pc (y_c f (290 + 48 * w + 3 * k)) ≤ 16)) ∧ ((y_c f (109 + 6 * w)).toInt = 0 → y_c f (107 + 6 * w) = 0) ∧ (0 < (y_c f (109 + 6 * w)).toInt → y_sub (y_c f (107 + 6 * w)) (y_c f (290 + 48 * w)))
def y_Wt (L : Int) (f : Nat → Int32) (w : Int) : Prop := 0 < (y_c f (109 + 6 * w)).toInt → (y_c f (285 + 48 * w + 3 * (y_c f (109 + 6 * w)).toInt)).toInt < L
def y_own (w j : Int) : Prop := (104 + 6 * w ≤ j ∧ j < 110 + 6 * w) ∨ (256 + 8 * w ≤ j ∧ j < 264 + 8 * w) ∨ (288 + 48 * w ≤ j ∧ j < 336 + 48 * w)
theorem y_W0c {f g : Nat → Int32} {w : Int} (h : ∀ j, y_own w j → y_c g j = y_c f j) (q : y_W0 f w) : y_W0 g w := by
  unfold y_W0 at q ⊢
  rw [h (107 + 6 * w) (Or.inl (by omega)), h (108 + 6 * w) (Or.inl (by omega)), h (105 + 6 * w) (Or.inl (by omega)), h (109 + 6 * w) (Or.inl (by omega))]
  exact q
theorem y_Wfc {L : Int} {f g : Nat → Int32} {w : Int} (h : ∀ j, y_own w j → y_c g j = y_c f j) (q : y_Wf L f w) : y_Wf L g w := by
  intro k h0 h1
  rw [h (107 + 6 * w) (Or.inl (by omega)), h (256 + 8 * w + k) (Or.inr (Or.inl (by omega)))]
  exact q k h0 h1
theorem y_Wsc {L : Int} {f g : Nat → Int32} {w : Int} (h : ∀ j, y_own w j → y_c g j = y_c f j) (hn : (y_c f (109 + 6 * w)).toInt ≤ 15) (q : y_Ws L f w) : y_Ws L g w := by
  obtain ⟨q1, q2, q3, q4⟩ := q
  have e1 := h (109 + 6 * w) (Or.inl (by omega))
  have e2 := h (107 + 6 * w) (Or.inl (by omega))
  have e3 := h (290 + 48 * w) (Or.inr (Or.inr (by omega)))
  refine ⟨fun k h0 h1 => ?_, fun k h0 h1 => ?_, ?_, ?_⟩
  · rw [e1] at h1
    rw [h (288 + 48 * w + 3 * k) (Or.inr (Or.inr (by omega))), h (290 + 48 * w + 3 * k) (Or.inr (Or.inr (by omega)))]
    exact q1 k h0 h1
  · rw [e1] at h1
    rw [h (288 + 48 * w + 3 * k) (Or.inr (Or.inr (by omega))), h (290 + 48 * w + 3 * k) (Or.inr (Or.inr (by omega))), h (292 + 48 * w + 3 * k) (Or.inr (Or.inr (by omega)))]
    exact q2 k h0 h1
  · rw [e1, e2]; exact q3
  · rw [e1, e2, e3]; exact q4
theorem y_Wtc {L : Int} {f g : Nat → Int32} {w : Int} (h : ∀ j, y_own w j → y_c g j = y_c f j) (hn : (y_c f (109 + 6 * w)).toInt ≤ 15) (q : y_Wt L f w) : y_Wt L g w := by
  unfold y_Wt at q ⊢
  rw [h (109 + 6 * w) (Or.inl (by omega))]
  intro h0
  rw [h (285 + 48 * w + 3 * (y_c f (109 + 6 * w)).toInt) (Or.inr (Or.inr (by omega)))]
  exact q h0
/-- a warp, by the mode -/
def y_NW (L : Int) (f : Nat → Int32) (w : Int) : Prop := y_W0 f w ∧ ((y_c f 3).toInt = 0 → y_Ws L f w ∧ y_Wt L f w) ∧ (¬ (y_c f 3).toInt = 0 → y_Wf L f w)
theorem y_NWc {L : Int} {f g : Nat → Int32} {w : Int} (h : ∀ j, y_own w j → y_c g j = y_c f j) (h3 : y_c g 3 = y_c f 3) (q : y_NW L f w) : y_NW L g w := by
  obtain ⟨q1, q2, q3⟩ := q
  have hn := q1.2.2.2.2
  refine ⟨y_W0c h q1, ?_, ?_⟩
  · rw [h3]; exact fun e => ⟨y_Wsc h hn (q2 e).1, y_Wtc h hn (q2 e).2⟩
  · rw [h3]; exact fun e => y_Wfc h (q3 e)
/-! lanes die -/
def y_die (f : Nat → Int32) (w n : Int) (l : Int32) (j : Int) : Int32 := if j = 107 + 6 * w ∨ j = 108 + 6 * w ∨ (290 + 48 * w ≤ j ∧ j < 290 + 48 * w + 3 * n ∧ (j - 290 - 48 * w) % 3 = 0) then y_c f j &&& (l ^^^ (-1)) else y_c f j
theorem y_die0 {f0 f1 f2 : Nat → Int32} {w i1 i2 : Int} {l v1 v2 : Int32} (hw : 0 ≤ w ∧ w ≤ 3) (h1 : ∀ j : Int, 0 ≤ j → y_c f1 j = if j = i1 then v1 else y_c f0 j) (h2 : ∀ j : Int, 0 ≤ j → y_c f2 j = if j = i2 then v2 else y_c f1 j) (e1 : i1 = 107 + 6 * w) (e2 : i2 = 108 + 6 * w) (q1 : v1 = y_c f0 i1 &&& (l ^^^ (-1))) (q2 : v2 = y_c f1 i2 &&& (l ^^^ (-1))) : ∀ j : Int, 0 ≤ j → y_c f2 j = y_die f0 w 0 l j := by
  intro j hj
  subst e1; subst e2
  unfold y_die
  rw [h2 j hj]
  by_cases c2 : j = 108 + 6 * w
  · rw [if_pos c2, if_pos (Or.inr (Or.inl c2)), q2, h1 _ (by omega), if_neg (by omega), c2]
  · rw [if_neg c2, h1 j hj]
    by_cases c1 : j = 107 + 6 * w
    · rw [if_pos c1, if_pos (Or.inl c1), q1, c1]
    · rw [if_neg c1, if_neg (by omega)]
theorem y_dieS {f0 f1 f2 : Nat → Int32} {w k i : Int} {l v : Int32} (hw : 0 ≤ w ∧ w ≤ 3) (hk : 0 ≤ k ∧ k ≤ 15) (h : ∀ j : Int, 0 ≤ j → y_c f1 j = y_die f0 w k l j) (h2 : ∀ j : Int, 0 ≤ j → y_c f2 j = if j = i then v else y_c f1 j) (e : i = 290 + 48 * w + 3 * k) (q : v = y_c f1 i &&& (l ^^^ (-1))) : ∀ j : Int, 0 ≤ j → y_c f2 j = y_die f0 w (k + 1) l j := by
  intro j hj
  subst e
  rw [h2 j hj]
  by_cases c : j = 290 + 48 * w + 3 * k
  · rw [if_pos c, q, h _ (by omega)]
    unfold y_die
    rw [if_neg (by omega), if_pos (by omega), c]
  · rw [if_neg c, h j hj]
    unfold y_die
    by_cases c2 : j = 107 + 6 * w ∨ j = 108 + 6 * w ∨ (290 + 48 * w ≤ j ∧ j < 290 + 48 * w + 3 * k ∧ (j - 290 - 48 * w) % 3 = 0)
    · rw [if_pos c2, if_pos (by omega)]
    · rw [if_neg c2, if_neg (by omega)]
theorem y_dieN {f : Nat → Int32} {w n j : Int} {l : Int32} (h : ¬ (j = 107 + 6 * w ∨ j = 108 + 6 * w ∨ (290 + 48 * w ≤ j ∧ j < 290 + 48 * w + 3 * n ∧ (j - 290 - 48 * w) % 3 = 0))) : y_die f w n l j = y_c f j := if_neg h
theorem y_dieY {f : Nat → Int32} {w n j : Int} {l : Int32} (h : j = 107 + 6 * w ∨ j = 108 + 6 * w ∨ (290 + 48 * w ≤ j ∧ j < 290 + 48 * w + 3 * n ∧ (j - 290 - 48 * w) % 3 = 0)) : y_die f w n l j = y_c f j &&& (l ^^^ (-1)) := if_pos h
theorem y_sub_mm {a b l : Int32} (h : y_sub a b) : y_sub (a &&& (l ^^^ (-1))) (b &&& (l ^^^ (-1))) := fun i q => by
  rw [y_mi, Bool.and_eq_true] at q ⊢
  exact ⟨h i q.1, q.2⟩
theorem y_W0_die {f g : Nat → Int32} {w n : Int} {l : Int32} (hw : 0 ≤ w ∧ w ≤ 3) (h : ∀ j : Int, 0 ≤ j → y_c g j = y_die f w n l j) (q : y_W0 f w) : y_W0 g w := by
  obtain ⟨q1, q2, q3, q4⟩ := q
  unfold y_W0
  rw [h (107 + 6 * w) (by omega), y_dieY (by omega), h (108 + 6 * w) (by omega), y_dieY (by omega), h (105 + 6 * w) (by omega), y_dieN (by omega), h (109 + 6 * w) (by omega), y_dieN (by omega)]
  exact ⟨y_8s (y_sub_mi _ _) q1, y_sub_mm q2, q3, q4⟩
theorem y_Ws_die {L : Int} {f g : Nat → Int32} {w n : Int} {l : Int32} (hw : 0 ≤ w ∧ w ≤ 3) (h : ∀ j : Int, 0 ≤ j → y_c g j = y_die f w n l j) (hn : n = (y_c f (109 + 6 * w)).toInt) (hn2 : n ≤ 15) (q : y_Ws L f w) : y_Ws L g w := by
  obtain ⟨q1, q2, q3, q4⟩ := q
  have e1 : y_c g (109 + 6 * w) = y_c f (109 + 6 * w) := by rw [h _ (by omega), y_dieN (by omega)]
  have e2 : y_c g (107 + 6 * w) = y_c f (107 + 6 * w) &&& (l ^^^ (-1)) := by rw [h _ (by omega), y_dieY (by omega)]
  refine ⟨fun k h0 h1 => ?_, fun k h0 h1 => ?_, ?_, ?_⟩
  · rw [e1] at h1
    obtain ⟨a, b, c⟩ := q1 k h0 h1
    rw [h (288 + 48 * w + 3 * k) (by omega), y_dieN (by omega), h (290 + 48 * w + 3 * k) (by omega), y_dieY (by omega)]
    have p := y_pc_le (y_sub_mi (y_c f (290 + 48 * w + 3 * k)) l)
    exact ⟨a, y_8s (y_sub_mi _ _) b, by omega⟩
  · rw [e1] at h1
    rw [h (288 + 48 * w + 3 * k) (by omega), y_dieN (by omega), h (290 + 48 * w + 3 * k) (by omega), y_dieY (by omega), h (292 + 48 * w + 3 * k) (by omega), y_dieN (by omega)]
    have p := y_pc_le (y_sub_mi (y_c f (290 + 48 * w + 3 * k)) l)
    have c := q2 k h0 h1
    omega
  · rw [e1, e2]
    intro e
    rw [q3 e]
    exact b_ext (fun i _ => by rw [y_mi, b_0]; rfl)
  · rw [e1, e2]
    intro e
    rw [h (290 + 48 * w) (by omega), y_dieY (by omega)]
    exact y_sub_mm (q4 e)
/-- the uppermost part goes -/
theorem y_Ws_pop {L : Int} {f g : Nat → Int32} {w i : Int} {v : Int32} (hw : 0 ≤ w ∧ w ≤ 3) (h : ∀ j : Int, 0 ≤ j → y_c g j = if j = i then v else y_c f j) (hi : i = 109 + 6 * w) (hv : v.toInt = (y_c f (109 + 6 * w)).toInt - 1) (h0 : y_W0 f w) (hn : 0 < (y_c f (109 + 6 * w)).toInt) (hc : y_c f (287 + 48 * w + 3 * (y_c f (109 + 6 * w)).toInt) = 0 ∨ 1 < (y_c f (109 + 6 * w)).toInt) (q : y_Ws L f w) : y_W0 g w ∧ y_Ws L g w := by
  subst hi
  obtain ⟨q1, q2, q3, q4⟩ := q
  have e1 : y_c g (109 + 6 * w) = v := by rw [h _ (by omega), if_pos rfl]
  have ne : ∀ j : Int, 0 ≤ j → j ≠ 109 + 6 * w → y_c g j = y_c f j := fun j hj hne => by rw [h j hj, if_neg hne]
  have hn2 := h0.2.2.2.2
  refine ⟨?_, fun k k0 k1 => ?_, fun k k0 k1 => ?_, ?_, ?_⟩
  · obtain ⟨a, b, c, d⟩ := h0
    unfold y_W0
    rw [ne (107 + 6 * w) (by omega) (by omega), ne (108 + 6 * w) (by omega) (by omega), ne (105 + 6 * w) (by omega) (by omega), e1]
    exact ⟨a, b, c, by omega, by omega⟩
  · rw [e1] at k1
    rw [ne (288 + 48 * w + 3 * k) (by omega) (by omega), ne (290 + 48 * w + 3 * k) (by omega) (by omega)]
    exact q1 k k0 (by omega)
  · rw [e1] at k1
    rw [ne (288 + 48 * w + 3 * k) (by omega) (by omega), ne (290 + 48 * w + 3 * k) (by omega) (by omega), ne (292 + 48 * w + 3 * k) (by omega) (by omega)]
    exact q2 k k0 (by omega)
  · rw [e1, ne (107 + 6 * w) (by omega) (by omega)]
    intro e
    rcases hc with c | c
    · rw [show 287 + 48 * w + 3 * (y_c f (109 + 6 * w)).toInt = 290 + 48 * w by omega] at c
      exact y_sub0 (q4 hn) c h0.1
    · omega
  · rw [e1, ne (107 + 6 * w) (by omega) (by omega), ne (290 + 48 * w) (by omega) (by omega)]
    intro e
    exact q4 hn
/-- the uppermost part is at another line -/
theorem y_Ws_top {L : Int} {f g : Nat → Int32} {w i : Int} {v : Int32} (hw : 0 ≤ w ∧ w ≤ 3) (h : ∀ j : Int, 0 ≤ j → y_c g j = if j = i then v else y_c f j) (hi : i = 285 + 48 * w + 3 * (y_c f (109 + 6 * w)).toInt) (hv : 0 ≤ v.toInt ∧ v.toInt ≤ L) (h0 : y_W0 f w) (hn : 0 < (y_c f (109 + 6 * w)).toInt) (q : y_Ws L f w) : y_W0 g w ∧ y_Ws L g w := by
  subst hi
  obtain ⟨q1, q2, q3, q4⟩ := q
  have hn2 := h0.2.2.2.2
  have ne : ∀ j : Int, 0 ≤ j → j ≠ 285 + 48 * w + 3 * (y_c f (109 + 6 * w)).toInt → y_c g j = y_c f j := fun j hj hne => by rw [h j hj, if_neg hne]
  have e1 := ne (109 + 6 * w) (by omega) (by omega)
  refine ⟨?_, fun k k0 k1 => ?_, fun k k0 k1 => ?_, ?_, ?_⟩
  · obtain ⟨a, b, c, d⟩ := h0
    unfold y_W0
    rw [ne (107 + 6 * w) (by omega) (by omega), ne (108 + 6 * w) (by omega) (by omega), ne (105 + 6 * w) (by omega) (by omega), e1]
    exact ⟨a, b, c, d⟩
  · rw [e1] at k1
    obtain ⟨a, b, c⟩ := q1 k k0 k1
    rw [ne (290 + 48 * w + 3 * k) (by omega) (by omega)]
    refine ⟨?_, b, c⟩
    by_cases e : k = (y_c f (109 + 6 * w)).toInt - 1
    · rw [h _ (by omega), if_pos (by omega)]
      exact hv
    · rw [ne (288 + 48 * w + 3 * k) (by omega) (by omega)]
      exact a
  · rw [e1] at k1
    rw [ne (288 + 48 * w + 3 * k) (by omega) (by omega), ne (290 + 48 * w + 3 * k) (by omega) (by omega), ne (292 + 48 * w + 3 * k) (by omega) (by omega)]
    exact q2 k k0 k1
  · rw [e1, ne (107 + 6 * w) (by omega) (by omega)]
    exact q3
  · rw [e1, ne (107 + 6 * w) (by omega) (by omega), ne (290 + 48 * w) (by omega) (by omega)]
    exact q4
/-- a part more -/
def y_psh (f : Nat → Int32) (w : Int) (a b c : Int32) (j : Int) : Int32 := if j = 109 + 6 * w then y_c f (109 + 6 * w) + 1 else if j = 290 + 48 * w + 3 * (y_c f (109 + 6 * w)).toInt then c else if j = 289 + 48 * w + 3 * (y_c f (109 + 6 * w)).toInt then b else if j = 288 + 48 * w + 3 * (y_c f (109 + 6 * w)).toInt then a else y_c f j
theorem y_Ws_push {L : Int} {f g : Nat → Int32} {w : Int} {a b c : Int32} (hw : 0 ≤ w ∧ w ≤ 3) (h : ∀ j : Int, 0 ≤ j → y_c g j = y_psh f w a b c j) (h0 : y_W0 f w) (hn : (y_c f (109 + 6 * w)).toInt ≤ 14) (ha : 0 ≤ a.toInt ∧ a.toInt ≤ L) (hc : y_8 c) (hp : (y_c f (109 + 6 * w)).toInt + 2 * y_pc c ≤ 16) (hs : 0 < (y_c f (109 + 6 * w)).toInt → (y_c f (285 + 48 * w + 3 * (y_c f (109 + 6 * w)).toInt)).toInt = b.toInt ∨ (2 ≤ (y_c f (109 + 6 * w)).toInt ∧ (y_c f (109 + 6 * w)).toInt + 2 * y_pc (y_c f (287 + 48 * w + 3 * (y_c f (109 + 6 * w)).toInt)) ≤ 16)) (hl : (y_c f (109 + 6 * w)).toInt = 0 → y_sub (y_c f (107 + 6 * w)) c) (q : (y_c f (109 + 6 * w)).toInt = 0 ∨ y_Ws L f w) : y_W0 g w ∧ y_Ws L g w := by
  have hn0 := h0.2.2.2.1
  have hN : ∃ n : Int, n = (y_c f (109 + 6 * w)).toInt := ⟨_, rfl⟩
  obtain ⟨n, en⟩ := hN
  rw [← en] at hn hp hs hl q hn0
  have e1 : (y_c g (109 + 6 * w)).toInt = n + 1 := by
    rw [h _ (by omega)]
    unfold y_psh
    rw [if_pos rfl, th_add rfl (by decide : (1 : Int32).toInt = 1) ⟨by omega, by omega⟩, ← en]
  have ne : ∀ j : Int, 0 ≤ j → j ≠ 109 + 6 * w → j ≠ 288 + 48 * w + 3 * n → j ≠ 289 + 48 * w + 3 * n → j ≠ 290 + 48 * w + 3 * n → y_c g j = y_c f j := fun j hj h1 h2 h3 h4 => by
    rw [h j hj]
    unfold y_psh
    rw [← en, if_neg h1, if_neg h4, if_neg h3, if_neg h2]
  have ea : y_c g (288 + 48 * w + 3 * n) = a := by
    rw [h _ (by omega)]
    unfold y_psh
    rw [← en, if_neg (by omega), if_neg (by omega), if_neg (by omega), if_pos rfl]
  have eb : y_c g (289 + 48 * w + 3 * n) = b := by
    rw [h _ (by omega)]
    unfold y_psh
    rw [← en, if_neg (by omega), if_neg (by omega), if_pos rfl]
  have ec : y_c g (290 + 48 * w + 3 * n) = c := by
    rw [h _ (by omega)]
    unfold y_psh
    rw [← en, if_neg (by omega), if_pos rfl]
  have e2 := ne (107 + 6 * w) (by omega) (by omega) (by omega) (by omega) (by omega)
  refine ⟨?_, fun k k0 k1 => ?_, fun k k0 k1 => ?_, ?_, ?_⟩
  · obtain ⟨p1, p2, p3, p4⟩ := h0
    unfold y_W0
    rw [e2, ne (108 + 6 * w) (by omega) (by omega) (by omega) (by omega) (by omega), ne (105 + 6 * w) (by omega) (by omega) (by omega) (by omega) (by omega), e1]
    exact ⟨p1, p2, p3, by omega, by omega⟩
  · rw [e1] at k1
    by_cases e : k = n
    · rw [e, ea, ec]
      exact ⟨ha, hc, hp⟩
    · rw [ne (288 + 48 * w + 3 * k) (by omega) (by omega) (by omega) (by omega) (by omega), ne (290 + 48 * w + 3 * k) (by omega) (by omega) (by omega) (by omega) (by omega)]
      exact (q.resolve_left (by omega)).1 k k0 (by rw [← en]; omega)
  · rw [e1] at k1
    rw [ne (288 + 48 * w + 3 * k) (by omega) (by omega) (by omega) (by omega) (by omega), ne (290 + 48 * w + 3 * k) (by omega) (by omega) (by omega) (by omega) (by omega)]
    by_cases e : k = n - 1
    · rw [show 292 + 48 * w + 3 * k = 289 + 48 * w + 3 * n by omega, eb]
      have hs' := hs (by omega)
      rw [show 285 + 48 * w + 3 * n = 288 + 48 * w + 3 * k by omega, show 287 + 48 * w + 3 * n = 290 + 48 * w + 3 * k by omega] at hs'
      omega
    · rw [ne (292 + 48 * w + 3 * k) (by omega) (by omega) (by omega) (by omega) (by omega)]
      exact (q.resolve_left (by omega)).2.1 k k0 (by rw [← en]; omega)
  · rw [e1]
    intro e
    omega
  · rw [e2]
    intro _
    by_cases e : n = 0
    · rw [show 290 + 48 * w = 290 + 48 * w + 3 * n by omega, ec]
      exact hl e
    · rw [ne (290 + 48 * w) (by omega) (by omega) (by omega) (by omega) (by omega)]
      exact (q.resolve_left e).2.2.2 (by rw [← en]; omega)
/-- the two uppermost parts change their places -/
theorem y_Ws_swap {L : Int} {f g : Nat → Int32} {w n : Int} (hw : 0 ≤ w ∧ w ≤ 3) (en : n = (y_c f (109 + 6 * w)).toInt) (h0 : y_W0 f w) (hn : 2 ≤ n) (h : ∀ j : Int, 0 ≤ j → j < 282 + 48 * w + 3 * n ∨ 288 + 48 * w + 3 * n ≤ j → y_c g j = y_c f j) (h1 : ∀ i : Int, 0 ≤ i → i < 3 → y_c g (285 + 48 * w + 3 * n + i) = y_c f (282 + 48 * w + 3 * n + i) ∧ y_c g (282 + 48 * w + 3 * n + i) = y_c f (285 + 48 * w + 3 * n + i)) (hm : (y_c f (286 + 48 * w + 3 * n)).toInt = (y_c f (283 + 48 * w + 3 * n)).toInt) (hd : ¬ (y_c f (282 + 48 * w + 3 * n)).toInt = (y_c f (283 + 48 * w + 3 * n)).toInt) (q : y_Ws L f w) : y_W0 g w ∧ y_Ws L g w := by
  have hn2 := h0.2.2.2.2
  rw [← en] at hn2
  obtain ⟨q1, q2, q3, q4⟩ := q
  rw [← en] at q1 q2 q3 q4
  have a0 := (h1 0 (by omega) (by omega))
  have a1 := (h1 1 (by omega) (by omega))
  have a2 := (h1 2 (by omega) (by omega))
  have e1 := h (109 + 6 * w) (by omega) (by omega)
  have e2 := h (107 + 6 * w) (by omega) (by omega)
  have p := q2 (n - 2) (by omega) (by omega)
  rw [show 288 + 48 * w + 3 * (n - 2) = 282 + 48 * w + 3 * n by omega, show 292 + 48 * w + 3 * (n - 2) = 286 + 48 * w + 3 * n by omega, show 290 + 48 * w + 3 * (n - 2) = 284 + 48 * w + 3 * n by omega] at p
  have u := q1 (n - 1) (by omega) (by omega)
  rw [show 288 + 48 * w + 3 * (n - 1) = 285 + 48 * w + 3 * n by omega, show 290 + 48 * w + 3 * (n - 1) = 287 + 48 * w + 3 * n by omega] at u
  have b := q1 (n - 2) (by omega) (by omega)
  rw [show 288 + 48 * w + 3 * (n - 2) = 282 + 48 * w + 3 * n by omega, show 290 + 48 * w + 3 * (n - 2) = 284 + 48 * w + 3 * n by omega] at b
  refine ⟨?_, fun k k0 k1 => ?_, fun k k0 k1 => ?_, ?_, ?_⟩
  · obtain ⟨p1, p2, p3, p4⟩ := h0
    unfold y_W0
    rw [e2, h (108 + 6 * w) (by omega) (by omega), h (105 + 6 * w) (by omega) (by omega), e1]
    exact ⟨p1, p2, p3, p4⟩
  · rw [e1, ← en] at k1
    by_cases c1 : k = n - 1
    · rw [show 288 + 48 * w + 3 * k = 285 + 48 * w + 3 * n + 0 by omega, show 290 + 48 * w + 3 * k = 285 + 48 * w + 3 * n + 2 by omega, a0.1, a2.1, show 282 + 48 * w + 3 * n + 0 = 282 + 48 * w + 3 * n by omega, show 282 + 48 * w + 3 * n + 2 = 284 + 48 * w + 3 * n by omega]
      exact ⟨b.1, b.2.1, by omega⟩
    · by_cases c2 : k = n - 2
      · rw [show 288 + 48 * w + 3 * k = 282 + 48 * w + 3 * n + 0 by omega, show 290 + 48 * w + 3 * k = 282 + 48 * w + 3 * n + 2 by omega, a0.2, a2.2, show 285 + 48 * w + 3 * n + 0 = 285 + 48 * w + 3 * n by omega, show 285 + 48 * w + 3 * n + 2 = 287 + 48 * w + 3 * n by omega]
        exact ⟨u.1, u.2.1, by omega⟩
      · rw [h (288 + 48 * w + 3 * k) (by omega) (by omega), h (290 + 48 * w + 3 * k) (by omega) (by omega)]
        exact q1 k k0 k1
  · rw [e1, ← en] at k1
    by_cases c2 : k = n - 2
    · rw [show 290 + 48 * w + 3 * k = 282 + 48 * w + 3 * n + 2 by omega, a2.2, show 285 + 48 * w + 3 * n + 2 = 287 + 48 * w + 3 * n by omega]
      omega
    · rw [h (288 + 48 * w + 3 * k) (by omega) (by omega), h (290 + 48 * w + 3 * k) (by omega) (by omega)]
      have c := q2 k k0 k1
      by_cases c3 : k = n - 3
      · rw [show 292 + 48 * w + 3 * k = 282 + 48 * w + 3 * n + 1 by omega, a1.2, show 285 + 48 * w + 3 * n + 1 = 286 + 48 * w + 3 * n by omega]
        rw [show 292 + 48 * w + 3 * k = 283 + 48 * w + 3 * n by omega] at c
        omega
      · rw [h (292 + 48 * w + 3 * k) (by omega) (by omega)]
        exact c
  · rw [e1, e2, ← en]
    exact q3
  · rw [e1, e2, ← en]
    intro e
    rw [h (290 + 48 * w) (by omega) (by omega)]
    exact q4 e
theorem y_addL {x y : Int64} (h : -9223372036854775808 ≤ x.toInt + y.toInt ∧ x.toInt + y.toInt < 9223372036854775808) : (x + y).toInt = x.toInt + y.toInt := by
  rw [Int64.toInt_add, Int.bmod_eq_of_le (by omega) (by omega)]
theorem y_modA {x y : Int64} (hy : 0 < y.toInt) : -y.toInt < (x - x / y * y).toInt ∧ (x - x / y * y).toInt < y.toInt ∧ (0 ≤ x.toInt → 0 ≤ (x - x / y * y).toInt) := by
  rw [th_remTL hy]
  have t := th_tmod (a := x.toInt) hy
  omega
/-- hidden from omega -/
def y_hid (p : Prop) : Prop := p
theorem y_hd {p : Prop} (h : p) : y_hid p := h
/-- a row of the draft as told: its sign, its parts -/
def y_rg (d : Nat → Int32) (i : Int) : Prop := (0 ≤ (y_c d (8 * i)).toInt ∧ (y_c d (8 * i)).toInt ≤ 15) ∧ (((y_c d (8 * i)).toInt = 5 ∨ (y_c d (8 * i)).toInt = 6 ∨ 12 ≤ (y_c d (8 * i)).toInt) ∨ -4 ≤ (y_c d (8 * i + 2)).toInt) ∧ (((y_c d (8 * i)).toInt = 5 ∨ (y_c d (8 * i)).toInt = 6 ∨ 12 ≤ (y_c d (8 * i)).toInt ∨ (y_c d (8 * i)).toInt = 0 ∨ (y_c d (8 * i)).toInt = 7 ∨ (y_c d (8 * i)).toInt = 9 ∨ (y_c d (8 * i)).toInt = 11) ∨ -4 ≤ (y_c d (8 * i + 3)).toInt) ∧ ((y_c d (8 * i)).toInt ≠ 12 ∨ (y_c d (8 * i + 5)).toInt = -1000000 ∨ (-4 ≤ (y_c d (8 * i + 2)).toInt ∧ -4 ≤ (y_c d (8 * i + 3)).toInt))
theorem y_rgC {d e : Nat → Int32} {i : Int} (h : y_c e (8 * i) = y_c d (8 * i) ∧ y_c e (8 * i + 2) = y_c d (8 * i + 2) ∧ y_c e (8 * i + 3) = y_c d (8 * i + 3) ∧ y_c e (8 * i + 5) = y_c d (8 * i + 5)) (q : y_rg d i) : y_rg e i := by
  unfold y_rg at q ⊢
  rw [h.1, h.2.1, h.2.2.1, h.2.2.2]
  exact q
def y_DG (d : Nat → Int32) (n : Int) : Prop := ∀ i : Int, 0 ≤ i → i < n → y_rg d i
/-- the draft as far as it is told, if there is no fault -/
def y_DS (d : Nat → Int32) : Prop := y_DG d (y_c d 387).toInt ∧ (1 ≤ (y_c d 384).toInt ∧ (y_c d 384).toInt ≤ 4) ∧ (0 ≤ (y_c d 385).toInt ∧ (y_c d 385).toInt ≤ 1) ∧ (0 ≤ (y_c d 386).toInt ∧ (y_c d 386).toInt ≤ 1)
theorem y_DSC {d e : Nat → Int32} (h : ∀ j : Int, 0 ≤ j → (j < 320 ∨ 384 ≤ j) → y_c e j = y_c d j) (hn : (y_c d 387).toInt ≤ 40) (q : y_DS d) : y_DS e := by
  obtain ⟨q1, q2, q3, q4⟩ := q
  refine ⟨?_, ?_, ?_, ?_⟩
  · rw [h 387 (by omega) (by omega)]
    intro i h0 h1
    exact y_rgC ⟨h _ (by omega) (by omega), h _ (by omega) (by omega), h _ (by omega) (by omega), h _ (by omega) (by omega)⟩ (q1 i h0 h1)
  · rw [h 384 (by omega) (by omega)]; exact q2
  · rw [h 385 (by omega) (by omega)]; exact q3
  · rw [h 386 (by omega) (by omega)]; exact q4
/-- one place of the draft behind the rows is written -/
theorem y_DSp {d e : Nat → Int32} {p : Int} {v : Int32} (h : ∀ j : Int, 0 ≤ j → y_c e j = if j = p then v else y_c d j) (hp : p = 385 ∨ p = 386) (hv : 0 ≤ v.toInt ∧ v.toInt ≤ 1) (hn : (y_c d 387).toInt ≤ 40) (q : y_DS d) : y_DS e := by
  obtain ⟨q1, q2, q3, q4⟩ := q
  refine ⟨?_, ?_, ?_, ?_⟩
  · rw [h 387 (by omega), if_neg (by omega)]
    intro i h0 h1
    exact y_rgC ⟨by rw [h _ (by omega), if_neg (by omega)], by rw [h _ (by omega), if_neg (by omega)], by rw [h _ (by omega), if_neg (by omega)], by rw [h _ (by omega), if_neg (by omega)]⟩ (q1 i h0 h1)
  · rw [h 384 (by omega), if_neg (by omega)]; exact q2
  · rw [h 385 (by omega)]; split; exact hv; exact q3
  · rw [h 386 (by omega)]; split; exact hv; exact q4
/-- a row more -/
theorem y_DSl {d e : Nat → Int32} {n : Int} (hn : (y_c d 387).toInt = n) (h40 : 0 ≤ n ∧ n ≤ 39) (h1 : ∀ j : Int, 0 ≤ j → j < 8 * n → y_c e j = y_c d j) (h2 : ∀ j : Int, 8 * n + 8 ≤ j → j ≠ 387 → y_c e j = y_c d j) (h3 : (y_c e 387).toInt = n + 1) (hr : y_rg e n) (q : y_DS d) : y_DS e := by
  obtain ⟨q1, q2, q3, q4⟩ := q
  rw [hn] at q1
  refine ⟨?_, ?_, ?_, ?_⟩
  · rw [h3]
    intro i h0 hi
    by_cases e1 : i = n
    · rw [e1]; exact hr
    · exact y_rgC ⟨h1 _ (by omega) (by omega), h1 _ (by omega) (by omega), h1 _ (by omega) (by omega), h1 _ (by omega) (by omega)⟩ (q1 i h0 (by omega))
  · rw [h2 384 (by omega) (by omega)]; exact q2
  · rw [h2 385 (by omega) (by omega)]; exact q3
  · rw [h2 386 (by omega) (by omega)]; exact q4
/-- each go leads to a line -/
def y_JG (d : Nat → Int32) (n k : Int) : Prop := ∀ i : Int, 0 ≤ i → i < k → (y_c d (8 * i)).toInt = 12 → 0 ≤ (y_c d (8 * i + 4)).toInt ∧ (y_c d (8 * i + 4)).toInt < n
theorem y_JGs {d e : Nat → Int32} {n k : Int} (hk : 0 ≤ k) (h : ∀ j : Int, 0 ≤ j → j ≠ 8 * k + 4 → y_c e j = y_c d j) (hv : (y_c d (8 * k)).toInt = 12 → 0 ≤ (y_c e (8 * k + 4)).toInt ∧ (y_c e (8 * k + 4)).toInt < n) (q : y_JG d n k) : y_JG e n (k + 1) := by
  intro i h0 hi
  by_cases e1 : i = k
  · subst e1
    rw [h _ (by omega) (by omega)]
    exact hv
  · rw [h _ (by omega) (by omega), h _ (by omega) (by omega)]
    exact q i h0 (by omega)
theorem y_DSj {d e : Nat → Int32} {k : Int} (hk : 0 ≤ k ∧ k < 40) (h : ∀ j : Int, 0 ≤ j → j ≠ 8 * k + 4 → y_c e j = y_c d j) (q : y_DS d) : y_DS e := by
  obtain ⟨q1, q2, q3, q4⟩ := q
  refine ⟨?_, ?_, ?_, ?_⟩
  · rw [h 387 (by omega) (by omega)]
    intro i h0 h1
    exact y_rgC ⟨h _ (by omega) (by omega), h _ (by omega) (by omega), h _ (by omega) (by omega), h _ (by omega) (by omega)⟩ (q1 i h0 h1)
  · rw [h 384 (by omega) (by omega)]; exact q2
  · rw [h 385 (by omega) (by omega)]; exact q3
  · rw [h 386 (by omega) (by omega)]; exact q4
theorem y_JGc {d : Nat → Int32} {n k k2 : Int} (e : k2 = k) (q : y_JG d n k) : y_JG d n k2 := by rw [e]; exact q
theorem y_JGle {d : Nat → Int32} {n k k2 : Int} (e : k2 ≤ k) (q : y_JG d n k) : y_JG d n k2 := fun i h0 h1 => q i h0 (by omega)
/-! where ways meet: how many lines have been come to -/
def y_cnt (f : Nat → Int32) : Nat → Int
  | 0 => 0
  | n + 1 => y_cnt f n + (if f n = 0 then 0 else 1)
theorem y_cnt0 {f : Nat → Int32} : ∀ n, (∀ j, j < n → f j = 0) → y_cnt f n = 0
  | 0, _ => rfl
  | n + 1, h => by
    show y_cnt f n + _ = 0
    rw [y_cnt0 n (fun j hj => h j (by omega)), if_pos (h n (by omega))]
    rfl
theorem y_cntB {f : Nat → Int32} : ∀ n, 0 ≤ y_cnt f n ∧ y_cnt f n ≤ n
  | 0 => ⟨Int.le_refl 0, Int.le_refl 0⟩
  | n + 1 => by
    have ih := y_cntB (f := f) n
    show 0 ≤ y_cnt f n + _ ∧ y_cnt f n + _ ≤ _
    split <;> omega
theorem y_cntL {f : Nat → Int32} {j : Nat} (h : f j = 0) : ∀ n, j < n → y_cnt f n < n
  | 0, hj => absurd hj (by omega)
  | n + 1, hj => by
    show y_cnt f n + _ < _
    by_cases e : j = n
    · subst e
      have q := y_cntB (f := f) j
      rw [if_pos h]
      omega
    · have ih := y_cntL h n (by omega)
      split <;> omega
theorem y_cntE {f g : Nat → Int32} : ∀ n, (∀ j, j < n → g j = f j) → y_cnt g n = y_cnt f n
  | 0, _ => rfl
  | n + 1, h => by
    show y_cnt g n + _ = y_cnt f n + _
    rw [y_cntE n (fun j hj => h j (by omega)), h n (by omega)]
theorem y_cntU {f : Nat → Int32} {j : Nat} {v : Int32} (h : f j = 0) (hv : ¬ v = 0) : ∀ n, j < n → y_cnt (upd f j v) n = y_cnt f n + 1
  | 0, hj => absurd hj (by omega)
  | n + 1, hj => by
    show y_cnt (upd f j v) n + _ = y_cnt f n + _ + 1
    by_cases e : j = n
    · subst e
      rw [y_cntE (f := f) j (fun i hi => y_un (by omega)), if_pos h, y_ue, if_neg hv]
      omega
    · rw [y_cntU h hv n (by omega), y_un (by omega)]
      omega
def y_HP (h : Nat → Int32) (n L : Int) : Prop := ∀ j : Int, 0 ≤ j → j < n → 0 ≤ (y_c h j).toInt ∧ (y_c h j).toInt ≤ L
def y_CM (come heap : Nat → Int32) (n L : Int) : Prop := n = y_cnt come 41 ∧ y_HP heap n L
theorem y_CMs {come heap heap2 : Nat → Int32} {n L : Int} {i k v : Int32} {b : Int32} (hC : y_CM come heap n L) (hi : 0 ≤ i.toInt ∧ i.toInt < 41) (h0 : come i.toNatClampNeg = 0) (hb : ¬ b = 0) (hh : ∀ j : Int, 0 ≤ j → y_c heap2 j = if j = n then v else y_c heap j) (hv : 0 ≤ v.toInt ∧ v.toInt ≤ L) : y_CM (upd come i.toNatClampNeg b) heap2 (n + 1) L := by
  have hl : i.toNatClampNeg < 41 := th_cl hi
  refine ⟨by rw [y_cntU h0 hb 41 hl, hC.1], fun j h0 h1 => ?_⟩
  rw [hh j h0]
  split
  · exact hv
  · exact hC.2 j h0 (by omega)
theorem y_CM40 {come heap : Nat → Int32} {n L : Int} {i : Int32} (hC : y_CM come heap n L) (hi : 0 ≤ i.toInt ∧ i.toInt < 41) (h0 : come i.toNatClampNeg = 0) : 0 ≤ n ∧ n ≤ 40 := by
  have hl : i.toNatClampNeg < 41 := th_cl hi
  have q := y_cntL h0 41 hl
  have q2 := y_cntB (f := come) 41
  rw [hC.1]
  omega
/-! the program as it stands -/
def y_MG (p : Nat → Int32) (L k : Int) : Prop := ∀ i : Int, 0 ≤ i → i < k → (y_c p (8 * i)).toInt = 12 → (y_c p (8 * i + 5)).toInt = -1000000 ∨ (0 ≤ (y_c p (8 * i + 6)).toInt ∧ (y_c p (8 * i + 6)).toInt ≤ L)
def y_P0 (p : Nat → Int32) : Prop := y_DS p ∧ (1 ≤ (y_c p 387).toInt ∧ (y_c p 387).toInt ≤ 40) ∧ y_JG p (y_c p 387).toInt (y_c p 387).toInt
def y_PG (p : Nat → Int32) : Prop := y_P0 p ∧ y_MG p (y_c p 387).toInt (y_c p 387).toInt
theorem y_P0L {p : Nat → Int32} (h : y_P0 p) : 1 ≤ (y_c p 387).toInt ∧ (y_c p 387).toInt ≤ 40 := h.2.1
theorem y_P0W {p : Nat → Int32} (h : y_P0 p) : 1 ≤ (y_c p 384).toInt ∧ (y_c p 384).toInt ≤ 4 := h.1.2.1
theorem y_P0c {d p : Nat → Int32} (h : ∀ j : Int, 0 ≤ j → j < 400 → y_c p j = y_c d j) (hd : y_DS d) (hL : 1 ≤ (y_c d 387).toInt ∧ (y_c d 387).toInt ≤ 40) (hj : y_JG d (y_c d 387).toInt (y_c d 387).toInt) : y_P0 p := by
  have e := h 387 (by omega) (by omega)
  refine ⟨⟨?_, by rw [h 384 (by omega) (by omega)]; exact hd.2.1, by rw [h 385 (by omega) (by omega)]; exact hd.2.2.1, by rw [h 386 (by omega) (by omega)]; exact hd.2.2.2⟩, by rw [e]; exact hL, ?_⟩
  · rw [e]
    intro i h0 h1
    exact y_rgC ⟨h _ (by omega) (by omega), h _ (by omega) (by omega), h _ (by omega) (by omega), h _ (by omega) (by omega)⟩ (hd.1 i h0 h1)
  · rw [e]
    intro i h0 h1
    rw [h _ (by omega) (by omega), h _ (by omega) (by omega)]
    exact hj i h0 h1
theorem y_P0m {p g : Nat → Int32} {k : Int} {v : Int32} (h : ∀ j : Int, 0 ≤ j → y_c g j = if j = 8 * k + 6 then v else y_c p j) (hk : 0 ≤ k ∧ k < 40) (q : y_P0 p) : y_P0 g := by
  obtain ⟨⟨d1, d2, d3, d4⟩, l, q3⟩ := q
  have ne : ∀ j : Int, 0 ≤ j → j ≠ 8 * k + 6 → y_c g j = y_c p j := fun j h0 h1 => by rw [h j h0, if_neg h1]
  have e := ne 387 (by omega) (by omega)
  refine ⟨⟨?_, by rw [ne 384 (by omega) (by omega)]; exact d2, by rw [ne 385 (by omega) (by omega)]; exact d3, by rw [ne 386 (by omega) (by omega)]; exact d4⟩, by rw [e]; exact l, ?_⟩
  · rw [e]
    intro i h0 h1
    exact y_rgC ⟨ne _ (by omega) (by omega), ne _ (by omega) (by omega), ne _ (by omega) (by omega), ne _ (by omega) (by omega)⟩ (d1 i h0 h1)
  · rw [e]
    intro i h0 h1
    rw [ne _ (by omega) (by omega), ne _ (by omega) (by omega)]
    exact q3 i h0 h1
theorem y_MGm {p g : Nat → Int32} {L k : Int} {v : Int32} (h : ∀ j : Int, 0 ≤ j → y_c g j = if j = 8 * k + 6 then v else y_c p j) (hk : 0 ≤ k) (hv : 0 ≤ v.toInt ∧ v.toInt ≤ L) (q : y_MG p L k) : y_MG g L (k + 1) := by
  intro i h0 h1
  rw [h _ (by omega), if_neg (by omega), h (8 * i + 5) (by omega), if_neg (by omega), h (8 * i + 6) (by omega)]
  by_cases e : i = k
  · rw [if_pos (by omega)]
    exact fun _ => Or.inr hv
  · rw [if_neg (by omega)]
    exact q i h0 (by omega)
theorem y_MGn {p : Nat → Int32} {L k : Int} (hn : (y_c p (8 * k)).toInt ≠ 12 ∨ (y_c p (8 * k + 5)).toInt = -1000000) (q : y_MG p L k) : y_MG p L (k + 1) := by
  intro i h0 h1
  by_cases e : i = k
  · rw [e]
    intro h12
    rcases hn with c | c
    · exact absurd h12 c
    · exact Or.inl c
  · exact q i h0 (by omega)
theorem y_l112 {b b' c0 c0' c2 c2' c3 c3' c5 c5' op k w v : Int} (hbs : b = 0 ∨ ¬ b' = 0) (h : b = 0 → c0 = op ∧ (k = 0 ∨ -4 ≤ c2) ∧ (k ≤ 1 ∨ -4 ≤ c3)) (hv : b' = 0 → -4 ≤ v ∧ v ≤ 999) (e0 : c0' = c0) (e5 : c5' = c5) (h2a : w = 2 → b' = 0 → c2' = v) (h2b : w ≠ 2 → c2' = c2) (h3a : w = 3 → b' = 0 → c3' = v) (h3b : w ≠ 3 → c3' = c3) (hw : w = 2 + k) (hk : 0 ≤ k ∧ k ≤ 1) (h5 : c5 = -1000000) : c5' = -1000000 ∧ (b' = 0 → c0' = op ∧ (k + 1 = 0 ∨ -4 ≤ c2') ∧ (k + 1 ≤ 1 ∨ -4 ≤ c3')) := by
  refine ⟨by omega, fun hb => ?_⟩
  obtain ⟨a, d, f⟩ := h (by omega)
  have hv := hv hb
  rcases (show k = 0 ∨ k = 1 by omega) with e | e
  · have q1 := h2a (by omega) hb
    have q2 := h3b (by omega)
    omega
  · have q1 := h3a (by omega) hb
    have q2 := h2b (by omega)
    omega
theorem y_l147 {b op k r c0 c2 c3 c5 : Int} (hop : 0 ≤ op ∧ op ≤ 15) (hr : (r = 0 ∧ (op = 5 ∨ op = 6 ∨ 12 ≤ op)) ∨ (r = 1 ∧ (op = 0 ∨ op = 7 ∨ op = 9 ∨ op = 11)) ∨ (r = 2 ∧ ((1 ≤ op ∧ op ≤ 4) ∨ op = 8 ∨ op = 10))) (hk : ¬ k < r) (h5 : c5 = -1000000) (h : b = 0 → c0 = op ∧ (k = 0 ∨ -4 ≤ c2) ∧ (k ≤ 1 ∨ -4 ≤ c3)) : b = 0 → (0 ≤ c0 ∧ c0 ≤ 15) ∧ ((c0 = 5 ∨ c0 = 6 ∨ 12 ≤ c0) ∨ -4 ≤ c2) ∧ ((c0 = 5 ∨ c0 = 6 ∨ 12 ≤ c0 ∨ c0 = 0 ∨ c0 = 7 ∨ c0 = 9 ∨ c0 = 11) ∨ -4 ≤ c3) ∧ (c0 ≠ 12 ∨ c5 = -1000000 ∨ (-4 ≤ c2 ∧ -4 ≤ c3)) := by
  intro hb
  obtain ⟨a, d, f⟩ := h hb
  refine ⟨by omega, by omega, by omega, by omega⟩
theorem y_l147g {b b' op c0 c0' c2' c3' c5' : Int} {X : Prop} (hop : op = 12) (hbs : b = 0 ∨ ¬ b' = 0) (h : b = 0 → c0 = op ∧ X) (e0 : c0' = c0) (hg : b' = 0 → c5' = -1000000 ∨ (-4 ≤ c2' ∧ -4 ≤ c3')) : b' = 0 → (0 ≤ c0' ∧ c0' ≤ 15) ∧ ((c0' = 5 ∨ c0' = 6 ∨ 12 ≤ c0') ∨ -4 ≤ c2') ∧ ((c0' = 5 ∨ c0' = 6 ∨ 12 ≤ c0' ∨ c0' = 0 ∨ c0' = 7 ∨ c0' = 9 ∨ c0' = 11) ∨ -4 ≤ c3') ∧ (c0' ≠ 12 ∨ c5' = -1000000 ∨ (-4 ≤ c2' ∧ -4 ≤ c3')) := by
  intro hb
  have a := (h (by omega)).1
  have d := hg hb
  refine ⟨by omega, by omega, by omega, by omega⟩
