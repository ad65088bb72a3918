/-! the reference's warps: what goes together, and what a line does -/
def y_own2 (w j : Int) : Prop := (j = 105 + 6 * w ∨ (107 + 6 * w ≤ j ∧ j < 110 + 6 * w)) ∨ (256 + 8 * w ≤ j ∧ j < 264 + 8 * w) ∨ (288 + 48 * w ≤ j ∧ j < 336 + 48 * w)
theorem y_W0c2 {f g : Nat → Int32} {w : Int} (h : ∀ j, y_own2 w j → y_c g j = y_c f j) (q : y_W0 f w) : y_W0 g w := by
  unfold y_W0 at q ⊢
  rw [h (107 + 6 * w) (Or.inl (by omega)), h (108 + 6 * w) (Or.inl (by omega)), h (105 + 6 * w) (Or.inl (by omega)), h (109 + 6 * w) (Or.inl (by omega))]
  exact q
theorem y_Wfc2 {L : Int} {f g : Nat → Int32} {w : Int} (h : ∀ j, y_own2 w j → y_c g j = y_c f j) (q : y_Wf L f w) : y_Wf L g w := by
  intro k h0 h1
  rw [h (107 + 6 * w) (Or.inl (by omega)), h (256 + 8 * w + k) (Or.inr (Or.inl (by omega)))]
  exact q k h0 h1
theorem y_Wsc2 {L : Int} {f g : Nat → Int32} {w : Int} (h : ∀ j, y_own2 w j → y_c g j = y_c f j) (hn : (y_c f (109 + 6 * w)).toInt ≤ 15) (q : y_Ws L f w) : y_Ws L g w := by
  obtain ⟨q1, q2, q3, q4⟩ := q
  have e1 := h (109 + 6 * w) (Or.inl (by omega))
  have e2 := h (107 + 6 * w) (Or.inl (by omega))
  have e3 := h (290 + 48 * w) (Or.inr (Or.inr (by omega)))
  refine ⟨fun k h0 h1 => ?_, fun k h0 h1 => ?_, ?_, ?_⟩
  · rw [e1] at h1
    rw [h (288 + 48 * w + 3 * k) (Or.inr (Or.inr (by omega))), h (290 + 48 * w + 3 * k) (Or.inr (Or.inr (by omega)))]
    exact q1 k h0 h1
  · rw [e1] at h1
    rw [h (288 + 48 * w + 3 * k) (Or.inr (Or.inr (by omega))), h (290 + 48 * w + 3 * k) (Or.inr (Or.inr (by omega))), h (292 + 48 * w + 3 * k) (Or.inr (Or.inr (by omega)))]
    exact q2 k h0 h1
  · rw [e1, e2]; exact q3
  · rw [e1, e2, e3]; exact q4
theorem y_Wtc2 {L : Int} {f g : Nat → Int32} {w : Int} (h : ∀ j, y_own2 w j → y_c g j = y_c f j) (hn : (y_c f (109 + 6 * w)).toInt ≤ 15) (q : y_Wt L f w) : y_Wt L g w := by
  unfold y_Wt at q ⊢
  rw [h (109 + 6 * w) (Or.inl (by omega))]
  intro h0
  rw [h (285 + 48 * w + 3 * (y_c f (109 + 6 * w)).toInt) (Or.inr (Or.inr (by omega)))]
  exact q h0
theorem y_NWc2 {L : Int} {f g : Nat → Int32} {w : Int} (h : ∀ j, y_own2 w j → y_c g j = y_c f j) (h3 : y_c g 3 = y_c f 3) (q : y_NW L f w) : y_NW L g w := by
  obtain ⟨q1, q2, q3⟩ := q
  have hn := q1.2.2.2.2
  refine ⟨y_W0c2 h q1, ?_, ?_⟩
  · rw [h3]; exact fun e => ⟨y_Wsc2 h hn (q2 e).1, y_Wtc2 h hn (q2 e).2⟩
  · rw [h3]; exact fun e => y_Wfc2 h (q3 e)
theorem y_isOf2 {x k v : Int32} (hk : 0 ≤ k.toInt ∧ k.toInt ≤ 31) (e : v = x >>> (k &&& 31) &&& 1) : v.toInt = 1 ↔ bt x k.toInt.toNat = true := by
  rw [← y_isOf hk, ← e]
  constructor
  · intro h
    exact Int32.toInt_inj.mp (h.trans (by decide))
  · intro h
    rw [h]
    decide
theorem y_bT {r : Int32} {b : Bool} (h : (r.toInt = 1 ∧ b = true) ∨ (r.toInt = 0 ∧ b = false)) (c : ¬ r.toInt = 0) : b = true := by
  rcases h with ⟨_, q⟩ | ⟨q, _⟩
  · exact q
  · exact absurd q c
theorem y_bF {r : Int32} {b : Bool} (h : (r.toInt = 1 ∧ b = true) ∨ (r.toInt = 0 ∧ b = false)) (c : r.toInt = 0) : b = false := by
  rcases h with ⟨q, _⟩ | ⟨_, q⟩
  · omega
  · exact q
theorem y_fF {b : Bool} (h : ¬ b = true) : b = false := by
  cases b
  · rfl
  · exact absurd rfl h
def y_fw (w : Int) (f g : Nat → Int32) : Prop := ∀ j : Int, 0 ≤ j → (j < 104 + 6 * w ∨ 110 + 6 * w ≤ j) → (j < 256 + 8 * w ∨ 264 + 8 * w ≤ j) → (j < 288 + 48 * w ∨ 336 + 48 * w ≤ j) → y_c g j = y_c f j
theorem y_fw_r (w : Int) (f : Nat → Int32) : y_fw w f f := fun _ _ _ _ _ => rfl
theorem y_fw_t {w : Int} {f g h : Nat → Int32} (a : y_fw w f g) (b : y_fw w g h) : y_fw w f h := fun j h0 h1 h2 h3 => (b j h0 h1 h2 h3).trans (a j h0 h1 h2 h3)
theorem y_fw_u {w i : Int} {f g : Nat → Int32} {v : Int32} (h : ∀ j : Int, 0 ≤ j → y_c g j = if j = i then v else y_c f j) (hi : (104 + 6 * w ≤ i ∧ i < 110 + 6 * w) ∨ (256 + 8 * w ≤ i ∧ i < 264 + 8 * w) ∨ (288 + 48 * w ≤ i ∧ i < 336 + 48 * w)) : y_fw w f g := fun j h0 h1 h2 h3 => by rw [h j h0, if_neg (by omega)]
theorem y_fw_die {f g : Nat → Int32} {w n : Int} {l : Int32} (hn : n ≤ 15) (h : ∀ j : Int, 0 ≤ j → y_c g j = y_die f w n l j) : y_fw w f g := fun j h0 h1 h2 h3 => by rw [h j h0, y_dieN (by omega)]
theorem y_fw_psh {f g : Nat → Int32} {w : Int} {a b c : Int32} (hn : 0 ≤ (y_c f (109 + 6 * w)).toInt ∧ (y_c f (109 + 6 * w)).toInt ≤ 15) (h : ∀ j : Int, 0 ≤ j → y_c g j = y_psh f w a b c j) : y_fw w f g := fun j h0 h1 h2 h3 => by
  rw [h j h0]
  unfold y_psh
  rw [if_neg (by omega), if_neg (by omega), if_neg (by omega), if_neg (by omega)]
theorem y_fw3 {w : Int} {f g : Nat → Int32} (hw : 0 ≤ w) (h : y_fw w f g) : y_c g 3 = y_c f 3 := h 3 (by omega) (by omega) (by omega) (by omega)
theorem y_fw_NW {L w v : Int} {f g : Nat → Int32} (hw : 0 ≤ w ∧ w ≤ 3) (hv : 0 ≤ v ∧ v ≤ 3) (hne : v ≠ w) (h : y_fw w f g) (q : y_NW L f v) : y_NW L g v := y_NWc2 (fun j hj => by
  unfold y_own2 at hj
  exact h j (by omega) (by omega) (by omega) (by omega)) (y_fw3 hw.1 h) q
/-- what matters of all that is -/
def y_E (f g : Nat → Int32) : Prop := ∀ j : Int, 0 ≤ j → (j = 3 ∨ j = 4 ∨ (104 ≤ j ∧ j < 128 ∧ (j - 104) % 6 ≠ 0 ∧ (j - 104) % 6 ≠ 2) ∨ (256 ≤ j ∧ j < 480)) → y_c g j = y_c f j
theorem y_E_r (f : Nat → Int32) : y_E f f := fun _ _ _ => rfl
theorem y_E_t {f g h : Nat → Int32} (a : y_E f g) (b : y_E g h) : y_E f h := fun j h0 h1 => (b j h0 h1).trans (a j h0 h1)
theorem y_E_u {i : Int} {f g : Nat → Int32} {v : Int32} (h : ∀ j : Int, 0 ≤ j → y_c g j = if j = i then v else y_c f j) (hi : ¬ (i = 3 ∨ i = 4 ∨ (104 ≤ i ∧ i < 128 ∧ (i - 104) % 6 ≠ 0 ∧ (i - 104) % 6 ≠ 2) ∨ (256 ≤ i ∧ i < 480))) : y_E f g := fun j h0 h1 => by rw [h j h0, if_neg (by omega)]
theorem y_E_NW {L w : Int} {f g : Nat → Int32} (hw : 0 ≤ w ∧ w ≤ 3) (h : y_E f g) (q : y_NW L f w) : y_NW L g w := y_NWc2 (fun j hj => by
  unfold y_own2 at hj
  exact h j (by omega) (by omega)) (h 3 (by omega) (by omega)) q
/-- who may go in a warp -/
def y_go (f : Nat → Int32) (w : Int) : Prop := ∃ i : Nat, i < 8 ∧ bt (y_c f (107 + 6 * w)) i = true ∧ bt (y_c f (108 + 6 * w)) i = false ∧ ((y_c f 3).toInt = 0 → 0 < (y_c f (109 + 6 * w)).toInt ∧ bt (y_c f (287 + 48 * w + 3 * (y_c f (109 + 6 * w)).toInt)) i = true)
def y_TG (f : Nat → Int32) (w : Int) (r : Int32) : Prop := y_sub r (y_c f (107 + 6 * w)) ∧ (∀ i, bt r i = true → bt (y_c f (108 + 6 * w)) i = false) ∧ ((y_c f 3).toInt = 0 → r = 0 ∨ (0 < (y_c f (109 + 6 * w)).toInt ∧ y_sub r (y_c f (287 + 48 * w + 3 * (y_c f (109 + 6 * w)).toInt)))) ∧ (¬ r = 0 ↔ y_go f w)
theorem y_mT {a l : Int32} {i : Nat} : bt (a &&& (l ^^^ (-1))) i = true ↔ bt a i = true ∧ bt l i = false := by
  rw [y_mi, Bool.and_eq_true, Bool.not_eq_true']
theorem y_TG0 {f : Nat → Int32} {w : Int} {r : Int32} (h3 : (y_c f 3).toInt = 0) (h0 : y_W0 f w) (hn : 0 < (y_c f (109 + 6 * w)).toInt) (e : r = y_c f (107 + 6 * w) &&& (y_c f (108 + 6 * w) ^^^ (-1)) &&& y_c f (287 + 48 * w + 3 * (y_c f (109 + 6 * w)).toInt)) : y_TG f w r := by
  have key : ∀ i, bt r i = true ↔ (bt (y_c f (107 + 6 * w)) i = true ∧ bt (y_c f (108 + 6 * w)) i = false) ∧ bt (y_c f (287 + 48 * w + 3 * (y_c f (109 + 6 * w)).toInt)) i = true := fun i => by rw [e, b_and, Bool.and_eq_true, y_mT]
  refine ⟨fun i h => ((key i).mp h).1.1, fun i h => ((key i).mp h).1.2, fun _ => Or.inr ⟨hn, fun i h => ((key i).mp h).2⟩, ?_⟩
  constructor
  · intro h
    obtain ⟨i, hi, b⟩ := y_ex (y_8s (fun i h => ((key i).mp h).1.1) h0.1) h
    have k := (key i).mp b
    exact ⟨i, hi, k.1.1, k.1.2, fun _ => ⟨hn, k.2⟩⟩
  · rintro ⟨i, hi, a, b, c⟩
    exact y_nz ((key i).mpr ⟨⟨a, b⟩, (c h3).2⟩)
theorem y_TGz {f : Nat → Int32} {w : Int} (h : ¬ y_go f w) : y_TG f w 0 := ⟨y_sub_0 _, fun i h => (by rw [b_0] at h; cases h), fun _ => Or.inl rfl, ⟨fun q => absurd rfl q, fun q => absurd q h⟩⟩
theorem y_TGn {f : Nat → Int32} {w : Int} (h3 : (y_c f 3).toInt = 0) (hn : ¬ 0 < (y_c f (109 + 6 * w)).toInt) : y_TG f w 0 := y_TGz (fun ⟨i, hi, a, b, c⟩ => hn (c h3).1)
theorem y_TGc {f : Nat → Int32} {w : Int} (hc : y_c f (107 + 6 * w) &&& (y_c f (108 + 6 * w) ^^^ (-1)) = 0) : y_TG f w 0 := y_TGz (fun ⟨i, hi, a, b, c⟩ => y_nz (y_mT.mpr ⟨a, b⟩) hc)
theorem y_TG1 {f : Nat → Int32} {w : Int} {r ca : Int32} {i : Nat} (h3 : ¬ (y_c f 3).toInt = 0) (h0 : y_W0 f w) (e : ca = y_c f (107 + 6 * w) &&& (y_c f (108 + 6 * w) ^^^ (-1))) (hs : y_sub r ca) (hi : bt r i = true) : y_TG f w r := by
  have k : ∀ i, bt r i = true → bt (y_c f (107 + 6 * w)) i = true ∧ bt (y_c f (108 + 6 * w)) i = false := fun i h => by
    have q := hs i h
    rw [e, y_mT] at q
    exact q
  refine ⟨fun i h => (k i h).1, fun i h => (k i h).2, fun q => absurd q h3, ?_⟩
  constructor
  · intro _
    have q := k i hi
    refine ⟨i, ?_, q.1, q.2, fun q => absurd q h3⟩
    apply Classical.byContradiction
    intro hh
    have q2 := h0.1 i (by omega)
    rw [q.1] at q2
    cases q2
  · intro _
    exact y_nz hi
theorem y_ca8 {f : Nat → Int32} {w : Int} {ca : Int32} (h0 : y_W0 f w) (e : ca = y_c f (107 + 6 * w) &&& (y_c f (108 + 6 * w) ^^^ (-1))) : y_8 ca := by
  rw [e]
  exact y_8s (y_sub_mi _ _) h0.1
theorem y_orb {x k : Int32} (hk : 0 ≤ k.toInt ∧ k.toInt ≤ 31) (i : Nat) : bt (x ||| (1 : Int32) <<< (k &&& 31)) i = true ↔ bt x i = true ∨ i = k.toInt.toNat := by
  rw [b_or, Bool.or_eq_true, y_bit1 hk, decide_eq_true_iff]
/-- a lane more: still only such as may -/
theorem y_sub_or {x k ca : Int32} (hk : 0 ≤ k.toInt ∧ k.toInt ≤ 31) (h : y_sub x ca) (hb : bt ca k.toInt.toNat = true) : y_sub (x ||| (1 : Int32) <<< (k &&& 31)) ca := fun i q => by
  rcases (y_orb hk i).mp q with a | a
  · exact h i a
  · rw [a]; exact hb
theorem y_nat8 {i : Nat} (hi : i < 8) : ∃ ii : Int, 0 ≤ ii ∧ ii ≤ 7 ∧ ii.toNat = i := ⟨(i : Int), by omega, by omega, by omega⟩
/-! fair: where lanes go next -/
def y_nxt (f : Nat → Int32) (w k : Int) (l v : Int32) (j : Int) : Int32 := if 256 + 8 * w ≤ j ∧ j < 256 + 8 * w + k ∧ bt l (j - 256 - 8 * w).toNat = true then v else y_c f j
theorem y_nxt0 {f : Nat → Int32} {w j : Int} {l v : Int32} : y_nxt f w 0 l v j = y_c f j := if_neg (by omega)
theorem y_nxtS {f0 f1 f2 : Nat → Int32} {w k i : Int} {l v : Int32} (hw : 0 ≤ w) (hk : 0 ≤ k) (h : ∀ j : Int, 0 ≤ j → y_c f1 j = y_nxt f0 w k l v j) (h2 : ∀ j : Int, 0 ≤ j → y_c f2 j = if j = i then v else y_c f1 j) (e : i = 256 + 8 * w + k) (hb : bt l k.toNat = true) : ∀ j : Int, 0 ≤ j → y_c f2 j = y_nxt f0 w (k + 1) l v j := by
  intro j hj
  subst e
  rw [h2 j hj]
  by_cases c : j = 256 + 8 * w + k
  · rw [if_pos c]
    unfold y_nxt
    rw [if_pos ⟨by omega, by omega, by rw [show j - 256 - 8 * w = k by omega]; exact hb⟩]
  · rw [if_neg c, h j hj]
    unfold y_nxt
    by_cases c2 : 256 + 8 * w ≤ j ∧ j < 256 + 8 * w + k ∧ bt l (j - 256 - 8 * w).toNat = true
    · rw [if_pos c2, if_pos ⟨c2.1, by omega, c2.2.2⟩]
    · rw [if_neg c2, if_neg (fun q => c2 ⟨q.1, by omega, q.2.2⟩)]
theorem y_nxtN {f0 f1 : Nat → Int32} {w k : Int} {l v : Int32} (h : ∀ j : Int, 0 ≤ j → y_c f1 j = y_nxt f0 w k l v j) (hb : bt l k.toNat = false) : ∀ j : Int, 0 ≤ j → y_c f1 j = y_nxt f0 w (k + 1) l v j := by
  intro j hj
  rw [h j hj]
  unfold y_nxt
  by_cases c2 : 256 + 8 * w ≤ j ∧ j < 256 + 8 * w + k ∧ bt l (j - 256 - 8 * w).toNat = true
  · rw [if_pos c2, if_pos ⟨c2.1, by omega, c2.2.2⟩]
  · rw [if_neg c2, if_neg (fun q => c2 ⟨q.1, by
      apply Classical.byContradiction
      intro hh
      have e : j - 256 - 8 * w = k := by omega
      rw [e, hb] at q
      exact absurd q.2.2 (by decide), q.2.2⟩)]
/-- lanes are told their next line; where it is the end, they have ended -/
theorem y_nexts {L w : Int} {f g : Nat → Int32} {l v : Int32} (hw : 0 ≤ w ∧ w ≤ 3) (h : ∀ j : Int, 0 ≤ j → y_c g j = y_nxt f w 8 l v j) (hv : 0 ≤ v.toInt ∧ v.toInt ≤ L) (h0 : y_W0 f w) (hf : y_Wf L f w) : y_W0 g w ∧ y_fw w f g ∧ y_c g (107 + 6 * w) = y_c f (107 + 6 * w) ∧ (∀ k : Int, 0 ≤ k → k < 8 → (0 ≤ (y_c g (256 + 8 * w + k)).toInt ∧ (y_c g (256 + 8 * w + k)).toInt ≤ L) ∧ (bt (y_c g (107 + 6 * w)) k.toNat = true → (y_c g (256 + 8 * w + k)).toInt < L ∨ (bt l k.toNat = true ∧ v.toInt = L))) := by
  have ne : ∀ j : Int, 0 ≤ j → (j < 256 + 8 * w ∨ 264 + 8 * w ≤ j) → y_c g j = y_c f j := fun j hj hh => by
    rw [h j hj]
    exact if_neg (by omega)
  have e := ne (107 + 6 * w) (by omega) (by omega)
  refine ⟨?_, fun j h1 _ h3 _ => ne j h1 h3, e, fun k k0 k1 => ?_⟩
  · unfold y_W0
    rw [e, ne (108 + 6 * w) (by omega) (by omega), ne (105 + 6 * w) (by omega) (by omega), ne (109 + 6 * w) (by omega) (by omega)]
    exact h0
  · rw [e, h (256 + 8 * w + k) (by omega)]
    unfold y_nxt
    have q := hf k k0 k1
    by_cases c : 256 + 8 * w ≤ 256 + 8 * w + k ∧ 256 + 8 * w + k < 256 + 8 * w + 8 ∧ bt l (256 + 8 * w + k - 256 - 8 * w).toNat = true
    · rw [if_pos c]
      have c3 := c.2.2
      rw [show 256 + 8 * w + k - 256 - 8 * w = k by omega] at c3
      refine ⟨hv, fun _ => ?_⟩
      by_cases e2 : v.toInt = L
      · exact Or.inr ⟨c3, e2⟩
      · exact Or.inl (by omega)
    · rw [if_neg c]
      exact ⟨q.1, fun b => Or.inl (q.2 b)⟩
theorem y_nextsD {L w n : Int} {f g h : Nat → Int32} {l v : Int32} (hw : 0 ≤ w ∧ w ≤ 3) (hn : n ≤ 15) (hq : y_W0 g w ∧ y_fw w f g ∧ y_c g (107 + 6 * w) = y_c f (107 + 6 * w) ∧ (∀ k : Int, 0 ≤ k → k < 8 → (0 ≤ (y_c g (256 + 8 * w + k)).toInt ∧ (y_c g (256 + 8 * w + k)).toInt ≤ L) ∧ (bt (y_c g (107 + 6 * w)) k.toNat = true → (y_c g (256 + 8 * w + k)).toInt < L ∨ (bt l k.toNat = true ∧ v.toInt = L)))) (hd : ∀ j : Int, 0 ≤ j → y_c h j = y_die g w n l j) : y_W0 h w ∧ y_Wf L h w ∧ y_fw w f h ∧ ∀ i, bt l i = false → bt (y_c h (107 + 6 * w)) i = bt (y_c f (107 + 6 * w)) i := by
  obtain ⟨q1, q2, q3, q4⟩ := hq
  have e : y_c h (107 + 6 * w) = y_c g (107 + 6 * w) &&& (l ^^^ (-1)) := by rw [hd _ (by omega), y_dieY (by omega)]
  refine ⟨y_W0_die hw hd q1, fun k k0 k1 => ?_, y_fw_t q2 (y_fw_die hn hd), fun i hi => ?_⟩
  · rw [hd (256 + 8 * w + k) (by omega), y_dieN (by omega), e]
    have q := q4 k k0 k1
    refine ⟨q.1, fun b => ?_⟩
    rw [y_mT] at b
    rcases q.2 b.1 with c | c
    · exact c
    · rw [c.1] at b
      exact absurd b.2 (by decide)
  · rw [e, y_mi, hi, q3]
    simp
theorem y_nextsA {L w : Int} {f g : Nat → Int32} {l v : Int32} (hv : ¬ v.toInt = L) (hq : y_W0 g w ∧ y_fw w f g ∧ y_c g (107 + 6 * w) = y_c f (107 + 6 * w) ∧ (∀ k : Int, 0 ≤ k → k < 8 → (0 ≤ (y_c g (256 + 8 * w + k)).toInt ∧ (y_c g (256 + 8 * w + k)).toInt ≤ L) ∧ (bt (y_c g (107 + 6 * w)) k.toNat = true → (y_c g (256 + 8 * w + k)).toInt < L ∨ (bt l k.toNat = true ∧ v.toInt = L)))) : y_W0 g w ∧ y_Wf L g w ∧ y_fw w f g ∧ ∀ i, bt l i = false → bt (y_c g (107 + 6 * w)) i = bt (y_c f (107 + 6 * w)) i := by
  obtain ⟨q1, q2, q3, q4⟩ := hq
  refine ⟨q1, fun k k0 k1 => ⟨(q4 k k0 k1).1, fun b => ?_⟩, q2, fun i _ => by rw [q3]⟩
  rcases (q4 k k0 k1).2 b with c | c
  · exact c
  · exact absurd c.2 hv
/-- a part is laid -/
theorem y_pshP {f0 f1 f2 f3 f4 : Nat → Int32} {w i1 i2 i3 i4 : Int} {a b c v : Int32} (hw : 0 ≤ w ∧ w ≤ 3) (hn : 0 ≤ (y_c f0 (109 + 6 * w)).toInt ∧ (y_c f0 (109 + 6 * w)).toInt ≤ 15) (h1 : ∀ j : Int, 0 ≤ j → y_c f1 j = if j = i1 then a else y_c f0 j) (h2 : ∀ j : Int, 0 ≤ j → y_c f2 j = if j = i2 then b else y_c f1 j) (h3 : ∀ j : Int, 0 ≤ j → y_c f3 j = if j = i3 then c else y_c f2 j) (h4 : ∀ j : Int, 0 ≤ j → y_c f4 j = if j = i4 then v else y_c f3 j) (e1 : i1 = 288 + 48 * w + 3 * (y_c f0 (109 + 6 * w)).toInt) (e2 : i2 = 289 + 48 * w + 3 * (y_c f0 (109 + 6 * w)).toInt) (e3 : i3 = 290 + 48 * w + 3 * (y_c f0 (109 + 6 * w)).toInt) (e4 : i4 = 109 + 6 * w) (hv : v = y_c f3 (109 + 6 * w) + 1) : ∀ j : Int, 0 ≤ j → y_c f4 j = y_psh f0 w a b c j := by
  intro j hj
  unfold y_psh
  have hv2 : v = y_c f0 (109 + 6 * w) + 1 := by rw [hv, h3 _ (by omega), if_neg (by omega), h2 _ (by omega), if_neg (by omega), h1 _ (by omega), if_neg (by omega)]
  rw [h4 j hj, h3 j hj, h2 j hj, h1 j hj, e1, e2, e3, e4, hv2]
/-- the uppermost part's lanes have ended, if it is at the end -/
def y_ET (L : Int) (f : Nat → Int32) (w : Int) (g : Nat → Int32) : Prop := ((y_c f (109 + 6 * w)).toInt = 0 ∧ g = f) ∨ (0 < (y_c f (109 + 6 * w)).toInt ∧ ¬ (y_c f (285 + 48 * w + 3 * (y_c f (109 + 6 * w)).toInt)).toInt = L ∧ g = f) ∨ (0 < (y_c f (109 + 6 * w)).toInt ∧ ∀ j : Int, 0 ≤ j → y_c g j = y_die f w (y_c f (109 + 6 * w)).toInt (y_c f (287 + 48 * w + 3 * (y_c f (109 + 6 * w)).toInt)) j)
def y_TP (L : Int) (f : Nat → Int32) (w : Int) : Prop := (y_c f (109 + 6 * w)).toInt = 0 ∨ ¬ (y_c f (285 + 48 * w + 3 * (y_c f (109 + 6 * w)).toInt)).toInt = L ∨ y_c f (287 + 48 * w + 3 * (y_c f (109 + 6 * w)).toInt) = 0
theorem y_ends {L w : Int} {f g : Nat → Int32} (hw : 0 ≤ w ∧ w ≤ 3) (h : y_ET L f w g) (h0 : y_W0 f w) (hs : y_Ws L f w) : y_W0 g w ∧ y_Ws L g w ∧ y_fw w f g ∧ (y_c g (109 + 6 * w)).toInt = (y_c f (109 + 6 * w)).toInt ∧ y_TP L g w := by
  have hn := h0.2.2.2
  rcases h with ⟨a, b⟩ | ⟨a, c, b⟩ | ⟨a, b⟩
  · rw [b]; exact ⟨h0, hs, y_fw_r w f, rfl, Or.inl a⟩
  · rw [b]; exact ⟨h0, hs, y_fw_r w f, rfl, Or.inr (Or.inl c)⟩
  · have e : y_c g (109 + 6 * w) = y_c f (109 + 6 * w) := by rw [b _ (by omega), y_dieN (by omega)]
    refine ⟨y_W0_die hw b h0, y_Ws_die hw b rfl hn.2 hs, y_fw_die hn.2 b, by rw [e], Or.inr (Or.inr ?_)⟩
    rw [e, b _ (by omega), y_dieY (by omega)]
    exact b_ext (fun i hi => by rw [y_mi, b_0]; simp)
theorem y_tops {L w : Int} {f : Nat → Int32} (h0 : y_W0 f w) (hs : y_Ws L f w) (ht : y_TP L f w) (hz : (y_c f (109 + 6 * w)).toInt ≤ 0 ∨ ¬ y_c f (287 + 48 * w + 3 * (y_c f (109 + 6 * w)).toInt) = 0) : y_Wt L f w := by
  intro hn
  have q := (hs.1 ((y_c f (109 + 6 * w)).toInt - 1) (by omega) (by omega)).1
  rw [show 288 + 48 * w + 3 * ((y_c f (109 + 6 * w)).toInt - 1) = 285 + 48 * w + 3 * (y_c f (109 + 6 * w)).toInt by omega] at q
  rcases ht with a | a | a
  · omega
  · omega
  · rcases hz with b | b
    · omega
    · exact absurd a b
theorem y_z32 {v : Int32} (h : v.toInt = 0) : v = 0 := Int32.toInt_inj.mp (h.trans (by decide))
theorem y_nz32 {v : Int32} (h : ¬ v.toInt = 0) : ¬ v = 0 := fun q => h (by rw [q]; decide)
/-- a warp's laying: what a part more asks -/
def y_LP (L : Int) (f : Nat → Int32) (w : Int) (a b c : Int32) : Prop := (y_c f (109 + 6 * w)).toInt ≤ 14 ∧ 0 < (y_c f (109 + 6 * w)).toInt ∧ (0 ≤ a.toInt ∧ a.toInt ≤ L) ∧ y_8 c ∧ (y_c f (109 + 6 * w)).toInt + 2 * y_pc c ≤ 16 ∧ ((y_c f (285 + 48 * w + 3 * (y_c f (109 + 6 * w)).toInt)).toInt = b.toInt ∨ (2 ≤ (y_c f (109 + 6 * w)).toInt ∧ (y_c f (109 + 6 * w)).toInt + 2 * y_pc (y_c f (287 + 48 * w + 3 * (y_c f (109 + 6 * w)).toInt)) ≤ 16))
/-- behind it: it lies uppermost, or there is none more -/
def y_LQ (f : Nat → Int32) (w : Int) (c : Int32) (g : Nat → Int32) : Prop := ((y_c g (109 + 6 * w)).toInt = (y_c f (109 + 6 * w)).toInt + 1 ∧ y_c g (290 + 48 * w + 3 * (y_c f (109 + 6 * w)).toInt) = c) ∨ ((y_c g (109 + 6 * w)).toInt = (y_c f (109 + 6 * w)).toInt ∧ (y_c g (285 + 48 * w + 3 * (y_c f (109 + 6 * w)).toInt)).toInt = (y_c f (285 + 48 * w + 3 * (y_c f (109 + 6 * w)).toInt)).toInt)
theorem y_laysP {L w : Int} {f g : Nat → Int32} {a b c : Int32} (hw : 0 ≤ w ∧ w ≤ 3) (h : ∀ j : Int, 0 ≤ j → y_c g j = y_psh f w a b c j) (h0 : y_W0 f w) (hs : y_Ws L f w) (hl : y_LP L f w a b c) : y_W0 g w ∧ y_Ws L g w ∧ y_fw w f g ∧ y_LQ f w c g := by
  obtain ⟨l1, l2, l3, l4, l5, l6⟩ := hl
  have q := y_Ws_push hw h h0 l1 l3 l4 l5 (fun _ => l6) (fun e => by omega) (Or.inr hs)
  have hn := h0.2.2.2
  refine ⟨q.1, q.2, y_fw_psh hn h, Or.inl ⟨?_, ?_⟩⟩
  · rw [h _ (by omega)]
    unfold y_psh
    rw [if_pos rfl]
    exact th_add rfl (by decide) ⟨by omega, by omega⟩
  · rw [h _ (by omega)]
    unfold y_psh
    rw [if_neg (by omega), if_pos rfl]
theorem y_laysD {L w : Int} {f g : Nat → Int32} {l : Int32} (hw : 0 ≤ w ∧ w ≤ 3) (h : ∀ j : Int, 0 ≤ j → y_c g j = y_die f w (y_c f (109 + 6 * w)).toInt l j) (h0 : y_W0 f w) (hs : y_Ws L f w) (hp : 0 < (y_c f (109 + 6 * w)).toInt) : y_W0 g w ∧ y_Ws L g w ∧ y_fw w f g ∧ y_LQ f w l g := by
  have hn := h0.2.2.2
  refine ⟨y_W0_die hw h h0, y_Ws_die hw h rfl hn.2 hs, y_fw_die hn.2 h, Or.inr ⟨by rw [h _ (by omega), y_dieN (by omega)], by rw [h _ (by omega), y_dieN (by omega)]⟩⟩
theorem y_laysN {L w : Int} {f : Nat → Int32} {l : Int32} (h0 : y_W0 f w) (hs : y_Ws L f w) : y_W0 f w ∧ y_Ws L f w ∧ y_fw w f f ∧ y_LQ f w l f := ⟨h0, hs, y_fw_r w f, Or.inr ⟨rfl, rfl⟩⟩
/-- the first of two parts that part: it may be laid; and so may the second -/
theorem y_LP1 {L w : Int} {f g : Nat → Int32} {a b la go : Int32} (hw : 0 ≤ w ∧ w ≤ 3) (hu : ∀ j : Int, 0 ≤ j → y_c g j = if j = 285 + 48 * w + 3 * (y_c f (109 + 6 * w)).toInt then b else y_c f j) (h0 : y_W0 f w) (hs : y_Ws L f w) (hn : 0 < (y_c f (109 + 6 * w)).toInt) (hla : y_sub la (y_c f (287 + 48 * w + 3 * (y_c f (109 + 6 * w)).toInt))) (hgo : y_sub go la) (g0 : ¬ go = 0) (g1 : ¬ go = la) (ha : 0 ≤ a.toInt ∧ a.toInt ≤ L) : y_LP L g w a b (la &&& (go ^^^ (-1))) ∧ (y_c f (109 + 6 * w)).toInt + 1 + 2 * y_pc (la &&& (go ^^^ (-1))) ≤ 16 ∧ (y_c f (109 + 6 * w)).toInt + 1 + 2 * y_pc go ≤ 16 ∧ (y_c f (109 + 6 * w)).toInt ≤ 13 ∧ y_c g (109 + 6 * w) = y_c f (109 + 6 * w) ∧ y_8 go := by
  have h15 := h0.2.2.2
  have q := hs.1 ((y_c f (109 + 6 * w)).toInt - 1) (by omega) (by omega)
  rw [show 290 + 48 * w + 3 * ((y_c f (109 + 6 * w)).toInt - 1) = 287 + 48 * w + 3 * (y_c f (109 + 6 * w)).toInt by omega] at q
  have l8 := y_8s hla q.2.1
  have sp := y_split l8 hgo g0 g1
  have pl := y_pc_le hla
  have p0 := y_pc0 go
  have p1 := y_pc0 (la &&& (go ^^^ (-1)))
  obtain ⟨i, hi, bi⟩ := y_ex (y_8s hgo l8) g0
  have pg : 1 ≤ y_pc go := by
    have := y_pop_ge bi 8 hi
    unfold y_pc
    omega
  have e : y_c g (109 + 6 * w) = y_c f (109 + 6 * w) := by rw [hu _ (by omega), if_neg (by omega)]
  refine ⟨⟨by rw [e]; omega, by rw [e]; exact hn, ha, y_8s (y_sub_mi _ _) l8, by rw [e]; omega, Or.inl ?_⟩, by omega, by omega, by omega, e, y_8s hgo l8⟩
  rw [e, hu _ (by omega), if_pos rfl]
theorem y_LP2 {L w : Int} {f g h : Nat → Int32} {a b c go : Int32} (hw : 0 ≤ w ∧ w ≤ 3) (hn : 0 < (y_c f (109 + 6 * w)).toInt) (hn2 : (y_c f (109 + 6 * w)).toInt ≤ 13) (e : y_c g (109 + 6 * w) = y_c f (109 + 6 * w)) (hb : (y_c g (285 + 48 * w + 3 * (y_c f (109 + 6 * w)).toInt)).toInt = b.toInt) (hq : y_LQ g w c h) (p1 : (y_c f (109 + 6 * w)).toInt + 1 + 2 * y_pc c ≤ 16) (p2 : (y_c f (109 + 6 * w)).toInt + 1 + 2 * y_pc go ≤ 16) (g8 : y_8 go) (ha : 0 ≤ a.toInt ∧ a.toInt ≤ L) : y_LP L h w a b go := by
  unfold y_LQ at hq
  rw [e] at hq
  rcases hq with ⟨q1, q2⟩ | ⟨q1, q2⟩
  · refine ⟨by omega, by omega, ha, g8, by omega, Or.inr ⟨by omega, ?_⟩⟩
    rw [q1, show 287 + 48 * w + 3 * ((y_c f (109 + 6 * w)).toInt + 1) = 290 + 48 * w + 3 * (y_c f (109 + 6 * w)).toInt by omega, q2]
    exact p1
  · refine ⟨by omega, by omega, ha, g8, by omega, Or.inl ?_⟩
    rw [q1, q2]
    exact hb
/-- all that is, for a program -/
def y_NG (p f : Nat → Int32) : Prop := (0 ≤ (y_c f 3).toInt ∧ (y_c f 3).toInt ≤ 1) ∧ (0 ≤ (y_c f 4).toInt ∧ (y_c f 4).toInt ≤ 1) ∧ (-1 ≤ (y_c f 6).toInt ∧ (y_c f 6).toInt ≤ 3) ∧ (0 ≤ (y_c f 7).toInt ∧ (y_c f 7).toInt ≤ 30) ∧ ∀ w : Int, 0 ≤ w → w < (y_c p 384).toInt → y_NW (y_c p 387).toInt f w
theorem y_E_c {i : Int} {f g : Nat → Int32} {v : Int32} (h : ∀ j : Int, 0 ≤ j → y_c g j = if j = i then v else y_c f j) {k : Int} (hk : 0 ≤ k) (hi : ¬ i = k) : y_c g k = y_c f k := by rw [h k hk, if_neg (by omega)]
def y_E6 (f g : Nat → Int32) : Prop := y_E f g ∧ y_c g 6 = y_c f 6 ∧ y_c g 7 = y_c f 7
theorem y_E6_r (f : Nat → Int32) : y_E6 f f := ⟨y_E_r f, rfl, rfl⟩
theorem y_E6_t {f g h : Nat → Int32} (a : y_E6 f g) (b : y_E6 g h) : y_E6 f h := ⟨y_E_t a.1 b.1, b.2.1.trans a.2.1, b.2.2.trans a.2.2⟩
theorem y_E6_u {i : Int} {f g : Nat → Int32} {v : Int32} (h : ∀ j : Int, 0 ≤ j → y_c g j = if j = i then v else y_c f j) (hi : ¬ (i = 3 ∨ i = 4 ∨ i = 6 ∨ i = 7 ∨ (104 ≤ i ∧ i < 128 ∧ (i - 104) % 6 ≠ 0 ∧ (i - 104) % 6 ≠ 2) ∨ (256 ≤ i ∧ i < 480))) : y_E6 f g := ⟨y_E_u h (by omega), y_E_c h (by omega) (by omega), y_E_c h (by omega) (by omega)⟩
/-- the two uppermost parts change their places: as far as it has come -/
def y_sw (f : Nat → Int32) (b k : Int) (g : Nat → Int32) : Prop := (∀ j : Int, 0 ≤ j → j < b - 3 ∨ b + 3 ≤ j → y_c g j = y_c f j) ∧ (∀ i : Int, 0 ≤ i → i < k → y_c g (b + i) = y_c f (b - 3 + i) ∧ y_c g (b - 3 + i) = y_c f (b + i)) ∧ (∀ i : Int, k ≤ i → i < 3 → y_c g (b + i) = y_c f (b + i) ∧ y_c g (b - 3 + i) = y_c f (b - 3 + i))
theorem y_sw0 {f : Nat → Int32} {b : Int} : y_sw f b 0 f := ⟨fun _ _ _ => rfl, fun i h0 h1 => absurd h1 (by omega), fun i _ _ => ⟨rfl, rfl⟩⟩
theorem y_swS {f g g1 g2 : Nat → Int32} {b k i1 i2 : Int} {v1 v2 : Int32} (hb : 3 ≤ b) (hk : 0 ≤ k ∧ k < 3) (h : y_sw f b k g) (h1 : ∀ j : Int, 0 ≤ j → y_c g1 j = if j = i1 then v1 else y_c g j) (h2 : ∀ j : Int, 0 ≤ j → y_c g2 j = if j = i2 then v2 else y_c g1 j) (e1 : i1 = b + k) (e2 : i2 = b - 3 + k) (q1 : v1 = y_c g (b - 3 + k)) (q2 : v2 = y_c g (b + k)) : y_sw f b (k + 1) g2 := by
  subst e1; subst e2
  obtain ⟨a1, a2, a3⟩ := h
  have z := a3 k (Int.le_refl k) (by omega)
  rw [z.2] at q1
  rw [z.1] at q2
  have gen : ∀ j : Int, 0 ≤ j → y_c g2 j = if j = b - 3 + k then v2 else if j = b + k then v1 else y_c g j := fun j hj => by rw [h2 j hj, h1 j hj]
  refine ⟨fun j hj hh => ?_, fun i i0 i1 => ?_, fun i i0 i1 => ?_⟩
  · rw [gen j hj, if_neg (by omega), if_neg (by omega)]
    exact a1 j hj hh
  · by_cases e : i = k
    · subst e
      refine ⟨?_, ?_⟩
      · rw [gen _ (by omega), if_neg (by omega), if_pos rfl, q1]
      · rw [gen _ (by omega), if_pos rfl, q2]
    · have y := a2 i i0 (by omega)
      refine ⟨?_, ?_⟩
      · rw [gen _ (by omega), if_neg (by omega), if_neg (by omega)]
        exact y.1
      · rw [gen _ (by omega), if_neg (by omega), if_neg (by omega)]
        exact y.2
  · have y := a3 i (by omega) i1
    refine ⟨?_, ?_⟩
    · rw [gen _ (by omega), if_neg (by omega), if_neg (by omega)]
      exact y.1
    · rw [gen _ (by omega), if_neg (by omega), if_neg (by omega)]
      exact y.2
theorem y_swE {L w n : Int} {f g : Nat → Int32} (hw : 0 ≤ w ∧ w ≤ 3) (en : n = (y_c f (109 + 6 * w)).toInt) (h0 : y_W0 f w) (hn : 2 ≤ n) (h : y_sw f (285 + 48 * w + 3 * n) 3 g) (hm : (y_c f (286 + 48 * w + 3 * n)).toInt = (y_c f (283 + 48 * w + 3 * n)).toInt) (hd : ¬ (y_c f (282 + 48 * w + 3 * n)).toInt = (y_c f (283 + 48 * w + 3 * n)).toInt) (q : y_Ws L f w) : y_W0 g w ∧ y_Ws L g w ∧ y_fw w f g := by
  have hn2 := h0.2.2.2.2
  have z := y_Ws_swap hw en h0 hn (fun j hj hh => h.1 j hj (by omega)) (fun i i0 i1 => by
    have y := h.2.1 i i0 i1
    rw [show 285 + 48 * w + 3 * n - 3 + i = 282 + 48 * w + 3 * n + i by omega] at y
    exact y) hm hd q
  exact ⟨z.1, z.2, fun j hj h1 h2 h3 => h.1 j hj (by omega)⟩
/-- a warp that goes by turns: its turn -/
theorem y_turn {L w i : Int} {f g : Nat → Int32} {v : Int32} (hw : 0 ≤ w ∧ w ≤ 3) (h : ∀ j : Int, 0 ≤ j → y_c g j = if j = i then v else y_c f j) (hi : i = 105 + 6 * w) (hv : 0 ≤ v.toInt ∧ v.toInt ≤ 7) (h0 : y_W0 f w) (hf : y_Wf L f w) : y_W0 g w ∧ y_Wf L g w ∧ y_fw w f g := by
  subst hi
  have ne : ∀ j : Int, 0 ≤ j → j ≠ 105 + 6 * w → y_c g j = y_c f j := fun j hj hne => by rw [h j hj, if_neg hne]
  refine ⟨?_, fun k k0 k1 => ?_, y_fw_u h (by omega)⟩
  · obtain ⟨a, b, c, d⟩ := h0
    unfold y_W0
    rw [ne (107 + 6 * w) (by omega) (by omega), ne (108 + 6 * w) (by omega) (by omega), ne (109 + 6 * w) (by omega) (by omega), h (105 + 6 * w) (by omega), if_pos rfl]
    exact ⟨a, b, hv, d⟩
  · rw [ne (107 + 6 * w) (by omega) (by omega), ne (256 + 8 * w + k) (by omega) (by omega)]
    exact hf k k0 k1
/-- lanes wait, or wait no more -/
theorem y_wait {L w i : Int} {f g : Nat → Int32} {v : Int32} (hw : 0 ≤ w ∧ w ≤ 3) (h : ∀ j : Int, 0 ≤ j → y_c g j = if j = i then v else y_c f j) (hi : i = 108 + 6 * w) (hv : y_sub v (y_c f (107 + 6 * w))) (q : y_NW L f w) : y_NW L g w ∧ y_fw w f g := by
  subst hi
  have ne : ∀ j : Int, 0 ≤ j → j ≠ 108 + 6 * w → y_c g j = y_c f j := fun j hj hne => by rw [h j hj, if_neg hne]
  obtain ⟨h0, h1, h2⟩ := q
  have hn := h0.2.2.2
  have e1 := ne (109 + 6 * w) (by omega) (by omega)
  have e2 := ne (107 + 6 * w) (by omega) (by omega)
  refine ⟨⟨?_, fun e => ?_, fun e => ?_⟩, y_fw_u h (by omega)⟩
  · obtain ⟨a, b, c, d⟩ := h0
    unfold y_W0
    rw [e2, ne (105 + 6 * w) (by omega) (by omega), e1, h (108 + 6 * w) (by omega), if_pos rfl]
    exact ⟨a, hv, c, d⟩
  · rw [ne 3 (by omega) (by omega)] at e
    obtain ⟨s, t⟩ := h1 e
    obtain ⟨q1, q2, q3, q4⟩ := s
    refine ⟨⟨fun k k0 k1 => ?_, fun k k0 k1 => ?_, ?_, ?_⟩, ?_⟩
    · rw [e1] at k1
      rw [ne (288 + 48 * w + 3 * k) (by omega) (by omega), ne (290 + 48 * w + 3 * k) (by omega) (by omega)]
      exact q1 k k0 k1
    · rw [e1] at k1
      rw [ne (288 + 48 * w + 3 * k) (by omega) (by omega), ne (290 + 48 * w + 3 * k) (by omega) (by omega), ne (292 + 48 * w + 3 * k) (by omega) (by omega)]
      exact q2 k k0 k1
    · rw [e1, e2]; exact q3
    · rw [e1, e2, ne (290 + 48 * w) (by omega) (by omega)]; exact q4
    · unfold y_Wt
      rw [e1]
      intro e9
      rw [ne (285 + 48 * w + 3 * (y_c f (109 + 6 * w)).toInt) (by omega) (by omega)]
      exact t e9
  · rw [ne 3 (by omega) (by omega)] at e
    intro k k0 k1
    rw [e2, ne (256 + 8 * w + k) (by omega) (by omega)]
    exact h2 e k k0 k1
/-- one warp is good again, the others are as they were -/
theorem y_NGw {p f g : Nat → Int32} {w : Int} (hw : 0 ≤ w ∧ w ≤ 3) (h : y_fw w f g) (q : y_NG p f) (hg : y_NW (y_c p 387).toInt g w) (hp : (y_c p 384).toInt ≤ 4) : y_NG p g := by
  obtain ⟨a, b, c, d, e⟩ := q
  refine ⟨by rw [h 3 (by omega) (by omega) (by omega) (by omega)]; exact a, by rw [h 4 (by omega) (by omega) (by omega) (by omega)]; exact b, by rw [h 6 (by omega) (by omega) (by omega) (by omega)]; exact c, by rw [h 7 (by omega) (by omega) (by omega) (by omega)]; exact d, fun v v0 v1 => ?_⟩
  by_cases hv : v = w
  · rw [hv]; exact hg
  · exact y_fw_NW hw ⟨v0, by omega⟩ hv h (e v v0 v1)
theorem y_NGe {p f g : Nat → Int32} (h : y_E f g) (q : y_NG p f) (h6 : -1 ≤ (y_c g 6).toInt ∧ (y_c g 6).toInt ≤ 3) (h7 : 0 ≤ (y_c g 7).toInt ∧ (y_c g 7).toInt ≤ 30) (hp : (y_c p 384).toInt ≤ 4) : y_NG p g := by
  obtain ⟨a, b, c, d, e⟩ := q
  exact ⟨by rw [h 3 (by omega) (by omega)]; exact a, by rw [h 4 (by omega) (by omega)]; exact b, h6, h7, fun v v0 v1 => y_E_NW ⟨v0, by omega⟩ h (e v v0 v1)⟩
theorem y_PGt {p : Nat → Int32} {i : Int} (h : y_PG p) (h0 : 0 ≤ i) (h1 : i < (y_c p 387).toInt) (h2 : (y_c p (8 * i)).toInt = 12) : 0 ≤ (y_c p (8 * i + 4)).toInt ∧ (y_c p (8 * i + 4)).toInt < (y_c p 387).toInt := h.1.2.2 i h0 h1 h2
theorem y_PGm {p : Nat → Int32} {i : Int} (h : y_PG p) (h0 : 0 ≤ i) (h1 : i < (y_c p 387).toInt) (h2 : (y_c p (8 * i)).toInt = 12) (h3 : ¬ (y_c p (8 * i + 5)).toInt = -1000000) : 0 ≤ (y_c p (8 * i + 6)).toInt ∧ (y_c p (8 * i + 6)).toInt ≤ (y_c p 387).toInt := (h.2 i h0 h1 h2).resolve_left h3
theorem y_LQn {f g : Nat → Int32} {w : Int} {c : Int32} (h : 0 < (y_c f (109 + 6 * w)).toInt) (q : y_LQ f w c g) : 0 < (y_c g (109 + 6 * w)).toInt := by
  rcases q with ⟨a, _⟩ | ⟨a, _⟩ <;> omega
theorem y_NW1 {L w : Int} {f : Nat → Int32} (hm : (y_c f 3).toInt = 1) (h0 : y_W0 f w) (hf : y_Wf L f w) : y_NW L f w := ⟨h0, fun q => absurd q (by omega), fun _ => hf⟩
theorem y_NW0 {L w : Int} {f : Nat → Int32} (hm : (y_c f 3).toInt = 0) (h0 : y_W0 f w) (hs : y_Ws L f w) (ht : y_Wt L f w) : y_NW L f w := ⟨h0, fun _ => ⟨hs, ht⟩, fun q => absurd hm q⟩
def y_K7 (f g : Nat → Int32) : Prop := y_E f g ∧ y_c g 6 = y_c f 6
theorem y_K7_r (f : Nat → Int32) : y_K7 f f := ⟨y_E_r f, rfl⟩
theorem y_K7_t {f g h : Nat → Int32} (a : y_K7 f g) (b : y_K7 g h) : y_K7 f h := ⟨y_E_t a.1 b.1, b.2.trans a.2⟩
theorem y_K7_u {i : Int} {f g : Nat → Int32} {v : Int32} (h : ∀ j : Int, 0 ≤ j → y_c g j = if j = i then v else y_c f j) (hi : i = 7 ∨ 480 ≤ i) : y_K7 f g := ⟨y_E_u h (by omega), y_E_c h (by omega) (by omega)⟩
/-- some wait: so there is a part, and it isn't at the end -/
theorem y_waits {L w : Int} {f : Nat → Int32} {l : Int32} (q : y_NW L f w) (hm : (y_c f 3).toInt = 0) (hl : y_sub l (y_c f (107 + 6 * w))) (hz : ¬ l = 0) : y_Ws L f w ∧ 0 < (y_c f (109 + 6 * w)).toInt ∧ (0 ≤ (y_c f (285 + 48 * w + 3 * (y_c f (109 + 6 * w)).toInt)).toInt ∧ (y_c f (285 + 48 * w + 3 * (y_c f (109 + 6 * w)).toInt)).toInt < L) := by
  obtain ⟨h0, h1, -⟩ := q
  obtain ⟨hs, ht⟩ := h1 hm
  have hn := h0.2.2.2
  have hp : 0 < (y_c f (109 + 6 * w)).toInt := by
    apply Classical.byContradiction
    intro hh
    exact hz (y_sub0 hl (hs.2.2.1 (by omega)) (y_8s hl h0.1))
  have b := (hs.1 ((y_c f (109 + 6 * w)).toInt - 1) (by omega) (by omega)).1
  rw [show 288 + 48 * w + 3 * ((y_c f (109 + 6 * w)).toInt - 1) = 285 + 48 * w + 3 * (y_c f (109 + 6 * w)).toInt by omega] at b
  exact ⟨hs, hp, b.1, ht hp⟩
/-! from the beginning -/
def y_Zr (w j : Int) : Prop := (104 + 6 * w ≤ j ∧ j < 128) ∨ (256 + 8 * w ≤ j ∧ j < 288) ∨ (288 + 48 * w ≤ j ∧ j < 480)
def y_BG (p : Nat → Int32) (f : Nat → Int32) (w : Int) : Prop := (∀ v : Int, 0 ≤ v → v < w → y_NW (y_c p 387).toInt f v) ∧ ∀ j : Int, y_Zr w j → y_c f j = 0
theorem y_BG0 {p f : Nat → Int32} (h : ∀ j : Int, 72 ≤ j → j < 918 → y_c f j = 0) : y_BG p f 0 := ⟨fun v v0 v1 => absurd v1 (by omega), fun j hj => by unfold y_Zr at hj; exact h j (by omega) (by omega)⟩
theorem y_BGs {p f g : Nat → Int32} {w : Int} (hw : 0 ≤ w ∧ w ≤ 3) (h : y_BG p f w) (hf : y_fw w f g) (hn : y_NW (y_c p 387).toInt g w) : y_BG p g (w + 1) := by
  refine ⟨fun v v0 v1 => ?_, fun j hj => ?_⟩
  · by_cases e : v = w
    · rw [e]; exact hn
    · exact y_fw_NW hw ⟨v0, by omega⟩ e hf (h.1 v v0 (by omega))
  · unfold y_Zr at hj
    rw [hf j (by omega) (by omega) (by omega) (by omega)]
    exact h.2 j (by unfold y_Zr; omega)
/-- how far a warp's lanes have been told where they begin -/
def y_BN (f : Nat → Int32) (w k L : Int) (l : Int32) : Prop := y_c f (107 + 6 * w) = l ∧ y_c f (105 + 6 * w) = 0 ∧ y_c f (108 + 6 * w) = 0 ∧ y_c f (109 + 6 * w) = 0 ∧ ∀ i : Int, 0 ≤ i → i < k → (0 ≤ (y_c f (256 + 8 * w + i)).toInt ∧ (y_c f (256 + 8 * w + i)).toInt ≤ L) ∧ (bt l i.toNat = true → (y_c f (256 + 8 * w + i)).toInt < L)
theorem y_BN0 {p f g : Nat → Int32} {w i L : Int} {l : Int32} (hw : 0 ≤ w ∧ w ≤ 3) (h : y_BG p f w) (hu : ∀ j : Int, 0 ≤ j → y_c g j = if j = i then l else y_c f j) (hi : i = 107 + 6 * w) : y_BN g w 0 L l ∧ y_fw w f g := by
  subst hi
  have z : ∀ j : Int, j = 105 + 6 * w ∨ j = 108 + 6 * w ∨ j = 109 + 6 * w → y_c g j = 0 := fun j hj => by
    rw [hu j (by omega), if_neg (by omega)]
    exact h.2 j (by unfold y_Zr; omega)
  exact ⟨⟨by rw [hu _ (by omega), if_pos rfl], z _ (by omega), z _ (by omega), z _ (by omega), fun i h0 h1 => absurd h1 (by omega)⟩, y_fw_u hu (by omega)⟩
theorem y_BNs {f g : Nat → Int32} {w k i L : Int} {l v : Int32} (hw : 0 ≤ w ∧ w ≤ 3) (hk : 0 ≤ k ∧ k ≤ 7) (h : y_BN f w k L l) (hu : ∀ j : Int, 0 ≤ j → y_c g j = if j = i then v else y_c f j) (hi : i = 256 + 8 * w + k) (hv : (0 ≤ v.toInt ∧ v.toInt ≤ L) ∧ (bt l k.toNat = true → v.toInt < L)) : y_BN g w (k + 1) L l ∧ y_fw w f g := by
  subst hi
  obtain ⟨a, b, c, d, e⟩ := h
  have ne : ∀ j : Int, 0 ≤ j → j ≠ 256 + 8 * w + k → y_c g j = y_c f j := fun j hj hne => by rw [hu j hj, if_neg hne]
  refine ⟨⟨by rw [ne _ (by omega) (by omega)]; exact a, by rw [ne _ (by omega) (by omega)]; exact b, by rw [ne _ (by omega) (by omega)]; exact c, by rw [ne _ (by omega) (by omega)]; exact d, fun i h0 h1 => ?_⟩, y_fw_u hu (by omega)⟩
  by_cases q : i = k
  · rw [q, hu _ (by omega), if_pos rfl]
    exact hv
  · rw [ne _ (by omega) (by omega)]
    exact e i h0 (by omega)
theorem y_BNW {f : Nat → Int32} {w L : Int} {l : Int32} (h8 : y_8 l) (h : y_BN f w 8 L l) : y_W0 f w := by
  obtain ⟨a, b, c, d, e⟩ := h
  unfold y_W0
  rw [a, b, c, d]
  exact ⟨h8, y_sub_0 _, by decide, by decide⟩
theorem y_BNf {f : Nat → Int32} {w L : Int} {l : Int32} (h8 : y_8 l) (hm : ¬ (y_c f 3).toInt = 0) (h : y_BN f w 8 L l) : y_NW L f w := by
  have w0 := y_BNW h8 h
  obtain ⟨a, b, c, d, e⟩ := h
  exact ⟨w0, fun q => absurd q hm, fun _ k k0 k1 => by rw [a]; exact e k k0 k1⟩
theorem y_BNz {f : Nat → Int32} {w L : Int} (hm : (y_c f 3).toInt = 0) (h : y_BN f w 8 L 0) : y_NW L f w := by
  have w0 := y_BNW (fun i _ => b_0 i) h
  obtain ⟨a, b, c, d, e⟩ := h
  have z : (y_c f (109 + 6 * w)).toInt = 0 := by rw [d]; decide
  exact ⟨w0, fun _ => ⟨⟨fun k k0 k1 => absurd k1 (by omega), fun k k0 k1 => absurd k1 (by omega), fun _ => a, fun q => absurd q (by omega)⟩, fun q => absurd q (by omega)⟩, fun q => absurd hm q⟩
theorem y_pc8 (x : Int32) : y_pc x ≤ 8 := by
  have k : ∀ n, y_pop x n ≤ n := by
    intro n
    induction n with
    | zero => exact Nat.le_refl _
    | succ n ih =>
      show y_pop x n + _ ≤ _
      split <;> omega
  have := k 8
  unfold y_pc
  omega
theorem y_BNp {f g : Nat → Int32} {w L : Int} {l a b : Int32} (hw : 0 ≤ w ∧ w ≤ 3) (h8 : y_8 l) (hm : (y_c f 3).toInt = 0) (h : y_BN f w 8 L l) (hL : 1 ≤ L) (ha : a.toInt = 0) (hp : ∀ j : Int, 0 ≤ j → y_c g j = y_psh f w a b l j) : y_NW L g w ∧ y_fw w f g := by
  have w0 := y_BNW h8 h
  obtain ⟨e1, e2, e3, e4, e5⟩ := h
  have z : (y_c f (109 + 6 * w)).toInt = 0 := by rw [e4]; decide
  have p8 := y_pc8 l
  have q := y_Ws_push (L := L) hw hp w0 (by omega) ⟨by omega, by omega⟩ h8 (by omega) (fun h => by omega) (fun _ => by rw [e1]; exact y_sub_r l) (Or.inl z)
  have fw := y_fw_psh (by omega) hp
  refine ⟨⟨q.1, fun _ => ⟨q.2, fun _ => ?_⟩, fun hh => absurd ((congrArg Int32.toInt (y_fw3 hw.1 fw)).trans hm) hh⟩, fw⟩
  have e : (y_c g (109 + 6 * w)).toInt = 1 := by
    rw [hp _ (by omega)]
    unfold y_psh
    rw [if_pos rfl, e4]
    decide
  rw [e, show 285 + 48 * w + 3 * 1 = 288 + 48 * w + 3 * (y_c f (109 + 6 * w)).toInt by omega, hp _ (by omega)]
  unfold y_psh
  rw [if_neg (by omega), if_neg (by omega), if_neg (by omega), if_pos rfl]
  omega
theorem y_255 : y_8 255 := fun i hi => by rw [b_255]; exact decide_eq_false (by omega)
theorem y_8b {k : Int32} (hk : 0 ≤ k.toInt ∧ k.toInt ≤ 7) : y_8 ((1 : Int32) <<< (k &&& 31)) := fun i hi => by rw [y_bit1 (by omega)]; exact decide_eq_false (by omega)
