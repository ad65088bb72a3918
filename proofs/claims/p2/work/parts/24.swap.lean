/-! the two programs change places -/
def s_sw (k : Nat) : Nat := if k = 3 then 8 else if k = 8 then 3 else if k = 22 then 42 else if k = 42 then 22 else if k = 23 then 43 else if k = 43 then 23 else k
theorem s_ss (k : Nat) : s_sw (s_sw k) = k := by
  by_cases a : k = 3
  · subst a; rfl
  by_cases b : k = 8
  · subst b; rfl
  by_cases c : k = 22
  · subst c; rfl
  by_cases d : k = 42
  · subst d; rfl
  by_cases e : k = 23
  · subst e; rfl
  by_cases f : k = 43
  · subst f; rfl
  have h : s_sw k = k := by unfold s_sw; rw [if_neg a, if_neg b, if_neg c, if_neg d, if_neg e, if_neg f]
  rw [h, h]
theorem s_sk {K : Nat → Nat} {a k k' : Nat} (h : K a = k) (e : s_sw k = k') : s_sw (K a) = k' := by rw [h]; exact e
theorem s_skb {K : Nat → Nat} {a k : Nat} (h : s_sw (K a) = k) : K a = s_sw k := by rw [← h, s_ss]
theorem s_swE {k : Nat} {E E' : List Nat} (h : s_sw k ∈ E) (hd : ∀ x ∈ E, s_sw x ∈ E') : k ∈ E' := by
  have q := hd _ h
  rw [s_ss] at q
  exact q
theorem s_okn {K : Nat → Nat} {cs : Nat → ClassId} {D k : Nat} {e : va_E} (h : k ∉ [1, 2, 3, 4, 5, 6, 7, 8, 20, 21, 22, 23, 24, 25, 26, 27, 28, 29, 30, 31, 32, 33, 34, 35, 36, 37, 38, 39, 42, 43]) : s_ok K cs D k e := by
  unfold s_ok
  split <;> first | trivial | exact absurd (by decide) h
theorem s_swap {K : Nat → Nat} {cs : Nat → ClassId} {D : Nat} {F G : Nat → va_E} (hI : s_I K cs D F) (hG : ∀ a, K a ≠ 7 → K a ≠ 1 → K a ≠ 2 → G a = F a) (h7 : ∀ a, K a = 7 → ok_7 (fun b => s_sw (K b)) cs D (G a)) (h1 : ∀ a, K a = 1 → ok_1 (fun b => s_sw (K b)) cs D (G a)) (h2 : ∀ a, K a = 2 → ok_2 (fun b => s_sw (K b)) cs D (G a)) : s_I (fun b => s_sw (K b)) cs D G := fun a => by
  have q := hI a
  by_cases e7 : K a = 7
  · show s_ok _ cs D (s_sw (K a)) (G a)
    rw [e7]
    exact h7 a e7
  by_cases e1 : K a = 1
  · show s_ok _ cs D (s_sw (K a)) (G a)
    rw [e1]
    exact h1 a e1
  by_cases e2 : K a = 2
  · show s_ok _ cs D (s_sw (K a)) (G a)
    rw [e2]
    exact h2 a e2
  by_cases e3 : K a = 3
  · have h9 : G a = F a := hG a (by rw [e3]; decide) (by rw [e3]; decide) (by rw [e3]; decide)
    rw [e3] at q
    show s_ok _ cs D (s_sw (K a)) (G a)
    rw [e3, h9]
    obtain ⟨z0, z1, z2, z3, z4, z5, z6, o, h0, h1, h2, h3, h4, -⟩ := q
    exact ⟨z0, z1, z2, z3, z4, z5, z6, o, s_sk h0 rfl, s_sk h1 rfl, s_sk h2 rfl, h3, h4, trivial⟩
  by_cases e4 : K a = 4
  · have h9 : G a = F a := hG a (by rw [e4]; decide) (by rw [e4]; decide) (by rw [e4]; decide)
    rw [e4] at q
    show s_ok _ cs D (s_sw (K a)) (G a)
    rw [e4, h9]
    obtain ⟨z0, z1, z2, z3, z4, z5, z6, z7, z8, z9, z10, z11, z12, z13, z14, o, h0, h1, h2, h3, h4, h5, h8, h9, h12, -⟩ := q
    exact ⟨z0, z1, z2, z3, z4, z5, z6, z7, z8, z9, z10, z11, z12, z13, z14, o, s_sk h0 rfl, s_sk h1 rfl, s_sk h2 rfl, s_sk h3 rfl, (fun q8 e8 => s_sk (h4 q8 e8) rfl), h5, h8, h9, h12, trivial⟩
  by_cases e5 : K a = 5
  · have h9 : G a = F a := hG a (by rw [e5]; decide) (by rw [e5]; decide) (by rw [e5]; decide)
    rw [e5] at q
    show s_ok _ cs D (s_sw (K a)) (G a)
    rw [e5, h9]
    obtain ⟨z0, z1, z2, z3, z4, z5, z6, z7, z8, z9, z10, z11, z12, z13, z14, o, h0, h1, h2, h3, h4, h5, h6, h7, h8, h9, h10, h12, h14, -⟩ := q
    exact ⟨z0, z1, z2, z3, z4, z5, z6, z7, z8, z9, z10, z11, z12, z13, z14, o, s_sk h0 rfl, s_sk h1 rfl, s_sk h2 rfl, s_sk h3 rfl, s_sk h4 rfl, s_sk h5 rfl, s_sk h6 rfl, h7, h8, h9, h10, h12, h14, trivial⟩
  by_cases e6 : K a = 6
  · have h9 : G a = F a := hG a (by rw [e6]; decide) (by rw [e6]; decide) (by rw [e6]; decide)
    rw [e6] at q
    show s_ok _ cs D (s_sw (K a)) (G a)
    rw [e6, h9]
    obtain ⟨z0, z1, z2, z3, z4, z5, z6, z7, z8, z9, z10, o, h0, h1, h2, h3, h4, h5, h10, -⟩ := q
    exact ⟨z0, z1, z2, z3, z4, z5, z6, z7, z8, z9, z10, o, s_sk h0 rfl, s_sk h1 rfl, s_sk h2 rfl, s_sk h3 rfl, s_sk h4 rfl, h5, h10, trivial⟩
  by_cases e8 : K a = 8
  · have h9 : G a = F a := hG a (by rw [e8]; decide) (by rw [e8]; decide) (by rw [e8]; decide)
    rw [e8] at q
    show s_ok _ cs D (s_sw (K a)) (G a)
    rw [e8, h9]
    obtain ⟨z0, z1, z2, z3, z4, z5, z6, o, h0, h1, h2, h3, h4, -⟩ := q
    exact ⟨z0, z1, z2, z3, z4, z5, z6, o, s_sk h0 rfl, s_sk h1 rfl, s_sk h2 rfl, h3, h4, trivial⟩
  by_cases e20 : K a = 20
  · have h9 : G a = F a := hG a (by rw [e20]; decide) (by rw [e20]; decide) (by rw [e20]; decide)
    rw [e20] at q
    show s_ok _ cs D (s_sw (K a)) (G a)
    rw [e20, h9]
    exact q
  by_cases e21 : K a = 21
  · have h9 : G a = F a := hG a (by rw [e21]; decide) (by rw [e21]; decide) (by rw [e21]; decide)
    rw [e21] at q
    show s_ok _ cs D (s_sw (K a)) (G a)
    rw [e21, h9]
    exact q
  by_cases e22 : K a = 22
  · have h9 : G a = F a := hG a (by rw [e22]; decide) (by rw [e22]; decide) (by rw [e22]; decide)
    rw [e22] at q
    show s_ok _ cs D (s_sw (K a)) (G a)
    rw [e22, h9]
    obtain ⟨f, o, h⟩ := q
    exact ⟨f, o, fun j hj => by obtain ⟨x, h1, h2⟩ := h j hj; exact ⟨x, h1, s_sk h2 rfl⟩⟩
  by_cases e23 : K a = 23
  · have h9 : G a = F a := hG a (by rw [e23]; decide) (by rw [e23]; decide) (by rw [e23]; decide)
    rw [e23] at q
    show s_ok _ cs D (s_sw (K a)) (G a)
    rw [e23, h9]
    exact q
  by_cases e24 : K a = 24
  · have h9 : G a = F a := hG a (by rw [e24]; decide) (by rw [e24]; decide) (by rw [e24]; decide)
    rw [e24] at q
    show s_ok _ cs D (s_sw (K a)) (G a)
    rw [e24, h9]
    exact q
  by_cases e25 : K a = 25
  · have h9 : G a = F a := hG a (by rw [e25]; decide) (by rw [e25]; decide) (by rw [e25]; decide)
    rw [e25] at q
    show s_ok _ cs D (s_sw (K a)) (G a)
    rw [e25, h9]
    exact q
  by_cases e26 : K a = 26
  · have h9 : G a = F a := hG a (by rw [e26]; decide) (by rw [e26]; decide) (by rw [e26]; decide)
    rw [e26] at q
    show s_ok _ cs D (s_sw (K a)) (G a)
    rw [e26, h9]
    obtain ⟨f, o, h⟩ := q
    exact ⟨f, o, fun j hj => by obtain ⟨x, h1, h2⟩ := h j hj; exact ⟨x, h1, s_sk h2 rfl⟩⟩
  by_cases e27 : K a = 27
  · have h9 : G a = F a := hG a (by rw [e27]; decide) (by rw [e27]; decide) (by rw [e27]; decide)
    rw [e27] at q
    show s_ok _ cs D (s_sw (K a)) (G a)
    rw [e27, h9]
    exact q
  by_cases e28 : K a = 28
  · have h9 : G a = F a := hG a (by rw [e28]; decide) (by rw [e28]; decide) (by rw [e28]; decide)
    rw [e28] at q
    show s_ok _ cs D (s_sw (K a)) (G a)
    rw [e28, h9]
    exact q
  by_cases e29 : K a = 29
  · have h9 : G a = F a := hG a (by rw [e29]; decide) (by rw [e29]; decide) (by rw [e29]; decide)
    rw [e29] at q
    show s_ok _ cs D (s_sw (K a)) (G a)
    rw [e29, h9]
    exact q
  by_cases e30 : K a = 30
  · have h9 : G a = F a := hG a (by rw [e30]; decide) (by rw [e30]; decide) (by rw [e30]; decide)
    rw [e30] at q
    show s_ok _ cs D (s_sw (K a)) (G a)
    rw [e30, h9]
    exact q
  by_cases e31 : K a = 31
  · have h9 : G a = F a := hG a (by rw [e31]; decide) (by rw [e31]; decide) (by rw [e31]; decide)
    rw [e31] at q
    show s_ok _ cs D (s_sw (K a)) (G a)
    rw [e31, h9]
    exact q
  by_cases e32 : K a = 32
  · have h9 : G a = F a := hG a (by rw [e32]; decide) (by rw [e32]; decide) (by rw [e32]; decide)
    rw [e32] at q
    show s_ok _ cs D (s_sw (K a)) (G a)
    rw [e32, h9]
    exact q
  by_cases e33 : K a = 33
  · have h9 : G a = F a := hG a (by rw [e33]; decide) (by rw [e33]; decide) (by rw [e33]; decide)
    rw [e33] at q
    show s_ok _ cs D (s_sw (K a)) (G a)
    rw [e33, h9]
    obtain ⟨f, o, h⟩ := q
    exact ⟨f, o, fun j hj => by obtain ⟨x, h1, h2⟩ := h j hj; exact ⟨x, h1, s_sk h2 rfl⟩⟩
  by_cases e34 : K a = 34
  · have h9 : G a = F a := hG a (by rw [e34]; decide) (by rw [e34]; decide) (by rw [e34]; decide)
    rw [e34] at q
    show s_ok _ cs D (s_sw (K a)) (G a)
    rw [e34, h9]
    exact q
  by_cases e35 : K a = 35
  · have h9 : G a = F a := hG a (by rw [e35]; decide) (by rw [e35]; decide) (by rw [e35]; decide)
    rw [e35] at q
    show s_ok _ cs D (s_sw (K a)) (G a)
    rw [e35, h9]
    exact q
  by_cases e36 : K a = 36
  · have h9 : G a = F a := hG a (by rw [e36]; decide) (by rw [e36]; decide) (by rw [e36]; decide)
    rw [e36] at q
    show s_ok _ cs D (s_sw (K a)) (G a)
    rw [e36, h9]
    exact q
  by_cases e37 : K a = 37
  · have h9 : G a = F a := hG a (by rw [e37]; decide) (by rw [e37]; decide) (by rw [e37]; decide)
    rw [e37] at q
    show s_ok _ cs D (s_sw (K a)) (G a)
    rw [e37, h9]
    exact q
  by_cases e38 : K a = 38
  · have h9 : G a = F a := hG a (by rw [e38]; decide) (by rw [e38]; decide) (by rw [e38]; decide)
    rw [e38] at q
    show s_ok _ cs D (s_sw (K a)) (G a)
    rw [e38, h9]
    exact q
  by_cases e39 : K a = 39
  · have h9 : G a = F a := hG a (by rw [e39]; decide) (by rw [e39]; decide) (by rw [e39]; decide)
    rw [e39] at q
    show s_ok _ cs D (s_sw (K a)) (G a)
    rw [e39, h9]
    exact q
  by_cases e42 : K a = 42
  · have h9 : G a = F a := hG a (by rw [e42]; decide) (by rw [e42]; decide) (by rw [e42]; decide)
    rw [e42] at q
    show s_ok _ cs D (s_sw (K a)) (G a)
    rw [e42, h9]
    obtain ⟨f, o, h⟩ := q
    exact ⟨f, o, fun j hj => by obtain ⟨x, h1, h2⟩ := h j hj; exact ⟨x, h1, s_sk h2 rfl⟩⟩
  by_cases e43 : K a = 43
  · have h9 : G a = F a := hG a (by rw [e43]; decide) (by rw [e43]; decide) (by rw [e43]; decide)
    rw [e43] at q
    show s_ok _ cs D (s_sw (K a)) (G a)
    rw [e43, h9]
    exact q
  show s_ok _ cs D (s_sw (K a)) (G a)
  have h9 : s_sw (K a) = K a := by unfold s_sw; rw [if_neg e3, if_neg e8, if_neg e22, if_neg e42, if_neg e23, if_neg e43]
  rw [h9]
  refine s_okn (fun h => ?_)
  rcases (show K a = 1 ∨ K a = 2 ∨ K a = 3 ∨ K a = 4 ∨ K a = 5 ∨ K a = 6 ∨ K a = 7 ∨ K a = 8 ∨ K a = 20 ∨ K a = 21 ∨ K a = 22 ∨ K a = 23 ∨ K a = 24 ∨ K a = 25 ∨ K a = 26 ∨ K a = 27 ∨ K a = 28 ∨ K a = 29 ∨ K a = 30 ∨ K a = 31 ∨ K a = 32 ∨ K a = 33 ∨ K a = 34 ∨ K a = 35 ∨ K a = 36 ∨ K a = 37 ∨ K a = 38 ∨ K a = 39 ∨ K a = 42 ∨ K a = 43 from by simpa using h) with h | h | h | h | h | h | h | h | h | h | h | h | h | h | h | h | h | h | h | h | h | h | h | h | h | h | h | h | h | h
  · exact e1 h
  · exact e2 h
  · exact e3 h
  · exact e4 h
  · exact e5 h
  · exact e6 h
  · exact e7 h
  · exact e8 h
  · exact e20 h
  · exact e21 h
  · exact e22 h
  · exact e23 h
  · exact e24 h
  · exact e25 h
  · exact e26 h
  · exact e27 h
  · exact e28 h
  · exact e29 h
  · exact e30 h
  · exact e31 h
  · exact e32 h
  · exact e33 h
  · exact e34 h
  · exact e35 h
  · exact e36 h
  · exact e37 h
  · exact e38 h
  · exact e39 h
  · exact e42 h
  · exact e43 h
/-- no row lies at two places, in the current program -/
def s_RJ (K : Nat → Nat) (cs : Nat → ClassId) (F : Nat → va_E) : Prop := ∀ a, K a = 22 → ∀ (fr : Nat → Option Nat), F a = .inl (cs 5, 40, .inr (.inr (.inr (.inr fr)))) → ∀ i j r, i < 40 → j < 40 → fr i = some r → fr j = some r → i = j
theorem s_RJt {K : Nat → Nat} {cs : Nat → ClassId} {F G : Nat → va_E} {E : List Nat} (hfr : ∀ b, K b ∉ E → G b = F b) (he : 22 ∉ E) (h : s_RJ K cs F) : s_RJ K cs G := fun a ha fr q => h a ha fr (by rw [← hfr a (by rw [ha]; exact he)]; exact q)
theorem s_RIs {K : Nat → Nat} {cs : Nat → ClassId} {F : Nat → va_E} (h : s_RJ K cs F) : s_RI (fun b => s_sw (K b)) cs F := fun a ha => h a (s_skb ha)
theorem s_RJs {K : Nat → Nat} {cs : Nat → ClassId} {F : Nat → va_E} (h : s_RI K cs F) : s_RJ (fun b => s_sw (K b)) cs F := fun a ha => h a (s_skb ha)
/-- which cells are the class's own objects -/
def s_UQ (K : Nat → Nat) (cs : Nat → ClassId) (x : Nat) : Prop := (∀ a, K a = 7 → a = x) ∧ (∀ a, K a = 1 → a = cs 22) ∧ (∀ a, K a = 2 → a = cs 20 ∨ a = cs 21) ∧ cs 20 ≠ cs 21 ∧ (∀ a b, K a = 3 → K b = 3 → a = b) ∧ (∀ a b, K a = 8 → K b = 8 → a = b)
theorem s_UQs {K : Nat → Nat} {cs : Nat → ClassId} {x : Nat} (h : s_UQ K cs x) : s_UQ (fun b => s_sw (K b)) cs x := ⟨fun a ha => h.1 a (s_skb ha), fun a ha => h.2.1 a (s_skb ha), fun a ha => h.2.2.1 a (s_skb ha), h.2.2.2.1, fun a b ha hb => h.2.2.2.2.2 a b (s_skb ha) (s_skb hb), fun a b ha hb => h.2.2.2.2.1 a b (s_skb ha) (s_skb hb)⟩

set_option maxHeartbeats 4000000 in
theorem t_X1_take (l : Launch) (dC : Nat → ClassId) (dI : Nat → Nat → Nat) (sz : Nat) {cs : Nat → ClassId} {L : List Nat} (F : Nat → va_E) (a0 a1 : Nat) (h0 : a0 ∈ L) (w0 w1 w2 w3 w4 w5 w6 w7 w8 w9 w10 w11 : Value) (o : F a0 = .inr (1, [w0, w1, w2, w3, w4, w5, w6, w7, w8, w9, w10, w11])) : Met l yX1_take (Cond.code yX1_take cX1_take 2 none :: T0) ({ frames := 0, cells := 0, slots := 0, locals := 0 }) (va_Pc [.ref a0, .ref a1] (s_W dC dI sz L F [(cs 0, .int), (cs 1, .byte), (cs 2, .long), (cs 3, .object RX5), (cs 4, .object RX4), (cs 5, .array .int), (cs 6, .char), (cs 7, .boolean)])) (va_Qv (fun (G : Nat → va_E) => G = va_up F a0 (.inr (1, [w0, w1, .ref a1, w3, w4, w5, w6, w7, w8, w9, w10, w11]))) (fun (G : Nat → va_E) (t : State) => va_P (dC, dI) vwCl (va_pl L G) t.heap ∧ va_K (dC, dI) vwCl [(cs 0, .int), (cs 1, .byte), (cs 2, .long), (cs 3, .object RX5), (cs 4, .object RX4), (cs 5, .array .int), (cs 6, .char), (cs 7, .boolean)] t) (fun q => q ∈ L)) 0 0 (fun q => q ∈ L) := by
  refine Met.ofW (cc := cX1_take) (maxL := 2) (ret := none) (by decide) rfl ?_
  intro p e s m args below meth c s₁ B hml hv
  obtain ⟨rfl, hsz, hP, hK, hD, hN⟩ := hv
  have hx := B.exec
  have hb := B.bytes
  have hr := B.returns
  have hts : ∀ w ∈ T0, w.before _ s = true := fun w h => atoms_spec (ws := Cond.code yX1_take cX1_take 2 none :: T0) B.pre w (List.mem_cons_of_mem _ h)
  have hown : s.vm.findClass RX1 = some m.cls := findClass_of_methodNamed B.named
  have hS : va_S (fun q => q ∈ L) s.heap s.heap [] := va_S.rf
  have hl := lv_entry ([.ref a0, .ref a1]) (n := 2) (Nat.le_of_ble_eq_true rfl)
  rw [lg_entry_eq]
  generalize (lg_sl ([.ref a0, .ref a1]) ++ List.replicate (2 - (lg_sl ([.ref a0, .ref a1])).length) Slot.unset).toArray = ls at hl ⊢
  have hl : lv_has ls 2 [(0, .ref a0), (1, .ref a1)] := hl
  refine s_gen hP hS (fun H locs hP hS => ?_)
  refine lv_aload_n hx hb dX1_take_0 rfl (lv_at hl 0 rfl) ?_
  refine lv_aload_n hx hb dX1_take_1 rfl (lv_at hl 1 rfl) ?_
  refine th_put (D := (dC, dI)) (ci := 1) (v := .ref a1) (ty := .object "LaneWarps$Program") (C := RX1) (T := TX1) (N := 12) hx hb hts inX1 tyX1 tyX1_ok nmX1 hown hK hP hD hS h0 o rfl 2 (by decide) (hts _ T_121) (fun _ h9 => h9) rfl (by decide +kernel) rfl rfl (Nat.le_of_ble_eq_true rfl) dX1_take_2 (fun H locs hP hS => ?_)
  exact W.vret hx hb hr (fun t ht hW => ⟨⟨_, rfl, rfl, by rw [ht]; exact hP, va_K.moved hW.alike hK⟩, hS.F ht⟩) hS.2.2 dX1_take_5

set_option maxHeartbeats 4000000 in
theorem t_X0_take (l : Launch) (dC : Nat → ClassId) (dI : Nat → Nat → Nat) (sz : Nat) {cs : Nat → ClassId} {L : List Nat} (F : Nat → va_E) (a0 a1 a2 : Nat) (h0 : a0 ∈ L) (h2 : a2 ∈ L) (w1 w2 w3 w4 w5 w6 w7 w8 w9 w10 w11 w12 w13 u0 u1 u2 u3 u4 u5 u6 u7 u8 u9 u10 u11 : Value) (o : F a0 = .inr (0, [.ref a2, w1, w2, w3, w4, w5, w6, w7, w8, w9, w10, w11, w12, w13])) (om : F a2 = .inr (1, [u0, u1, u2, u3, u4, u5, u6, u7, u8, u9, u10, u11])) : Met l yX0_take (Cond.code yX0_take cX0_take 2 none :: T0) ({ frames := 1, cells := 0, slots := 0, locals := 21 }) (va_Pc [.ref a0, .ref a1] (s_W dC dI sz L F [(cs 0, .int), (cs 1, .byte), (cs 2, .long), (cs 3, .object RX5), (cs 4, .object RX4), (cs 5, .array .int), (cs 6, .char), (cs 7, .boolean)])) (va_Qv (fun (G : Nat → va_E) => G a0 = .inr (0, [.ref a2, w1, w2, w3, w4, .int 0, w6, .long 0, w8, .int 0, .ref a1, w11, w12, w13]) ∧ G a2 = .inr (1, [u0, u1, .ref a1, u3, u4, u5, u6, u7, u8, u9, u10, u11]) ∧ ∀ b, b ≠ a0 → b ≠ a2 → G b = F b) (fun (G : Nat → va_E) (t : State) => va_P (dC, dI) vwCl (va_pl L G) t.heap ∧ va_K (dC, dI) vwCl [(cs 0, .int), (cs 1, .byte), (cs 2, .long), (cs 3, .object RX5), (cs 4, .object RX4), (cs 5, .array .int), (cs 6, .char), (cs 7, .boolean)] t) (fun q => q ∈ L)) 0 0 (fun q => q ∈ L) := by
  have hne : a2 ≠ a0 := fun q => by rw [q, o] at om; cases om
  refine Met.ofW (cc := cX0_take) (maxL := 2) (ret := none) (by decide) rfl ?_
  intro p e s m args below meth c s₁ B hml hv
  obtain ⟨rfl, hsz, hP, hK, hD, hN⟩ := hv
  have hx := B.exec
  have hb := B.bytes
  have hr := B.returns
  have hts : ∀ w ∈ T0, w.before _ s = true := fun w h => atoms_spec (ws := Cond.code yX0_take cX0_take 2 none :: T0) B.pre w (List.mem_cons_of_mem _ h)
  have hown : s.vm.findClass RX0 = some m.cls := findClass_of_methodNamed B.named
  have hS : va_S (fun q => q ∈ L) s.heap s.heap [] := va_S.rf
  have hl := lv_entry ([.ref a0, .ref a1]) (n := 2) (Nat.le_of_ble_eq_true rfl)
  rw [lg_entry_eq]
  generalize (lg_sl ([.ref a0, .ref a1]) ++ List.replicate (2 - (lg_sl ([.ref a0, .ref a1])).length) Slot.unset).toArray = ls at hl ⊢
  have hl : lv_has ls 2 [(0, .ref a0), (1, .ref a1)] := hl
  refine s_gen hP hS (fun H locs hP hS => ?_)
  refine lv_aload_n hx hb dX0_take_0 rfl (lv_at hl 0 rfl) ?_
  refine lv_aload_n hx hb dX0_take_1 rfl (lv_at hl 1 rfl) ?_
  refine th_put (D := (dC, dI)) (ci := 0) (v := .ref a1) (ty := .object "LaneWarps$Program") (C := RX0) (T := TX0) (N := 14) hx hb hts inX0 tyX0 tyX0_ok nmX0 hown hK hP hD hS h0 o rfl 10 (by decide) (hts _ T_151) (fun _ h9 => h9) rfl (by decide +kernel) rfl rfl (Nat.le_of_ble_eq_true rfl) dX0_take_2 (fun H locs hP hS => ?_)
  have hP : va_P (dC, dI) vwCl (va_pl L (va_up F a0 (.inr (0, [.ref a2, w1, w2, w3, w4, w5, w6, w7, w8, w9, .ref a1, w11, w12, w13])))) H := hP
  obtain ⟨F1, hF1⟩ : ∃ G : Nat → va_E, G = va_up F a0 (.inr (0, [.ref a2, w1, w2, w3, w4, w5, w6, w7, w8, w9, .ref a1, w11, w12, w13])) := ⟨_, rfl⟩
  rw [← hF1] at hP
  have o1 : F1 a0 = .inr (0, [.ref a2, w1, w2, w3, w4, w5, w6, w7, w8, w9, .ref a1, w11, w12, w13]) := by rw [hF1]; exact th_up
  have m1 : F1 a2 = .inr (1, [u0, u1, u2, u3, u4, u5, u6, u7, u8, u9, u10, u11]) := by rw [hF1]; exact th_ne hne om
  have g1 : ∀ b, b ≠ a0 → b ≠ a2 → F1 b = F b := fun b q _ => by rw [hF1]; exact th_ne q rfl
  refine lv_aload_n hx hb dX0_take_5 rfl (lv_at hl 0 rfl) ?_
  refine th_get (D := (dC, dI)) (ci := 0) (v := .ref a2) (C := RX0) (T := TX0) (N := 14) hx hb hts inX0 hown hK hP h0 o1 rfl 0 (by decide) (hts _ T_139) (fun _ h9 => h9) rfl dX0_take_6 ?_
  refine lv_aload_n hx hb dX0_take_9 rfl (lv_at hl 1 rfl) ?_
  refine va_callv (va_runV (As := [.ref a1]) (rest := []) ⟨hx, hb, hml, hown, hts⟩ (t_X1_take l dC dI H.size F1 a2 a1 h2 u0 u1 u2 u3 u4 u5 u6 u7 u8 u9 u10 u11 m1) (cwV 1 hts (ax_gV T_152 T_153 T_154 T_137 T_4) rfl rfl rfl (by decide +kernel) ⟨Nat.le_of_ble_eq_true rfl, Nat.le_of_ble_eq_true rfl⟩) ⟨fun a U g mk q => ⟨q.1, s_pc (U := U) rfl rfl q.2⟩, s_recv hK hP h2 (ci := 1) rfl m1, fun U hU hW => ⟨rfl, s_pw hU hW hP hK hD hN⟩⟩ rfl rfl hl.1 rfl (lv_room (Nat.le_of_ble_eq_true rfl)) dX0_take_10 ⟨Nat.zero_le _, Nat.zero_le _⟩) hS (fun q _ h => h) (fun q h => h) (fun F2 t H1 locs ht hvm hw hB hz1 hk1 hS => ?_)
  obtain ⟨hP, hK1⟩ := hB
  rw [ht] at hP
  generalize H1 = H at hP hS ⊢
  have o2 : F2 a0 = .inr (0, [.ref a2, w1, w2, w3, w4, w5, w6, w7, w8, w9, .ref a1, w11, w12, w13]) := by rw [hw]; exact th_ne (Ne.symm hne) o1
  have m2 : F2 a2 = .inr (1, [u0, u1, .ref a1, u3, u4, u5, u6, u7, u8, u9, u10, u11]) := by rw [hw]; exact th_up
  have g2 : ∀ b, b ≠ a0 → b ≠ a2 → F2 b = F b := fun b q q2 => by rw [hw]; exact th_ne q2 (g1 b q q2)
  refine lv_aload_n hx hb dX0_take_13 rfl (lv_at hl 0 rfl) ?_
  refine lv_iconst (v := 0) hx hb dX0_take_14 (by decide) ?_
  refine th_put (D := (dC, dI)) (ci := 0) (v := .int 0) (ty := .int) (C := RX0) (T := TX0) (N := 14) hx hb hts inX0 tyX0 tyX0_ok nmX0 hown hK hP hD hS h0 o2 rfl 5 (by decide) (hts _ T_155) (fun _ h9 => h9) rfl (by decide +kernel) rfl rfl (Nat.le_of_ble_eq_true rfl) dX0_take_15 (fun H locs hP hS => ?_)
  have hP : va_P (dC, dI) vwCl (va_pl L (va_up F2 a0 (.inr (0, [.ref a2, w1, w2, w3, w4, .int 0, w6, w7, w8, w9, .ref a1, w11, w12, w13])))) H := hP
  obtain ⟨F3, hF3⟩ : ∃ G : Nat → va_E, G = va_up F2 a0 (.inr (0, [.ref a2, w1, w2, w3, w4, .int 0, w6, w7, w8, w9, .ref a1, w11, w12, w13])) := ⟨_, rfl⟩
  rw [← hF3] at hP
  have o3 : F3 a0 = .inr (0, [.ref a2, w1, w2, w3, w4, .int 0, w6, w7, w8, w9, .ref a1, w11, w12, w13]) := by rw [hF3]; exact th_up
  have m3 : F3 a2 = .inr (1, [u0, u1, .ref a1, u3, u4, u5, u6, u7, u8, u9, u10, u11]) := by rw [hF3]; exact th_ne hne m2
  have g3 : ∀ b, b ≠ a0 → b ≠ a2 → F3 b = F b := fun b q q2 => by rw [hF3]; exact th_ne q (g2 b q q2)
  refine lv_aload_n hx hb dX0_take_18 rfl (lv_at hl 0 rfl) ?_
  refine lv_lconst (v := 0) hx hb dX0_take_19 (by decide) ?_
  refine th_put (D := (dC, dI)) (ci := 0) (v := .long 0) (ty := .long) (C := RX0) (T := TX0) (N := 14) hx hb hts inX0 tyX0 tyX0_ok nmX0 hown hK hP hD hS h0 o3 rfl 7 (by decide) (hts _ T_156) (fun _ h9 => h9) rfl (by decide +kernel) rfl rfl (Nat.le_of_ble_eq_true rfl) dX0_take_20 (fun H locs hP hS => ?_)
  have hP : va_P (dC, dI) vwCl (va_pl L (va_up F3 a0 (.inr (0, [.ref a2, w1, w2, w3, w4, .int 0, w6, .long 0, w8, w9, .ref a1, w11, w12, w13])))) H := hP
  obtain ⟨F4, hF4⟩ : ∃ G : Nat → va_E, G = va_up F3 a0 (.inr (0, [.ref a2, w1, w2, w3, w4, .int 0, w6, .long 0, w8, w9, .ref a1, w11, w12, w13])) := ⟨_, rfl⟩
  rw [← hF4] at hP
  have o4 : F4 a0 = .inr (0, [.ref a2, w1, w2, w3, w4, .int 0, w6, .long 0, w8, w9, .ref a1, w11, w12, w13]) := by rw [hF4]; exact th_up
  have m4 : F4 a2 = .inr (1, [u0, u1, .ref a1, u3, u4, u5, u6, u7, u8, u9, u10, u11]) := by rw [hF4]; exact th_ne hne m3
  have g4 : ∀ b, b ≠ a0 → b ≠ a2 → F4 b = F b := fun b q q2 => by rw [hF4]; exact th_ne q (g3 b q q2)
  refine lv_aload_n hx hb dX0_take_23 rfl (lv_at hl 0 rfl) ?_
  refine lv_iconst (v := 0) hx hb dX0_take_24 (by decide) ?_
  refine th_put (D := (dC, dI)) (ci := 0) (v := .int 0) (ty := .int) (C := RX0) (T := TX0) (N := 14) hx hb hts inX0 tyX0 tyX0_ok nmX0 hown hK hP hD hS h0 o4 rfl 9 (by decide) (hts _ T_157) (fun _ h9 => h9) rfl (by decide +kernel) rfl rfl (Nat.le_of_ble_eq_true rfl) dX0_take_25 (fun H locs hP hS => ?_)
  have hP : va_P (dC, dI) vwCl (va_pl L (va_up F4 a0 (.inr (0, [.ref a2, w1, w2, w3, w4, .int 0, w6, .long 0, w8, .int 0, .ref a1, w11, w12, w13])))) H := hP
  obtain ⟨F5, hF5⟩ : ∃ G : Nat → va_E, G = va_up F4 a0 (.inr (0, [.ref a2, w1, w2, w3, w4, .int 0, w6, .long 0, w8, .int 0, .ref a1, w11, w12, w13])) := ⟨_, rfl⟩
  rw [← hF5] at hP
  have o5 : F5 a0 = .inr (0, [.ref a2, w1, w2, w3, w4, .int 0, w6, .long 0, w8, .int 0, .ref a1, w11, w12, w13]) := by rw [hF5]; exact th_up
  have m5 : F5 a2 = .inr (1, [u0, u1, .ref a1, u3, u4, u5, u6, u7, u8, u9, u10, u11]) := by rw [hF5]; exact th_ne hne m4
  have g5 : ∀ b, b ≠ a0 → b ≠ a2 → F5 b = F b := fun b q q2 => by rw [hF5]; exact th_ne q (g4 b q q2)
  exact W.vret hx hb hr (fun t ht hW => ⟨⟨F5, rfl, ⟨o5, m5, g5⟩, by rw [ht]; exact hP, va_K.moved hW.alike hK⟩, hS.F ht⟩) hS.2.2 dX0_take_28

set_option maxHeartbeats 4000000 in
set_option maxRecDepth 100000 in
/-- program(): read, then the two change places -/
theorem s_X6_program (l : Launch) (dC : Nat → ClassId) (dI : Nat → Nat → Nat) (sz : Nat) {L : List Nat} {K : Nat → Nat} {cs : Nat → ClassId} (hLK : ∀ a {k : Nat}, K a = k → k ≠ 0 → a ∈ L) (D : Nat) (adK adV : Nat → Nat) (tf : Option Nat) (F : Nat → va_E) (a0 : Nat) (ha0 : K a0 = 7) (hI : s_I K cs D F) (hRI : s_RI K cs F) (hRJ : s_RJ K cs F) (hPG : s_PG K cs F) (hUQ : s_UQ K cs a0) (hcz : cs 24 = 0) : Met l yX6_program (Cond.code yX6_program cX6_program 3 (some .int) :: T0) ({ frames := 10, cells := 0, slots := 0, locals := 225 }) (va_Pc [.ref a0] (s_WZ dC dI sz L F [(cs 0, .int), (cs 1, .byte), (cs 2, .long), (cs 3, .object RX5), (cs 4, .object RX4), (cs 5, .array .int), (cs 6, .char), (cs 7, .boolean)] adK adV tf)) (va_Qi (fun (r : Int32) (u : (Nat → Nat) × (Nat → va_E)) => s_I u.1 cs D u.2 ∧ (u.1 = K ∨ u.1 = fun b => s_sw (K b)) ∧ s_PG u.1 cs u.2 ∧ s_RI u.1 cs u.2 ∧ s_RJ u.1 cs u.2 ∧ y_fi u.2 a0 1 = 0 ∧ ∀ b, K b ∉ [1, 2, 3, 4, 5, 6, 7, 8, 21, 23, 24, 25, 27, 28, 30, 31, 32, 39, 43] → u.2 b = F b) (fun (u : (Nat → Nat) × (Nat → va_E)) (t : State) => va_P (dC, dI) vwCl (va_pl L u.2) t.heap ∧ va_K (dC, dI) vwCl [(cs 0, .int), (cs 1, .byte), (cs 2, .long), (cs 3, .object RX5), (cs 4, .object RX4), (cs 5, .array .int), (cs 6, .char), (cs 7, .boolean)] t) (fun q => q ∈ L)) 0 0 (fun q => q ∈ L) := by
  refine Met.ofW (cc := cX6_program) (maxL := 3) (ret := (some .int)) (by decide) rfl ?_
  intro p e s m args below meth c s₁ B hml hv
  obtain ⟨rfl, ⟨hsz, hP, hK, hD, hN⟩, hZ⟩ := hv
  have hx := B.exec
  have hb := B.bytes
  have hr := B.returns
  have hts : ∀ w ∈ T0, w.before _ s = true := fun w h => atoms_spec (ws := Cond.code yX6_program cX6_program 3 (some .int) :: T0) B.pre w (List.mem_cons_of_mem _ h)
  have hown : s.vm.findClass RX6 = some m.cls := findClass_of_methodNamed B.named
  have hlocks := B.notSynchronized
  have hS : va_S (fun q => q ∈ L) s.heap s.heap [] := va_S.rf
  have hfr : ∀ b, K b ∉ [1, 2, 4, 5, 6, 7, 8, 21, 24, 25, 27, 28, 30, 31, 32, 39, 43] → F b = F b := fun _ _ => rfl
  have hl := lv_entry ([.ref a0]) (n := 3) (Nat.le_of_ble_eq_true rfl)
  rw [lg_entry_eq]
  generalize (lg_sl ([.ref a0]) ++ List.replicate (3 - (lg_sl ([.ref a0])).length) Slot.unset).toArray = ls at hl ⊢
  have hl : lv_has ls 3 [(0, .ref a0)] := hl
  refine s_gen hP hS (fun H locs hP hS => ?_)
  have hI0 := hI
  have hfr : ∀ b, K b ∉ [4, 7, 8, 21, 24, 25, 39, 43] → F b = F b := fun _ _ => rfl
  refine lv_aload_n hx hb dX6_program_0 rfl (lv_at hl 0 rfl) ?_
  obtain ⟨z1, z3, z5, z7, z9, z11, z12, z14, z16, z18, z20, z22, z24, z26, o28, h2, h4, h6, h8, h10, h13, h15, h17, h19, h21, h23, h25, h27, -⟩ := s_op7 hI ha0
  refine th_get (D := (dC, dI)) (ci := 6) (v := .ref z5) (C := RX6) (T := TX6) (N := 14) hx hb hts inX6 hown hK hP (hLK _ ha0 (by decide)) o28 rfl 2 (by decide) (hts _ T_165) (fun _ h9 => h9) rfl dX6_program_1 ?_
  refine lv_aload_n hx hb dX6_program_4 rfl (lv_at hl 0 rfl) ?_
  refine th_get (D := (dC, dI)) (ci := 6) (v := .ref z1) (C := RX6) (T := TX6) (N := 14) hx hb hts inX6 hown hK hP (hLK _ ha0 (by decide)) o28 rfl 0 (by decide) (hts _ T_160) (fun _ h9 => h9) rfl dX6_program_5 ?_
  refine lv_aload_n hx hb dX6_program_8 rfl (lv_at hl 0 rfl) ?_
  refine th_get (D := (dC, dI)) (ci := 6) (v := .int z3) (C := RX6) (T := TX6) (N := 14) hx hb hts inX6 hown hK hP (hLK _ ha0 (by decide)) o28 rfl 1 (by decide) (hts _ T_189) (fun _ h9 => h9) rfl dX6_program_9 ?_
  refine lv_aload_n hx hb dX6_program_12 rfl (lv_at hl 0 rfl) ?_
  refine th_get (D := (dC, dI)) (ci := 6) (v := .ref z9) (C := RX6) (T := TX6) (N := 14) hx hb hts inX6 hown hK hP (hLK _ ha0 (by decide)) o28 rfl 4 (by decide) (hts _ T_171) (fun _ h9 => h9) rfl dX6_program_13 ?_
  obtain ⟨z29, z31, z33, z35, z37, z39, z41, z42, z43, z45, z47, z48, z49, z51, z52, o53, h30, h32, h34, h36, h38, h40, h44, h46, h50, -⟩ := s_op4 hI h6
  refine va_calli (va_runV (As := [.ref z1, .int z3, .ref z9]) (rest := []) ⟨hx, hb, hml, hown, hts⟩ (s_X3_read l dC dI H.size hLK D adK adV tf F z5 z1 z3 z9 h6 h2 (⟨by omega, by omega⟩) h10 hI (s_RIt hfr (by decide) hRI)) (cwV 3 hts (ax_gV T_221 T_222 T_223 T_163 T_15) rfl rfl rfl (by decide +kernel) ⟨Nat.le_of_ble_eq_true rfl, Nat.le_of_ble_eq_true rfl⟩) ⟨fun a U g mk q => ⟨q.1, s_pc (U := U) rfl rfl q.2.1, s_pcZ (U := U) rfl rfl q.2.2⟩, s_recv hK hP (hLK _ h6 (by decide)) (ci := 3) rfl o53, fun U hU hW => ⟨rfl, s_pw hU hW hP hK hD hN, s_pwZ hU hW hS hZ⟩⟩ rfl rfl hl.1 rfl (lv_room (Nat.le_of_ble_eq_true rfl)) dX6_program_16 ⟨Nat.zero_le _, Nat.zero_le _⟩) hS (fun q _ h => h) (fun q h => h) (fun r54 F55 t H1 locs ht hvm hw hB hz1 hk1 hS => ?_)
  obtain ⟨hP, hK1⟩ := hB
  rw [ht] at hP
  generalize H1 = H at hP hS ⊢
  clear hz1 hk1
  obtain ⟨h56, h57, hI, hfr1⟩ := hw
  have o58 : F55 a0 = .inr (6, [.ref z1, .int z3, .ref z5, .ref z7, .ref z9, .int z11, .ref z12, .ref z14, .int z16, .int z18, .ref z20, .ref z22, .ref z24, .long z26]) := (hfr1 _ (by rw [ha0]; decide)).trans o28
  have hfr : ∀ b, K b ∉ [4, 7, 8, 21, 24, 25, 39, 43] → F55 b = F b := fun b hb9 => (hfr1 b (fun q => hb9 (s_sub (by decide) q))).trans (hfr b hb9)
  obtain ⟨h57, h59⟩ := h57
  have h59 : (¬ r54 = 0 → s_QG cs F55 z9 0 ∧ (∀ vs z, F55 z9 = .inr (2, vs) → vs[3]? = some (.int z) → s_AQ cs F55 z9 z.toInt)) := h59
  refine lv_istore_n (lv' := [(1, .int r54), (0, .ref a0)]) hx hb dX6_program_19 rfl hl (by decide) rfl (fun ls hl => ?_)
  refine lv_aload_n hx hb dX6_program_20 rfl (lv_at hl 1 rfl) ?_
  refine lv_iconst (v := 0) hx hb dX6_program_21 (by decide) ?_
  have hIp := hI
  refine th_put (D := (dC, dI)) (ci := 6) (v := .int 0) (ty := .int) (C := RX6) (T := TX6) (N := 14) hx hb hts inX6 tyX6 tyX6_ok nmX6 hown hK hP hD hS (hLK _ ha0 (by decide)) o58 rfl 1 (by decide) (hts _ T_189) (fun _ h9 => h9) rfl (by decide +kernel) rfl rfl (Nat.le_of_ble_eq_true rfl) dX6_program_22 (fun H locs hP hS => ?_)
  have h60 : (z20 = cs 20 ∧ z22 = cs 22) ∧ s_by cs 0 := ⟨h27.1, Or.inl hcz⟩
  have hP : va_P (dC, dI) vwCl (va_pl L (va_up F55 a0 (.inr (6, [.ref z1, .int 0, .ref z5, .ref z7, .ref z9, .int z11, .ref z12, .ref z14, .int z16, .int z18, .ref z20, .ref z22, .ref z24, .long z26])))) H := hP
  obtain ⟨F61, hF62⟩ : ∃ G : Nat → va_E, G = va_up F55 a0 (.inr (6, [.ref z1, .int 0, .ref z5, .ref z7, .ref z9, .int z11, .ref z12, .ref z14, .int z16, .int z18, .ref z20, .ref z22, .ref z24, .long z26])) := ⟨_, rfl⟩
  rw [← hF62] at hP
  have hI : s_I K cs D F61 := by rw [hF62]; exact s_cl7 hI ha0 ⟨z1, 0, z5, z7, z9, z11, z12, z14, z16, z18, z20, z22, z24, z26, rfl, h2, (by decide), h6, h8, h10, h13, h15, ⟨by omega, by omega⟩, ⟨by omega, by omega⟩, h21, h23, h25, h60, trivial⟩
  have hfr : ∀ b, K b ∉ [4, 7, 8, 21, 24, 25, 39, 43] → F61 b = F b := by rw [hF62]; exact s_fr hfr ha0 (by decide)
  have o63 : F61 a0 = .inr (6, [.ref z1, .int 0, .ref z5, .ref z7, .ref z9, .int z11, .ref z12, .ref z14, .int z16, .int z18, .ref z20, .ref z22, .ref z24, .long z26]) := by rw [hF62]; exact th_up
  refine lv_iload_n hx hb dX6_program_25 rfl (lv_at hl 0 rfl) ?_
  refine lv_if_ne (tgt := 35) hx hb dX6_program_26 (by decide) (fun c64 => ?_) (fun c64 => ?_)
  · have c64 := mt (ax_eq (n := 0) (by decide)).mpr c64
    have hrd := h59 (fun q => c64 (by rw [q]; decide))
    have hrd : s_QG cs F61 z9 0 ∧ ∀ vs z, F61 z9 = .inr (2, vs) → vs[3]? = some (.int z) → s_AQ cs F61 z9 z.toInt := ⟨s_QGt hIp h10 (fun b hb9 => by rw [hF62]; exact th_ne (fun q => by rw [q, ha0] at hb9; rcases hb9 with q | q | q <;> cases q) rfl) hrd.1, fun vs z q q2 => s_AQt hIp h10 (fun b hb9 => by rw [hF62]; exact th_ne (fun q => by rw [q, ha0] at hb9; rcases hb9 with q | q | q <;> cases q) rfl) (hrd.2 vs z ((show F55 z9 = F61 z9 by rw [hF62]; exact (th_ne (th_kd h10 ha0 (by decide)) rfl).symm).trans q) q2)⟩
    refine lv_aload_n hx hb dX6_program_35 rfl (lv_at hl 1 rfl) ?_
    refine th_get (D := (dC, dI)) (ci := 6) (v := .ref z9) (C := RX6) (T := TX6) (N := 14) hx hb hts inX6 hown hK hP (hLK _ ha0 (by decide)) o63 rfl 4 (by decide) (hts _ T_171) (fun _ h9 => h9) rfl dX6_program_36 ?_
    obtain ⟨z65, z67, z69, z71, z73, z75, z76, o77, h66, h68, h70, h72, h74, -⟩ := s_op8 hI h10
    refine va_callv (va_runV (As := []) (rest := []) ⟨hx, hb, hml, hown, hts⟩ (s_X2_findMeets l dC dI H.size hLK D F61 z9 h10 hI hrd.1 hrd.2) (cwV 0 hts (ax_gV T_970 T_972 T_973 T_168 T_971) rfl rfl rfl (by decide +kernel) ⟨Nat.le_of_ble_eq_true rfl, Nat.le_of_ble_eq_true rfl⟩) ⟨fun a U g mk q => ⟨q.1, s_pc (U := U) rfl rfl q.2⟩, s_recv hK hP (hLK _ h10 (by decide)) (ci := 2) rfl o77, fun U hU hW => ⟨rfl, s_pw hU hW hP hK hD hN⟩⟩ rfl rfl hl.1 rfl (lv_room (Nat.le_of_ble_eq_true rfl)) dX6_program_39 ⟨Nat.zero_le _, Nat.zero_le _⟩) hS (fun q _ h => h) (fun q h => h) (fun F78 t H1 locs ht hvm hw hB hz1 hk1 hS => ?_)
    obtain ⟨hP, hK1⟩ := hB
    rw [ht] at hP
    generalize H1 = H at hP hS ⊢
    clear hz1 hk1
    obtain ⟨h79, h80, hI, hfr1⟩ := hw
    have o81 : F78 a0 = .inr (6, [.ref z1, .int 0, .ref z5, .ref z7, .ref z9, .int z11, .ref z12, .ref z14, .int z16, .int z18, .ref z20, .ref z22, .ref z24, .long z26]) := (hfr1 _ (by rw [ha0]; decide)).trans o63
    have o82 : F78 z9 = .inr (2, [.ref z65, .ref z67, .ref z69, .int z71, .int z73, .int z75, .int z76]) := (hfr1 _ (by rw [h10]; decide)).trans o77
    have hfr : ∀ b, K b ∉ [4, 7, 8, 21, 24, 25, 39, 43] → F78 b = F b := fun b hb9 => (hfr1 b (fun q => hb9 (s_sub (by decide) q))).trans (hfr b hb9)
    obtain ⟨h80, h83⟩ := h80
    have h83 : s_QG cs F78 z9 0 := h83
    refine lv_aload_n hx hb dX6_program_42 rfl (lv_at hl 1 rfl) ?_
    refine th_get (D := (dC, dI)) (ci := 6) (v := .ref z7) (C := RX6) (T := TX6) (N := 14) hx hb hts inX6 hown hK hP (hLK _ ha0 (by decide)) o81 rfl 3 (by decide) (hts _ T_170) (fun _ h9 => h9) rfl dX6_program_43 ?_
    refine lv_astore_n (lv' := [(2, .ref z7), (1, .int r54), (0, .ref a0)]) hx hb dX6_program_46 rfl hl (by decide) rfl (fun ls hl => ?_)
    obtain ⟨z84, z86, z88, z90, z92, z94, z95, z97, z98, z99, z101, z102, o103, h85, h87, h89, h91, h93, h96, h100, -⟩ := s_op2 hI h21
    obtain ⟨z104, z106, z108, z110, z112, z114, z115, z117, z118, z120, z121, z123, z125, z127, o130, h105, h107, h109, h111, h113, h116, h119, h122, h124, h126, h128, h129, -⟩ := s_op1 hI h23
    have hne20 : z20 ≠ z104 := fun q => hUQ.2.2.2.1 (by rw [← h60.1.1, ← h129]; exact q)
    obtain ⟨z131, z133, z135, z137, z139, z141, z142, z144, z145, z146, z148, z149, o150, h132, h134, h136, h138, h140, h143, h147, -⟩ := s_op2 hI h105
    have nxm : z20 ≠ a0 := th_kd h21 ha0 (by decide)
    have nxf : z22 ≠ a0 := th_kd h23 ha0 (by decide)
    have nx2 : z104 ≠ a0 := th_kd h105 ha0 (by decide)
    have nfm : z22 ≠ z20 := th_kd h23 h21 (by decide)
    have nf2 : z22 ≠ z104 := th_kd h23 h105 (by decide)
    have hIr := hI
    have g00 : ∀ b, b ≠ a0 → b ≠ z20 → b ≠ z22 → b ≠ z104 → F78 b = F78 b := fun _ _ _ _ _ => rfl
    refine lv_aload_n hx hb dX6_program_47 rfl (lv_at hl 2 rfl) ?_
    refine lv_aload_n hx hb dX6_program_48 rfl (lv_at hl 2 rfl) ?_
    refine th_get (D := (dC, dI)) (ci := 6) (v := .ref z9) (C := RX6) (T := TX6) (N := 14) hx hb hts inX6 hown hK hP (hLK _ ha0 (by decide)) o81 rfl 4 (by decide) (hts _ T_171) (fun _ h9 => h9) rfl dX6_program_49 ?_
    refine th_put (D := (dC, dI)) (ci := 6) (v := .ref z9) (ty := .object "LaneWarps$Program") (C := RX6) (T := TX6) (N := 14) hx hb hts inX6 tyX6 tyX6_ok nmX6 hown hK hP hD hS (hLK _ ha0 (by decide)) o81 rfl 3 (by decide) (hts _ T_170) (fun _ h9 => h9) rfl (by decide +kernel) rfl rfl (Nat.le_of_ble_eq_true rfl) dX6_program_52 (fun H locs hP hS => ?_)
    have hP : va_P (dC, dI) vwCl (va_pl L (va_up F78 a0 (.inr (6, [.ref z1, .int 0, .ref z5, .ref z9, .ref z9, .int z11, .ref z12, .ref z14, .int z16, .int z18, .ref z20, .ref z22, .ref z24, .long z26])))) H := hP
    obtain ⟨F151, hF152⟩ : ∃ G : Nat → va_E, G = va_up F78 a0 (.inr (6, [.ref z1, .int 0, .ref z5, .ref z9, .ref z9, .int z11, .ref z12, .ref z14, .int z16, .int z18, .ref z20, .ref z22, .ref z24, .long z26])) := ⟨_, rfl⟩
    rw [← hF152] at hP
    have o153 : F151 a0 = .inr (6, [.ref z1, .int 0, .ref z5, .ref z9, .ref z9, .int z11, .ref z12, .ref z14, .int z16, .int z18, .ref z20, .ref z22, .ref z24, .long z26]) := by rw [hF152]; exact th_up
    have o154 : F151 z20 = .inr (1, [.ref z84, .ref z86, .ref z88, va_rf z90, va_rf z92, va_rf z94, .int z95, .int z97, .int z98, .int z99, .int z101, .long z102]) := by rw [hF152]; exact th_ne nxm o103
    have o155 : F151 z22 = .inr (0, [.ref z104, .ref z106, .ref z108, .ref z110, .ref z112, .int z114, .ref z115, .long z117, .ref z118, .int z120, .ref z121, .int z123, .int z125, .int z127]) := by rw [hF152]; exact th_ne nxf o130
    have o156 : F151 z104 = .inr (1, [.ref z131, .ref z133, .ref z135, va_rf z137, va_rf z139, va_rf z141, .int z142, .int z144, .int z145, .int z146, .int z148, .long z149]) := by rw [hF152]; exact th_ne nx2 o150
    have g157 : ∀ b, b ≠ a0 → b ≠ z20 → b ≠ z22 → b ≠ z104 → F151 b = F78 b := fun b q1 q2 q3 q4 => by rw [hF152]; exact th_ne q1 (g00 b q1 q2 q3 q4)
    refine lv_aload_n hx hb dX6_program_55 rfl (lv_at hl 2 rfl) ?_
    refine lv_aload_n hx hb dX6_program_56 rfl (lv_at hl 0 rfl) ?_
    refine th_put (D := (dC, dI)) (ci := 6) (v := .ref z7) (ty := .object "LaneWarps$Program") (C := RX6) (T := TX6) (N := 14) hx hb hts inX6 tyX6 tyX6_ok nmX6 hown hK hP hD hS (hLK _ ha0 (by decide)) o153 rfl 4 (by decide) (hts _ T_171) (fun _ h9 => h9) rfl (by decide +kernel) rfl rfl (Nat.le_of_ble_eq_true rfl) dX6_program_57 (fun H locs hP hS => ?_)
    have hP : va_P (dC, dI) vwCl (va_pl L (va_up F151 a0 (.inr (6, [.ref z1, .int 0, .ref z5, .ref z9, .ref z7, .int z11, .ref z12, .ref z14, .int z16, .int z18, .ref z20, .ref z22, .ref z24, .long z26])))) H := hP
    obtain ⟨F158, hF159⟩ : ∃ G : Nat → va_E, G = va_up F151 a0 (.inr (6, [.ref z1, .int 0, .ref z5, .ref z9, .ref z7, .int z11, .ref z12, .ref z14, .int z16, .int z18, .ref z20, .ref z22, .ref z24, .long z26])) := ⟨_, rfl⟩
    rw [← hF159] at hP
    have o160 : F158 a0 = .inr (6, [.ref z1, .int 0, .ref z5, .ref z9, .ref z7, .int z11, .ref z12, .ref z14, .int z16, .int z18, .ref z20, .ref z22, .ref z24, .long z26]) := by rw [hF159]; exact th_up
    have o161 : F158 z20 = .inr (1, [.ref z84, .ref z86, .ref z88, va_rf z90, va_rf z92, va_rf z94, .int z95, .int z97, .int z98, .int z99, .int z101, .long z102]) := by rw [hF159]; exact th_ne nxm o154
    have o162 : F158 z22 = .inr (0, [.ref z104, .ref z106, .ref z108, .ref z110, .ref z112, .int z114, .ref z115, .long z117, .ref z118, .int z120, .ref z121, .int z123, .int z125, .int z127]) := by rw [hF159]; exact th_ne nxf o155
    have o163 : F158 z104 = .inr (1, [.ref z131, .ref z133, .ref z135, va_rf z137, va_rf z139, va_rf z141, .int z142, .int z144, .int z145, .int z146, .int z148, .long z149]) := by rw [hF159]; exact th_ne nx2 o156
    have g164 : ∀ b, b ≠ a0 → b ≠ z20 → b ≠ z22 → b ≠ z104 → F158 b = F78 b := fun b q1 q2 q3 q4 => by rw [hF159]; exact th_ne q1 (g157 b q1 q2 q3 q4)
    refine lv_aload_n hx hb dX6_program_60 rfl (lv_at hl 2 rfl) ?_
    refine lv_iconst (v := 1) hx hb dX6_program_61 (by decide) ?_
    refine th_put (D := (dC, dI)) (ci := 6) (v := .int 1) (ty := .boolean) (C := RX6) (T := TX6) (N := 14) hx hb hts inX6 tyX6 tyX6_ok nmX6 hown hK hP hD hS (hLK _ ha0 (by decide)) o160 rfl 5 (by decide) (hts _ T_224) (fun _ h9 => h9) rfl (by decide +kernel) (by decide) rfl (Nat.le_of_ble_eq_true rfl) dX6_program_62 (fun H locs hP hS => ?_)
    have hP : va_P (dC, dI) vwCl (va_pl L (va_up F158 a0 (.inr (6, [.ref z1, .int 0, .ref z5, .ref z9, .ref z7, .int 1, .ref z12, .ref z14, .int z16, .int z18, .ref z20, .ref z22, .ref z24, .long z26])))) H := hP
    obtain ⟨F165, hF166⟩ : ∃ G : Nat → va_E, G = va_up F158 a0 (.inr (6, [.ref z1, .int 0, .ref z5, .ref z9, .ref z7, .int 1, .ref z12, .ref z14, .int z16, .int z18, .ref z20, .ref z22, .ref z24, .long z26])) := ⟨_, rfl⟩
    rw [← hF166] at hP
    have o167 : F165 a0 = .inr (6, [.ref z1, .int 0, .ref z5, .ref z9, .ref z7, .int 1, .ref z12, .ref z14, .int z16, .int z18, .ref z20, .ref z22, .ref z24, .long z26]) := by rw [hF166]; exact th_up
    have o168 : F165 z20 = .inr (1, [.ref z84, .ref z86, .ref z88, va_rf z90, va_rf z92, va_rf z94, .int z95, .int z97, .int z98, .int z99, .int z101, .long z102]) := by rw [hF166]; exact th_ne nxm o161
    have o169 : F165 z22 = .inr (0, [.ref z104, .ref z106, .ref z108, .ref z110, .ref z112, .int z114, .ref z115, .long z117, .ref z118, .int z120, .ref z121, .int z123, .int z125, .int z127]) := by rw [hF166]; exact th_ne nxf o162
    have o170 : F165 z104 = .inr (1, [.ref z131, .ref z133, .ref z135, va_rf z137, va_rf z139, va_rf z141, .int z142, .int z144, .int z145, .int z146, .int z148, .long z149]) := by rw [hF166]; exact th_ne nx2 o163
    have g171 : ∀ b, b ≠ a0 → b ≠ z20 → b ≠ z22 → b ≠ z104 → F165 b = F78 b := fun b q1 q2 q3 q4 => by rw [hF166]; exact th_ne q1 (g164 b q1 q2 q3 q4)
    refine lv_aload_n hx hb dX6_program_65 rfl (lv_at hl 2 rfl) ?_
    refine th_get (D := (dC, dI)) (ci := 6) (v := .ref z20) (C := RX6) (T := TX6) (N := 14) hx hb hts inX6 hown hK hP (hLK _ ha0 (by decide)) o167 rfl 10 (by decide) (hts _ T_177) (fun _ h9 => h9) rfl dX6_program_66 ?_
    refine lv_aload_n hx hb dX6_program_69 rfl (lv_at hl 2 rfl) ?_
    refine th_get (D := (dC, dI)) (ci := 6) (v := .ref z9) (C := RX6) (T := TX6) (N := 14) hx hb hts inX6 hown hK hP (hLK _ ha0 (by decide)) o167 rfl 3 (by decide) (hts _ T_170) (fun _ h9 => h9) rfl dX6_program_70 ?_
    refine va_callv (va_runV (As := [.ref z9]) (rest := []) ⟨hx, hb, hml, hown, hts⟩ (t_X1_take l dC dI H.size F165 z20 z9 (hLK _ h21 (by decide)) (.ref z84) (.ref z86) (.ref z88) (va_rf z90) (va_rf z92) (va_rf z94) (.int z95) (.int z97) (.int z98) (.int z99) (.int z101) (.long z102) o168) (cwV 1 hts (ax_gV T_185 T_153 T_154 T_137 T_4) rfl rfl rfl (by decide +kernel) ⟨Nat.le_of_ble_eq_true rfl, Nat.le_of_ble_eq_true rfl⟩) ⟨fun a U g mk q => ⟨q.1, s_pc (U := U) rfl rfl q.2⟩, s_recv hK hP (hLK _ h21 (by decide)) (ci := 1) rfl o168, fun U hU hW => ⟨rfl, s_pw hU hW hP hK hD hN⟩⟩ rfl rfl hl.1 rfl (lv_room (Nat.le_of_ble_eq_true rfl)) dX6_program_73 ⟨Nat.zero_le _, Nat.zero_le _⟩) hS (fun q _ h => h) (fun q h => h) (fun F172 t H1 locs ht hvm hw hB hz1 hk1 hS => ?_)
    obtain ⟨hP, hK1⟩ := hB
    rw [ht] at hP
    generalize H1 = H at hP hS ⊢
    have hw : F172 = va_up F165 z20 (.inr (1, [.ref z84, .ref z86, .ref z9, va_rf z90, va_rf z92, va_rf z94, .int z95, .int z97, .int z98, .int z99, .int z101, .long z102])) := hw
    have o173 : F172 z20 = .inr (1, [.ref z84, .ref z86, .ref z9, va_rf z90, va_rf z92, va_rf z94, .int z95, .int z97, .int z98, .int z99, .int z101, .long z102]) := by rw [hw]; exact th_up
    have o174 : F172 a0 = .inr (6, [.ref z1, .int 0, .ref z5, .ref z9, .ref z7, .int 1, .ref z12, .ref z14, .int z16, .int z18, .ref z20, .ref z22, .ref z24, .long z26]) := by rw [hw]; exact th_ne (Ne.symm nxm) o167
    have o175 : F172 z22 = .inr (0, [.ref z104, .ref z106, .ref z108, .ref z110, .ref z112, .int z114, .ref z115, .long z117, .ref z118, .int z120, .ref z121, .int z123, .int z125, .int z127]) := by rw [hw]; exact th_ne nfm o169
    have o176 : F172 z104 = .inr (1, [.ref z131, .ref z133, .ref z135, va_rf z137, va_rf z139, va_rf z141, .int z142, .int z144, .int z145, .int z146, .int z148, .long z149]) := by rw [hw]; exact th_ne (Ne.symm hne20) o170
    have g177 : ∀ b, b ≠ a0 → b ≠ z20 → b ≠ z22 → b ≠ z104 → F172 b = F78 b := fun b q1 q2 q3 q4 => by rw [hw]; exact th_ne q2 (g171 b q1 q2 q3 q4)
    clear hw
    clear hK1
    refine lv_aload_n hx hb dX6_program_76 rfl (lv_at hl 2 rfl) ?_
    refine th_get (D := (dC, dI)) (ci := 6) (v := .ref z22) (C := RX6) (T := TX6) (N := 14) hx hb hts inX6 hown hK hP (hLK _ ha0 (by decide)) o174 rfl 11 (by decide) (hts _ T_182) (fun _ h9 => h9) rfl dX6_program_77 ?_
    refine lv_aload_n hx hb dX6_program_80 rfl (lv_at hl 2 rfl) ?_
    refine th_get (D := (dC, dI)) (ci := 6) (v := .ref z9) (C := RX6) (T := TX6) (N := 14) hx hb hts inX6 hown hK hP (hLK _ ha0 (by decide)) o174 rfl 3 (by decide) (hts _ T_170) (fun _ h9 => h9) rfl dX6_program_81 ?_
    refine va_callv (va_runV (As := [.ref z9]) (rest := []) ⟨hx, hb, hml, hown, hts⟩ (t_X0_take l dC dI H.size F172 z22 z9 z104 (hLK _ h23 (by decide)) (hLK _ h105 (by decide)) (.ref z106) (.ref z108) (.ref z110) (.ref z112) (.int z114) (.ref z115) (.long z117) (.ref z118) (.int z120) (.ref z121) (.int z123) (.int z125) (.int z127) (.ref z131) (.ref z133) (.ref z135) (va_rf z137) (va_rf z139) (va_rf z141) (.int z142) (.int z144) (.int z145) (.int z146) (.int z148) (.long z149) o175 o176) (cwV 1 hts (ax_gV T_186 T_187 T_188 T_180 T_8) rfl rfl rfl (by decide +kernel) ⟨Nat.le_of_ble_eq_true rfl, Nat.le_of_ble_eq_true rfl⟩) ⟨fun a U g mk q => ⟨q.1, s_pc (U := U) rfl rfl q.2⟩, s_recv hK hP (hLK _ h23 (by decide)) (ci := 0) rfl o175, fun U hU hW => ⟨rfl, s_pw hU hW hP hK hD hN⟩⟩ rfl rfl hl.1 rfl (lv_room (Nat.le_of_ble_eq_true rfl)) dX6_program_84 ⟨Nat.zero_le _, Nat.zero_le _⟩) hS (fun q _ h => h) (fun q h => h) (fun F178 t H1 locs ht hvm hw hB hz1 hk1 hS => ?_)
    obtain ⟨hP, hK1⟩ := hB
    rw [ht] at hP
    generalize H1 = H at hP hS ⊢
    obtain ⟨ofE, omE, hgE⟩ := hw
    have ofE : F178 z22 = .inr (0, [.ref z104, .ref z106, .ref z108, .ref z110, .ref z112, .int 0, .ref z115, .long 0, .ref z118, .int 0, .ref z9, .int z123, .int z125, .int z127]) := ofE
    have omE : F178 z104 = .inr (1, [.ref z131, .ref z133, .ref z9, va_rf z137, va_rf z139, va_rf z141, .int z142, .int z144, .int z145, .int z146, .int z148, .long z149]) := omE
    have oxE : F178 a0 = .inr (6, [.ref z1, .int 0, .ref z5, .ref z9, .ref z7, .int 1, .ref z12, .ref z14, .int z16, .int z18, .ref z20, .ref z22, .ref z24, .long z26]) := (hgE _ (Ne.symm nxf) (Ne.symm nx2)).trans o174
    have o1E : F178 z20 = .inr (1, [.ref z84, .ref z86, .ref z9, va_rf z90, va_rf z92, va_rf z94, .int z95, .int z97, .int z98, .int z99, .int z101, .long z102]) := (hgE _ (Ne.symm nfm) hne20).trans o173
    have grE : ∀ b, b ≠ a0 → b ≠ z20 → b ≠ z22 → b ≠ z104 → F178 b = F78 b := fun b q1 q2 q3 q4 => (hgE b q3 q4).trans (g177 b q1 q2 q3 q4)
    have gkE : ∀ b, K b ≠ 7 → K b ≠ 1 → K b ≠ 2 → F178 b = F78 b := fun b q1 q2 q3 => grE b (fun q => q1 (q ▸ ha0)) (fun q => q3 (q ▸ h21)) (fun q => q2 (q ▸ h23)) (fun q => q3 (q ▸ h105))
    have hI : s_I (fun b => s_sw (K b)) cs D F178 := by
      refine s_swap hIr gkE ?_ ?_ ?_
      · intro a ha; rw [hUQ.1 a ha, oxE]; exact ⟨z1, 0, z5, z9, z7, 1, z12, z14, z16, z18, z20, z22, z24, z26, rfl, s_sk h2 rfl, (by decide), s_sk h6 rfl, s_sk h10 rfl, s_sk h8 rfl, s_sk h13 rfl, s_sk h15 rfl, ⟨by omega, by omega⟩, ⟨by omega, by omega⟩, s_sk h21 rfl, s_sk h23 rfl, s_sk h25 rfl, h60, trivial⟩
      · intro a ha; rw [hUQ.2.1 a ha, ← h60.1.2, ofE]; exact ⟨z104, z106, z108, z110, z112, 0, z115, 0, z118, 0, z9, z123, z125, z127, rfl, s_sk h105 rfl, s_sk h107 rfl, s_sk h109 rfl, s_sk h111 rfl, s_sk h113 rfl, s_sk h116 rfl, s_sk h119 rfl, s_sk h10 rfl, ⟨by omega, by omega⟩, ⟨by omega, by omega⟩, ⟨by omega, by omega⟩, h129, trivial⟩
      · intro a ha; rcases hUQ.2.2.1 a ha with q | q
        · rw [q, ← h60.1.1, o1E]; exact ⟨z84, z86, z9, z90, z92, z94, z95, z97, z98, z99, z101, z102, rfl, s_sk h85 rfl, s_sk h87 rfl, s_sk h10 rfl, (fun q8 e8 => s_sk (h91 q8 e8) rfl), (fun q8 e8 => s_sk (h93 q8 e8) rfl), ⟨by omega, by omega⟩, ⟨by omega, by omega⟩, trivial⟩
        · rw [q, ← h129, omE]; exact ⟨z131, z133, z9, z137, z139, z141, z142, z144, z145, z146, z148, z149, rfl, s_sk h132 rfl, s_sk h134 rfl, s_sk h10 rfl, (fun q8 e8 => s_sk (h138 q8 e8) rfl), (fun q8 e8 => s_sk (h140 q8 e8) rfl), ⟨by omega, by omega⟩, ⟨by omega, by omega⟩, trivial⟩
    have hPG1 : s_PG (fun b => s_sw (K b)) cs F178 := by
      intro p9 hp w0 vs ln fr i r f q1 q2 q3 _ hi q4 q5
      rw [hUQ.2.2.2.2.2 p9 z9 (s_skb hp) h10] at q1
      exact (s_QGt hIr h10 (fun b hb9 => gkE b (by rcases hb9 with q | q | q <;> (rw [q]; decide)) (by rcases hb9 with q | q | q <;> (rw [q]; decide)) (by rcases hb9 with q | q | q <;> (rw [q]; decide))) h83).1 w0 vs ln fr i r f q1 q2 q3 (by omega) q4 q5
    have hQM : s_QM F178 z9 := (s_QGt hIr h10 (fun b hb9 => gkE b (by rcases hb9 with q | q | q <;> (rw [q]; decide)) (by rcases hb9 with q | q | q <;> (rw [q]; decide)) (by rcases hb9 with q | q | q <;> (rw [q]; decide))) h83).2
    have hfrE : ∀ b, K b ∉ [1, 2, 3, 4, 5, 6, 7, 8, 21, 23, 24, 25, 27, 28, 30, 31, 32, 39, 43] → F178 b = F b := fun b hb9 => (gkE b (fun q => hb9 (by rw [q]; decide)) (fun q => hb9 (by rw [q]; decide)) (fun q => hb9 (by rw [q]; decide))).trans (hfr b (fun q => hb9 (s_sub (by decide) q)))
    have hRI1 : s_RI (fun b => s_sw (K b)) cs F178 := s_RIs (s_RJt hfrE (by decide) hRJ)
    have hRJ1 : s_RJ (fun b => s_sw (K b)) cs F178 := s_RJs (s_RIt hfrE (by decide) hRI)
    have hLK : ∀ a {k : Nat}, s_sw (K a) = k → k ≠ 0 → a ∈ L := fun a k h h8 => hLK a rfl (fun q => h8 (by rw [← h, q]; rfl))
    have ha0 : s_sw (K a0) = 7 := s_sk ha0 rfl
    have h179 : s_sw (K z1) = 20 := s_sk h2 rfl
    have h180 : s_sw (K z5) = 4 := s_sk h6 rfl
    have h181 : s_sw (K z9) = 3 := s_sk h10 rfl
    have h182 : s_sw (K z7) = 8 := s_sk h8 rfl
    have h183 : s_sw (K z12) = 5 := s_sk h13 rfl
    have h184 : s_sw (K z14) = 33 := s_sk h15 rfl
    have h185 : s_sw (K z20) = 2 := s_sk h21 rfl
    have h186 : s_sw (K z22) = 1 := s_sk h23 rfl
    have h187 : s_sw (K z24) = 39 := s_sk h25 rfl
    obtain ⟨K, hKs⟩ : ∃ M : Nat → Nat, M = fun b => s_sw (K b) := ⟨_, rfl⟩
    rw [← hKs] at hI hPG1 hRI1 hRJ1
    have hLK : ∀ a {k : Nat}, K a = k → k ≠ 0 → a ∈ L := by rw [hKs]; exact hLK
    have ha0 : K a0 = 7 := by rw [hKs]; exact ha0
    have h179 : K z1 = 20 := by rw [hKs]; exact h179
    have h180 : K z5 = 4 := by rw [hKs]; exact h180
    have h181 : K z9 = 3 := by rw [hKs]; exact h181
    have h182 : K z7 = 8 := by rw [hKs]; exact h182
    have h183 : K z12 = 5 := by rw [hKs]; exact h183
    have h184 : K z14 = 33 := by rw [hKs]; exact h184
    have h185 : K z20 = 2 := by rw [hKs]; exact h185
    have h186 : K z22 = 1 := by rw [hKs]; exact h186
    have h187 : K z24 = 39 := by rw [hKs]; exact h187
    obtain ⟨F, hFs⟩ : ∃ M : Nat → va_E, M = F178 := ⟨_, rfl⟩
    rw [← hFs] at hI hP hPG1 hRI1 hRJ1 oxE hfrE hQM
    have hfr : ∀ b, K b ∉ [5, 6, 7, 24, 27, 28, 30, 31, 32] → F b = F b := fun _ _ => rfl
    have hI0 := hI
    refine lv_aload_n hx hb dX6_program_87 rfl (lv_at hl 2 rfl) ?_
    refine th_get (D := (dC, dI)) (ci := 6) (v := .ref z12) (C := RX6) (T := TX6) (N := 14) hx hb hts inX6 hown hK hP (hLK _ ha0 (by decide)) oxE rfl 6 (by decide) (hts _ T_174) (fun _ h9 => h9) rfl dX6_program_88 ?_
    refine lv_aload_n hx hb dX6_program_91 rfl (lv_at hl 2 rfl) ?_
    refine th_get (D := (dC, dI)) (ci := 6) (v := .ref z9) (C := RX6) (T := TX6) (N := 14) hx hb hts inX6 hown hK hP (hLK _ ha0 (by decide)) oxE rfl 3 (by decide) (hts _ T_170) (fun _ h9 => h9) rfl dX6_program_92 ?_
    obtain ⟨z188, z190, z192, z194, z196, z198, z199, o200, h189, h191, h193, h195, h197, -⟩ := s_op3 hI h181
    refine th_getN (D := (dC, dI)) (ci := 2) (v := .int z198) (C := RX2) (T := TX2) (N := 7) hx hb hts inX2 hown hK hP (hLK _ h181 (by decide)) o200 rfl 5 (by decide) (va_Nw.use rfl (ax_n76 hN)) (fun _ h9 => h9) rfl dX6_program_95 ?_
    have h201 := hQM _ _ o200 (Or.inl rfl)
    refine lv_aload_n hx hb dX6_program_98 rfl (lv_at hl 2 rfl) ?_
    refine th_get (D := (dC, dI)) (ci := 6) (v := .ref z9) (C := RX6) (T := TX6) (N := 14) hx hb hts inX6 hown hK hP (hLK _ ha0 (by decide)) oxE rfl 3 (by decide) (hts _ T_170) (fun _ h9 => h9) rfl dX6_program_99 ?_
    refine th_getN (D := (dC, dI)) (ci := 2) (v := .int z199) (C := RX2) (T := TX2) (N := 7) hx hb hts inX2 hown hK hP (hLK _ h181 (by decide)) o200 rfl 6 (by decide) (va_Nw.use rfl (ax_n77 hN)) (fun _ h9 => h9) rfl dX6_program_102 ?_
    have h202 := hQM _ _ o200 (Or.inr rfl)
    refine lv_iconst (v := 0) hx hb dX6_program_105 (by decide) ?_
    obtain ⟨z203, z205, z207, z209, z211, z213, z215, z217, z219, z221, z223, z225, z226, z228, z229, o231, h204, h206, h208, h210, h212, h214, h216, h218, h220, h222, h224, h227, h230, -⟩ := s_op5 hI h183
    refine va_callv (va_runV (As := [.int z198, .int z199, .int 0]) (rest := []) ⟨hx, hb, hml, hown, hts⟩ (s_X4_lay l dC dI H.size hLK D F z12 z198 z199 0 h183 (⟨by omega, by omega⟩) (⟨by omega, by omega⟩) (by decide) hI) (cwV 3 hts (ax_gV T_974 T_552 T_553 T_142 T_551) rfl rfl rfl (by decide +kernel) ⟨Nat.le_of_ble_eq_true rfl, Nat.le_of_ble_eq_true rfl⟩) ⟨fun a U g mk q => ⟨q.1, s_pc (U := U) rfl rfl q.2⟩, s_recv hK hP (hLK _ h183 (by decide)) (ci := 4) rfl o231, fun U hU hW => ⟨rfl, s_pw hU hW hP hK hD hN⟩⟩ rfl rfl hl.1 rfl (lv_room (Nat.le_of_ble_eq_true rfl)) dX6_program_106 ⟨Nat.zero_le _, Nat.zero_le _⟩) hS (fun q _ h => h) (fun q h => h) (fun F232 t H1 locs ht hvm hw hB hz1 hk1 hS => ?_)
    obtain ⟨hP, hK1⟩ := hB
    rw [ht] at hP
    generalize H1 = H at hP hS ⊢
    clear hz1 hk1
    obtain ⟨h233, h234, hI, hfr1⟩ := hw
    have o235 : F232 a0 = .inr (6, [.ref z1, .int 0, .ref z5, .ref z9, .ref z7, .int 1, .ref z12, .ref z14, .int z16, .int z18, .ref z20, .ref z22, .ref z24, .long z26]) := (hfr1 _ (by rw [ha0]; decide)).trans oxE
    have o236 : F232 z9 = .inr (2, [.ref z188, .ref z190, .ref z192, .int z194, .int z196, .int z198, .int z199]) := (hfr1 _ (by rw [h181]; decide)).trans o200
    have hfr : ∀ b, K b ∉ [5, 6, 7, 24, 27, 28, 30, 31, 32] → F232 b = F b := fun b hb9 => (hfr1 b (fun q => hb9 (s_sub (by decide) q))).trans (hfr b hb9)
    refine lv_aload_n hx hb dX6_program_109 rfl (lv_at hl 2 rfl) ?_
    refine th_get (D := (dC, dI)) (ci := 6) (v := .ref z12) (C := RX6) (T := TX6) (N := 14) hx hb hts inX6 hown hK hP (hLK _ ha0 (by decide)) o235 rfl 6 (by decide) (hts _ T_174) (fun _ h9 => h9) rfl dX6_program_110 ?_
    refine lv_aload_n hx hb dX6_program_113 rfl (lv_at hl 2 rfl) ?_
    refine th_get (D := (dC, dI)) (ci := 6) (v := .ref z9) (C := RX6) (T := TX6) (N := 14) hx hb hts inX6 hown hK hP (hLK _ ha0 (by decide)) o235 rfl 3 (by decide) (hts _ T_170) (fun _ h9 => h9) rfl dX6_program_114 ?_
    obtain ⟨z237, z239, z241, z243, z245, z247, z249, z251, z253, z255, z257, z259, z260, z262, z263, o265, h238, h240, h242, h244, h246, h248, h250, h252, h254, h256, h258, h261, h264, -⟩ := s_op5 hI h183
    refine va_callv (va_runV (As := [.ref z9]) (rest := []) ⟨hx, hb, hml, hown, hts⟩ (s_X4_restart l dC dI H.size hLK D F232 z12 z9 h183 h181 hI) (cwV 1 hts (ax_gV T_910 T_556 T_557 T_142 T_555) rfl rfl rfl (by decide +kernel) ⟨Nat.le_of_ble_eq_true rfl, Nat.le_of_ble_eq_true rfl⟩) ⟨fun a U g mk q => ⟨q.1, s_pc (U := U) rfl rfl q.2⟩, s_recv hK hP (hLK _ h183 (by decide)) (ci := 4) rfl o265, fun U hU hW => ⟨rfl, s_pw hU hW hP hK hD hN⟩⟩ rfl rfl hl.1 rfl (lv_room (Nat.le_of_ble_eq_true rfl)) dX6_program_117 ⟨Nat.zero_le _, Nat.zero_le _⟩) hS (fun q _ h => h) (fun q h => h) (fun F266 t H1 locs ht hvm hw hB hz1 hk1 hS => ?_)
    obtain ⟨hP, hK1⟩ := hB
    rw [ht] at hP
    generalize H1 = H at hP hS ⊢
    clear hz1 hk1
    obtain ⟨h267, h268, hI, hfr1⟩ := hw
    have o269 : F266 a0 = .inr (6, [.ref z1, .int 0, .ref z5, .ref z9, .ref z7, .int 1, .ref z12, .ref z14, .int z16, .int z18, .ref z20, .ref z22, .ref z24, .long z26]) := (hfr1 _ (by rw [ha0]; decide)).trans o235
    have o270 : F266 z9 = .inr (2, [.ref z188, .ref z190, .ref z192, .int z194, .int z196, .int z198, .int z199]) := (hfr1 _ (by rw [h181]; decide)).trans o236
    have hfr : ∀ b, K b ∉ [5, 6, 7, 24, 27, 28, 30, 31, 32] → F266 b = F b := fun b hb9 => (hfr1 b (fun q => hb9 (s_sub (by decide) q))).trans (hfr b hb9)
    refine lv_aload_n hx hb dX6_program_120 rfl (lv_at hl 2 rfl) ?_
    refine lv_iconst (v := 0) hx hb dX6_program_121 (by decide) ?_
    refine th_put (D := (dC, dI)) (ci := 6) (v := .int 0) (ty := .int) (C := RX6) (T := TX6) (N := 14) hx hb hts inX6 tyX6 tyX6_ok nmX6 hown hK hP hD hS (hLK _ ha0 (by decide)) o269 rfl 9 (by decide) (hts _ T_238) (fun _ h9 => h9) rfl (by decide +kernel) rfl rfl (Nat.le_of_ble_eq_true rfl) dX6_program_122 (fun H locs hP hS => ?_)
    have hP : va_P (dC, dI) vwCl (va_pl L (va_up F266 a0 (.inr (6, [.ref z1, .int 0, .ref z5, .ref z9, .ref z7, .int 1, .ref z12, .ref z14, .int z16, .int 0, .ref z20, .ref z22, .ref z24, .long z26])))) H := hP
    obtain ⟨F271, hF272⟩ : ∃ G : Nat → va_E, G = va_up F266 a0 (.inr (6, [.ref z1, .int 0, .ref z5, .ref z9, .ref z7, .int 1, .ref z12, .ref z14, .int z16, .int 0, .ref z20, .ref z22, .ref z24, .long z26])) := ⟨_, rfl⟩
    rw [← hF272] at hP
    have hI : s_I K cs D F271 := by rw [hF272]; exact s_cl7 hI ha0 ⟨z1, 0, z5, z9, z7, 1, z12, z14, z16, 0, z20, z22, z24, z26, rfl, h179, (by decide), h180, h181, h182, h183, h184, ⟨by omega, by omega⟩, (by decide), h185, h186, h187, h60, trivial⟩
    have hfr : ∀ b, K b ∉ [5, 6, 7, 24, 27, 28, 30, 31, 32] → F271 b = F b := by rw [hF272]; exact s_fr hfr ha0 (by decide)
    have o273 : F271 z9 = .inr (2, [.ref z188, .ref z190, .ref z192, .int z194, .int z196, .int z198, .int z199]) := by rw [hF272]; exact th_ne (th_kd h181 ha0 (by decide)) o270
    have o274 : F271 a0 = .inr (6, [.ref z1, .int 0, .ref z5, .ref z9, .ref z7, .int 1, .ref z12, .ref z14, .int z16, .int 0, .ref z20, .ref z22, .ref z24, .long z26]) := by rw [hF272]; exact th_up
    refine lv_aload_n hx hb dX6_program_125 rfl (lv_at hl 2 rfl) ?_
    refine th_get (D := (dC, dI)) (ci := 6) (v := .ref z9) (C := RX6) (T := TX6) (N := 14) hx hb hts inX6 hown hK hP (hLK _ ha0 (by decide)) o274 rfl 3 (by decide) (hts _ T_170) (fun _ h9 => h9) rfl dX6_program_126 ?_
    refine th_getN (D := (dC, dI)) (ci := 2) (v := .int z194) (C := RX2) (T := TX2) (N := 7) hx hb hts inX2 hown hK hP (hLK _ h181 (by decide)) o273 rfl 3 (by decide) (va_Nw.use rfl (ax_n60 hN)) (fun _ h9 => h9) rfl dX6_program_129 ?_
    exact W.iret (v := z194) hx hb hr (fun t ht hW => ⟨⟨z194, (K, F271), rfl, ⟨hI, Or.inr hKs, s_PGt hI0 hfr (by decide) hPG1, s_RIt hfr (by decide) hRI1, s_RJt hfr (by decide) hRJ1, y_fi6 o274, fun b hb9 => (hfr b (fun q => hb9 (by rw [hKs] at q; exact s_swE q (by decide)))).trans (hfrE b hb9)⟩, by rw [ht]; exact hP, va_K.moved hW.alike hK⟩, hS.F ht⟩) hS.2.2 dX6_program_132
  · have c64 := (ax_eq (n := 0) (by decide)).mp c64
    refine lv_aload_n hx hb dX6_program_29 rfl (lv_at hl 1 rfl) ?_
    refine lv_iconst (v := 1) hx hb dX6_program_30 (by decide) ?_
    refine va_calli (va_runV (As := [.int 1]) (rest := []) ⟨hx, hb, hml, hown, hts⟩ (s_X6_refuse l dC dI H.size hLK D F61 a0 1 ha0 (by decide) hI) (cwV 1 hts (ax_gV T_194 T_195 T_196 T_193 T_10) rfl rfl rfl (by decide +kernel) ⟨Nat.le_of_ble_eq_true rfl, Nat.le_of_ble_eq_true rfl⟩) ⟨fun a U g mk q => ⟨q.1, s_pc (U := U) rfl rfl q.2⟩, s_recv hK hP (hLK _ ha0 (by decide)) (ci := 6) rfl o63, fun U hU hW => ⟨rfl, s_pw hU hW hP hK hD hN⟩⟩ rfl rfl hl.1 rfl (lv_room (Nat.le_of_ble_eq_true rfl)) dX6_program_31 ⟨Nat.zero_le _, Nat.zero_le _⟩) hS (fun q _ h => h) (fun q h => h) (fun r275 F276 t H1 locs ht hvm hw hB hz1 hk1 hS => ?_)
    obtain ⟨hP, hK1⟩ := hB
    rw [ht] at hP
    generalize H1 = H at hP hS ⊢
    clear hz1 hk1
    obtain ⟨h277, h278, hI, hfr1⟩ := hw
    have o279 : F276 a0 = .inr (6, [.ref z1, .int 0, .ref z5, .ref z7, .ref z9, .int z11, .ref z12, .ref z14, .int z16, .int z18, .ref z20, .ref z22, .ref z24, .long z26]) := (hfr1 _ (by rw [ha0]; decide)).trans o63
    have hfr : ∀ b, K b ∉ [4, 7, 8, 21, 24, 25, 39, 43] → F276 b = F b := fun b hb9 => (hfr1 b (fun q => hb9 (s_sub (by decide) q))).trans (hfr b hb9)
    exact W.iret (v := r275) hx hb hr (fun t ht hW => ⟨⟨r275, (K, F276), rfl, ⟨hI, Or.inl rfl, s_PGt hI0 hfr (by decide) hPG, s_RIt hfr (by decide) hRI, s_RJt hfr (by decide) hRJ, y_fi6 o279, fun b hb9 => hfr b (fun q => hb9 (s_sub (by decide) q))⟩, by rw [ht]; exact hP, va_K.moved hW.alike hK⟩, hS.F ht⟩) hS.2.2 dX6_program_34

