/-! the reference: one object, its fields and rows -/
def y_at (F : Nat → va_E) (a : Nat) : Nat → Int32 := match F a with
  | .inl (_, _, .inl f) => f
  | _ => fun _ => 0
theorem y_atE {F : Nat → va_E} {a n : Nat} {c : ClassId} {f : Nat → Int32} (o : F a = .inl (c, n, .inl f)) : y_at F a = f := by unfold y_at; rw [o]
def y_lk (vs : List Value) (k : Nat) : Int32 := match vs[k]? with
  | some (.int x) => x
  | _ => 0
def y_fi (F : Nat → va_E) (a k : Nat) : Int32 := match F a with
  | .inr (_, vs) => y_lk vs k
  | _ => 0
def y_fl (A : Nat → Nat) (z : Nat → Int32) (q : Int64) : List Value := [.ref (A 0), .int (z 1), .int (z 2), .int (z 3), .int (z 4), .int (z 5), .int (z 6), .int (z 7), .int (z 8), .ref (A 9), .ref (A 10), .int (z 11), .ref (A 12), .ref (A 13), .ref (A 14), .int (z 15), .int (z 16), .ref (A 17), .ref (A 18), .int (z 19), .ref (A 20), .ref (A 21), .ref (A 22), .ref (A 23), .ref (A 24), .int (z 25), .int (z 26), .int (z 27), .ref (A 28), .ref (A 29), .ref (A 30), .int (z 31), .int (z 32), .long q]
abbrev y_ints : List Nat := [1, 2, 3, 4, 5, 6, 7, 8, 11, 15, 16, 19, 25, 26, 27, 31, 32]
theorem y_lkI {A : Nat → Nat} {z : Nat → Int32} {q : Int64} : ∀ k ∈ y_ints, y_lk (y_fl A z q) k = z k := List.forall_mem_cons.mpr ⟨rfl, List.forall_mem_cons.mpr ⟨rfl, List.forall_mem_cons.mpr ⟨rfl, List.forall_mem_cons.mpr ⟨rfl, List.forall_mem_cons.mpr ⟨rfl, List.forall_mem_cons.mpr ⟨rfl, List.forall_mem_cons.mpr ⟨rfl, List.forall_mem_cons.mpr ⟨rfl, List.forall_mem_cons.mpr ⟨rfl, List.forall_mem_cons.mpr ⟨rfl, List.forall_mem_cons.mpr ⟨rfl, List.forall_mem_cons.mpr ⟨rfl, List.forall_mem_cons.mpr ⟨rfl, List.forall_mem_cons.mpr ⟨rfl, List.forall_mem_cons.mpr ⟨rfl, List.forall_mem_cons.mpr ⟨rfl, List.forall_mem_cons.mpr ⟨rfl, fun _ h => absurd h List.not_mem_nil⟩⟩⟩⟩⟩⟩⟩⟩⟩⟩⟩⟩⟩⟩⟩⟩⟩
theorem y_fiZ {F : Nat → va_E} {a k c : Nat} {A : Nat → Nat} {z : Nat → Int32} {q : Int64} (o : F a = .inr (c, y_fl A z q)) (hk : k ∈ y_ints) : y_fi F a k = z k := by
  unfold y_fi
  rw [o]
  exact y_lkI k hk
theorem y_fs1 {A : Nat → Nat} {z : Nat → Int32} {q : Int64} {v : Int32} : (y_fl A z q).set 1 (.int v) = y_fl A (upd z 1 v) q := rfl
theorem y_fs2 {A : Nat → Nat} {z : Nat → Int32} {q : Int64} {v : Int32} : (y_fl A z q).set 2 (.int v) = y_fl A (upd z 2 v) q := rfl
theorem y_fs3 {A : Nat → Nat} {z : Nat → Int32} {q : Int64} {v : Int32} : (y_fl A z q).set 3 (.int v) = y_fl A (upd z 3 v) q := rfl
theorem y_fs4 {A : Nat → Nat} {z : Nat → Int32} {q : Int64} {v : Int32} : (y_fl A z q).set 4 (.int v) = y_fl A (upd z 4 v) q := rfl
theorem y_fs5 {A : Nat → Nat} {z : Nat → Int32} {q : Int64} {v : Int32} : (y_fl A z q).set 5 (.int v) = y_fl A (upd z 5 v) q := rfl
theorem y_fs6 {A : Nat → Nat} {z : Nat → Int32} {q : Int64} {v : Int32} : (y_fl A z q).set 6 (.int v) = y_fl A (upd z 6 v) q := rfl
theorem y_fs7 {A : Nat → Nat} {z : Nat → Int32} {q : Int64} {v : Int32} : (y_fl A z q).set 7 (.int v) = y_fl A (upd z 7 v) q := rfl
theorem y_fs8 {A : Nat → Nat} {z : Nat → Int32} {q : Int64} {v : Int32} : (y_fl A z q).set 8 (.int v) = y_fl A (upd z 8 v) q := rfl
theorem y_fs11 {A : Nat → Nat} {z : Nat → Int32} {q : Int64} {v : Int32} : (y_fl A z q).set 11 (.int v) = y_fl A (upd z 11 v) q := rfl
theorem y_fs15 {A : Nat → Nat} {z : Nat → Int32} {q : Int64} {v : Int32} : (y_fl A z q).set 15 (.int v) = y_fl A (upd z 15 v) q := rfl
theorem y_fs16 {A : Nat → Nat} {z : Nat → Int32} {q : Int64} {v : Int32} : (y_fl A z q).set 16 (.int v) = y_fl A (upd z 16 v) q := rfl
theorem y_fs19 {A : Nat → Nat} {z : Nat → Int32} {q : Int64} {v : Int32} : (y_fl A z q).set 19 (.int v) = y_fl A (upd z 19 v) q := rfl
theorem y_fs25 {A : Nat → Nat} {z : Nat → Int32} {q : Int64} {v : Int32} : (y_fl A z q).set 25 (.int v) = y_fl A (upd z 25 v) q := rfl
theorem y_fs26 {A : Nat → Nat} {z : Nat → Int32} {q : Int64} {v : Int32} : (y_fl A z q).set 26 (.int v) = y_fl A (upd z 26 v) q := rfl
theorem y_fs27 {A : Nat → Nat} {z : Nat → Int32} {q : Int64} {v : Int32} : (y_fl A z q).set 27 (.int v) = y_fl A (upd z 27 v) q := rfl
theorem y_fs31 {A : Nat → Nat} {z : Nat → Int32} {q : Int64} {v : Int32} : (y_fl A z q).set 31 (.int v) = y_fl A (upd z 31 v) q := rfl
theorem y_fs32 {A : Nat → Nat} {z : Nat → Int32} {q : Int64} {v : Int32} : (y_fl A z q).set 32 (.int v) = y_fl A (upd z 32 v) q := rfl
theorem y_fsq {A : Nat → Nat} {z : Nat → Int32} {q v : Int64} : (y_fl A z q).set 33 (.long v) = y_fl A z v := rfl
def y_bY (z : Nat → Int32) : Prop := (0 ≤ (z 1).toInt ∧ (z 1).toInt ≤ 1600) ∧ (0 ≤ (z 2).toInt ∧ (z 2).toInt ≤ 1600) ∧ (0 ≤ (z 3).toInt ∧ (z 3).toInt ≤ 1600) ∧ (0 ≤ (z 15).toInt ∧ (z 15).toInt ≤ 1) ∧ (0 ≤ (z 19).toInt ∧ (z 19).toInt ≤ 41) ∧ (-1 ≤ (z 26).toInt ∧ (z 26).toInt ≤ 400) ∧ (0 ≤ (z 31).toInt ∧ (z 31).toInt ≤ 20) ∧ (0 ≤ (z 32).toInt ∧ (z 32).toInt ≤ 19)
theorem y_bY1 {z : Nat → Int32} (h : y_bY z) : 0 ≤ (z 1).toInt ∧ (z 1).toInt ≤ 1600 := h.1
theorem y_bY2 {z : Nat → Int32} (h : y_bY z) : 0 ≤ (z 2).toInt ∧ (z 2).toInt ≤ 1600 := h.2.1
theorem y_bY3 {z : Nat → Int32} (h : y_bY z) : 0 ≤ (z 3).toInt ∧ (z 3).toInt ≤ 1600 := h.2.2.1
theorem y_bY15 {z : Nat → Int32} (h : y_bY z) : 0 ≤ (z 15).toInt ∧ (z 15).toInt ≤ 1 := h.2.2.2.1
theorem y_bY19 {z : Nat → Int32} (h : y_bY z) : 0 ≤ (z 19).toInt ∧ (z 19).toInt ≤ 41 := h.2.2.2.2.1
theorem y_bY26 {z : Nat → Int32} (h : y_bY z) : -1 ≤ (z 26).toInt ∧ (z 26).toInt ≤ 400 := h.2.2.2.2.2.1
theorem y_bY31 {z : Nat → Int32} (h : y_bY z) : 0 ≤ (z 31).toInt ∧ (z 31).toInt ≤ 20 := h.2.2.2.2.2.2.1
theorem y_bY32 {z : Nat → Int32} (h : y_bY z) : 0 ≤ (z 32).toInt ∧ (z 32).toInt ≤ 19 := h.2.2.2.2.2.2.2
theorem y_bp1 {z : Nat → Int32} {v : Int32} (h : y_bY z) (hv : 0 ≤ v.toInt ∧ v.toInt ≤ 1600) : y_bY (upd z 1 v) := ⟨hv, y_bY2 (z := z) h, y_bY3 (z := z) h, y_bY15 (z := z) h, y_bY19 (z := z) h, y_bY26 (z := z) h, y_bY31 (z := z) h, y_bY32 (z := z) h⟩
theorem y_bp2 {z : Nat → Int32} {v : Int32} (h : y_bY z) (hv : 0 ≤ v.toInt ∧ v.toInt ≤ 1600) : y_bY (upd z 2 v) := ⟨y_bY1 (z := z) h, hv, y_bY3 (z := z) h, y_bY15 (z := z) h, y_bY19 (z := z) h, y_bY26 (z := z) h, y_bY31 (z := z) h, y_bY32 (z := z) h⟩
theorem y_bp3 {z : Nat → Int32} {v : Int32} (h : y_bY z) (hv : 0 ≤ v.toInt ∧ v.toInt ≤ 1600) : y_bY (upd z 3 v) := ⟨y_bY1 (z := z) h, y_bY2 (z := z) h, hv, y_bY15 (z := z) h, y_bY19 (z := z) h, y_bY26 (z := z) h, y_bY31 (z := z) h, y_bY32 (z := z) h⟩
theorem y_bp4 {z : Nat → Int32} {v : Int32} (h : y_bY z)  : y_bY (upd z 4 v) := ⟨y_bY1 (z := z) h, y_bY2 (z := z) h, y_bY3 (z := z) h, y_bY15 (z := z) h, y_bY19 (z := z) h, y_bY26 (z := z) h, y_bY31 (z := z) h, y_bY32 (z := z) h⟩
theorem y_bp5 {z : Nat → Int32} {v : Int32} (h : y_bY z)  : y_bY (upd z 5 v) := ⟨y_bY1 (z := z) h, y_bY2 (z := z) h, y_bY3 (z := z) h, y_bY15 (z := z) h, y_bY19 (z := z) h, y_bY26 (z := z) h, y_bY31 (z := z) h, y_bY32 (z := z) h⟩
theorem y_bp6 {z : Nat → Int32} {v : Int32} (h : y_bY z)  : y_bY (upd z 6 v) := ⟨y_bY1 (z := z) h, y_bY2 (z := z) h, y_bY3 (z := z) h, y_bY15 (z := z) h, y_bY19 (z := z) h, y_bY26 (z := z) h, y_bY31 (z := z) h, y_bY32 (z := z) h⟩
theorem y_bp7 {z : Nat → Int32} {v : Int32} (h : y_bY z)  : y_bY (upd z 7 v) := ⟨y_bY1 (z := z) h, y_bY2 (z := z) h, y_bY3 (z := z) h, y_bY15 (z := z) h, y_bY19 (z := z) h, y_bY26 (z := z) h, y_bY31 (z := z) h, y_bY32 (z := z) h⟩
theorem y_bp8 {z : Nat → Int32} {v : Int32} (h : y_bY z)  : y_bY (upd z 8 v) := ⟨y_bY1 (z := z) h, y_bY2 (z := z) h, y_bY3 (z := z) h, y_bY15 (z := z) h, y_bY19 (z := z) h, y_bY26 (z := z) h, y_bY31 (z := z) h, y_bY32 (z := z) h⟩
theorem y_bp11 {z : Nat → Int32} {v : Int32} (h : y_bY z)  : y_bY (upd z 11 v) := ⟨y_bY1 (z := z) h, y_bY2 (z := z) h, y_bY3 (z := z) h, y_bY15 (z := z) h, y_bY19 (z := z) h, y_bY26 (z := z) h, y_bY31 (z := z) h, y_bY32 (z := z) h⟩
theorem y_bp15 {z : Nat → Int32} {v : Int32} (h : y_bY z) (hv : 0 ≤ v.toInt ∧ v.toInt ≤ 1) : y_bY (upd z 15 v) := ⟨y_bY1 (z := z) h, y_bY2 (z := z) h, y_bY3 (z := z) h, hv, y_bY19 (z := z) h, y_bY26 (z := z) h, y_bY31 (z := z) h, y_bY32 (z := z) h⟩
theorem y_bp16 {z : Nat → Int32} {v : Int32} (h : y_bY z)  : y_bY (upd z 16 v) := ⟨y_bY1 (z := z) h, y_bY2 (z := z) h, y_bY3 (z := z) h, y_bY15 (z := z) h, y_bY19 (z := z) h, y_bY26 (z := z) h, y_bY31 (z := z) h, y_bY32 (z := z) h⟩
theorem y_bp19 {z : Nat → Int32} {v : Int32} (h : y_bY z) (hv : 0 ≤ v.toInt ∧ v.toInt ≤ 41) : y_bY (upd z 19 v) := ⟨y_bY1 (z := z) h, y_bY2 (z := z) h, y_bY3 (z := z) h, y_bY15 (z := z) h, hv, y_bY26 (z := z) h, y_bY31 (z := z) h, y_bY32 (z := z) h⟩
theorem y_bp25 {z : Nat → Int32} {v : Int32} (h : y_bY z)  : y_bY (upd z 25 v) := ⟨y_bY1 (z := z) h, y_bY2 (z := z) h, y_bY3 (z := z) h, y_bY15 (z := z) h, y_bY19 (z := z) h, y_bY26 (z := z) h, y_bY31 (z := z) h, y_bY32 (z := z) h⟩
theorem y_bp26 {z : Nat → Int32} {v : Int32} (h : y_bY z) (hv : -1 ≤ v.toInt ∧ v.toInt ≤ 400) : y_bY (upd z 26 v) := ⟨y_bY1 (z := z) h, y_bY2 (z := z) h, y_bY3 (z := z) h, y_bY15 (z := z) h, y_bY19 (z := z) h, hv, y_bY31 (z := z) h, y_bY32 (z := z) h⟩
theorem y_bp27 {z : Nat → Int32} {v : Int32} (h : y_bY z)  : y_bY (upd z 27 v) := ⟨y_bY1 (z := z) h, y_bY2 (z := z) h, y_bY3 (z := z) h, y_bY15 (z := z) h, y_bY19 (z := z) h, y_bY26 (z := z) h, y_bY31 (z := z) h, y_bY32 (z := z) h⟩
theorem y_bp31 {z : Nat → Int32} {v : Int32} (h : y_bY z) (hv : 0 ≤ v.toInt ∧ v.toInt ≤ 20) : y_bY (upd z 31 v) := ⟨y_bY1 (z := z) h, y_bY2 (z := z) h, y_bY3 (z := z) h, y_bY15 (z := z) h, y_bY19 (z := z) h, y_bY26 (z := z) h, hv, y_bY32 (z := z) h⟩
theorem y_bp32 {z : Nat → Int32} {v : Int32} (h : y_bY z) (hv : 0 ≤ v.toInt ∧ v.toInt ≤ 19) : y_bY (upd z 32 v) := ⟨y_bY1 (z := z) h, y_bY2 (z := z) h, y_bY3 (z := z) h, y_bY15 (z := z) h, y_bY19 (z := z) h, y_bY26 (z := z) h, y_bY31 (z := z) h, hv⟩
def y_n : Nat → Nat := fun i => match i with
  | 0 => 1600
  | 9 => 6
  | 10 => 125
  | 12 => 400
  | 13 => 400
  | 14 => 40
  | 17 => 41
  | 18 => 41
  | 20 => 918
  | 21 => 8
  | 22 => 8
  | 23 => 918
  | 24 => 191277
  | 28 => 5
  | 29 => 16
  | 30 => 18360
  | _ => 0
def y_ce : Nat → Nat := fun i => match i with
  | 10 => 6
  | 17 => 7
  | _ => 0
def y_bd (i : Nat) (f : Nat → Int32) : Prop := match i with
  | 12 => (0 ≤ (f 387).toInt ∧ (f 387).toInt ≤ 40)
  | 17 => ∀ j, j < 41 → (0 ≤ (f j).toInt ∧ (f j).toInt ≤ 1)
  | 18 => ∀ j, j < 41 → (0 ≤ (f j).toInt ∧ (f j).toInt ≤ 40)
  | _ => True
def y_oka (cs : Nat → ClassId) (i : Nat) (e : va_E) : Prop := y_n i = 0 ∨ ∃ f : Nat → Int32, e = .inl (cs (y_ce i), y_n i, .inl f) ∧ y_bd i f
/-- the addresses of the rows, by the number of the field -/
def y_A (K A : Nat → Nat) : Prop := ∀ i, y_n i ≠ 0 → K (A i) = 50 + i
def y_I (K : Nat → Nat) (cs : Nat → ClassId) (A : Nat → Nat) (F : Nat → va_E) : Prop := (∀ a, K a = 9 → ∃ (z : Nat → Int32) (q : Int64), F a = .inr (7, y_fl A z q) ∧ y_bY z ∧ (0 ≤ q.toInt ∧ q.toInt < 2147483648)) ∧ ∀ i, y_oka cs i (F (A i))
theorem y_opY {K : Nat → Nat} {cs : Nat → ClassId} {A : Nat → Nat} {F : Nat → va_E} {a : Nat} (h : y_I K cs A F) (ha : K a = 9) : ∃ (z : Nat → Int32) (q : Int64), F a = .inr (7, y_fl A z q) ∧ y_bY z ∧ (0 ≤ q.toInt ∧ q.toInt < 2147483648) := h.1 a ha
theorem y_k0 {K A : Nat → Nat} (h : y_A K A) : K (A 0) = 50 := h 0 (by decide)
theorem y_op0 {K : Nat → Nat} {cs : Nat → ClassId} {A : Nat → Nat} {F : Nat → va_E} (h : y_I K cs A F) : ∃ f : Nat → Int32, F (A 0) = .inl (cs 0, 1600, .inl f) ∧ True := (h.2 0).resolve_left (by decide)
theorem y_k9 {K A : Nat → Nat} (h : y_A K A) : K (A 9) = 59 := h 9 (by decide)
theorem y_op9 {K : Nat → Nat} {cs : Nat → ClassId} {A : Nat → Nat} {F : Nat → va_E} (h : y_I K cs A F) : ∃ f : Nat → Int32, F (A 9) = .inl (cs 0, 6, .inl f) ∧ True := (h.2 9).resolve_left (by decide)
theorem y_k10 {K A : Nat → Nat} (h : y_A K A) : K (A 10) = 60 := h 10 (by decide)
theorem y_op10 {K : Nat → Nat} {cs : Nat → ClassId} {A : Nat → Nat} {F : Nat → va_E} (h : y_I K cs A F) : ∃ f : Nat → Int32, F (A 10) = .inl (cs 6, 125, .inl f) ∧ True := (h.2 10).resolve_left (by decide)
theorem y_k12 {K A : Nat → Nat} (h : y_A K A) : K (A 12) = 62 := h 12 (by decide)
theorem y_op12 {K : Nat → Nat} {cs : Nat → ClassId} {A : Nat → Nat} {F : Nat → va_E} (h : y_I K cs A F) : ∃ f : Nat → Int32, F (A 12) = .inl (cs 0, 400, .inl f) ∧ (0 ≤ (f 387).toInt ∧ (f 387).toInt ≤ 40) := (h.2 12).resolve_left (by decide)
theorem y_k13 {K A : Nat → Nat} (h : y_A K A) : K (A 13) = 63 := h 13 (by decide)
theorem y_op13 {K : Nat → Nat} {cs : Nat → ClassId} {A : Nat → Nat} {F : Nat → va_E} (h : y_I K cs A F) : ∃ f : Nat → Int32, F (A 13) = .inl (cs 0, 400, .inl f) ∧ True := (h.2 13).resolve_left (by decide)
theorem y_k14 {K A : Nat → Nat} (h : y_A K A) : K (A 14) = 64 := h 14 (by decide)
theorem y_op14 {K : Nat → Nat} {cs : Nat → ClassId} {A : Nat → Nat} {F : Nat → va_E} (h : y_I K cs A F) : ∃ f : Nat → Int32, F (A 14) = .inl (cs 0, 40, .inl f) ∧ True := (h.2 14).resolve_left (by decide)
theorem y_k17 {K A : Nat → Nat} (h : y_A K A) : K (A 17) = 67 := h 17 (by decide)
theorem y_op17 {K : Nat → Nat} {cs : Nat → ClassId} {A : Nat → Nat} {F : Nat → va_E} (h : y_I K cs A F) : ∃ f : Nat → Int32, F (A 17) = .inl (cs 7, 41, .inl f) ∧ ∀ j, j < 41 → (0 ≤ (f j).toInt ∧ (f j).toInt ≤ 1) := (h.2 17).resolve_left (by decide)
theorem y_k18 {K A : Nat → Nat} (h : y_A K A) : K (A 18) = 68 := h 18 (by decide)
theorem y_op18 {K : Nat → Nat} {cs : Nat → ClassId} {A : Nat → Nat} {F : Nat → va_E} (h : y_I K cs A F) : ∃ f : Nat → Int32, F (A 18) = .inl (cs 0, 41, .inl f) ∧ ∀ j, j < 41 → (0 ≤ (f j).toInt ∧ (f j).toInt ≤ 40) := (h.2 18).resolve_left (by decide)
theorem y_k20 {K A : Nat → Nat} (h : y_A K A) : K (A 20) = 70 := h 20 (by decide)
theorem y_op20 {K : Nat → Nat} {cs : Nat → ClassId} {A : Nat → Nat} {F : Nat → va_E} (h : y_I K cs A F) : ∃ f : Nat → Int32, F (A 20) = .inl (cs 0, 918, .inl f) ∧ True := (h.2 20).resolve_left (by decide)
theorem y_k21 {K A : Nat → Nat} (h : y_A K A) : K (A 21) = 71 := h 21 (by decide)
theorem y_op21 {K : Nat → Nat} {cs : Nat → ClassId} {A : Nat → Nat} {F : Nat → va_E} (h : y_I K cs A F) : ∃ f : Nat → Int32, F (A 21) = .inl (cs 0, 8, .inl f) ∧ True := (h.2 21).resolve_left (by decide)
theorem y_k22 {K A : Nat → Nat} (h : y_A K A) : K (A 22) = 72 := h 22 (by decide)
theorem y_op22 {K : Nat → Nat} {cs : Nat → ClassId} {A : Nat → Nat} {F : Nat → va_E} (h : y_I K cs A F) : ∃ f : Nat → Int32, F (A 22) = .inl (cs 0, 8, .inl f) ∧ True := (h.2 22).resolve_left (by decide)
theorem y_k23 {K A : Nat → Nat} (h : y_A K A) : K (A 23) = 73 := h 23 (by decide)
theorem y_op23 {K : Nat → Nat} {cs : Nat → ClassId} {A : Nat → Nat} {F : Nat → va_E} (h : y_I K cs A F) : ∃ f : Nat → Int32, F (A 23) = .inl (cs 0, 918, .inl f) ∧ True := (h.2 23).resolve_left (by decide)
theorem y_k24 {K A : Nat → Nat} (h : y_A K A) : K (A 24) = 74 := h 24 (by decide)
theorem y_op24 {K : Nat → Nat} {cs : Nat → ClassId} {A : Nat → Nat} {F : Nat → va_E} (h : y_I K cs A F) : ∃ f : Nat → Int32, F (A 24) = .inl (cs 0, 191277, .inl f) ∧ True := (h.2 24).resolve_left (by decide)
theorem y_k28 {K A : Nat → Nat} (h : y_A K A) : K (A 28) = 78 := h 28 (by decide)
theorem y_op28 {K : Nat → Nat} {cs : Nat → ClassId} {A : Nat → Nat} {F : Nat → va_E} (h : y_I K cs A F) : ∃ f : Nat → Int32, F (A 28) = .inl (cs 0, 5, .inl f) ∧ True := (h.2 28).resolve_left (by decide)
theorem y_k29 {K A : Nat → Nat} (h : y_A K A) : K (A 29) = 79 := h 29 (by decide)
theorem y_op29 {K : Nat → Nat} {cs : Nat → ClassId} {A : Nat → Nat} {F : Nat → va_E} (h : y_I K cs A F) : ∃ f : Nat → Int32, F (A 29) = .inl (cs 0, 16, .inl f) ∧ True := (h.2 29).resolve_left (by decide)
theorem y_k30 {K A : Nat → Nat} (h : y_A K A) : K (A 30) = 80 := h 30 (by decide)
theorem y_op30 {K : Nat → Nat} {cs : Nat → ClassId} {A : Nat → Nat} {F : Nat → va_E} (h : y_I K cs A F) : ∃ f : Nat → Int32, F (A 30) = .inl (cs 0, 18360, .inl f) ∧ True := (h.2 30).resolve_left (by decide)
theorem y_clY {K : Nat → Nat} {cs : Nat → ClassId} {A : Nat → Nat} {F : Nat → va_E} {a : Nat} {z : Nat → Int32} {q : Int64} (hA : y_A K A) (h : y_I K cs A F) (ha : K a = 9) (hz : y_bY z) (hq : 0 ≤ q.toInt ∧ q.toInt < 2147483648) : y_I K cs A (va_up F a (.inr (7, y_fl A z q))) := by
  refine ⟨fun b hb => ?_, fun i => ?_⟩
  · by_cases e : b = a
    · subst e
      rw [th_up]
      exact ⟨z, q, rfl, hz, hq⟩
    · rw [show va_up F a (.inr (7, y_fl A z q)) b = F b from if_neg e]
      exact h.1 b hb
  · by_cases hn : y_n i = 0
    · exact Or.inl hn
    · have e : A i ≠ a := fun q => by
        have k := hA i hn
        rw [q, ha] at k
        omega
      rw [show va_up F a (.inr (7, y_fl A z q)) (A i) = F (A i) from if_neg e]
      exact h.2 i
theorem y_clA {K : Nat → Nat} {cs : Nat → ClassId} {A : Nat → Nat} {F : Nat → va_E} {i : Nat} {f : Nat → Int32} (hA : y_A K A) (h : y_I K cs A F) (hi : y_n i ≠ 0) (hf : y_bd i f) : y_I K cs A (va_up F (A i) (.inl (cs (y_ce i), y_n i, .inl f))) := by
  refine ⟨fun b hb => ?_, fun j => ?_⟩
  · have e : b ≠ A i := fun q => by
      have k := hA i hi
      rw [← q, hb] at k
      omega
    rw [show va_up F (A i) (.inl (cs (y_ce i), y_n i, .inl f)) b = F b from if_neg e]
    exact h.1 b hb
  · by_cases e : j = i
    · subst e
      rw [th_up]
      exact Or.inr ⟨f, rfl, hf⟩
    · by_cases hn : y_n j = 0
      · exact Or.inl hn
      · have e2 : A j ≠ A i := fun q => by
          have k1 := hA i hi
          have k2 := hA j hn
          rw [q, k1] at k2
          omega
        rw [show va_up F (A i) (.inl (cs (y_ce i), y_n i, .inl f)) (A j) = F (A j) from if_neg e2]
        exact h.2 j
theorem y_It {K : Nat → Nat} {cs : Nat → ClassId} {A : Nat → Nat} {F G : Nat → va_E} (hA : y_A K A) (h : y_I K cs A F) (e : ∀ b, K b = 9 ∨ 50 ≤ K b → G b = F b) : y_I K cs A G := by
  refine ⟨fun b hb => ?_, fun i => ?_⟩
  · rw [e b (Or.inl hb)]
    exact h.1 b hb
  · by_cases hn : y_n i = 0
    · exact Or.inl hn
    · rw [e (A i) (Or.inr (by rw [hA i hn]; omega))]
      exact h.2 i
/-- a row's place, by a whole number -/
def y_c (f : Nat → Int32) (i : Int) : Int32 := f i.toNat
theorem y_cI {f : Nat → Int32} {i : Int32} : f i.toNatClampNeg = y_c f i.toInt := rfl
theorem y_ci {f : Nat → Int32} {i : Int32} {n : Int} (h : i.toInt = n) : f i.toNatClampNeg = y_c f n := by rw [← h]; rfl
theorem y_cu {f : Nat → Int32} {i : Int32} {v : Int32} {n : Int} (hi : i.toInt = n) (h0 : 0 ≤ n) (j : Int) (hj : 0 ≤ j) : y_c (upd f i.toNatClampNeg v) j = if j = n then v else y_c f j := by
  subst hi
  show upd f i.toInt.toNat v j.toNat = _
  unfold upd
  by_cases e : j = i.toInt
  · rw [if_pos (by rw [e]), if_pos e]
  · rw [if_neg (by omega), if_neg e]
    rfl
theorem y_un {f : Nat → Int32} {i j : Nat} {v : Int32} (h : j ≠ i) : upd f i v j = f j := if_neg h
theorem y_ue {f : Nat → Int32} {i : Nat} {v : Int32} : upd f i v i = v := if_pos rfl
theorem y_cmp {x y : Int64} : ((lg_cmp x y).toInt < 0 ↔ x.toInt < y.toInt) ∧ (0 < (lg_cmp x y).toInt ↔ y.toInt < x.toInt) := by
  have h1 : y < x ↔ y.toInt < x.toInt := Int64.lt_iff_toInt_lt
  by_cases c1 : y < x
  · have e : lg_cmp x y = 1 := by simp [lg_cmp, c1]
    have q := h1.mp c1
    rw [e]
    have : (1 : Int32).toInt = 1 := by decide
    omega
  · by_cases c2 : x = y
    · subst c2
      have e : lg_cmp x x = 0 := by simp [lg_cmp]
      rw [e]
      have : (0 : Int32).toInt = 0 := by decide
      omega
    · have e : lg_cmp x y = -1 := by simp [lg_cmp, c1, c2]
      have q := mt h1.mpr c1
      have q2 : x.toInt ≠ y.toInt := fun h => c2 (Int64.toInt_inj.mp h)
      rw [e]
      have : (-1 : Int32).toInt = -1 := by decide
      omega
theorem y_z0 {r : Int32} (h : 0 ≤ r.toInt ∧ r.toInt ≤ 0) : r = 0 := Int32.toInt_inj.mp (by rw [show (0 : Int32).toInt = 0 by decide]; omega)
theorem y_i2l {x : Int32} {v : Int64} (h : v = x.toInt64) : v.toInt = x.toInt := by rw [h]; exact Int32.toInt_toInt64 x
