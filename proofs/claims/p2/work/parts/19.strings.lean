/-! the constants of text -/
def s_len : List Nat := [2, 3, 2, 2, 3, 4, 2, 3, 6, 1, 0, 125]
def s_byt : List (List Int32) := [[87, 59], [65, 86, 59], [77, 59], [79, 59], [82, 88, 59], [82, 88, 89, 59], [82, 59], [88, 89, 59], [71, 73, 88, 83, 89, 59], [59], [], [115, 101, 116, 32, 97, 100, 100, 32, 115, 117, 98, 32, 109, 117, 108, 32, 114, 101, 109, 32, 108, 97, 110, 101, 32, 119, 97, 114, 112, 32, 108, 111, 97, 100, 32, 115, 116, 111, 114, 101, 32, 103, 101, 116, 32, 112, 117, 116, 32, 115, 119, 97, 112, 32, 103, 111, 32, 98, 97, 114, 32, 121, 105, 101, 108, 100, 32, 101, 110, 100, 32, 119, 97, 114, 112, 115, 32, 119, 111, 114, 100, 32, 109, 111, 100, 101, 32, 115, 116, 97, 99, 107, 32, 102, 97, 105, 114, 32, 111, 114, 100, 101, 114, 32, 97, 103, 101, 32, 116, 117, 114, 110, 115, 32, 105, 102, 32, 97, 32, 98, 32, 99, 32, 100, 32]]
def s_ix : List Nat := [114, 116, 118, 120, 122, 124, 126, 128, 130, 132, 134, 191]
def s_tx : List String := ["W;", "AV;", "M;", "O;", "RX;", "RXY;", "R;", "XY;", "GIXSY;", ";", "", "set add sub mul rem lane warp load store get put swap go bar yield end warps word mode stack fair order age turns if a b c d "]
def s_Z (L : List Nat) (adK adV : Nat → Nat) (tf : Option Nat) (U : State) : Prop := va_Z "java/lang/String" "COMPACT_STRINGS" "Z" (.int 1) (fun q => q ∈ L) U U.heap ∧ va_Z "jdk/internal/util/Preconditions" "SIOOBE_FORMATTER" "Ljava/util/function/BiFunction;" (va_rf tf) (fun q => q ∈ L) U U.heap ∧ vk_S 12 s_len s_byt adK adV (fun q => q ∈ L) U U.heap ∧ ∀ i, i < 12 → vk_R RX3 (s_ix.getD i 0) (s_tx.getD i "") (adK i) U
def s_WZ (dC : Nat → ClassId) (dI : Nat → Nat → Nat) (sz : Nat) (L : List Nat) (F : Nat → va_E) (tys : List (ClassId × FieldType)) (adK adV : Nat → Nat) (tf : Option Nat) (U : State) : Prop := s_W dC dI sz L F tys U ∧ s_Z L adK adV tf U
theorem s_pcZ {L : List Nat} {adK adV : Nat → Nat} {tf : Option Nat} {U U' : State} (h1 : U'.heap = U.heap) (h2 : U.vm = U'.vm) (q : s_Z L adK adV tf U) : s_Z L adK adV tf U' := by
  have ha : U.vm.Alike U'.vm := by rw [h2]; exact Vm.Alike.refl _
  obtain ⟨a, b, c, d⟩ := q
  exact ⟨by rw [h1]; exact va_Z.moved ha a, by rw [h1]; exact va_Z.moved ha b, by rw [h1]; exact vk_S.moved ha c, fun i hi => vk_R.same h2.symm (d i hi)⟩
theorem s_pwZ {L : List Nat} {adK adV : Nat → Nat} {tf : Option Nat} {s U : State} {H : Heap} {locs : List Loc} (hU : U.heap = H) (hW : s.WarmedH U.vm) (hS : va_S (fun q => q ∈ L) s.heap H locs) (q : s_Z L adK adV tf s) : s_Z L adK adV tf U := by
  obtain ⟨a, b, c, d⟩ := q
  exact ⟨by rw [hU]; exact va_Z.moved hW.alike (va_Z.kept a hS.2.1), by rw [hU]; exact va_Z.moved hW.alike (va_Z.kept b hS.2.1), by rw [hU]; exact vk_S.moved hW.alike (vk_S.kept c hS.2.1), fun i hi => vk_R.warm hW (d i hi)⟩
theorem s_lenI (k : Nat) (hk : k < 12) : (Int32.ofNat (s_len.getD k 0)).toInt = (s_len.getD k 0 : Int) ∧ (Int32.ofNat (s_len.getD k 0)).toInt ≤ 127 := by
  have h : ∀ k, k < 12 → (Int32.ofNat (s_len.getD k 0)).toInt = (s_len.getD k 0 : Int) ∧ (Int32.ofNat (s_len.getD k 0)).toInt ≤ 127 := by decide +kernel
  exact h k hk
theorem s_ascL {l : List Int32} (h : ∀ x ∈ l, 0 ≤ x.toInt ∧ x.toInt ≤ 127) (j : Nat) : 0 ≤ (l.getD j 0).toInt ∧ (l.getD j 0).toInt ≤ 127 := by
  rw [List.getD_eq_getElem?_getD]
  cases e : l[j]? with
  | none => decide
  | some x => exact h x (List.mem_of_getElem? e)
theorem s_asc (k j : Nat) : 0 ≤ ((s_byt.getD k []).getD j 0).toInt ∧ ((s_byt.getD k []).getD j 0).toInt ≤ 127 := by
  refine s_ascL ?_ j
  have h : ∀ l ∈ s_byt, ∀ x ∈ l, 0 ≤ x.toInt ∧ x.toInt ≤ 127 := by decide +kernel
  rw [List.getD_eq_getElem?_getD]
  cases e : s_byt[k]? with
  | none => intro x hx; cases hx
  | some l => exact h l (List.mem_of_getElem? e)
theorem th_small {c : Int32} (h : 0 ≤ c.toInt ∧ c.toInt ≤ 127) : ∃ j : Nat, j < 128 ∧ c = nI j := by
  obtain ⟨j, hj, e, t⟩ := th_nn h.1
  exact ⟨j, by omega, e⟩
theorem th_asc {c : Int32} (h : 0 ≤ c.toInt ∧ c.toInt ≤ 127) : c &&& 255 = c := by
  obtain ⟨j, hj, e⟩ := th_small h
  have q : ∀ j, j < 128 → nI j &&& 255 = nI j := by decide +kernel
  rw [e]; exact q j hj
theorem th_c16 {c : Int32} (h : 0 ≤ c.toInt ∧ c.toInt ≤ 127) : (c.toUInt32 % 65536).toInt32 = c := by
  obtain ⟨j, hj, e⟩ := th_small h
  have q : ∀ j, j < 128 → ((nI j).toUInt32 % 65536).toInt32 = nI j := by decide +kernel
  rw [e]; exact q j hj
theorem th_nc {c : Int32} (h : 0 ≤ c.toInt ∧ c.toInt ≤ 127) : narrow .char (.int c) = .int c := by
  obtain ⟨j, hj, e⟩ := th_small h
  have q : ∀ j, j < 128 → narrow .char (.int (nI j)) = .int (nI j) := by decide +kernel
  rw [e]; exact q j hj
theorem th_shr0 {x r : Int32} (h : 0 ≤ r.toInt ∧ r.toInt ≤ 0) : x >>> (r &&& 31) = x := by
  have e : r = 0 := Int32.toInt_inj.mp (by rw [show (0 : Int32).toInt = 0 by decide]; omega)
  subst e
  rw [show (0 &&& 31 : Int32) = 0 by decide]
  exact Int32.shiftRight_zero

