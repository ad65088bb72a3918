def lw_tm (i : Nat) : Term := .string RX3 (s_ix.getD i 0)
theorem lw_f1 : ∀ i : Nat, i < 12 → Cond.exactly (lw_tm i) "java/lang/String" ∈ flatC (Jvm.Cond.and given_1 narrow_1) := by decide +kernel
theorem lw_f2 : ∀ i : Nat, i < 12 → Cond.eq (.field (lw_tm i) "java/lang/String" "coder" "B") (.int 0) ∈ flatC (Jvm.Cond.and given_1 narrow_1) := by decide +kernel
theorem lw_f3 : ∀ i : Nat, i < 12 → Cond.arrayOf (.field (lw_tm i) "java/lang/String" "value" "[B") .byte ∈ flatC (Jvm.Cond.and given_1 narrow_1) := by decide +kernel
theorem lw_f4 : ∀ i : Nat, i < 12 → Cond.eq (.length (.field (lw_tm i) "java/lang/String" "value" "[B")) (.int (Int32.ofNat (s_len.getD i 0))) ∈ flatC (Jvm.Cond.and given_1 narrow_1) := by decide +kernel
def lw_fa : Jvm.Cond → List Jvm.Cond → List Jvm.Cond
  | .and a b, r => lw_fa a (lw_fa b r)
  | c, r => c :: r
theorem lw_fe (c : Jvm.Cond) : ∀ r, lw_fa c r = flatC c ++ r := by
  induction c with
  | and a b iha ihb =>
    intro r
    show lw_fa a (lw_fa b r) = (flatC a ++ flatC b) ++ r
    rw [ihb, iha, List.append_assoc]
  | _ => intro r; rfl
theorem lw_fm {c T : Jvm.Cond} {k : Nat} (h : (lw_fa T [])[k]? = some c) : c ∈ flatC T := by
  have z := List.mem_of_getElem? h
  rw [lw_fe, List.append_nil] at z
  exact z
theorem lw_g5_0 : ∀ j : Nat, j < 2 → (lw_fa (Jvm.Cond.and given_1 narrow_1) [])[158 + j]? = some (Cond.eq (.elem (.field (lw_tm 0) "java/lang/String" "value" "[B") (.int (Int32.ofNat j))) (.int ((s_byt.getD 0 []).getD j 0))) := by decide +kernel
theorem lw_g5_1 : ∀ j : Nat, j < 3 → (lw_fa (Jvm.Cond.and given_1 narrow_1) [])[165 + j]? = some (Cond.eq (.elem (.field (lw_tm 1) "java/lang/String" "value" "[B") (.int (Int32.ofNat j))) (.int ((s_byt.getD 1 []).getD j 0))) := by decide +kernel
theorem lw_g5_2 : ∀ j : Nat, j < 2 → (lw_fa (Jvm.Cond.and given_1 narrow_1) [])[174 + j]? = some (Cond.eq (.elem (.field (lw_tm 2) "java/lang/String" "value" "[B") (.int (Int32.ofNat j))) (.int ((s_byt.getD 2 []).getD j 0))) := by decide +kernel
theorem lw_g5_3 : ∀ j : Nat, j < 2 → (lw_fa (Jvm.Cond.and given_1 narrow_1) [])[183 + j]? = some (Cond.eq (.elem (.field (lw_tm 3) "java/lang/String" "value" "[B") (.int (Int32.ofNat j))) (.int ((s_byt.getD 3 []).getD j 0))) := by decide +kernel
theorem lw_g5_4 : ∀ j : Nat, j < 3 → (lw_fa (Jvm.Cond.and given_1 narrow_1) [])[193 + j]? = some (Cond.eq (.elem (.field (lw_tm 4) "java/lang/String" "value" "[B") (.int (Int32.ofNat j))) (.int ((s_byt.getD 4 []).getD j 0))) := by decide +kernel
theorem lw_g5_5 : ∀ j : Nat, j < 4 → (lw_fa (Jvm.Cond.and given_1 narrow_1) [])[205 + j]? = some (Cond.eq (.elem (.field (lw_tm 5) "java/lang/String" "value" "[B") (.int (Int32.ofNat j))) (.int ((s_byt.getD 5 []).getD j 0))) := by decide +kernel
theorem lw_g5_6 : ∀ j : Nat, j < 2 → (lw_fa (Jvm.Cond.and given_1 narrow_1) [])[219 + j]? = some (Cond.eq (.elem (.field (lw_tm 6) "java/lang/String" "value" "[B") (.int (Int32.ofNat j))) (.int ((s_byt.getD 6 []).getD j 0))) := by decide +kernel
theorem lw_g5_7 : ∀ j : Nat, j < 3 → (lw_fa (Jvm.Cond.and given_1 narrow_1) [])[232 + j]? = some (Cond.eq (.elem (.field (lw_tm 7) "java/lang/String" "value" "[B") (.int (Int32.ofNat j))) (.int ((s_byt.getD 7 []).getD j 0))) := by decide +kernel
theorem lw_g5_8 : ∀ j : Nat, j < 6 → (lw_fa (Jvm.Cond.and given_1 narrow_1) [])[247 + j]? = some (Cond.eq (.elem (.field (lw_tm 8) "java/lang/String" "value" "[B") (.int (Int32.ofNat j))) (.int ((s_byt.getD 8 []).getD j 0))) := by decide +kernel
theorem lw_g5_9 : ∀ j : Nat, j < 1 → (lw_fa (Jvm.Cond.and given_1 narrow_1) [])[266 + j]? = some (Cond.eq (.elem (.field (lw_tm 9) "java/lang/String" "value" "[B") (.int (Int32.ofNat j))) (.int ((s_byt.getD 9 []).getD j 0))) := by decide +kernel
theorem lw_g5_10 : ∀ j : Nat, j < 0 → (lw_fa (Jvm.Cond.and given_1 narrow_1) [])[0 + j]? = some (Cond.eq (.elem (.field (lw_tm 10) "java/lang/String" "value" "[B") (.int (Int32.ofNat j))) (.int ((s_byt.getD 10 []).getD j 0))) := by decide +kernel
theorem lw_g5_11_0 : ∀ j : Nat, j < 25 → (lw_fa (Jvm.Cond.and given_1 narrow_1) [])[29 + j]? = some (Cond.eq (.elem (.field (lw_tm 11) "java/lang/String" "value" "[B") (.int (Int32.ofNat (0 + j)))) (.int ((s_byt.getD 11 []).getD (0 + j) 0))) := by decide +kernel
theorem lw_g5_11_1 : ∀ j : Nat, j < 25 → (lw_fa (Jvm.Cond.and given_1 narrow_1) [])[54 + j]? = some (Cond.eq (.elem (.field (lw_tm 11) "java/lang/String" "value" "[B") (.int (Int32.ofNat (25 + j)))) (.int ((s_byt.getD 11 []).getD (25 + j) 0))) := by decide +kernel
theorem lw_g5_11_2 : ∀ j : Nat, j < 25 → (lw_fa (Jvm.Cond.and given_1 narrow_1) [])[79 + j]? = some (Cond.eq (.elem (.field (lw_tm 11) "java/lang/String" "value" "[B") (.int (Int32.ofNat (50 + j)))) (.int ((s_byt.getD 11 []).getD (50 + j) 0))) := by decide +kernel
theorem lw_g5_11_3 : ∀ j : Nat, j < 25 → (lw_fa (Jvm.Cond.and given_1 narrow_1) [])[104 + j]? = some (Cond.eq (.elem (.field (lw_tm 11) "java/lang/String" "value" "[B") (.int (Int32.ofNat (75 + j)))) (.int ((s_byt.getD 11 []).getD (75 + j) 0))) := by decide +kernel
theorem lw_g5_11_4 : ∀ j : Nat, j < 25 → (lw_fa (Jvm.Cond.and given_1 narrow_1) [])[129 + j]? = some (Cond.eq (.elem (.field (lw_tm 11) "java/lang/String" "value" "[B") (.int (Int32.ofNat (100 + j)))) (.int ((s_byt.getD 11 []).getD (100 + j) 0))) := by decide +kernel
theorem lw_f5 : ∀ i : Nat, i < 12 → ∀ j : Nat, j < s_len.getD i 0 → Cond.eq (.elem (.field (lw_tm i) "java/lang/String" "value" "[B") (.int (Int32.ofNat j))) (.int ((s_byt.getD i []).getD j 0)) ∈ flatC (Jvm.Cond.and given_1 narrow_1) := by
  intro i hi j hj
  have h12 : i = 0 ∨ i = 1 ∨ i = 2 ∨ i = 3 ∨ i = 4 ∨ i = 5 ∨ i = 6 ∨ i = 7 ∨ i = 8 ∨ i = 9 ∨ i = 10 ∨ i = 11 := by omega
  rcases h12 with rfl | rfl | rfl | rfl | rfl | rfl | rfl | rfl | rfl | rfl | rfl | rfl
  · exact lw_fm (lw_g5_0 j hj)
  · exact lw_fm (lw_g5_1 j hj)
  · exact lw_fm (lw_g5_2 j hj)
  · exact lw_fm (lw_g5_3 j hj)
  · exact lw_fm (lw_g5_4 j hj)
  · exact lw_fm (lw_g5_5 j hj)
  · exact lw_fm (lw_g5_6 j hj)
  · exact lw_fm (lw_g5_7 j hj)
  · exact lw_fm (lw_g5_8 j hj)
  · exact lw_fm (lw_g5_9 j hj)
  · exact lw_fm (lw_g5_10 j hj)
  · have hj : j < 125 := hj
    by_cases c0 : j < 25
    · obtain ⟨d, rfl⟩ : ∃ d, j = 0 + d := ⟨j - 0, by omega⟩
      exact lw_fm (lw_g5_11_0 d (by omega))
    by_cases c1 : j < 50
    · obtain ⟨d, rfl⟩ : ∃ d, j = 25 + d := ⟨j - 25, by omega⟩
      exact lw_fm (lw_g5_11_1 d (by omega))
    by_cases c2 : j < 75
    · obtain ⟨d, rfl⟩ : ∃ d, j = 50 + d := ⟨j - 50, by omega⟩
      exact lw_fm (lw_g5_11_2 d (by omega))
    by_cases c3 : j < 100
    · obtain ⟨d, rfl⟩ : ∃ d, j = 75 + d := ⟨j - 75, by omega⟩
      exact lw_fm (lw_g5_11_3 d (by omega))
    obtain ⟨d, rfl⟩ : ∃ d, j = 100 + d := ⟨j - 100, by omega⟩
    exact lw_fm (lw_g5_11_4 d (by omega))
theorem lw_g6_0 : ∀ j : Nat, j < 12 → 0 ≠ j → (lw_fa (Jvm.Cond.and given_1 narrow_1) [])[([0, 169, 177, 186, 197, 210, 222, 236, 254, 268, 282, 160] : List Nat).getD j 0]? = some (Cond.not (Cond.eq (lw_tm 0) (lw_tm j))) ∨ (lw_fa (Jvm.Cond.and given_1 narrow_1) [])[([0, 169, 177, 186, 197, 210, 222, 236, 254, 268, 282, 160] : List Nat).getD j 0]? = some (Cond.not (Cond.eq (lw_tm j) (lw_tm 0))) := by decide +kernel
theorem lw_g6_1 : ∀ j : Nat, j < 12 → 1 ≠ j → (lw_fa (Jvm.Cond.and given_1 narrow_1) [])[([169, 0, 178, 187, 198, 211, 223, 237, 255, 269, 283, 168] : List Nat).getD j 0]? = some (Cond.not (Cond.eq (lw_tm 1) (lw_tm j))) ∨ (lw_fa (Jvm.Cond.and given_1 narrow_1) [])[([169, 0, 178, 187, 198, 211, 223, 237, 255, 269, 283, 168] : List Nat).getD j 0]? = some (Cond.not (Cond.eq (lw_tm j) (lw_tm 1))) := by decide +kernel
theorem lw_g6_2 : ∀ j : Nat, j < 12 → 2 ≠ j → (lw_fa (Jvm.Cond.and given_1 narrow_1) [])[([177, 178, 0, 188, 199, 212, 224, 238, 256, 270, 284, 176] : List Nat).getD j 0]? = some (Cond.not (Cond.eq (lw_tm 2) (lw_tm j))) ∨ (lw_fa (Jvm.Cond.and given_1 narrow_1) [])[([177, 178, 0, 188, 199, 212, 224, 238, 256, 270, 284, 176] : List Nat).getD j 0]? = some (Cond.not (Cond.eq (lw_tm j) (lw_tm 2))) := by decide +kernel
theorem lw_g6_3 : ∀ j : Nat, j < 12 → 3 ≠ j → (lw_fa (Jvm.Cond.and given_1 narrow_1) [])[([186, 187, 188, 0, 200, 213, 225, 239, 257, 271, 285, 185] : List Nat).getD j 0]? = some (Cond.not (Cond.eq (lw_tm 3) (lw_tm j))) ∨ (lw_fa (Jvm.Cond.and given_1 narrow_1) [])[([186, 187, 188, 0, 200, 213, 225, 239, 257, 271, 285, 185] : List Nat).getD j 0]? = some (Cond.not (Cond.eq (lw_tm j) (lw_tm 3))) := by decide +kernel
theorem lw_g6_4 : ∀ j : Nat, j < 12 → 4 ≠ j → (lw_fa (Jvm.Cond.and given_1 narrow_1) [])[([197, 198, 199, 200, 0, 214, 226, 240, 258, 272, 286, 196] : List Nat).getD j 0]? = some (Cond.not (Cond.eq (lw_tm 4) (lw_tm j))) ∨ (lw_fa (Jvm.Cond.and given_1 narrow_1) [])[([197, 198, 199, 200, 0, 214, 226, 240, 258, 272, 286, 196] : List Nat).getD j 0]? = some (Cond.not (Cond.eq (lw_tm j) (lw_tm 4))) := by decide +kernel
theorem lw_g6_5 : ∀ j : Nat, j < 12 → 5 ≠ j → (lw_fa (Jvm.Cond.and given_1 narrow_1) [])[([210, 211, 212, 213, 214, 0, 227, 241, 259, 273, 287, 209] : List Nat).getD j 0]? = some (Cond.not (Cond.eq (lw_tm 5) (lw_tm j))) ∨ (lw_fa (Jvm.Cond.and given_1 narrow_1) [])[([210, 211, 212, 213, 214, 0, 227, 241, 259, 273, 287, 209] : List Nat).getD j 0]? = some (Cond.not (Cond.eq (lw_tm j) (lw_tm 5))) := by decide +kernel
theorem lw_g6_6 : ∀ j : Nat, j < 12 → 6 ≠ j → (lw_fa (Jvm.Cond.and given_1 narrow_1) [])[([222, 223, 224, 225, 226, 227, 0, 242, 260, 274, 288, 221] : List Nat).getD j 0]? = some (Cond.not (Cond.eq (lw_tm 6) (lw_tm j))) ∨ (lw_fa (Jvm.Cond.and given_1 narrow_1) [])[([222, 223, 224, 225, 226, 227, 0, 242, 260, 274, 288, 221] : List Nat).getD j 0]? = some (Cond.not (Cond.eq (lw_tm j) (lw_tm 6))) := by decide +kernel
theorem lw_g6_7 : ∀ j : Nat, j < 12 → 7 ≠ j → (lw_fa (Jvm.Cond.and given_1 narrow_1) [])[([236, 237, 238, 239, 240, 241, 242, 0, 261, 275, 289, 235] : List Nat).getD j 0]? = some (Cond.not (Cond.eq (lw_tm 7) (lw_tm j))) ∨ (lw_fa (Jvm.Cond.and given_1 narrow_1) [])[([236, 237, 238, 239, 240, 241, 242, 0, 261, 275, 289, 235] : List Nat).getD j 0]? = some (Cond.not (Cond.eq (lw_tm j) (lw_tm 7))) := by decide +kernel
theorem lw_g6_8 : ∀ j : Nat, j < 12 → 8 ≠ j → (lw_fa (Jvm.Cond.and given_1 narrow_1) [])[([254, 255, 256, 257, 258, 259, 260, 261, 0, 276, 290, 253] : List Nat).getD j 0]? = some (Cond.not (Cond.eq (lw_tm 8) (lw_tm j))) ∨ (lw_fa (Jvm.Cond.and given_1 narrow_1) [])[([254, 255, 256, 257, 258, 259, 260, 261, 0, 276, 290, 253] : List Nat).getD j 0]? = some (Cond.not (Cond.eq (lw_tm j) (lw_tm 8))) := by decide +kernel
theorem lw_g6_9 : ∀ j : Nat, j < 12 → 9 ≠ j → (lw_fa (Jvm.Cond.and given_1 narrow_1) [])[([268, 269, 270, 271, 272, 273, 274, 275, 276, 0, 291, 267] : List Nat).getD j 0]? = some (Cond.not (Cond.eq (lw_tm 9) (lw_tm j))) ∨ (lw_fa (Jvm.Cond.and given_1 narrow_1) [])[([268, 269, 270, 271, 272, 273, 274, 275, 276, 0, 291, 267] : List Nat).getD j 0]? = some (Cond.not (Cond.eq (lw_tm j) (lw_tm 9))) := by decide +kernel
theorem lw_g6_10 : ∀ j : Nat, j < 12 → 10 ≠ j → (lw_fa (Jvm.Cond.and given_1 narrow_1) [])[([282, 283, 284, 285, 286, 287, 288, 289, 290, 291, 0, 281] : List Nat).getD j 0]? = some (Cond.not (Cond.eq (lw_tm 10) (lw_tm j))) ∨ (lw_fa (Jvm.Cond.and given_1 narrow_1) [])[([282, 283, 284, 285, 286, 287, 288, 289, 290, 291, 0, 281] : List Nat).getD j 0]? = some (Cond.not (Cond.eq (lw_tm j) (lw_tm 10))) := by decide +kernel
theorem lw_g6_11 : ∀ j : Nat, j < 12 → 11 ≠ j → (lw_fa (Jvm.Cond.and given_1 narrow_1) [])[([160, 168, 176, 185, 196, 209, 221, 235, 253, 267, 281, 0] : List Nat).getD j 0]? = some (Cond.not (Cond.eq (lw_tm 11) (lw_tm j))) ∨ (lw_fa (Jvm.Cond.and given_1 narrow_1) [])[([160, 168, 176, 185, 196, 209, 221, 235, 253, 267, 281, 0] : List Nat).getD j 0]? = some (Cond.not (Cond.eq (lw_tm j) (lw_tm 11))) := by decide +kernel
theorem lw_f6 : ∀ i : Nat, i < 12 → ∀ j : Nat, j < 12 → i ≠ j → Cond.not (Cond.eq (lw_tm i) (lw_tm j)) ∈ flatC (Jvm.Cond.and given_1 narrow_1) ∨ Cond.not (Cond.eq (lw_tm j) (lw_tm i)) ∈ flatC (Jvm.Cond.and given_1 narrow_1) := by
  intro i hi j hj hn
  have h12 : i = 0 ∨ i = 1 ∨ i = 2 ∨ i = 3 ∨ i = 4 ∨ i = 5 ∨ i = 6 ∨ i = 7 ∨ i = 8 ∨ i = 9 ∨ i = 10 ∨ i = 11 := by omega
  rcases h12 with rfl | rfl | rfl | rfl | rfl | rfl | rfl | rfl | rfl | rfl | rfl | rfl
  · exact (lw_g6_0 j hj hn).imp lw_fm lw_fm
  · exact (lw_g6_1 j hj hn).imp lw_fm lw_fm
  · exact (lw_g6_2 j hj hn).imp lw_fm lw_fm
  · exact (lw_g6_3 j hj hn).imp lw_fm lw_fm
  · exact (lw_g6_4 j hj hn).imp lw_fm lw_fm
  · exact (lw_g6_5 j hj hn).imp lw_fm lw_fm
  · exact (lw_g6_6 j hj hn).imp lw_fm lw_fm
  · exact (lw_g6_7 j hj hn).imp lw_fm lw_fm
  · exact (lw_g6_8 j hj hn).imp lw_fm lw_fm
  · exact (lw_g6_9 j hj hn).imp lw_fm lw_fm
  · exact (lw_g6_10 j hj hn).imp lw_fm lw_fm
  · exact (lw_g6_11 j hj hn).imp lw_fm lw_fm
theorem lw_f7 : ∀ i : Nat, i < 12 → s_len.getD i 0 < 2 ^ 31 := by decide +kernel
theorem lw_f8 : ∀ i : Nat, i < 12 → Cond.stringRef RX3 (s_ix.getD i 0) (s_tx.getD i "") ∈ tables_1 := by decide +kernel
theorem lw_f9 : Cond.eq (.static "java/lang/String" "COMPACT_STRINGS" "Z") (.int 1) ∈ flatC (Jvm.Cond.and given_1 narrow_1) ∧ Cond.isRef (.static "jdk/internal/util/Preconditions" "SIOOBE_FORMATTER" "Ljava/util/function/BiFunction;") ∈ flatC (Jvm.Cond.and given_1 narrow_1) := by decide +kernel
theorem lw_f10 : (Cond.laysStatic "java/lang/String" "COMPACT_STRINGS" "Z" ∈ tables_1 ∧ Cond.initialized "java/lang/String" ∈ tables_1) ∧ Cond.laysStatic "jdk/internal/util/Preconditions" "SIOOBE_FORMATTER" "Ljava/util/function/BiFunction;" ∈ tables_1 ∧ Cond.initialized "jdk/internal/util/Preconditions" ∈ tables_1 := by decide +kernel
theorem lw_Z0 {b : Nat} {s : State} (hts0 : ∀ w ∈ lw_tbl, w.before #[Value.ref b] s = true) (hgv : (Jvm.Cond.and given_1 narrow_1).before #[Value.ref b] s = true) : ∃ (adK adV : Nat → Nat) (tf : Option Nat), ∀ L : List Nat, (∀ q, q ∈ L → s.heap.size ≤ q) → s_Z L adK adV tf s := by
  have hs := flat_of_before _ hgv
  have ht : ∀ w ∈ tables_1, w.before #[Value.ref b] s = true := fun w h => hts0 w (List.mem_append_right _ h)
  have hA : ∀ a : Nat, a < s.heap.size → ¬ (fun q : Nat => s.heap.size ≤ q) a := fun a h => Nat.not_le.mpr h
  obtain ⟨adK, adV, hZ, hR⟩ := vk_Sof (tm := lw_tm) (len := s_len) (byt := s_byt) (N := 12) (A := fun q : Nat => s.heap.size ≤ q) lw_f7 (fun i hi => hs _ (lw_f1 i hi)) (fun i hi => hs _ (lw_f2 i hi)) (fun i hi => hs _ (lw_f3 i hi)) (fun i hi => hs _ (lw_f4 i hi)) (fun i hi j hj => hs _ (lw_f5 i hi j hj)) (fun i j hi hj e => (lw_f6 i hi j hj e).imp (fun h => hs _ h) (fun h => hs _ h)) hA
  have z1 := va_Zof (ht _ lw_f10.1.1) (ht _ lw_f10.1.2) (va_eqt (hs _ lw_f9.1)) hA
  have z2 : ∃ tf : Option Nat, va_Z "jdk/internal/util/Preconditions" "SIOOBE_FORMATTER" "Ljava/util/function/BiFunction;" (va_rf tf) (fun q : Nat => s.heap.size ≤ q) s s.heap := by
    rcases va_Zqof (ht _ lw_f10.2.1) (ht _ lw_f10.2.2) (hs _ lw_f9.2) hA with h | ⟨t, h⟩
    · exact ⟨none, h⟩
    · exact ⟨some t, h⟩
  obtain ⟨tf, z2⟩ := z2
  exact ⟨adK, adV, tf, fun L hL => ⟨z1.narrow hL, z2.narrow hL, hZ.narrow hL, fun i hi => vk_R.of (ht _ (lw_f8 i hi)) (hR i hi)⟩⟩
