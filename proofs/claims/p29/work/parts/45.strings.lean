def lw_tm (i : Nat) : Term := .string RX3 (s_ix.getD i 0)
theorem lw_f1 : ∀ i : Nat, i < 12 → Cond.exactly (lw_tm i) "java/lang/String" ∈ flatC (Jvm.Cond.and given_1 narrow_1) := by decide +kernel
theorem lw_f2 : ∀ i : Nat, i < 12 → Cond.eq (.field (lw_tm i) "java/lang/String" "coder" "B") (.int 0) ∈ flatC (Jvm.Cond.and given_1 narrow_1) := by decide +kernel
theorem lw_f3 : ∀ i : Nat, i < 12 → Cond.arrayOf (.field (lw_tm i) "java/lang/String" "value" "[B") .byte ∈ flatC (Jvm.Cond.and given_1 narrow_1) := by decide +kernel
theorem lw_f4 : ∀ i : Nat, i < 12 → Cond.eq (.length (.field (lw_tm i) "java/lang/String" "value" "[B")) (.int (Int32.ofNat (s_len.getD i 0))) ∈ flatC (Jvm.Cond.and given_1 narrow_1) := by decide +kernel
theorem lw_f5 : ∀ i : Nat, i < 12 → ∀ j : Nat, j < s_len.getD i 0 → Cond.eq (.elem (.field (lw_tm i) "java/lang/String" "value" "[B") (.int (Int32.ofNat j))) (.int ((s_byt.getD i []).getD j 0)) ∈ flatC (Jvm.Cond.and given_1 narrow_1) := by decide +kernel
theorem lw_f6 : ∀ i : Nat, i < 12 → ∀ j : Nat, j < 12 → i ≠ j → Cond.not (Cond.eq (lw_tm i) (lw_tm j)) ∈ flatC (Jvm.Cond.and given_1 narrow_1) ∨ Cond.not (Cond.eq (lw_tm j) (lw_tm i)) ∈ flatC (Jvm.Cond.and given_1 narrow_1) := by decide +kernel
theorem lw_f7 : ∀ i : Nat, i < 12 → s_len.getD i 0 < 2 ^ 31 := by decide +kernel
theorem lw_f8 : ∀ i : Nat, i < 12 → Cond.stringRef RX3 (s_ix.getD i 0) (s_tx.getD i "") ∈ tables_1 := by decide +kernel
theorem lw_f9 : Cond.eq (.static "java/lang/String" "COMPACT_STRINGS" "Z") (.int 1) ∈ flatC (Jvm.Cond.and given_1 narrow_1) ∧ Cond.isRef (.static "jdk/internal/util/Preconditions" "SIOOBE_FORMATTER" "Ljava/util/function/BiFunction;") ∈ flatC (Jvm.Cond.and given_1 narrow_1) := by decide +kernel
theorem lw_f10 : (Cond.laysStatic "java/lang/String" "COMPACT_STRINGS" "Z" ∈ tables_1 ∧ Cond.initialized "java/lang/String" ∈ tables_1) ∧ Cond.laysStatic "jdk/internal/util/Preconditions" "SIOOBE_FORMATTER" "Ljava/util/function/BiFunction;" ∈ tables_1 ∧ Cond.initialized "jdk/internal/util/Preconditions" ∈ tables_1 := by decide +kernel
theorem lw_Z0 {b : Nat} {s : State} (hts0 : ∀ w ∈ lw_tbl, w.before #[Value.ref b] s = true) (hgv : (Jvm.Cond.and given_1 narrow_1).before #[Value.ref b] s = true) : ∃ (adK adV : Nat → Nat) (tf : Option Nat), ∀ L : List Nat, (∀ q, q ∈ L → s.heap.size ≤ q) → s_Z L adK adV tf s := by
  have hs := flat_of_before _ hgv
  have ht : ∀ w ∈ tables_1, w.before #[Value.ref b] s = true := fun w h => hts0 w (List.mem_append_right _ h)
  have hA : ∀ a : Nat, a < s.heap.size → ¬ (fun q : Nat => s.heap.size ≤ q) a := fun a h => Nat.not_le.mpr h
  obtain ⟨adK, adV, hZ, hR⟩ := vk_Sof (tm := lw_tm) (len := s_len) (byt := s_byt) (N := 12) (A := fun q : Nat => s.heap.size ≤ q) lw_f7 (fun i hi => hs _ (lw_f1 i hi)) (fun i hi => hs _ (lw_f2 i hi)) (fun i hi => hs _ (lw_f3 i hi)) (fun i hi => hs _ (lw_f4 i hi)) (fun i hi j hj => hs _ (lw_f5 i hi j hj)) (fun i j hi hj e => (lw_f6 i hi j hj e).imp (fun h => hs _ h) (fun h => hs _ h)) hA
  have z1 := va_Zof (ht _ lw_f10.1.1) (ht _ lw_f10.1.2) (va_eqt (hs _ lw_f9.1)) hA
  have z2 : ∃ tf : Option Nat, va_Z "jdk/internal/util/Preconditions" "SIOOBE_FORMATTER" "Ljava/util/function/BiFunction;" (va_rf tf) (fun q : Nat => s.heap.size ≤ q) s s.heap := by
    rcases va_Zqof (ht _ lw_f10.2.1) (ht _ lw_f10.2.2) (hs _ lw_f9.2) hA with h | ⟨t, h⟩
    · exact ⟨none, h⟩
    · exact ⟨some t, h⟩
  obtain ⟨tf, z2⟩ := z2
  exact ⟨adK, adV, tf, fun L hL => ⟨z1.narrow hL, z2.narrow hL, hZ.narrow hL, fun i hi => vk_R.of (ht _ (lw_f8 i hi)) (hR i hi)⟩⟩
