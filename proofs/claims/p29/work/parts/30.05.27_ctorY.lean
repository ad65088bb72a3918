/-! the reference's constructor -/
theorem n_u2 {β : Type} {F : Nat → β} {a : Nat} {x y : β} : va_up (va_up F a x) a y = va_up F a y := by
  funext b
  unfold va_up
  split <;> rfl
section NC
variable {p : Program} {l : Launch} {e : Env} {R : Room} {s : State} {m : MethodId} {args : Array Value} {below : List Frame} {meth : Method} {c : Code} {H : Heap} {locs : List Loc} {cells slots : Nat} {Q : State → Prop}
variable {cc : ByteArray} {pc : Nat} {ls : Array Slot} {rest : List Value} {D : va_G} {cl : List vw_C} {A : Nat → Prop} {a : Nat} {tys : List (ClassId × FieldType)} {H0 : Heap} {L : List Nat} {F : Nat → va_E}
/-- letters are laid into a new row: which, doesn't matter -/
theorem n_cast (hexec : p.tables.exec = Jvm.exec) (hb : c.code = cc) (hK : va_K D cl tys s) {n : Nat} {cA : ClassId} {f : Nat → Int32} (hP : va_P D cl (va_pl L (va_up F a (.inl (cA, n, .inl f)))) H) (hD : ∀ G, va_D A (va_pl L G)) (hS : va_S A H0 H locs) (ha : a ∈ L) (t0 : Nat) (ht : tys[t0]? = some (cA, .char)) {i : Int32} {x : Int32} (hin : vp_in i n) (hdg : decode cc pc = .ok (.castore, 1)) (kk : ∀ (H1 : Heap) (locs1 : List Loc) (f1 : Nat → Int32), va_P D cl (va_pl L (va_up F a (.inl (cA, n, .inl f1)))) H1 → va_S A H0 H1 locs1 → W p l e R s m args below meth c H1 locs1 cells slots Q (F0 m (pc + 1) ls rest)) : W p l e R s m args below meth c H locs cells slots Q (F0 m pc ls (.int x :: .int i :: .ref a :: rest)) := by
  obtain ⟨q0, hq⟩ := th_at (F := va_up F a (.inl (cA, n, .inl f))) ha
  have hq2 := hq
  rw [th_up] at hq
  refine va_cast hexec hb hK hP (hD _) hS q0 t0 hq ht hin hdg (fun H1 locs1 h1 _ h3 => kk H1 locs1 (upd f i.toNatClampNeg (vp_nar .char x)) ?_ h3)
  rw [th_set (hD _) ha hq2, n_u2] at h1
  exact h1
end NC
theorem n_yi {i : Nat} (h : y_n i ≠ 0) : i = 0 ∨ i = 9 ∨ i = 10 ∨ i = 12 ∨ i = 13 ∨ i = 14 ∨ i = 17 ∨ i = 18 ∨ i = 20 ∨ i = 21 ∨ i = 22 ∨ i = 23 ∨ i = 24 ∨ i = 28 ∨ i = 29 ∨ i = 30 := by
  unfold y_n at h
  split at h
  all_goals first | exact absurd rfl h | simp
