/-! long numbers -/
theorem th_i64 (x : Int32) : x.toInt64.toInt = x.toInt := Int32.toInt_toInt64 x
theorem th_l32 {x : Int64} (h : -2147483648 ≤ x.toInt ∧ x.toInt < 2147483648) : x.toInt32.toInt = x.toInt := by
  rw [Int64.toInt_toInt32]
  exact Int.bmod_eq_of_le (by omega) (by omega)
theorem th_loL (x : Int64) : -9223372036854775808 ≤ x.toInt := Int64.le_toInt x
theorem th_hiL (x : Int64) : x.toInt < 9223372036854775808 := Int64.toInt_lt x
theorem th_remTL {x y : Int64} (hy : 0 < y.toInt) : (x - x / y * y).toInt = x.toInt.tmod y.toInt := by
  have lo := th_loL x
  have hi := th_hiL x
  have d := th_tdiv (a := x.toInt) hy
  have t := th_tmod (a := x.toInt) hy
  have e := Int.tmod_def x.toInt y.toInt
  have p1 : 0 ≤ x.toInt → 0 ≤ y.toInt * x.toInt.tdiv y.toInt := fun h => Int.mul_nonneg (by omega) (d.1 h).1
  have p2 : x.toInt < 0 → y.toInt * x.toInt.tdiv y.toInt ≤ 0 := fun h => by
    have q := Int.mul_nonneg (a := y.toInt) (b := -(x.toInt.tdiv y.toInt)) (by omega) (by have := (d.2 h).2; omega)
    rw [Int.mul_neg] at q
    omega
  have hq : (x / y).toInt = x.toInt.tdiv y.toInt := by
    rw [Int64.toInt_div, Int.bmod_eq_of_le (by omega) (by omega)]
  have hm : (x / y * y).toInt = x.toInt.tdiv y.toInt * y.toInt := by
    rw [Int64.toInt_mul, hq, Int.mul_comm, Int.bmod_eq_of_le (by omega) (by omega)]
  rw [Int64.toInt_sub, hm, Int.mul_comm, Int.bmod_eq_of_le (by omega) (by omega)]
  omega
theorem th_divL {x y : Int64} (hx : 0 ≤ x.toInt) (hy : 0 < y.toInt) : 0 ≤ (x / y).toInt ∧ (x / y).toInt ≤ x.toInt := by
  have hi := th_hiL x
  have d := (th_tdiv (a := x.toInt) hy).1 hx
  rw [Int64.toInt_div, Int.bmod_eq_of_le (by omega) (by omega)]
  exact d
theorem th_nzL {x : Int32} (h : 1 ≤ x.toInt) : ¬ x.toInt64 = 0 := fun q => by
  have q2 := congrArg Int64.toInt q
  rw [th_i64] at q2
  have q3 : (0 : Int64).toInt = 0 := by decide
  omega
theorem th_andL (d : Int64) : 0 ≤ (d &&& 2147483647).toInt ∧ (d &&& 2147483647).toInt < 2147483648 := by
  have h1 : (d &&& 2147483647).toBitVec.toNat ≤ 2147483647 := by
    rw [Int64.toBitVec_and, BitVec.toNat_and]
    exact Nat.and_le_right
  have h2 : (d &&& 2147483647).toInt = ((d &&& 2147483647).toBitVec.toNat : Int) := BitVec.toInt_eq_toNat_of_lt (by omega)
  omega
theorem th_draw {d : Int64} {x : Int32} (hx : 1 ≤ x.toInt) : 0 ≤ ((d &&& 2147483647) / 64 - (d &&& 2147483647) / 64 / x.toInt64 * x.toInt64).toInt32.toInt ∧ ((d &&& 2147483647) / 64 - (d &&& 2147483647) / 64 / x.toInt64 * x.toInt64).toInt32.toInt < x.toInt := by
  have a := th_andL d
  have b := th_divL (y := 64) a.1 (by decide)
  have c := th_i64 x
  have e := th_remTL (x := (d &&& 2147483647) / 64) (y := x.toInt64) (by omega)
  have t := (th_tmod (a := ((d &&& 2147483647) / 64).toInt) (b := x.toInt64.toInt) (by omega)).1 b.1
  have hi := th_hi x
  rw [th_l32 (by omega), e]
  omega

