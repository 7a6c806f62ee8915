/-! NUMBERS: Int32 and Int64 by their integers -/
theorem i_nle {a b : Int32} (h : ¬ a ≤ b) : b.toInt < a.toInt := Int.not_le.mp (fun q => h (Int32.le_iff_toInt_le.mpr q))
theorem i_nlt {a b : Int32} (h : ¬ a < b) : b.toInt ≤ a.toInt := Int.not_lt.mp (fun q => h (Int32.lt_iff_toInt_lt.mpr q))
theorem i_le {a b : Int32} (h : a ≤ b) : a.toInt ≤ b.toInt := Int32.le_iff_toInt_le.mp h
theorem i_lt {a b : Int32} (h : a < b) : a.toInt < b.toInt := Int32.lt_iff_toInt_lt.mp h
theorem l_nle {a b : Int64} (h : ¬ a ≤ b) : b.toInt < a.toInt := Int.not_le.mp (fun q => h (Int64.le_iff_toInt_le.mpr q))
theorem l_nlt {a b : Int64} (h : ¬ a < b) : b.toInt ≤ a.toInt := Int.not_lt.mp (fun q => h (Int64.lt_iff_toInt_lt.mpr q))
theorem l_le {a b : Int64} (h : a ≤ b) : a.toInt ≤ b.toInt := Int64.le_iff_toInt_le.mp h
theorem l_lt {a b : Int64} (h : a < b) : a.toInt < b.toInt := Int64.lt_iff_toInt_lt.mp h
theorem i_add {a b : Int32} (h1 : -2147483648 ≤ a.toInt + b.toInt) (h2 : a.toInt + b.toInt < 2147483648) : (a + b).toInt = a.toInt + b.toInt := by
  rw [Int32.toInt_add]; exact Int.bmod_eq_of_le (by omega) (by omega)
theorem i_sub {a b : Int32} (h1 : -2147483648 ≤ a.toInt - b.toInt) (h2 : a.toInt - b.toInt < 2147483648) : (a - b).toInt = a.toInt - b.toInt := by
  rw [Int32.toInt_sub]; exact Int.bmod_eq_of_le (by omega) (by omega)
theorem i_mul {a b : Int32} (h1 : -2147483648 ≤ a.toInt * b.toInt) (h2 : a.toInt * b.toInt < 2147483648) : (a * b).toInt = a.toInt * b.toInt := by
  rw [Int32.toInt_mul]; exact Int.bmod_eq_of_le (by omega) (by omega)
theorem i_neg {a : Int32} (h1 : -2147483648 < a.toInt) : (-a).toInt = -a.toInt := by
  have := a.toInt_lt
  rw [Int32.toInt_neg]; exact Int.bmod_eq_of_le (by omega) (by omega)
theorem l_add {a b : Int64} (h1 : -9223372036854775808 ≤ a.toInt + b.toInt) (h2 : a.toInt + b.toInt < 9223372036854775808) : (a + b).toInt = a.toInt + b.toInt := by
  rw [Int64.toInt_add]; exact Int.bmod_eq_of_le (by omega) (by omega)
theorem l_sub {a b : Int64} (h1 : -9223372036854775808 ≤ a.toInt - b.toInt) (h2 : a.toInt - b.toInt < 9223372036854775808) : (a - b).toInt = a.toInt - b.toInt := by
  rw [Int64.toInt_sub]; exact Int.bmod_eq_of_le (by omega) (by omega)
theorem l_mul {a b : Int64} (h1 : -9223372036854775808 ≤ a.toInt * b.toInt) (h2 : a.toInt * b.toInt < 9223372036854775808) : (a * b).toInt = a.toInt * b.toInt := by
  rw [Int64.toInt_mul]; exact Int.bmod_eq_of_le (by omega) (by omega)
theorem l_neg {a : Int64} (h1 : -9223372036854775808 < a.toInt) : (-a).toInt = -a.toInt := by
  have := a.toInt_lt
  rw [Int64.toInt_neg]; exact Int.bmod_eq_of_le (by omega) (by omega)
theorem i_rng (a : Int32) : -2147483648 ≤ a.toInt ∧ a.toInt < 2147483648 := ⟨a.le_toInt, a.toInt_lt⟩
theorem l_rng (a : Int64) : -9223372036854775808 ≤ a.toInt ∧ a.toInt < 9223372036854775808 := ⟨a.le_toInt, a.toInt_lt⟩
theorem i_bv (y : Int32) : y.toInt = if 2 * y.toBitVec.toNat < 4294967296 then (y.toBitVec.toNat : Int) else (y.toBitVec.toNat : Int) - 4294967296 := BitVec.toInt_eq_toNat_cond y.toBitVec
theorem l_bv (y : Int64) : y.toInt = if 2 * y.toBitVec.toNat < 18446744073709551616 then (y.toBitVec.toNat : Int) else (y.toBitVec.toNat : Int) - 18446744073709551616 := BitVec.toInt_eq_toNat_cond y.toBitVec
theorem i_m15 (x : Int32) : (x &&& 32767).toInt = x.toInt % 32768 := by
  have h1 : (x &&& 32767).toBitVec.toNat = x.toBitVec.toNat % 32768 := by
    rw [Int32.toBitVec_and, BitVec.toNat_and]; exact Nat.and_two_pow_sub_one_eq_mod _ 15
  have h2 := x.toBitVec.isLt
  rw [i_bv, i_bv x, h1]
  split <;> split <;> omega
theorem l_m16 (x : Int64) : (x &&& 65535).toInt = x.toInt % 65536 := by
  have h1 : (x &&& 65535).toBitVec.toNat = x.toBitVec.toNat % 65536 := by
    rw [Int64.toBitVec_and, BitVec.toNat_and]; exact Nat.and_two_pow_sub_one_eq_mod _ 16
  have h2 := x.toBitVec.isLt
  rw [l_bv, l_bv x, h1]
  split <;> split <;> omega
/-- b * (32768 - b) lies within 0 .. 2^28 -/
theorem z_q {b : Int} (h1 : 0 ≤ b) (h2 : b ≤ 32768) : 0 ≤ b * (32768 - b) ∧ b * (32768 - b) ≤ 268435456 := by
  constructor
  · exact Int.mul_nonneg h1 (by omega)
  · have h : 0 ≤ (b - 16384) * (b - 16384) := by
      rcases Int.le_total 0 (b - 16384) with h | h
      · exact Int.mul_nonneg h h
      · have := Int.mul_nonneg (show 0 ≤ -(b - 16384) by omega) (show 0 ≤ -(b - 16384) by omega)
        rwa [Int.neg_mul_neg] at this
    have e1 : (b - 16384) * (b - 16384) = b * b - 32768 * b + 268435456 := by
      rw [Int.sub_mul, Int.mul_sub, Int.mul_sub]; omega
    have e2 : b * (32768 - b) = 32768 * b - b * b := by rw [Int.mul_sub]; omega
    omega
theorem l_q {v : Int64} (h1 : 0 ≤ v.toInt) (h2 : v.toInt ≤ 32768) : (v * (32768 - v)).toInt = v.toInt * (32768 - v.toInt) ∧ 0 ≤ v.toInt * (32768 - v.toInt) ∧ v.toInt * (32768 - v.toInt) ≤ 268435456 := by
  have e : (32768 - v).toInt = 32768 - v.toInt := by
    have := l_sub (a := 32768) (b := v) (by show _ ≤ (32768 : Int) - _; omega) (by show (32768 : Int) - _ < _; omega)
    exact this
  have q := z_q h1 h2
  exact ⟨by rw [l_mul (by rw [e]; omega) (by rw [e]; omega), e], q⟩
theorem sm_ne {v x : Int64} (h1 : 0 ≤ v.toInt) (h2 : v.toInt ≤ 32768) (h : x = v * (32768 - v)) : ¬ (1342177280 - x : Int64) = 0 := by
  intro hz
  have q := l_q h1 h2
  rw [← h] at q
  have e := l_sub (a := 1342177280) (b := x) (by show _ ≤ (1342177280 : Int) - _; omega) (by show (1342177280 : Int) - _ < _; omega)
  rw [hz] at e
  have e2 : (0 : Int) = 1342177280 - x.toInt := e
  omega
theorem sn_ne {p x5 : Int32} {x15 : Int64} (h5 : x5 = p &&& 32767) (h15 : x15 = x5.toInt64 * (32768 - x5).toInt64) : ¬ (1342177280 - x15 : Int64) = 0 := by
  have h := i_m15 p
  rw [← h5] at h
  have e : (32768 - x5).toInt64 = 32768 - x5.toInt64 := by
    apply Int64.toInt_inj.mp
    rw [Int32.toInt_toInt64]
    have a := i_sub (a := 32768) (b := x5) (by show _ ≤ (32768 : Int) - _; omega) (by show (32768 : Int) - _ < _; omega)
    have b := l_sub (a := 32768) (b := x5.toInt64) (by rw [Int32.toInt_toInt64]; show _ ≤ (32768 : Int) - _; omega) (by rw [Int32.toInt_toInt64]; show (32768 : Int) - _ < _; omega)
    rw [a, b, Int32.toInt_toInt64]; rfl
  rw [e] at h15
  exact sm_ne (by rw [Int32.toInt_toInt64]; omega) (by rw [Int32.toInt_toInt64]; omega) h15
theorem sm_ne1 {p x5 x35 x46 : Int64} (h5 : x5 = p &&& 65535) (c : ¬ x5 < 32768) (h35 : x35 = x5 - 32768) (h : x46 = x35 * (32768 - x35)) : ¬ (1342177280 - x46 : Int64) = 0 := by
  have a := l_m16 p
  rw [← h5] at a
  have c' : (32768 : Int) ≤ x5.toInt := by
    exact l_nlt c
  have b := l_sub (a := x5) (b := 32768) (by show _ ≤ _ - (32768 : Int); omega) (by show _ - (32768 : Int) < _; omega)
  rw [← h35] at b
  have b2 : x35.toInt = x5.toInt - 32768 := b
  exact sm_ne (by omega) (by omega) h
theorem sm_ne2 {p x5 x46 : Int64} (h5 : x5 = p &&& 65535) (c : x5 < 32768) (h : x46 = x5 * (32768 - x5)) : ¬ (1342177280 - x46 : Int64) = 0 := by
  have a := l_m16 p
  rw [← h5] at a
  have c' := Int64.lt_iff_toInt_lt.mp c
  have e : (32768 : Int64).toInt = 32768 := by decide
  rw [e] at c'
  exact sm_ne (by omega) (by omega) h
theorem l_div {a b : Int64} (h1 : 0 ≤ a.toInt) (h2 : 0 < b.toInt) : (a / b).toInt = a.toInt / b.toInt := by
  have hr := l_rng a
  rw [Int64.toInt_div, Int.tdiv_eq_ediv_of_nonneg h1]
  have g1 : 0 ≤ a.toInt / b.toInt := Int.ediv_nonneg h1 (by omega)
  have g2 : a.toInt / b.toInt ≤ a.toInt := Int.ediv_le_self _ h1
  exact Int.bmod_eq_of_le (by omega) (by omega)
theorem i_div {a b : Int32} (h1 : 0 ≤ a.toInt) (h2 : 0 < b.toInt) : (a / b).toInt = a.toInt / b.toInt := by
  have hr := i_rng a
  rw [Int32.toInt_div, Int.tdiv_eq_ediv_of_nonneg h1]
  have g1 : 0 ≤ a.toInt / b.toInt := Int.ediv_nonneg h1 (by omega)
  have g2 : a.toInt / b.toInt ≤ a.toInt := Int.ediv_le_self _ h1
  exact Int.bmod_eq_of_le (by omega) (by omega)
theorem ht_step {v x : Int64} {n : Nat} (hi : 0 ≤ v.toInt ∧ 4 * v.toInt < 2 ^ (n + 1) ∧ 0 < n + 1) (c : ¬ v ≤ 0) (h : x = v / 2) : 0 ≤ x.toInt ∧ 4 * x.toInt < 2 ^ n ∧ 0 < n := by
  obtain ⟨h1, h2, -⟩ := hi
  have c' : 0 < v.toInt := by
    exact l_nle c
  have e2 : (2 : Int64).toInt = 2 := by decide
  have e := l_div (a := v) (b := 2) h1 (by rw [e2]; decide)
  rw [← h, e2] at e
  rw [Int.pow_succ] at h2
  refine ⟨by omega, by omega, ?_⟩
  cases n with
  | zero => simp at h2; omega
  | succ n => omega
