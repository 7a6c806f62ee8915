/-! PURE 1: the reference's numbers are the class's, made long -/
theorem x_inj {a b : Int64} (h : a.toInt = b.toInt) : a = b := Int64.toInt_inj.mp h
theorem y_inj {a b : Int32} (h : a.toInt = b.toInt) : a = b := Int32.toInt_inj.mp h
theorem t64 (a : Int32) : a.toInt64.toInt = a.toInt := Int32.toInt_toInt64 a
theorem t32 {a : Int64} (h1 : -2147483648 ≤ a.toInt) (h2 : a.toInt < 2147483648) : a.toInt32.toInt = a.toInt := by
  rw [Int64.toInt_toInt32]; exact Int.bmod_eq_of_le (by omega) (by omega)
theorem t3264 {a : Int64} (h1 : -2147483648 ≤ a.toInt) (h2 : a.toInt < 2147483648) : a.toInt32.toInt64 = a := x_inj (by rw [t64, t32 h1 h2])
theorem t6432 (a : Int32) : a.toInt64.toInt32 = a := by
  have r := i_rng a
  exact y_inj (by rw [t32 (by rw [t64]; omega) (by rw [t64]; omega), t64])
theorem a64 {a b : Int32} (h1 : -2147483648 ≤ a.toInt + b.toInt) (h2 : a.toInt + b.toInt < 2147483648) : (a + b).toInt64 = a.toInt64 + b.toInt64 := x_inj (by
  rw [t64, i_add h1 h2, l_add (by rw [t64, t64]; omega) (by rw [t64, t64]; omega), t64, t64])
theorem s64 {a b : Int32} (h1 : -2147483648 ≤ a.toInt - b.toInt) (h2 : a.toInt - b.toInt < 2147483648) : (a - b).toInt64 = a.toInt64 - b.toInt64 := x_inj (by
  rw [t64, i_sub h1 h2, l_sub (by rw [t64, t64]; omega) (by rw [t64, t64]; omega), t64, t64])
theorem m64 {a b : Int32} (h1 : -2147483648 ≤ a.toInt * b.toInt) (h2 : a.toInt * b.toInt < 2147483648) : (a * b).toInt64 = a.toInt64 * b.toInt64 := x_inj (by
  rw [t64, i_mul h1 h2, l_mul (by rw [t64, t64]; omega) (by rw [t64, t64]; omega), t64, t64])
theorem n64 {a : Int32} (h1 : -2147483648 < a.toInt) : (-a).toInt64 = -a.toInt64 := x_inj (by
  have r := i_rng a
  rw [t64, i_neg h1, l_neg (by rw [t64]; omega), t64])
theorem lt64 (a b : Int32) : a.toInt64 < b.toInt64 ↔ a < b := by rw [Int64.lt_iff_toInt_lt, Int32.lt_iff_toInt_lt, t64, t64]
theorem le64 (a b : Int32) : a.toInt64 ≤ b.toInt64 ↔ a ≤ b := by rw [Int64.le_iff_toInt_le, Int32.le_iff_toInt_le, t64, t64]
theorem eq64 (a b : Int32) : a.toInt64 = b.toInt64 ↔ a = b := ⟨fun h => y_inj (by rw [← t64, ← t64, h]), fun h => by rw [h]⟩
theorem l_0 : (0 : Int64).toInt = 0 := by decide
theorem l_1 : (1 : Int64).toInt = 1 := by decide
theorem i_0 : (0 : Int32).toInt = 0 := by decide
theorem i_one : (1 : Int32).toInt = 1 := by decide
/-- products within bounds -/
theorem z_mb {a b A B : Int} (h1 : -A ≤ a) (h2 : a ≤ A) (h3 : -B ≤ b) (h4 : b ≤ B) : -(A * B) ≤ a * b ∧ a * b ≤ A * B := by
  have g1 := Int.mul_nonneg (show 0 ≤ A - a by omega) (show 0 ≤ B + b by omega)
  have g2 := Int.mul_nonneg (show 0 ≤ A + a by omega) (show 0 ≤ B - b by omega)
  have g3 := Int.mul_nonneg (show 0 ≤ A - a by omega) (show 0 ≤ B - b by omega)
  have g4 := Int.mul_nonneg (show 0 ≤ A + a by omega) (show 0 ≤ B + b by omega)
  simp only [Int.sub_mul, Int.mul_sub, Int.add_mul, Int.mul_add] at g1 g2 g3 g4
  omega
/-! the sine -/
def sZ (b : Int) : Int := 65536 * (b * (32768 - b)) / (1342177280 - b * (32768 - b))
theorem sZ_b {b : Int} (h1 : 0 ≤ b) (h2 : b ≤ 32768) : 0 ≤ sZ b ∧ sZ b ≤ 16384 := by
  have q := z_q h1 h2
  unfold sZ
  generalize b * (32768 - b) = x at q ⊢
  constructor
  · exact Int.ediv_nonneg (by omega) (by omega)
  · have : 65536 * x / (1342177280 - x) < 16385 := Int.ediv_lt_of_lt_mul (by omega) (by omega)
    omega
theorem l_s {v : Int64} (h1 : 0 ≤ v.toInt) (h2 : v.toInt ≤ 32768) : ((65536 * (v * (32768 - v))) / (1342177280 - v * (32768 - v))).toInt = sZ v.toInt := by
  have q := l_q h1 h2
  have c1 : (65536 : Int64).toInt = 65536 := by decide
  have c2 : (1342177280 : Int64).toInt = 1342177280 := by decide
  generalize v * (32768 - v) = x at q ⊢
  obtain ⟨q1, q2, q3⟩ := q
  unfold sZ
  rw [← q1] at q2 q3 ⊢
  have e1 : (65536 * x).toInt = 65536 * x.toInt := by rw [l_mul (by rw [c1]; omega) (by rw [c1]; omega), c1]
  have e2 : (1342177280 - x).toInt = 1342177280 - x.toInt := by rw [l_sub (by rw [c2]; omega) (by rw [c2]; omega), c2]
  rw [l_div (by rw [e1]; omega) (by rw [e2]; omega), e1, e2]
theorem n_b15 (n : Nat) : n &&& 32768 = 0 ↔ n % 65536 < 32768 := by
  have key : n &&& 2 ^ 15 = 0 ↔ n.testBit 15 = false := by
    constructor
    · intro h
      have h1 : (n &&& 2 ^ 15).testBit 15 = false := by rw [h]; simp
      rw [Nat.testBit_and, show Nat.testBit (2 ^ 15) 15 = true by decide, Bool.and_true] at h1
      exact h1
    · intro h
      apply Nat.eq_of_testBit_eq
      intro i
      rw [Nat.testBit_and, Nat.testBit_two_pow]
      by_cases e : 15 = i
      · subst e; simp [h]
      · simp [e]
  have k2 : n.testBit 15 = false ↔ n % 65536 < 32768 := by
    rw [Nat.testBit_eq_decide_div_mod_eq]
    constructor
    · intro h
      have := of_decide_eq_false h
      omega
    · intro h
      exact decide_eq_false (by omega)
  exact key.trans k2
theorem i_b15 (p : Int32) : (p &&& 32768) = 0 ↔ p.toInt % 65536 < 32768 := by
  have h1 : (p &&& 32768).toBitVec.toNat = p.toBitVec.toNat &&& 32768 := by rw [Int32.toBitVec_and, BitVec.toNat_and]; rfl
  have h2 := p.toBitVec.isLt
  have h3 := n_b15 p.toBitVec.toNat
  have h4 : (p &&& 32768) = 0 ↔ (p &&& 32768).toBitVec.toNat = 0 := by
    constructor
    · intro h; rw [h]; rfl
    · intro h; exact Int32.toBitVec_inj.mp (BitVec.eq_of_toNat_eq (by rw [h]; rfl))
  rw [h4, h1, h3, i_bv p]
  split <;> omega
def sgZ (a : Int) : Int := if a % 65536 < 32768 then sZ (a % 32768) else - sZ (a % 32768)
theorem sgZ_b (a : Int) : -16384 ≤ sgZ a ∧ sgZ a ≤ 16384 := by
  have b := sZ_b (b := a % 32768) (by omega) (by omega)
  unfold sgZ
  split <;> omega
theorem sn_eq (p : Int32) : (q_X10_sineOf p).toInt = sgZ p.toInt := by
  unfold q_X10_sineOf sgZ
  dsimp only
  have h5 := i_m15 p
  generalize (p &&& 32767) = x5 at h5 ⊢
  have c32 : (32768 : Int32).toInt = 32768 := by decide
  have e : (32768 - x5).toInt64 = 32768 - x5.toInt64 := by
    have q := s64 (a := 32768) (b := x5) (by rw [c32]; omega) (by rw [c32]; omega)
    rwa [show (32768 : Int32).toInt64 = 32768 by decide] at q
  rw [e]
  have s := l_s (v := x5.toInt64) (by rw [t64]; omega) (by rw [t64]; omega)
  rw [t64, h5] at s
  have b := sZ_b (b := p.toInt % 32768) (by omega) (by omega)
  generalize (65536 * (x5.toInt64 * (32768 - x5.toInt64))) / (1342177280 - x5.toInt64 * (32768 - x5.toInt64)) = y at s ⊢
  have t : y.toInt32.toInt = sZ (p.toInt % 32768) := by rw [t32 (by omega) (by omega), s]
  by_cases c : p.toInt % 65536 < 32768
  · rw [if_pos ((i_b15 p).mpr c), if_pos c, t]
  · rw [if_neg (fun h => c ((i_b15 p).mp h)), if_neg c, i_neg (by omega), t]
theorem sm_eq (p : Int64) : (q_X11_sineOf p).toInt = sgZ p.toInt := by
  unfold q_X11_sineOf sgZ
  dsimp only
  have h5 := l_m16 p
  generalize (p &&& 65535) = x5 at h5 ⊢
  have c32 : (32768 : Int64).toInt = 32768 := by decide
  by_cases c : x5 < 32768
  · have c' := l_lt c
    rw [c32] at c'
    rw [if_pos c, if_pos (by omega), l_s (v := x5) (by omega) (by omega), show x5.toInt = p.toInt % 32768 by omega]
  · have c' := l_nlt c
    rw [c32] at c'
    rw [if_neg c, if_neg (by omega)]
    have e := l_sub (a := x5) (b := 32768) (by rw [c32]; omega) (by rw [c32]; omega)
    rw [c32] at e
    generalize x5 - 32768 = x35 at e ⊢
    have s := l_s (v := x35) (by omega) (by omega)
    have b := sZ_b (b := x35.toInt) (by omega) (by omega)
    rw [l_neg (by rw [s]; omega), s, show x35.toInt = p.toInt % 32768 by omega]
theorem sin_b (p : Int32) : -16384 ≤ (q_X10_sineOf p).toInt ∧ (q_X10_sineOf p).toInt ≤ 16384 := by rw [sn_eq]; exact sgZ_b _
theorem cos_b (p : Int32) : -16384 ≤ (q_X10_cosineOf p).toInt ∧ (q_X10_cosineOf p).toInt ≤ 16384 := sin_b _
theorem sin_eq (p : Int32) : q_X11_sineOf p.toInt64 = (q_X10_sineOf p).toInt64 := x_inj (by rw [sm_eq, t64, t64, sn_eq])
theorem cos_eq {p : Int32} (h : p.toInt < 2147467264) : q_X11_cosineOf p.toInt64 = (q_X10_cosineOf p).toInt64 := by
  have r := i_rng p
  have c : (16384 : Int32).toInt = 16384 := by decide
  have e : (p + 16384).toInt64 = p.toInt64 + 16384 := by
    have q := a64 (a := p) (b := 16384) (by rw [c]; omega) (by rw [c]; omega)
    rwa [show (16384 : Int32).toInt64 = 16384 by decide] at q
  show q_X11_sineOf (p.toInt64 + 16384) = (q_X10_sineOf (p + 16384)).toInt64
  rw [← sin_eq, e]
/-! rounding down -/
theorem z_td {a b : Int} (hb : 0 < b) (ha : a < 0) : a.tdiv b = -((-a) / b) := by
  have := Int.neg_tdiv (-a) b
  rw [Int.neg_neg] at this
  rw [this, Int.tdiv_eq_ediv_of_nonneg (by omega)]
theorem z_tb {a b : Int} (hb : 0 < b) : (0 ≤ a → 0 ≤ a.tdiv b * b ∧ a.tdiv b * b ≤ a ∧ 0 ≤ a.tdiv b ∧ a.tdiv b ≤ a) ∧ (a < 0 → a ≤ a.tdiv b * b ∧ a.tdiv b * b ≤ 0 ∧ a.tdiv b ≤ 0 ∧ a.tdiv b * b ≤ a.tdiv b) := by
  have pos : ∀ n : Int, 0 ≤ n → 0 ≤ n / b * b ∧ n / b * b ≤ n ∧ 0 ≤ n / b ∧ n / b ≤ n / b * b := by
    intro n hn
    have d0 : 0 ≤ n / b := Int.ediv_nonneg hn (by omega)
    refine ⟨Int.mul_nonneg d0 (by omega), Int.ediv_mul_le n (by omega), d0, ?_⟩
    have := Int.mul_le_mul_of_nonneg_left (show 1 ≤ b by omega) d0
    omega
  constructor
  · intro h
    have p := pos a h
    rw [Int.tdiv_eq_ediv_of_nonneg h]
    omega
  · intro h
    have p := pos (-a) (by omega)
    rw [z_td hb h, Int.neg_mul]
    omega
theorem z_fl {a b : Int} (hb : 0 < b) : a / b = if 0 ≤ a then a.tdiv b else if a.tdiv b * b = a then a.tdiv b else a.tdiv b - 1 := by
  by_cases h : 0 ≤ a
  · rw [if_pos h, Int.tdiv_eq_ediv_of_nonneg h]
  · rw [if_neg h]
    have ht := z_td hb (show a < 0 by omega)
    have hm := Int.emod_add_mul_ediv (-a) b
    have m0 := Int.emod_nonneg (-a) (show b ≠ 0 by omega)
    have m1 := Int.emod_lt_of_pos (-a) hb
    have u := fun q r => (Int.ediv_emod_unique (a := a) (b := b) (r := r) (q := q) hb).mpr
    generalize (-a) / b = d at ht hm
    generalize (-a) % b = m at hm m0 m1
    rw [ht]
    by_cases c : -d * b = a
    · rw [if_pos c]
      exact (u (-d) 0 ⟨by rw [Int.mul_comm, c]; omega, by omega, hb⟩).1
    · rw [if_neg c]
      have hc : b * d = -(-d * b) := by rw [Int.neg_mul, Int.neg_neg, Int.mul_comm]
      have e : b * (-d - 1) = -(b * d) - b := by rw [Int.mul_sub, Int.mul_neg, Int.mul_one]
      exact (u (-d - 1) (b - m) ⟨by rw [e]; omega, by omega, by omega⟩).1
theorem l_td {a b : Int64} (h : 0 < b.toInt) : (a / b).toInt = a.toInt.tdiv b.toInt := Int64.toInt_div_of_ne_right a b (fun e => by rw [e] at h; exact absurd h (by decide))
theorem i_td {a b : Int32} (h : 0 < b.toInt) : (a / b).toInt = a.toInt.tdiv b.toInt := Int32.toInt_div_of_ne_right a b (fun e => by rw [e] at h; exact absurd h (by decide))
theorem l_tm {a b : Int64} (h : 0 < b.toInt) : (a / b * b).toInt = a.toInt.tdiv b.toInt * b.toInt := by
  have r := l_rng a
  have t := z_tb (a := a.toInt) h
  have hd := l_td (a := a) h
  rcases Int.lt_or_le a.toInt 0 with q | q
  · have := t.2 q
    rw [l_mul (by rw [hd]; omega) (by rw [hd]; omega), hd]
  · have := t.1 q
    rw [l_mul (by rw [hd]; omega) (by rw [hd]; omega), hd]
theorem i_tm {a b : Int32} (h : 0 < b.toInt) : (a / b * b).toInt = a.toInt.tdiv b.toInt * b.toInt := by
  have r := i_rng a
  have t := z_tb (a := a.toInt) h
  have hd := i_td (a := a) h
  rcases Int.lt_or_le a.toInt 0 with q | q
  · have := t.2 q
    rw [i_mul (by rw [hd]; omega) (by rw [hd]; omega), hd]
  · have := t.1 q
    rw [i_mul (by rw [hd]; omega) (by rw [hd]; omega), hd]
theorem dn_z {a b : Int64} (h : 0 < b.toInt) : (q_X11_down a b).toInt = a.toInt / b.toInt := by
  have r := l_rng a
  have hd := l_td (a := a) h
  have hm := l_tm (a := a) h
  have tb := z_tb (a := a.toInt) h
  have c0 : 0 ≤ b := Int64.le_iff_toInt_le.mpr (by rw [l_0]; omega)
  have hs : (a - a / b * b).toInt = a.toInt - a.toInt.tdiv b.toInt * b.toInt := by
    rcases Int.lt_or_le a.toInt 0 with q | q
    · have := tb.2 q
      rw [l_sub (by rw [hm]; omega) (by rw [hm]; omega), hm]
    · have := tb.1 q
      rw [l_sub (by rw [hm]; omega) (by rw [hm]; omega), hm]
  rw [z_fl h]
  unfold q_X11_down
  dsimp only
  by_cases ca : 0 ≤ a
  · have ca' : 0 ≤ a.toInt := by have := l_le ca; rw [l_0] at this; exact this
    rw [if_pos ca']
    split
    · exact hd
    · first | exact hd | (rw [if_pos ca, if_pos c0]; exact hd)
  · have ca' : ¬ 0 ≤ a.toInt := fun q => ca (Int64.le_iff_toInt_le.mpr (by rw [l_0]; exact q))
    rw [if_neg ca']
    by_cases cr : a - a / b * b = 0
    · rw [if_pos cr, if_pos (by have := congrArg Int64.toInt cr; rw [hs, l_0] at this; omega)]
      exact hd
    · have cr' : ¬ a.toInt.tdiv b.toInt * b.toInt = a.toInt := fun q => cr (x_inj (by rw [hs, l_0, q]; omega))
      have t2 := tb.2 (by omega)
      rw [if_neg cr, if_neg ca, if_pos c0, if_neg cr', l_sub (by rw [hd, l_1]; omega) (by rw [hd, l_1]; omega), hd, l_1]
theorem l_xsg (x y : Int64) : 0 ≤ (x ^^^ y) ↔ (0 ≤ x.toInt ↔ 0 ≤ y.toInt) := by
  rw [Int64.le_iff_toInt_le, l_0]
  have m : ∀ z : Int64, 0 ≤ z.toInt ↔ z.toBitVec.msb = false := by
    intro z
    have h := z.toBitVec.isLt
    rw [l_bv, BitVec.msb_eq_false_iff_two_mul_lt]
    split <;> omega
  rw [m, m, m, Int64.toBitVec_xor, BitVec.msb_xor]
  cases x.toBitVec.msb <;> cases y.toBitVec.msb <;> simp
theorem fl_z {a b : Int64} (h : 0 < b.toInt) : (q_J9_floorDiv_f86c9 a b).toInt = a.toInt / b.toInt := by
  have r := l_rng a
  have hd := l_td (a := a) h
  have hm := l_tm (a := a) h
  have tb := z_tb (a := a.toInt) h
  have hx := l_xsg a b
  rw [z_fl h]
  unfold q_J9_floorDiv_f86c9
  dsimp only
  by_cases ca : 0 ≤ a.toInt
  · rw [if_pos ca, if_pos (hx.mpr (by constructor <;> intro <;> omega))]
    exact hd
  · rw [if_neg ca, if_neg (fun q => ca ((hx.mp q).mpr (by omega)))]
    by_cases cr : a / b * b = a
    · rw [if_pos cr, if_pos (by rw [← hm, cr])]
      exact hd
    · have cr' : ¬ a.toInt.tdiv b.toInt * b.toInt = a.toInt := fun q => cr (x_inj (by rw [hm, q]))
      have t2 := tb.2 (by omega)
      rw [if_neg cr, if_neg cr', l_sub (by rw [hd, l_1]; omega) (by rw [hd, l_1]; omega), hd, l_1]
theorem fi_z {a b : Int32} (h : 0 < b.toInt) : (q_J9_floorDiv_7cf53 a b).toInt = a.toInt / b.toInt := by
  have r := i_rng a
  have hd := i_td (a := a) h
  have hm := i_tm (a := a) h
  have tb := z_tb (a := a.toInt) h
  have hx := i_xsg a b
  rw [z_fl h]
  unfold q_J9_floorDiv_7cf53
  dsimp only
  by_cases ca : 0 ≤ a.toInt
  · rw [if_pos ca, if_pos (hx.mpr (by constructor <;> intro <;> omega))]
    exact hd
  · rw [if_neg ca, if_neg (fun q => ca ((hx.mp q).mpr (by omega)))]
    by_cases cr : a / b * b = a
    · rw [if_pos cr, if_pos (by rw [← hm, cr])]
      exact hd
    · have cr' : ¬ a.toInt.tdiv b.toInt * b.toInt = a.toInt := fun q => cr (y_inj (by rw [hm, q]))
      have t2 := tb.2 (by omega)
      rw [if_neg cr, if_neg cr', i_sub (by rw [hd, i_one]; omega) (by rw [hd, i_one]; omega), hd, i_one]
/-- the class's two roundings are the reference's -/
theorem fl_eq {a b : Int64} (h : 0 < b.toInt) : q_X11_down a b = q_J9_floorDiv_f86c9 a b := x_inj (by rw [dn_z h, fl_z h])
theorem fi_eq {a b : Int32} (h : 0 < b.toInt) : q_X11_down a.toInt64 b.toInt64 = (q_J9_floorDiv_7cf53 a b).toInt64 := x_inj (by rw [dn_z (by rw [t64]; exact h), t64, t64, t64, fi_z h])
/-! x . y -/
theorem l_shr14 (v : Int64) : (v >>> ((14 : Int32).toInt64 &&& 63)).toInt = v.toInt / 16384 := by
  have e : (v >>> ((14 : Int32).toInt64 &&& 63)).toInt = v.toInt >>> 14 := by
    show (v.toBitVec.sshiftRight (((14 : Int32).toInt64 &&& 63).toBitVec.smod 64).toNat).toInt = _
    rw [show (((14 : Int32).toInt64 &&& 63).toBitVec.smod 64).toNat = 14 by decide, BitVec.toInt_sshiftRight]
    rfl
  rw [e, Int.shiftRight_eq_div_pow]
  rfl
theorem dot_z {a b : Int32} (h1 : -65536 ≤ a.toInt) (h2 : a.toInt ≤ 65536) (h3 : -65536 ≤ b.toInt) (h4 : b.toInt ≤ 65536) : (q_X10_dot a b).toInt = a.toInt * b.toInt / 16384 := by
  have p := z_mb h1 h2 h3 h4
  unfold q_X10_dot
  have m : (a.toInt64 * b.toInt64).toInt = a.toInt * b.toInt := by rw [l_mul (by rw [t64, t64]; omega) (by rw [t64, t64]; omega), t64, t64]
  have s := l_shr14 (a.toInt64 * b.toInt64)
  rw [m] at s
  rw [t32 (by rw [s]; omega) (by rw [s]; omega), s]
theorem dot_eq {a b : Int32} (h1 : -65536 ≤ a.toInt) (h2 : a.toInt ≤ 65536) (h3 : -65536 ≤ b.toInt) (h4 : b.toInt ≤ 65536) : q_X11_times a.toInt64 b.toInt64 = (q_X10_dot a b).toInt64 := by
  have p := z_mb h1 h2 h3 h4
  have c : (16384 : Int64).toInt = 16384 := by decide
  have m : (a.toInt64 * b.toInt64).toInt = a.toInt * b.toInt := by rw [l_mul (by rw [t64, t64]; omega) (by rw [t64, t64]; omega), t64, t64]
  show q_X11_down (a.toInt64 * b.toInt64) 16384 = _
  exact x_inj (by rw [dn_z (by rw [c]; omega), c, m, t64, dot_z h1 h2 h3 h4])
theorem dot_b {a b : Int32} (h1 : -16384 ≤ a.toInt ∧ a.toInt ≤ 16384) (h2 : -16384 ≤ b.toInt ∧ b.toInt ≤ 16384) : -16384 ≤ (q_X10_dot a b).toInt ∧ (q_X10_dot a b).toInt ≤ 16384 := by
  have p := z_mb h1.1 h1.2 h2.1 h2.2
  rw [dot_z (by omega) (by omega) (by omega) (by omega)]
  omega
theorem dot_e {a b : Int32} (h1 : -16384 ≤ a.toInt ∧ a.toInt ≤ 16384) (h2 : -16384 ≤ b.toInt ∧ b.toInt ≤ 16384) : q_X11_times a.toInt64 b.toInt64 = (q_X10_dot a b).toInt64 := dot_eq (by omega) (by omega) (by omega) (by omega)
