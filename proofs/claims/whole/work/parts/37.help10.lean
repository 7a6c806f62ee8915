theorem okR_of {S Y : gSc} {k n : Nat} (h : okR S k n) (e : Y.2 = S.2) : okR Y k n := by
  unfold okR
  rw [e]
  exact h
theorem okH_of {S Y : gSc} (h : okH S) (e : Y.2 = S.2) : okH Y := by
  unfold okH
  rw [e]
  exact h
theorem sr_2 (S : gSc) (a : Nat) (g : Int32) : (q_X6_setRows S a g).2 = S.2 := by
  unfold q_X6_setRows
  simp only []
  (repeat' split) <;> rfl
theorem fh_lt {S Z : gSc} {v : Int32} {n : Nat} (hi : (0 ≤ v.toInt ∧ v.toInt ≤ 40 ∧ 40 < v.toInt + n) ∧ Z.2 = S.2 ∧ Z.1 7 6 = S.1 7 6) (c : ¬ Z.1 7 6 ≤ v) (hh : (S.1 7 6).toInt ≤ 40) : 0 ≤ v.toInt ∧ v.toInt < 40 := by
  have c' := i_nle c
  rw [hi.2.2] at c'
  omega
theorem fh_in {S Z : gSc} {v : Int32} {n : Nat} (hi : (0 ≤ v.toInt ∧ v.toInt ≤ 40 ∧ 40 < v.toInt + n) ∧ Z.2 = S.2 ∧ Z.1 7 6 = S.1 7 6) (c : ¬ Z.1 7 6 ≤ v) (hh : (S.1 7 6).toInt ≤ 40) : vp_in v 40 := vx (fh_lt hi c hh).1 (fh_lt hi c hh).2
theorem fh_st {S Z : gSc} {v x : Int32} {n : Nat} (hi : (0 ≤ v.toInt ∧ v.toInt ≤ 40 ∧ 40 < v.toInt + (n + 1 : Nat)) ∧ Z.2 = S.2 ∧ Z.1 7 6 = S.1 7 6) (c : ¬ Z.1 7 6 ≤ v) (hh : (S.1 7 6).toInt ≤ 40) (hx : x = v + 1) : 0 ≤ x.toInt ∧ x.toInt ≤ 40 ∧ 40 < x.toInt + n := by
  have g := fh_lt hi c hh
  have a := i_1 (v := v) (by omega)
  rw [← hx] at a
  omega
theorem fh_t {S Z : gSc} {v : Int32} {n a : Nat} (hH : okH S) (hi : (0 ≤ v.toInt ∧ v.toInt ≤ 40 ∧ 40 < v.toInt + n) ∧ Z.2 = S.2 ∧ Z.1 7 6 = S.1 7 6) (c : ¬ Z.1 7 6 ≤ v) (hh : (S.1 7 6).toInt ≤ 40) (ho : Z.2.1 11 (v.toNatClampNeg) = some a) : a ∈ Z.2.2.1 ∧ ¬ Z.2.2.2.1 a = 1 := by
  have g := fh_lt hi c hh
  rw [hi.2.1] at ho ⊢
  exact hH _ _ (show v.toInt.toNat < 40 by omega) ho
/-- the remainder by 16 that floorMod gives -/
theorem i_rem (x y : Int32) : x - x / y * y = x % y := by
  apply Int32.toInt_inj.mp
  rw [Int32.toInt_sub, Int32.toInt_mul, Int32.toInt_div, Int.bmod_mul_bmod, Int.sub_bmod_bmod, Int.mul_comm (x.toInt.tdiv y.toInt), ← Int.tmod_def, ← Int32.toInt_mod]
  exact Int.bmod_eq_of_le (by have := i_rng (x % y); omega) (by have := i_rng (x % y); omega)
theorem i_xsg (x y : Int32) : 0 ≤ (x ^^^ y) ↔ (0 ≤ x.toInt ↔ 0 ≤ y.toInt) := by
  have e0 : (0 : Int32).toInt = 0 := by decide
  rw [Int32.le_iff_toInt_le, e0]
  have m : ∀ z : Int32, 0 ≤ z.toInt ↔ z.toBitVec.msb = false := by
    intro z
    have h := z.toBitVec.isLt
    rw [i_bv, BitVec.msb_eq_false_iff_two_mul_lt]
    split <;> omega
  rw [m, m, m, Int32.toBitVec_xor, BitVec.msb_xor]
  cases x.toBitVec.msb <;> cases y.toBitVec.msb <;> simp
theorem fmod_z (x : Int32) : (q_J9_floorMod_7cf53 x 16).toInt = x.toInt % 16 := by
  have e16 : (16 : Int32).toInt = 16 := by decide
  have e0 : (0 : Int32).toInt = 0 := by decide
  have h : (x % 16).toInt = x.toInt.tmod 16 := by rw [Int32.toInt_mod, e16]
  unfold q_J9_floorMod_7cf53
  simp only []
  rw [i_rem]
  have hx := i_xsg x 16
  rw [e16] at hx
  have t1 : 0 ≤ x.toInt → x.toInt.tmod 16 = x.toInt % 16 := fun q => Int.tmod_eq_emod_of_nonneg q
  have t2 : x.toInt < 0 → x.toInt.tmod 16 = -((-x.toInt) % 16) := by
    intro q
    have := Int.neg_tmod (-x.toInt) 16
    rw [Int.neg_neg] at this
    rw [this, Int.tmod_eq_emod_of_nonneg (by omega)]
  split
  · next c =>
    have := hx.mp c
    rw [h, t1 (by omega)]
  · next c =>
    have c' : x.toInt < 0 := by
      rcases Int.lt_or_le x.toInt 0 with q | q
      · exact q
      · exact absurd (hx.mpr (by constructor <;> intro <;> omega)) c
    have k := t2 c'
    split
    · next z =>
      rw [z, e0] at h
      rw [z, e0]; omega
    · next z =>
      have z' : (x % 16).toInt ≠ 0 := fun q => z (Int32.toInt_inj.mp (q.trans e0.symm))
      rw [i_add (by rw [h, k, e16]; omega) (by rw [h, k, e16]; omega), h, k, e16]
      rw [h, k] at z'
      omega
theorem fmod_in (x : Int32) : vp_in (q_J9_floorMod_7cf53 x 16) 16 := by
  have := fmod_z x
  exact vx (by omega) (by show _ < (16 : Int); omega)
theorem isP_lt {p : Int32} (h : isP p) : p.toNatClampNeg < 40 := by
  obtain ⟨h1, h2⟩ := h
  show p.toInt.toNat < 40
  omega
