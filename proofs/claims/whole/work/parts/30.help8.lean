/-! HELP for the walks of the class -/
def gKn (i : Int32) : Int32 := if i.toNatClampNeg = 0 then 1 else if i.toNatClampNeg = 1 then 3 else if i.toNatClampNeg = 2 then 7 else if i.toNatClampNeg = 3 then 9 else 23
theorem pI_2 (S : gSc) (k j : Nat) (v : Int32) : (pI S k j v).2 = S.2 := rfl
theorem sR_22 (S : gSc) (k : Nat) (f : Nat → Option Nat) : (sR S k f).2.2 = S.2.2 := rfl
theorem wi_of {r : Int32} {a b c : Int64} (e : r = q_X10_within a b c) (h : ¬ r = 0) : b.toInt ≤ a.toInt ∧ a.toInt ≤ c.toInt := isIn_of e h
theorem isPc_of {r p : Int32} (e : r = q_X10_isPlace p) (h : ¬ r = 0) : isP p := isPm_of e h
theorem isTc_of {r d m : Int32} (e : r = q_X10_isTime d m) (h : ¬ r = 0) : (0 ≤ d.toInt ∧ d.toInt ≤ 365) ∧ 0 ≤ m.toInt ∧ m.toInt ≤ 1439 := isTm_of e h
theorem isDc_of {r d : Int32} (e : r = q_X10_isDay d) (h : ¬ r = 0) : 0 ≤ d.toInt ∧ d.toInt ≤ 365 := by
  have g := isIn_of (r := r) (a := d.toInt64) (b := 0) (c := 365) e h
  rw [Int32.toInt_toInt64] at g
  have e0 : (0 : Int64).toInt = 0 := by decide
  have e1 : (365 : Int64).toInt = 365 := by decide
  rw [e0, e1] at g
  exact g
theorem kd_in {r k : Int32} (e : r = q_X10_isKind k) (h : ¬ r = 0) : vp_in k 5 := by
  have g := isIn_of (r := r) (a := k.toInt64) (b := 0) (c := 4) e h
  rw [Int32.toInt_toInt64] at g
  have e0 : (0 : Int64).toInt = 0 := by decide
  have e1 : (4 : Int64).toInt = 4 := by decide
  rw [e0, e1] at g
  exact vx g.1 (by show _ < (5 : Int); omega)
theorem wi_in {d k r : Int32} {n : Nat} (e : r = q_X10_within (d.toInt64) 0 ((k - 1).toInt64)) (h : ¬ r = 0) (h0 : 0 ≤ k.toInt) (hc : k.toInt ≤ n) : vp_in d n := co_in e h h0 hc
theorem i_shr1 (v : Int32) : (v >>> ((1 : Int32) &&& 31)).toInt = v.toInt / 2 := by
  rw [pk_shr v ((1 : Int32) &&& 31) 1 (by decide)]
  rw [Int.shiftRight_eq_div_pow]
  rfl
theorem ht32 {v x : Int32} {n : Nat} (hi : 0 ≤ v.toInt ∧ 4 * v.toInt < 2 ^ (n + 1) ∧ 0 < n + 1) (c : ¬ v ≤ 0) (h : x = v >>> ((1 : Int32) &&& 31)) : 0 ≤ x.toInt ∧ 4 * x.toInt < 2 ^ n ∧ 0 < n := by
  obtain ⟨h1, h2, -⟩ := hi
  have c' : 0 < v.toInt := i_nle c
  have e := i_shr1 v
  rw [← h] at e
  rw [Int.pow_succ] at h2
  refine ⟨by omega, by omega, ?_⟩
  cases n with
  | zero => simp at h2; omega
  | succ n => omega
theorem sz_in {k : Int32} {N : Nat} (h0 : 0 ≤ k.toInt) {K : Int32} (c : k < K) (hK : K.toInt = N) : vp_in k N := vx h0 (by have := i_lt c; omega)
