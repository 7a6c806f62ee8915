def okS (Z : gSm) : Prop := (Z.1 0 6).toInt ≤ 366 ∧ 0 ≤ (Z.1 0 8).toInt ∧ (Z.1 0 8).toInt ≤ 20 ∧ ∀ j, j < 20 → 0 ≤ (Z.1 5 (4 * j)).toInt
theorem okS_of {Z Y : gSm} (h : okS Z) (e : Y.1 = Z.1) : okS Y := by
  unfold okS
  rw [e]
  exact h
theorem okS_st {Z : gSm} {p : Int32} {g : Int64} {d m : Int32} (h : okS Z) : okS (q_X11_stateOf Z p g d m).2 := okS_of h (sto_I _ _ _ _ _)
theorem ag_lt {Z : gSm} {v : Int32} {n : Nat} (hs : okS Z) (hi : 0 ≤ v.toInt ∧ 20 < v.toInt + n ∧ v.toInt ≤ 20) (c : ¬ Z.1 0 8 ≤ v) : 0 ≤ v.toInt ∧ v.toInt < 20 := by
  have c' := i_nle c
  have := hs.2.2.1
  omega
theorem ag_st {Z : gSm} {v x : Int32} {n : Nat} (hi : 0 ≤ v.toInt ∧ 20 < v.toInt + (n + 1 : Nat) ∧ v.toInt ≤ 20) (c : ¬ Z.1 0 8 ≤ v) (hs : okS Z) (hx : x = v + 1) : 0 ≤ x.toInt ∧ 20 < x.toInt + n ∧ x.toInt ≤ 20 := by
  have g := ag_lt hs hi c
  have a := i_1 (v := v) (by omega)
  rw [← hx] at a
  omega
theorem ag_4 {v : Int32} (h : 0 ≤ v.toInt ∧ v.toInt < 20) : (4 * v).toInt = 4 * v.toInt := by
  have e4 : (4 : Int32).toInt = 4 := by decide
  rw [i_mul (by rw [e4]; omega) (by rw [e4]; omega), e4]
theorem ag_0 {Z : gSm} {v : Int32} {n : Nat} (hs : okS Z) (hi : 0 ≤ v.toInt ∧ 20 < v.toInt + n ∧ v.toInt ≤ 20) (c : ¬ Z.1 0 8 ≤ v) : vp_in (4 * v) 80 := by
  have g := ag_lt hs hi c
  have m := ag_4 g
  exact vx (by omega) (by show _ < (80 : Int); omega)
theorem ag_k {Z : gSm} {v w : Int32} {n : Nat} (hs : okS Z) (hi : 0 ≤ v.toInt ∧ 20 < v.toInt + n ∧ v.toInt ≤ 20) (c : ¬ Z.1 0 8 ≤ v) (hw : 0 ≤ w.toInt ∧ w.toInt < 4) : vp_in (4 * v + w) 80 := by
  have g := ag_lt hs hi c
  have m := ag_4 g
  have a := i_add (a := 4 * v) (b := w) (by omega) (by omega)
  exact vx (by omega) (by show _ < (80 : Int); omega)
theorem ag_d {Z : gSm} {v : Int32} {n : Nat} (hs : okS Z) (hi : 0 ≤ v.toInt ∧ 20 < v.toInt + n ∧ v.toInt ≤ 20) (c : ¬ Z.1 0 8 ≤ v) : 0 ≤ (Z.1 5 ((4 * v).toNatClampNeg)).toInt := by
  have g := ag_lt hs hi c
  have m := ag_4 g
  have e : (4 * v).toNatClampNeg = 4 * v.toInt.toNat := by
    show (4 * v).toInt.toNat = _
    omega
  rw [e]
  exact hs.2.2.2 _ (by omega)
