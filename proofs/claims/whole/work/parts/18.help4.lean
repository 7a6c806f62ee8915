/-! what the reference's walks leave as it is -/
theorem lk_I (M : gSm) (d m : Int32) : (q_X11_look M d m).1 = M.1 := rfl
theorem fe_I (M : gSm) (p : Int32) (g : Int64) : (q_X11_findEnd M p g).1 = M.1 := by
  unfold q_X11_findEnd
  simp only []
  (repeat' split) <;> rfl
theorem sto_I (M : gSm) (p : Int32) (g : Int64) (d m : Int32) : (q_X11_stateOf M p g d m).2.1 = M.1 := by
  unfold q_X11_stateOf
  simp only []
  (repeat' split) <;> first | rfl | exact (fe_I _ _ _).trans (lk_I _ _ _)
theorem stn_I (M : gSm) (p d m : Int32) : (q_X11_stateNow M p d m).2.1 = M.1 := by
  unfold q_X11_stateNow
  exact sto_I _ _ _ _ _
theorem li_ne {r n : Int64} (c1 : ¬ r < 0) (c2 : r < n) : ¬ n = 0 := by
  intro h
  rw [h] at c2
  exact c1 c2
theorem gL.st2 {N n : Nat} {v x K : Int32} (h : gL N (n + 1) v) (c : ¬ K < v) (hK : K.toInt + 1 = N ∧ N < 2147483648) (hx : x = v + 1) : gL N n x := by
  have c' := i_nlt c
  obtain ⟨hK, hN⟩ := hK
  obtain ⟨h1, h2, h3⟩ := h
  have r := i_rng K
  have a := i_1 (v := v) (by omega)
  rw [← hx] at a
  exact ⟨by omega, by omega, by omega⟩
theorem ln_in {r w : Int32} (e : r = q_X11_isIn (w.toInt64) 0 6) (h : ¬ r = 0) : 0 ≤ w.toInt ∧ w.toInt < 7 := by
  have g := isIn_of e h
  rw [Int32.toInt_toInt64] at g
  have e0 : (0 : Int64).toInt = 0 := by decide
  have e6 : (6 : Int64).toInt = 6 := by decide
  rw [e0, e6] at g
  omega
