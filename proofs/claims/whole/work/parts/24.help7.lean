theorem ag_b (M : gSm) (p u : Int32) : ∀ (n : Nat) (v3 v4 : Int32) (Z : gSm), (q_X11_agrees_b5 M p u n v3 v4 Z).2.1 = Z.1
  | 0, _, _, _ => rfl
  | n + 1, v3, v4, Z => by
    rw [q_X11_agrees_b5]
    dsimp only
    (repeat' split) <;> first | (rw [ag_b M p u n, sto_I]; done) | rfl
theorem ag_I (M : gSm) (p u : Int32) : (q_X11_agrees M p u).2.1 = M.1 := by
  unfold q_X11_agrees
  exact ag_b M p u _ _ _ _
def fdI (n : Nat) (v : Int32) (Z : gSm) : Prop := (-300 ≤ v.toInt ∧ v.toInt ≤ 301 ∧ 301 < v.toInt + n) ∧ 0 ≤ (Z.1 0 10).toInt ∧ (Z.1 0 10).toInt ≤ v.toInt + 300
theorem fdI.z {v : Int32} {Z : gSm} {P : Prop} (h : fdI 0 v Z) : P := by
  obtain ⟨⟨_, h2, h3⟩, _⟩ := h
  exact absurd h3 (by omega)
theorem fd_i {M : gSm} : fdI 602 (-300) (pM M 0 10 0) := ⟨by decide, by show 0 ≤ (0 : Int32).toInt; decide, by show (0 : Int32).toInt ≤ (-300 : Int32).toInt + 300; decide⟩
theorem fd_st1 {n : Nat} {v x p : Int32} {Z Y : gSm} (hi : fdI (n + 1) v Z ∧ okS Z ∧ isP p) (c : ¬ 300 < v) (hx : x = v + 1) (e : Y = (q_X11_agrees Z p v).2) : fdI n x Y ∧ okS Y ∧ isP p := by
  have c' : v.toInt ≤ 300 := i_nlt c
  have a := i_1 (v := v) (by omega)
  rw [← hx] at a
  have e1 : Y.1 = Z.1 := by rw [e]; exact ag_I _ _ _
  obtain ⟨⟨h1, h2, h3⟩, h4, h5⟩ := hi
  refine ⟨⟨by omega, ?_, ?_⟩, okS_of h4 e1, h5⟩
  · rw [e1]; exact h2
  · rw [e1]; omega
theorem fd_st2 {n : Nat} {v x p : Int32} {Z Y : gSm} (hi : fdI (n + 1) v Z ∧ okS Z ∧ isP p) (c : ¬ 300 < v) (hx : x = v + 1) (e : Y = (q_X11_agrees Z p v).2) : fdI n x (pM (pM Y 6 ((Y.1 0 10).toNatClampNeg) v) 0 10 ((Y.1 0 10) + 1)) ∧ okS (pM (pM Y 6 ((Y.1 0 10).toNatClampNeg) v) 0 10 ((Y.1 0 10) + 1)) ∧ isP p := by
  have c' : v.toInt ≤ 300 := i_nlt c
  have a := i_1 (v := v) (by omega)
  rw [← hx] at a
  have e1 : Y.1 = Z.1 := by rw [e]; exact ag_I _ _ _
  obtain ⟨⟨h1, h2, h3⟩, h4, h5⟩ := hi
  have h4' := okS_of h4 e1
  have b := i_1 (v := Z.1 0 10) (by omega)
  refine ⟨⟨by omega, ?_, ?_⟩, h4', h5⟩
  · show 0 ≤ ((Y.1 0 10) + 1).toInt
    rw [e1]; omega
  · show ((Y.1 0 10) + 1).toInt ≤ _
    rw [e1]; omega
theorem fd_in {n : Nat} {v p : Int32} {Z Y : gSm} (hi : fdI n v Z ∧ okS Z ∧ isP p) (c : ¬ 300 < v) (e : Y = (q_X11_agrees Z p v).2) : vp_in (Y.1 0 10) 601 := by
  have c' : v.toInt ≤ 300 := i_nlt c
  have e1 : Y.1 = Z.1 := by rw [e]; exact ag_I _ _ _
  obtain ⟨⟨h1, h2, h3⟩, h4, h5⟩ := hi
  rw [e1]
  exact vx h2 (by show _ < (601 : Int); omega)
