/-! HELP for the walks: places, loops, tests -/
theorem prj {α β : Type} {a : α} {b : β} {p : α × β} (h : (a, b) = p) : a = p.1 ∧ b = p.2 := by subst h; exact ⟨rfl, rfl⟩
def isP (p : Int32) : Prop := 0 ≤ p.toInt ∧ p.toInt < 40
theorem vx {i : Int32} {n : Nat} (h0 : 0 ≤ i.toInt) (h : i.toInt < n) : vp_in i n := vp_in_iff.mpr ⟨h0, h⟩
theorem gx {p w : Int32} (hp : isP p) (hw : 0 ≤ w.toInt ∧ w.toInt < 7) : vp_in (7 * p + w) 280 := by
  obtain ⟨h1, h2⟩ := hp
  have e7 : (7 : Int32).toInt = 7 := by decide
  have m := i_mul (a := 7) (b := p) (by rw [e7]; omega) (by rw [e7]; omega)
  rw [e7] at m
  have a := i_add (a := 7 * p) (b := w) (by rw [m]; omega) (by rw [m]; omega)
  exact vx (by rw [a, m]; omega) (by rw [a, m]; omega)
def gL (N n : Nat) (v : Int32) : Prop := 0 ≤ v.toInt ∧ v.toInt ≤ N ∧ (N : Int) < v.toInt + n
theorem gL.i (N : Nat) : gL N (N + 1) 0 := ⟨by decide, by show (0 : Int) ≤ N; omega, by show (N : Int) < 0 + ((N + 1 : Nat) : Int); omega⟩
theorem gL.z {N : Nat} {v : Int32} {P : Prop} (h : gL N 0 v) : P := by obtain ⟨_, h2, h3⟩ := h; exact absurd h3 (by omega)
theorem gL.lt {N n : Nat} {v K : Int32} (h : gL N n v) (c : ¬ K ≤ v) (hK : K.toInt = N) : 0 ≤ v.toInt ∧ v.toInt < N := by
  have := i_nle c
  exact ⟨h.1, by omega⟩
theorem gL.st {N n : Nat} {v x K : Int32} (h : gL N (n + 1) v) (c : ¬ K ≤ v) (hK : K.toInt = N) (hx : x = v + 1) : gL N n x := by
  have c' := i_nle c
  obtain ⟨h1, h2, h3⟩ := h
  have r := i_rng K
  have e1 : (1 : Int32).toInt = 1 := by decide
  have a := i_add (a := v) (b := 1) (by rw [e1]; omega) (by rw [e1]; omega)
  rw [← hx, e1] at a
  exact ⟨by omega, by omega, by omega⟩
theorem isIn_of {r : Int32} {a b c : Int64} (e : r = q_X11_isIn a b c) (h : ¬ r = 0) : b.toInt ≤ a.toInt ∧ a.toInt ≤ c.toInt := by
  unfold q_X11_isIn at e
  split at e
  · exact absurd e h
  · next h1 =>
    split at e
    · exact absurd e h
    · next h2 => exact ⟨l_nlt h1, l_nlt h2⟩
theorem isPm_of {r : Int32} {p : Int32} (e : r = q_X11_isPlace p) (h : ¬ r = 0) : isP p := by
  have g := isIn_of (r := r) (a := p.toInt64) (b := 0) (c := 39) e h
  rw [Int32.toInt_toInt64] at g
  have e0 : (0 : Int64).toInt = 0 := by decide
  have e1 : (39 : Int64).toInt = 39 := by decide
  rw [e0, e1] at g
  exact ⟨g.1, by omega⟩
theorem isTm_of {r : Int32} {d m : Int32} (e : r = q_X11_isTime d m) (h : ¬ r = 0) : (0 ≤ d.toInt ∧ d.toInt ≤ 365) ∧ 0 ≤ m.toInt ∧ m.toInt ≤ 1439 := by
  unfold q_X11_isTime at e
  simp only [] at e
  have e0 : (0 : Int64).toInt = 0 := by decide
  have e1 : (365 : Int64).toInt = 365 := by decide
  have e2 : (1439 : Int64).toInt = 1439 := by decide
  split at e
  · exact absurd e h
  · next h1 =>
    split at e
    · exact absurd e h
    · next h2 =>
      have a := isIn_of rfl h1
      have b := isIn_of rfl h2
      rw [Int32.toInt_toInt64] at a b
      rw [e0] at a b
      rw [e1] at a
      rw [e2] at b
      exact ⟨a, b⟩
/-- the test that a call makes of a day and of how many corrections there are -/
theorem cr_in {d k : Int32} (hd : 0 ≤ d.toInt) (hc : k.toInt ≤ 366) (c : ¬ k ≤ d) : vp_in d 366 := by
  have := i_nle c
  exact vx hd (by show _ < (366 : Int); omega)
theorem l_pos_ne {x : Int64} (c : 0 < x) : ¬ x = 0 := fun h => by rw [h] at c; exact absurd c (by decide)
theorem co_in {d k r : Int32} {n : Nat} (e : r = q_X11_isIn (d.toInt64) 0 ((k - 1).toInt64)) (h : ¬ r = 0) (h0 : 0 ≤ k.toInt) (hc : k.toInt ≤ n) : vp_in d n := by
  have g := isIn_of e h
  rw [Int32.toInt_toInt64, Int32.toInt_toInt64] at g
  have e0 : (0 : Int64).toInt = 0 := by decide
  have e1 : (1 : Int32).toInt = 1 := by decide
  have r := i_rng k
  have a := i_sub (a := k) (b := 1) (by rw [e1]; omega) (by rw [e1]; omega)
  rw [a, e0, e1] at g
  exact vx g.1 (by omega)
theorem ab_in {w r : Int32} {P : Prop} (e : r = q_X11_isIn (w.toInt64) 0 5) (h : ¬ r = 0) (_ : P) : 0 ≤ (1 + w).toInt ∧ (1 + w).toInt < 7 := by
  have g := isIn_of e h
  rw [Int32.toInt_toInt64] at g
  have e0 : (0 : Int64).toInt = 0 := by decide
  have e5 : (5 : Int64).toInt = 5 := by decide
  have e1 : (1 : Int32).toInt = 1 := by decide
  rw [e0, e5] at g
  have a := i_add (a := 1) (b := w) (by rw [e1]; omega) (by rw [e1]; omega)
  rw [a, e1]
  omega
theorem si_in0 {k : Int32} (h0 : 0 ≤ k.toInt) (h : k.toInt ≤ 20) (c : ¬ k = 20) : vp_in (4 * k) 80 := by
  have c' : k.toInt ≠ 20 := sw_ne (by decide) c
  have e4 : (4 : Int32).toInt = 4 := by decide
  have m := i_mul (a := 4) (b := k) (by rw [e4]; omega) (by rw [e4]; omega)
  rw [e4] at m
  exact vx (by rw [m]; omega) (by rw [m]; show _ < (80 : Int); omega)
theorem si_in {k w : Int32} (h0 : 0 ≤ k.toInt) (h : k.toInt ≤ 20) (c : ¬ k = 20) (hw : 0 ≤ w.toInt ∧ w.toInt < 4) : vp_in (4 * k + w) 80 := by
  have c' : k.toInt ≠ 20 := sw_ne (by decide) c
  have e4 : (4 : Int32).toInt = 4 := by decide
  have m := i_mul (a := 4) (b := k) (by rw [e4]; omega) (by rw [e4]; omega)
  rw [e4] at m
  have a := i_add (a := 4 * k) (b := w) (by rw [m]; omega) (by rw [m]; omega)
  exact vx (by rw [a, m]; omega) (by rw [a, m]; show _ < (80 : Int); omega)
