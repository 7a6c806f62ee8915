/-! HELP for keep, undo, copy -/
theorem i_1 {v : Int32} (h : v.toInt < 2147483647) : (v + 1).toInt = v.toInt + 1 := by
  have r := i_rng v
  have e1 : (1 : Int32).toInt = 1 := by decide
  rw [i_add (by rw [e1]; omega) (by rw [e1]; omega), e1]
theorem i_m1 {v : Int32} (h : -2147483648 < v.toInt) : (v - 1).toInt = v.toInt - 1 := by
  have r := i_rng v
  have e1 : (1 : Int32).toInt = 1 := by decide
  rw [i_sub (by rw [e1]; omega) (by rw [e1]; omega), e1]
theorem i_7w {k w : Int32} (h : 0 ≤ k.toInt ∧ k.toInt < 1000) (hw : 0 ≤ w.toInt ∧ w.toInt < 7) : (7 * k + w).toInt = 7 * k.toInt + w.toInt := by
  have e7 : (7 : Int32).toInt = 7 := by decide
  have m := i_mul (a := 7) (b := k) (by rw [e7]; omega) (by rw [e7]; omega)
  rw [e7] at m
  rw [i_add (by rw [m]; omega) (by rw [m]; omega), m]
theorem kp_v {v : Int32} {n : Nat} (h : 1 ≤ v.toInt ∧ v.toInt ≤ 16 ∧ 16 < v.toInt + n) (c : ¬ 16 ≤ v) : 1 ≤ v.toInt ∧ v.toInt < 16 := by
  have c' : v.toInt < 16 := i_nle c
  exact ⟨h.1, c'⟩
theorem kp_st {v x : Int32} {n : Nat} (h : 1 ≤ v.toInt ∧ v.toInt ≤ 16 ∧ 16 < v.toInt + (n + 1 : Nat)) (c : ¬ 16 ≤ v) (hx : x = v + 1) : 1 ≤ x.toInt ∧ x.toInt ≤ 16 ∧ 16 < x.toInt + n := by
  have c' : v.toInt < 16 := i_nle c
  have a := i_1 (v := v) (by omega)
  rw [← hx] at a
  omega
theorem kp_15 {x : Int32} (h : x = 16) : 0 ≤ (x - 1).toInt ∧ (x - 1).toInt < 16 := by rw [h]; decide
theorem kp_lt {k : Int32} (h0 : 0 ≤ k.toInt) (h : k.toInt ≤ 16) (c : ¬ k = 16) : 0 ≤ k.toInt ∧ k.toInt < 16 := by
  have c' : k.toInt ≠ 16 := sw_ne (by decide) c
  omega
theorem kp_a {v : Int32} (h : 1 ≤ v.toInt ∧ v.toInt < 16) : vp_in v 16 := vx (by omega) h.2
theorem kp_b {v : Int32} (h : 1 ≤ v.toInt ∧ v.toInt < 16) : vp_in (v - 1) 16 := by
  have a := i_m1 (v := v) (by omega)
  exact vx (by omega) (by show _ < (16 : Int); omega)
theorem kp_t {k w : Int32} (h : 0 ≤ k.toInt ∧ k.toInt < 16) (hw : 0 ≤ w.toInt ∧ w.toInt < 7) : vp_in (7 * k + w) 112 := by
  have a := i_7w (k := k) (w := w) ⟨h.1, by omega⟩ hw
  exact vx (by omega) (by show _ < (112 : Int); omega)
theorem kp_r {v w : Int32} (h : 1 ≤ v.toInt ∧ v.toInt < 16) (hw : 0 ≤ w.toInt ∧ w.toInt < 7) : vp_in (7 * v + w) 112 := kp_t ⟨by omega, h.2⟩ hw
theorem kp_s {v w : Int32} (h : 1 ≤ v.toInt ∧ v.toInt < 16) (hw : 0 ≤ w.toInt ∧ w.toInt < 7) : vp_in (7 * (v - 1) + w) 112 := by
  have a := i_m1 (v := v) (by omega)
  exact kp_t ⟨by omega, by omega⟩ hw
def okU (Z : gSm) : Prop := 0 ≤ (Z.1 0 3).toInt ∧ (Z.1 0 3).toInt < 16 ∧ isP (Z.1 2 ((Z.1 0 3).toNatClampNeg))
theorem okU.k {Z : gSm} (h : okU Z) : vp_in (Z.1 0 3) 16 := vx h.1 h.2.1
theorem okU.r {Z : gSm} {w : Int32} (h : okU Z) (hw : 0 ≤ w.toInt ∧ w.toInt < 7) : vp_in (7 * (Z.1 0 3) + w) 112 := kp_t ⟨h.1, h.2.1⟩ hw
theorem un_ok {M : gSm} (hk0 : 0 ≤ (M.1 0 3).toInt) (hk : (M.1 0 3).toInt ≤ 16) (c : ¬ M.1 0 3 = 0) (hkp : ∀ j, j < 16 → isP (M.1 2 j)) : okU (pM M 0 3 ((M.1 0 3) - 1)) := by
  have c' : (M.1 0 3).toInt ≠ 0 := sw_ne (by decide) c
  have a := i_m1 (v := M.1 0 3) (by omega)
  refine ⟨?_, ?_, hkp _ ?_⟩
  · show 0 ≤ ((M.1 0 3) - 1).toInt; omega
  · show ((M.1 0 3) - 1).toInt < 16; omega
  · show ((M.1 0 3) - 1).toInt.toNat < 16; omega
def cpOk (a b n : Int32) : Prop := 0 ≤ a.toInt ∧ 0 ≤ b.toInt ∧ 0 ≤ n.toInt ∧ a.toInt + n.toInt ≤ 366 ∧ b.toInt + n.toInt ≤ 366
theorem cp_1 {r a n k : Int32} (e : r = q_X11_isIn (a.toInt64) 0 ((k - n).toInt64)) (h : ¬ r = 0) (hn : 0 ≤ n.toInt) (hk : 0 ≤ k.toInt) : 0 ≤ a.toInt ∧ a.toInt ≤ k.toInt - n.toInt := by
  have g := isIn_of e h
  rw [Int32.toInt_toInt64, Int32.toInt_toInt64] at g
  have e0 : (0 : Int64).toInt = 0 := by decide
  have r1 := i_rng k
  have r2 := i_rng n
  have s := i_sub (a := k) (b := n) (by omega) (by omega)
  rw [s, e0] at g
  exact g
theorem cp_ok {r1 r2 r3 a b n k : Int32} (e1 : r1 = q_X11_isIn (n.toInt64) 0 (k.toInt64)) (c1 : ¬ r1 = 0) (e2 : r2 = q_X11_isIn (a.toInt64) 0 ((k - n).toInt64)) (c2 : ¬ r2 = 0) (e3 : r3 = q_X11_isIn (b.toInt64) 0 ((k - n).toInt64)) (c3 : ¬ r3 = 0) (h0 : 0 ≤ k.toInt) (hc : k.toInt ≤ 366) : cpOk a b n := by
  have g := isIn_of e1 c1
  rw [Int32.toInt_toInt64, Int32.toInt_toInt64] at g
  have e0 : (0 : Int64).toInt = 0 := by decide
  rw [e0] at g
  have ga := cp_1 e2 c2 g.1 h0
  have gb := cp_1 e3 c3 g.1 h0
  exact ⟨ga.1, gb.1, g.1, by omega, by omega⟩
theorem cp_i {a b n : Int32} (h : cpOk a b n) : (0 ≤ (0 : Int32).toInt ∧ (0 : Int32).toInt ≤ n.toInt ∧ n.toInt < (0 : Int32).toInt + (367 : Nat)) ∧ cpOk a b n := by
  have e0 : (0 : Int32).toInt = 0 := by decide
  obtain ⟨h1, h2, h3, h4, h5⟩ := id h
  exact ⟨⟨by omega, by omega, by omega⟩, h⟩
theorem cp_st {v p x : Int32} {n : Nat} (h : 0 ≤ v.toInt ∧ v.toInt ≤ p.toInt ∧ p.toInt < v.toInt + (n + 1 : Nat)) (c : ¬ p ≤ v) (hx : x = v + 1) : 0 ≤ x.toInt ∧ x.toInt ≤ p.toInt ∧ p.toInt < x.toInt + n := by
  have c' := i_nle c
  have r := i_rng p
  have a := i_1 (v := v) (by omega)
  rw [← hx] at a
  omega
theorem cp_x {a p v : Int32} (ha : 0 ≤ a.toInt) (hs : a.toInt + p.toInt ≤ 366) (hv : 0 ≤ v.toInt ∧ v.toInt < p.toInt) : vp_in (a + v) 366 := by
  have s := i_add (a := a) (b := v) (by omega) (by omega)
  exact vx (by omega) (by show _ < (366 : Int); omega)
theorem cp_y {p v x : Int32} (hv : 0 ≤ v.toInt ∧ v.toInt < p.toInt) (hp : p.toInt ≤ 366) (e : x = p - 1 - v) : 0 ≤ x.toInt ∧ x.toInt < p.toInt := by
  have a := i_m1 (v := p) (by omega)
  have s := i_sub (a := p - 1) (b := v) (by omega) (by omega)
  rw [← e] at s
  omega
theorem cp_a2 {v p a b : Int32} {n : Nat} (h : (0 ≤ v.toInt ∧ v.toInt ≤ p.toInt ∧ p.toInt < v.toInt + n) ∧ cpOk a b p) (c : ¬ p ≤ v) : vp_in (a + v) 366 := cp_x h.2.1 h.2.2.2.2.1 ⟨h.1.1, i_nle c⟩
theorem cp_b2 {v p a b : Int32} {n : Nat} (h : (0 ≤ v.toInt ∧ v.toInt ≤ p.toInt ∧ p.toInt < v.toInt + n) ∧ cpOk a b p) (c : ¬ p ≤ v) : vp_in (b + v) 366 := cp_x h.2.2.1 h.2.2.2.2.2 ⟨h.1.1, i_nle c⟩
theorem cp_a1 {v p a b x : Int32} {n : Nat} (h : (0 ≤ v.toInt ∧ v.toInt ≤ p.toInt ∧ p.toInt < v.toInt + n) ∧ cpOk a b p) (c : ¬ p ≤ v) (e : x = p - 1 - v) : vp_in (a + x) 366 := cp_x h.2.1 h.2.2.2.2.1 (cp_y ⟨h.1.1, i_nle c⟩ (by have := h.2.1; have := h.2.2.2.2.1; omega) e)
theorem cp_b1 {v p a b x : Int32} {n : Nat} (h : (0 ≤ v.toInt ∧ v.toInt ≤ p.toInt ∧ p.toInt < v.toInt + n) ∧ cpOk a b p) (c : ¬ p ≤ v) (e : x = p - 1 - v) : vp_in (b + x) 366 := cp_x h.2.2.1 h.2.2.2.2.2 (cp_y ⟨h.1.1, i_nle c⟩ (by have := h.2.1; have := h.2.2.2.2.1; omega) e)
