/-! PURE 18: what is told about a thing; how many hours are left -/
theorem nx_and (a b : Nat) : nI a &&& nI b = nI (a &&& b) := by
  apply Int32.toBitVec_inj.1
  show BitVec.ofNat 32 a &&& BitVec.ofNat 32 b = BitVec.ofNat 32 (a &&& b)
  apply BitVec.eq_of_getLsbD_eq
  intro i hi
  rw [BitVec.getLsbD_and, BitVec.getLsbD_ofNat, BitVec.getLsbD_ofNat, BitVec.getLsbD_ofNat, Nat.testBit_and]
  simp [hi]
def bcN (n : Nat) : Nat := (let x9 := n - ((n / 2) &&& 1431655765); (let x23 := (x9 &&& 858993459) + ((x9 / 4) &&& 858993459); (let x33 := (x23 + x23 / 16) &&& 252645135; (let x40 := x33 + x33 / 256; (let x47 := x40 + x40 / 65536; x47 &&& 63)))))
theorem bc_N {n : Nat} (h : n < 16777216) : q_J6_bitCount_0f7a4 (nI n) = nI (bcN n) := by
  unfold q_J6_bitCount_0f7a4 bcN
  dsimp only
  have c1 : (1431655765 : Int32) = nI 1431655765 := rfl
  have c2 : (858993459 : Int32) = nI 858993459 := rfl
  have c3 : (252645135 : Int32) = nI 252645135 := rfl
  have c4 : (63 : Int32) = nI 63 := rfl
  rw [pk_ushrN (by omega) 1 1 (by decide), c1, nx_and]
  have l1 : (n / 2 ^ 1) &&& 1431655765 ≤ n := Nat.le_trans Nat.and_le_left (Nat.div_le_self _ _)
  rw [pk_sub l1]
  have b1 : n - (n / 2 ^ 1 &&& 1431655765) < 16777216 := by omega
  rw [show (2 : Nat) ^ 1 = 2 from rfl] at b1 ⊢
  generalize n - (n / 2 &&& 1431655765) = x9 at b1 ⊢
  rw [pk_ushrN (n := x9) (by omega) 2 2 (by decide), c2, nx_and, nx_and, nI_add, show (2 : Nat) ^ 2 = 4 from rfl]
  have b2 : (x9 &&& 858993459) + (x9 / 4 &&& 858993459) < 33554432 := by
    have h1 : x9 &&& 858993459 ≤ x9 := Nat.and_le_left
    have h2 : x9 / 4 &&& 858993459 ≤ x9 / 4 := Nat.and_le_left
    omega
  generalize (x9 &&& 858993459) + (x9 / 4 &&& 858993459) = x23 at b2 ⊢
  rw [pk_ushrN (n := x23) (by omega) 4 4 (by decide), nI_add, c3, nx_and, show (2 : Nat) ^ 4 = 16 from rfl]
  have b3 : (x23 + x23 / 16) &&& 252645135 ≤ 252645135 := Nat.and_le_right
  generalize (x23 + x23 / 16) &&& 252645135 = x33 at b3 ⊢
  rw [pk_ushrN (n := x33) (by omega) 8 8 (by decide), nI_add, show (2 : Nat) ^ 8 = 256 from rfl]
  have b4 : x33 + x33 / 256 ≤ 300000000 := by omega
  generalize x33 + x33 / 256 = x40 at b4 ⊢
  rw [pk_ushrN (n := x40) (by omega) 16 16 (by decide), nI_add, c4, nx_and, show (2 : Nat) ^ 16 = 65536 from rfl]
/-- the bits of a byte -/
def pb (c : Nat) : Nat := c % 2 + c / 2 % 2 + c / 4 % 2 + c / 8 % 2 + c / 16 % 2 + c / 32 % 2 + c / 64 % 2 + c / 128 % 2
theorem ln_and (A B a b : Nat) (ha : a < 256) (hb : b < 256) : (A * 256 + a) &&& (B * 256 + b) = (A &&& B) * 256 + (a &&& b) := by
  have h1 : ((A * 256 + a) &&& (B * 256 + b)) / 2 ^ 8 = A &&& B := by
    rw [Nat.and_div_two_pow, show (A * 256 + a) / 2 ^ 8 = A by omega, show (B * 256 + b) / 2 ^ 8 = B by omega]
  have h2 : ((A * 256 + a) &&& (B * 256 + b)) % 2 ^ 8 = a &&& b := by
    rw [Nat.and_mod_two_pow, show (A * 256 + a) % 2 ^ 8 = a by omega, show (B * 256 + b) % 2 ^ 8 = b by omega]
  omega
def t1 (c : Nat) : Nat := c - ((c / 2) &&& 85)
def t2 (y : Nat) : Nat := (y &&& 51) + ((y / 4) &&& 51)
theorem f1 : ∀ m : Fin 2, ∀ c : Fin 256, (128 * m.val + c.val / 2) &&& 85 = (c.val / 2) &&& 85 := by decide +kernel
theorem f2 : ∀ m : Fin 4, ∀ c : Fin 256, (64 * m.val + c.val / 4) &&& 51 = (c.val / 4) &&& 51 := by decide +kernel
theorem f3 : ∀ c : Fin 256, ((c.val / 2) &&& 85) ≤ c.val ∧ t1 c.val < 256 ∧ (t2 (t1 c.val) % 16 ≤ 4 ∧ t2 (t1 c.val) / 16 ≤ 4) ∧ t2 (t1 c.val) % 16 + t2 (t1 c.val) / 16 = pb c.val := by decide +kernel
/-- one more byte below -/
theorem s1_l (m c K : Nat) (hc : c < 256) : ((m * 256 + c) / 2) &&& (K * 256 + 85) = ((m / 2) &&& K) * 256 + ((c / 2) &&& 85) := by
  have e : (m * 256 + c) / 2 = (m / 2) * 256 + (128 * (m % 2) + c / 2) := by omega
  rw [e, ln_and _ _ _ _ (by omega) (by omega)]
  have := f1 ⟨m % 2, by omega⟩ ⟨c, hc⟩
  rw [this]
theorem s2_l (m y K : Nat) (hy : y < 256) : ((m * 256 + y) / 4) &&& (K * 256 + 51) = ((m / 4) &&& K) * 256 + ((y / 4) &&& 51) := by
  have e : (m * 256 + y) / 4 = (m / 4) * 256 + (64 * (m % 4) + y / 4) := by omega
  rw [e, ln_and _ _ _ _ (by omega) (by omega)]
  have := f2 ⟨m % 4, by omega⟩ ⟨y, hy⟩
  rw [this]
theorem f4 : ∀ a b c d e f : Fin 5, (((((a.val + 16 * b.val) * 256 + (c.val + 16 * d.val)) * 256 + (e.val + 16 * f.val)) + ((((a.val + 16 * b.val) * 256 + (c.val + 16 * d.val)) * 256 + (e.val + 16 * f.val)) / 16)) &&& 252645135) = ((a.val + b.val) * 256 + (c.val + d.val)) * 256 + (e.val + f.val) := by decide +kernel
theorem f5 : ∀ a b c : Fin 9, (((((a.val * 256 + b.val) * 256 + c.val) + ((a.val * 256 + b.val) * 256 + c.val) / 256) + (((a.val * 256 + b.val) * 256 + c.val) + ((a.val * 256 + b.val) * 256 + c.val) / 256) / 65536) &&& 63) = a.val + b.val + c.val := by decide +kernel
theorem pb_le (c : Nat) : pb c ≤ 8 := by unfold pb; omega
theorem bcN_z {c0 c1 c2 : Nat} (h0 : c0 < 256) (h1 : c1 < 256) (h2 : c2 < 256) : bcN ((c2 * 256 + c1) * 256 + c0) = pb c2 + pb c1 + pb c0 := by
  have g0 := f3 ⟨c0, h0⟩
  have g1 := f3 ⟨c1, h1⟩
  have g2 := f3 ⟨c2, h2⟩
  dsimp only at g0 g1 g2
  have e9 : (c2 * 256 + c1) * 256 + c0 - ((((c2 * 256 + c1) * 256 + c0) / 2) &&& 1431655765) = (t1 c2 * 256 + t1 c1) * 256 + t1 c0 := by
    rw [show (1431655765 : Nat) = (5592405 * 256 + 85) from rfl, s1_l _ _ _ h0, show (5592405 : Nat) = (21845 * 256 + 85) from rfl, s1_l _ _ _ h1]
    have e : (c2 / 2) &&& 21845 = (c2 / 2) &&& 85 := by
      have : ∀ c : Fin 256, (c.val / 2) &&& 21845 = (c.val / 2) &&& 85 := by decide +kernel
      exact this ⟨c2, h2⟩
    rw [e]
    unfold t1
    omega
  unfold bcN
  dsimp only
  rw [e9]
  have e23 : (((t1 c2 * 256 + t1 c1) * 256 + t1 c0) &&& 858993459) + ((((t1 c2 * 256 + t1 c1) * 256 + t1 c0) / 4) &&& 858993459) = (t2 (t1 c2) * 256 + t2 (t1 c1)) * 256 + t2 (t1 c0) := by
    rw [show (858993459 : Nat) = (3355443 * 256 + 51) from rfl, s2_l _ _ _ g0.2.1, ln_and _ _ _ _ g0.2.1 (by decide), show (3355443 : Nat) = (13107 * 256 + 51) from rfl, s2_l _ _ _ g1.2.1, ln_and _ _ _ _ g1.2.1 (by decide)]
    have e : ∀ c : Fin 256, (c.val &&& 13107) = (c.val &&& 51) ∧ ((c.val / 4) &&& 13107) = ((c.val / 4) &&& 51) := by decide +kernel
    have e2 := e ⟨t1 c2, g2.2.1⟩
    dsimp only at e2
    rw [e2.1, e2.2]
    unfold t2
    omega
  rw [e23]
  have v : ∀ y, y % 16 + 16 * (y / 16) = y := fun y => by omega
  have q4 := f4 ⟨t2 (t1 c2) % 16, by omega⟩ ⟨t2 (t1 c2) / 16, by omega⟩ ⟨t2 (t1 c1) % 16, by omega⟩ ⟨t2 (t1 c1) / 16, by omega⟩ ⟨t2 (t1 c0) % 16, by omega⟩ ⟨t2 (t1 c0) / 16, by omega⟩
  dsimp only at q4
  rw [v, v, v, g0.2.2.2, g1.2.2.2, g2.2.2.2] at q4
  rw [q4]
  have p0 := pb_le c0
  have p1 := pb_le c1
  have p2 := pb_le c2
  exact f5 ⟨pb c2, by omega⟩ ⟨pb c1, by omega⟩ ⟨pb c0, by omega⟩
/-- the reference's sum of the bits -/
def lmN (n : Nat) : Nat → Nat
  | 0 => 0
  | k + 1 => lmN n k + n / 2 ^ k % 2
theorem sh_ok : ∀ k, k < 32 → ((nI k &&& 31).toBitVec.smod 32).toNat = k := by decide +kernel
theorem lmN_le (n : Nat) : ∀ k, lmN n k ≤ k
  | 0 => Nat.le_refl _
  | k + 1 => by
    have := lmN_le n k
    show lmN n k + n / 2 ^ k % 2 ≤ k + 1
    omega
theorem lm_z {M : gSm} {p : Int32} {n : Nat} (hn : n < 16777216) (hg : q_X11_get M p 6 = nI n) : ∀ (f k : Nat), k ≤ 24 → 24 < k + f → q_X11_leftMany_b4 M p f (nI (lmN n k)) (nI k) = nI (lmN n 24)
  | 0, k => fun h1 h2 => absurd h2 (by omega)
  | f + 1, k => by
    intro h1 h2
    rw [q_X11_leftMany_b4]
    dsimp only
    by_cases c : k = 24
    · subst c
      rw [if_pos (show (24 : Int32) ≤ nI 24 from nI_le (Nat.le_refl _) (by decide))]
    · rw [if_neg (show ¬ (24 : Int32) ≤ nI k from nI_ge (a := k) (b := 24) (by omega) (by decide)), hg, pk_shrN (by omega) (nI k &&& 31) k (sh_ok k (by omega)), show (1 : Int32) = nI 1 from rfl, nx_and, nI_add, nI_add, Nat.and_one_is_mod]
      exact lm_z hn hg f (k + 1) (by omega) (by omega)
theorem bt0 {m c : Nat} (h : c < 256) : (m * 256 + c) / 2 ^ 0 % 2 = c / 2 ^ 0 % 2 ∧ (m * 256 + c) / 2 ^ 1 % 2 = c / 2 ^ 1 % 2 ∧ (m * 256 + c) / 2 ^ 2 % 2 = c / 2 ^ 2 % 2 ∧ (m * 256 + c) / 2 ^ 3 % 2 = c / 2 ^ 3 % 2 ∧ (m * 256 + c) / 2 ^ 4 % 2 = c / 2 ^ 4 % 2 ∧ (m * 256 + c) / 2 ^ 5 % 2 = c / 2 ^ 5 % 2 ∧ (m * 256 + c) / 2 ^ 6 % 2 = c / 2 ^ 6 % 2 ∧ (m * 256 + c) / 2 ^ 7 % 2 = c / 2 ^ 7 % 2 := by
  refine ⟨?_, ?_, ?_, ?_, ?_, ?_, ?_, ?_⟩ <;> omega
theorem bt1 {m c : Nat} (h : c < 256) : (m * 256 + c) / 2 ^ 8 = m / 2 ^ 0 ∧ (m * 256 + c) / 2 ^ 9 = m / 2 ^ 1 ∧ (m * 256 + c) / 2 ^ 10 = m / 2 ^ 2 ∧ (m * 256 + c) / 2 ^ 11 = m / 2 ^ 3 ∧ (m * 256 + c) / 2 ^ 12 = m / 2 ^ 4 ∧ (m * 256 + c) / 2 ^ 13 = m / 2 ^ 5 ∧ (m * 256 + c) / 2 ^ 14 = m / 2 ^ 6 ∧ (m * 256 + c) / 2 ^ 15 = m / 2 ^ 7 ∧ (m * 256 + c) / 2 ^ 16 = m / 2 ^ 8 ∧ (m * 256 + c) / 2 ^ 17 = m / 2 ^ 9 ∧ (m * 256 + c) / 2 ^ 18 = m / 2 ^ 10 ∧ (m * 256 + c) / 2 ^ 19 = m / 2 ^ 11 ∧ (m * 256 + c) / 2 ^ 20 = m / 2 ^ 12 ∧ (m * 256 + c) / 2 ^ 21 = m / 2 ^ 13 ∧ (m * 256 + c) / 2 ^ 22 = m / 2 ^ 14 ∧ (m * 256 + c) / 2 ^ 23 = m / 2 ^ 15 := by
  refine ⟨?_, ?_, ?_, ?_, ?_, ?_, ?_, ?_, ?_, ?_, ?_, ?_, ?_, ?_, ?_, ?_⟩ <;> omega
theorem lm_pb {c0 c1 c2 : Nat} (h0 : c0 < 256) (h1 : c1 < 256) (h2 : c2 < 256) : lmN ((c2 * 256 + c1) * 256 + c0) 24 = pb c2 + pb c1 + pb c0 := by
  obtain ⟨a0, a1, a2, a3, a4, a5, a6, a7⟩ := bt0 (m := c2 * 256 + c1) h0
  obtain ⟨b0, b1, b2, b3, b4, b5, b6, b7, b8, b9, b10, b11, b12, b13, b14, b15⟩ := bt1 (m := c2 * 256 + c1) h0
  obtain ⟨d0, d1, d2, d3, d4, d5, d6, d7⟩ := bt0 (m := c2) h1
  obtain ⟨e0, e1, e2, e3, e4, e5, e6, e7, -⟩ := bt1 (m := c2) h1
  unfold lmN lmN lmN lmN lmN lmN lmN lmN lmN lmN lmN lmN lmN lmN lmN lmN lmN lmN lmN lmN lmN lmN lmN lmN lmN
  rw [b0, b1, b2, b3, b4, b5, b6, b7, b8, b9, b10, b11, b12, b13, b14, b15, a0, a1, a2, a3, a4, a5, a6, a7, d0, d1, d2, d3, d4, d5, d6, d7, e0, e1, e2, e3, e4, e5, e6, e7]
  clear a0 a1 a2 a3 a4 a5 a6 a7 b0 b1 b2 b3 b4 b5 b6 b7 b8 b9 b10 b11 b12 b13 b14 b15 d0 d1 d2 d3 d4 d5 d6 d7 e0 e1 e2 e3 e4 e5 e6 e7
  have p : ∀ c, pb c = c / 2 ^ 0 % 2 + c / 2 ^ 1 % 2 + c / 2 ^ 2 % 2 + c / 2 ^ 3 % 2 + c / 2 ^ 4 % 2 + c / 2 ^ 5 % 2 + c / 2 ^ 6 % 2 + c / 2 ^ 7 % 2 := fun c => by
    unfold pb
    rw [Nat.pow_zero, Nat.div_one]
  rw [p, p, p]
  generalize c0 / 2 ^ 0 % 2 = z0
  generalize c0 / 2 ^ 1 % 2 = z1
  generalize c0 / 2 ^ 2 % 2 = z2
  generalize c0 / 2 ^ 3 % 2 = z3
  generalize c0 / 2 ^ 4 % 2 = z4
  generalize c0 / 2 ^ 5 % 2 = z5
  generalize c0 / 2 ^ 6 % 2 = z6
  generalize c0 / 2 ^ 7 % 2 = z7
  generalize c1 / 2 ^ 0 % 2 = y0
  generalize c1 / 2 ^ 1 % 2 = y1
  generalize c1 / 2 ^ 2 % 2 = y2
  generalize c1 / 2 ^ 3 % 2 = y3
  generalize c1 / 2 ^ 4 % 2 = y4
  generalize c1 / 2 ^ 5 % 2 = y5
  generalize c1 / 2 ^ 6 % 2 = y6
  generalize c1 / 2 ^ 7 % 2 = y7
  generalize c2 / 2 ^ 0 % 2 = x0
  generalize c2 / 2 ^ 1 % 2 = x1
  generalize c2 / 2 ^ 2 % 2 = x2
  generalize c2 / 2 ^ 3 % 2 = x3
  generalize c2 / 2 ^ 4 % 2 = x4
  generalize c2 / 2 ^ 5 % 2 = x5
  generalize c2 / 2 ^ 6 % 2 = x6
  generalize c2 / 2 ^ 7 % 2 = x7
  omega
theorem lm_eq {M : gSm} {p x : Int32} (h0 : 0 ≤ x.toInt) (h1 : x.toInt < 16777216) (hg : q_X11_get M p 6 = x) : q_X11_leftMany M p = q_J6_bitCount_0f7a4 x := by
  have xn := nI_x h0
  have ln : x.toNatClampNeg < 16777216 := by show x.toInt.toNat < 16777216; omega
  generalize x.toNatClampNeg = n at xn ln
  subst xn
  have z := lm_z (M := M) (p := p) ln hg 25 0 (by decide) (by decide)
  rw [show lmN n 0 = 0 from rfl, nI_0] at z
  rw [q_X11_leftMany, z, bc_N ln]
  have e : n = (n / 65536 * 256 + n / 256 % 256) * 256 + n % 256 := by omega
  have b := bcN_z (c0 := n % 256) (c1 := n / 256 % 256) (c2 := n / 65536) (by omega) (by omega) (by omega)
  have l := lm_pb (c0 := n % 256) (c1 := n / 256 % 256) (c2 := n / 65536) (by omega) (by omega) (by omega)
  rw [← e] at b l
  rw [b, l]
theorem P_about {M : gSm} {S : gSc} (h : inv M S) (p w : Int32) : q_X10_about S p w = q_X11_about M p w := by
  unfold q_X10_about q_X11_about
  dsimp only
  rw [pl_eq, wi_eq]
  by_cases c1 : q_X11_isPlace p = 0
  · rw [if_pos c1, if_pos c1]
  · rw [if_neg c1, if_neg c1]
    by_cases c2 : q_X11_isIn (w.toInt64) 0 5 = 0
    · rw [if_pos c2, if_pos c2]
    · rw [if_neg c2, if_neg c2]
      have hp := isPm_of rfl c1
      have b := isIn_of rfl c2
      rw [t64, l_0, show (5 : Int64).toInt = 5 by decide] at b
      have ws := i_06 b.1 (by omega)
      cases ho : S.2.1 3 p.toNatClampNeg with
      | none => rw [nF_of h.2.1 hp ho, if_pos rfl]
      | some a =>
        dsimp only
        by_cases hk : S.2.2.2.1 a = 1
        · rw [if_pos hk]
          have f := dF_of h.2.1 hp ho hk
          have d1 := dF_dial f
          have o1 := ok_eq f (k := 1) (by decide) (by decide)
          have o2 := ok_eq f (k := 2) (by decide) (by decide)
          have o4 := ok_eq f (k := 4) (by decide) (by decide)
          obtain ⟨f0, f1, f2, f3, f4, f5, f6, fo⟩ := f
          have lm := lm_eq fo.2.2.2.1 fo.2.2.2.2 f6
          have nz : ¬ q_X11_get M p 0 = 0 := by
            rw [f0]
            intro q
            have := (kd_of fo).2.2.2
            rw [q] at this
            exact this (by decide)
          rw [if_neg nz, d1, if_neg (show ¬ (1 : Int32) = 0 by decide), o1, o2, o4, f4, f5, lm]
          unfold q_X1_property
          dsimp only
          rw [isA_K, isA_K, isA_K]
          rcases ws with e | e | e | e | e | e | e <;> subst e
          · rw [if_pos rfl, if_neg (by decide), show (1 + 0 : Int32) = 1 by decide]; exact f1.symm
          · rw [if_neg (by decide), if_pos rfl, if_neg (by decide), show (1 + 1 : Int32) = 2 by decide]; exact f2.symm
          · rw [if_neg (by decide), if_neg (by decide), if_pos rfl, if_neg (by decide), show (1 + 2 : Int32) = 3 by decide]; exact f3.symm
          · rw [if_neg (show ¬ (3 : Int32) = 0 by decide), if_neg (show ¬ (3 : Int32) = 1 by decide), if_neg (show ¬ (3 : Int32) = 2 by decide), if_pos (show (3 : Int32) = 3 from rfl), if_pos (show (3 : Int32) ≤ 3 by decide)]
          · rw [if_neg (show ¬ (4 : Int32) = 0 by decide), if_neg (show ¬ (4 : Int32) = 1 by decide), if_neg (show ¬ (4 : Int32) = 2 by decide), if_neg (show ¬ (4 : Int32) = 3 by decide), if_pos (show (4 : Int32) = 4 from rfl), if_pos (show (3 : Int32) ≤ 4 by decide)]
          · rw [if_neg (show ¬ (5 : Int32) = 0 by decide), if_neg (show ¬ (5 : Int32) = 1 by decide), if_neg (show ¬ (5 : Int32) = 2 by decide), if_neg (show ¬ (5 : Int32) = 3 by decide), if_neg (show ¬ (5 : Int32) = 4 by decide), if_pos (show (3 : Int32) ≤ 5 by decide)]
          · exact absurd b.2 (by decide)
        · rw [if_neg hk]
          have f := hF_of h.2.1 hp ho hk
          have d1 := hF_dial f
          obtain ⟨f0, f1, f2, f3, f4, f5⟩ := f
          rw [f0, if_neg (show ¬ (1 : Int32) = 0 by decide), d1, if_pos rfl]
          unfold q_X2_property
          rcases ws with e | e | e | e | e | e | e <;> subst e
          · rw [if_pos rfl, if_neg (by decide), show (1 + 0 : Int32) = 1 by decide]; exact f1.symm
          · rw [if_neg (by decide), if_pos rfl, if_neg (by decide), show (1 + 1 : Int32) = 2 by decide]; exact f2.symm
          · rw [if_neg (by decide), if_neg (by decide), if_pos rfl, if_neg (by decide), show (1 + 2 : Int32) = 3 by decide]; exact f3.symm
          · rw [if_neg (by decide), if_neg (by decide), if_neg (by decide), if_pos rfl, if_neg (by decide), show (1 + 3 : Int32) = 4 by decide]; exact f4.symm
          · rw [if_neg (by decide), if_neg (by decide), if_neg (by decide), if_neg (by decide), if_pos rfl, if_neg (by decide), show (1 + 4 : Int32) = 5 by decide]; exact f5.symm
          · rw [if_neg (by decide), if_neg (by decide), if_neg (by decide), if_neg (by decide), if_neg (by decide), if_pos rfl]
          · exact absurd b.2 (by decide)
