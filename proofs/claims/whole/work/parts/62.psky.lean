/-! PURE 3: the sun -/
def slp (d : Int32) : Int32 := q_X10_dot 4267 (q_X10_sineOf (q_J9_floorDiv_7cf53 (65536 * (d - 80)) 366))
def trn (m c : Int32) : Int32 := q_J9_floorDiv_7cf53 (2048 * ((m + c) - 720)) 45
def cor (S : gSc) (d : Int32) : Int32 := if q_X10_within (d.toInt64) 0 (((S.1 1 1) - 1).toInt64) = 0 then 0 else S.1 2 (d.toNatClampNeg)
theorem slp_b (d : Int32) : -4267 ≤ (slp d).toInt ∧ (slp d).toInt ≤ 4267 := by
  have s := sin_b (q_J9_floorDiv_7cf53 (65536 * (d - 80)) 366)
  have c : (4267 : Int32).toInt = 4267 := by decide
  unfold slp
  rw [dot_z (by rw [c]; omega) (by rw [c]; omega) (by omega) (by omega), c]
  omega
theorem slp_eq {d : Int32} (h0 : 0 ≤ d.toInt) (h1 : d.toInt ≤ 365) : q_X11_slopeOf d = (slp d).toInt64 := by
  have c80 : (80 : Int32).toInt = 80 := by decide
  have c65 : (65536 : Int32).toInt = 65536 := by decide
  have k65 : (65536 : Int32).toInt64 = 65536 := by decide
  have k366 : (366 : Int32).toInt64 = 366 := by decide
  have k42 : (4267 : Int32).toInt64 = 4267 := by decide
  have s := i_sub (a := d) (b := 80) (by rw [c80]; omega) (by rw [c80]; omega)
  rw [c80] at s
  have e1 := m64 (a := 65536) (b := d - 80) (by rw [c65, s]; omega) (by rw [c65, s]; omega)
  rw [k65] at e1
  have e2 := fi_eq (a := 65536 * (d - 80)) (b := 366) (by decide)
  rw [e1, k366] at e2
  have b := sin_b (q_J9_floorDiv_7cf53 (65536 * (d - 80)) 366)
  have e3 := dot_eq (a := 4267) (b := q_X10_sineOf (q_J9_floorDiv_7cf53 (65536 * (d - 80)) 366)) (by decide) (by decide) (by omega) (by omega)
  rw [k42] at e3
  show q_X11_times 4267 (q_X11_sineOf (q_X11_down (65536 * ((d - 80).toInt64)) 366)) = _
  rw [e2, sin_eq]
  exact e3
theorem trn_eq {m c : Int32} (hm : 0 ≤ m.toInt ∧ m.toInt ≤ 1439) (hc : -99 ≤ c.toInt ∧ c.toInt ≤ 99) : q_X11_down (2048 * (((m + c) - 720).toInt64)) 45 = (trn m c).toInt64 ∧ -70000 ≤ (trn m c).toInt ∧ (trn m c).toInt ≤ 70000 := by
  have c720 : (720 : Int32).toInt = 720 := by decide
  have c20 : (2048 : Int32).toInt = 2048 := by decide
  have c45 : (45 : Int32).toInt = 45 := by decide
  have k20 : (2048 : Int32).toInt64 = 2048 := by decide
  have k45 : (45 : Int32).toInt64 = 45 := by decide
  have a := i_add (a := m) (b := c) (by omega) (by omega)
  have s := i_sub (a := m + c) (b := 720) (by rw [c720]; omega) (by rw [c720]; omega)
  rw [c720, a] at s
  have e1 := m64 (a := 2048) (b := (m + c) - 720) (by rw [c20, s]; omega) (by rw [c20, s]; omega)
  rw [k20] at e1
  have e2 := fi_eq (a := 2048 * ((m + c) - 720)) (b := 45) (by decide)
  rw [e1, k45] at e2
  have m1 := i_mul (a := 2048) (b := (m + c) - 720) (by rw [c20, s]; omega) (by rw [c20, s]; omega)
  rw [c20, s] at m1
  have z := fi_z (a := 2048 * ((m + c) - 720)) (b := 45) (by decide)
  rw [m1, c45] at z
  refine ⟨e2, ?_, ?_⟩
  · show -70000 ≤ (q_J9_floorDiv_7cf53 (2048 * ((m + c) - 720)) 45).toInt
    omega
  · show (q_J9_floorDiv_7cf53 (2048 * ((m + c) - 720)) 45).toInt ≤ 70000
    omega
theorem cor_eq {M : gSm} {S : gSc} {d : Int32} (h : iS M S) (h0 : 0 ≤ d.toInt) (h1 : d.toInt ≤ 365) : q_X11_correctionOf M d = cor S d ∧ -99 ≤ (cor S d).toInt ∧ (cor S d).toInt ≤ 99 := by
  obtain ⟨⟨k1, k2, k3⟩, -, hc⟩ := h
  unfold q_X11_correctionOf cor
  rw [k1]
  have e1 := i_m1 (v := S.1 1 1) (by omega)
  have n0 : ¬ d.toInt64 < 0 := fun q => by have := l_lt q; rw [t64, l_0] at this; omega
  have key : q_X10_within (d.toInt64) 0 (((S.1 1 1) - 1).toInt64) = 0 ↔ S.1 1 1 ≤ d := by
    unfold q_X10_within
    rw [if_neg n0]
    constructor
    · intro h
      by_cases c : S.1 1 1 ≤ d
      · exact c
      · have c' := i_nle c
        rw [if_neg (fun q => by have := l_lt q; rw [t64, t64, e1] at this; omega)] at h
        exact absurd h (by decide)
    · intro c
      have c' := i_le c
      rw [if_pos (Int64.lt_iff_toInt_lt.mpr (by rw [t64, t64, e1]; omega))]
  by_cases c : S.1 1 1 ≤ d
  · rw [if_pos c, if_pos (key.mpr c)]
    exact ⟨rfl, by decide, by decide⟩
  · rw [if_neg c, if_neg (fun q => c (key.mp q))]
    have c' := i_nle c
    exact hc d.toNatClampNeg (show d.toInt.toNat < 366 by omega)
/-- the sky is set to a day -/
def dyd (S : gSc) (d : Int32) : Prop := S.1 1 5 = cor S d ∧ S.1 1 6 = slp d ∧ S.1 1 7 = q_X10_cosineOf (slp d) ∧ S.1 1 8 = q_X10_dot (S.1 1 4) (q_X10_sineOf (slp d)) ∧ S.1 1 9 = q_X10_dot (S.1 1 3) (q_X10_cosineOf (slp d)) ∧ S.1 1 10 = q_X10_dot (S.1 1 3) (q_X10_sineOf (slp d)) ∧ S.1 1 11 = q_X10_dot (S.1 1 4) (q_X10_cosineOf (slp d))
theorem dyd_setDay (S : gSc) (d : Int32) : dyd (q_X8_setDay S d) d := by
  have c := cE_setDay S d
  have k : cor (q_X8_setDay S d) d = cor S d := by
    unfold cor
    rw [c.1.2.1.1, c.1.2.2.1]
  unfold dyd
  rw [k]
  unfold cor q_X8_setDay
  dsimp only
  by_cases h : q_X10_within (d.toInt64) 0 (((S.1 1 1) - 1).toInt64) = 0
  · simp only [if_pos h]
    exact ⟨rfl, rfl, rfl, rfl, rfl, rfl, rfl⟩
  · simp only [if_neg h]
    exact ⟨rfl, rfl, rfl, rfl, rfl, rfl, rfl⟩
theorem dyd_st {S Y : gSc} {d : Int32} (h : dyd S d) (k : kQ Y S) : dyd Y d := by
  obtain ⟨k1, k2, k3, k4⟩ := k
  unfold dyd cor at h ⊢
  rw [k2 1 (by decide), k2 3 (by decide), k2 4 (by decide), k2 5 (by decide), k2 6 (by decide), k2 7 (by decide), k2 8 (by decide), k2 9 (by decide), k2 10 (by decide), k2 11 (by decide), k4 2 rfl]
  exact h
/-- the sun as both have it -/
def skd (M : gSm) (S : gSc) : Prop := M.2 0 11 = (S.1 1 13).toInt64 ∧ M.2 0 12 = (S.1 1 14).toInt64 ∧ M.2 0 13 = (S.1 1 15).toInt64
theorem look_eq {M : gSm} {S : gSc} {d m : Int32} (h : iS M S) (hd : 0 ≤ d.toInt ∧ d.toInt ≤ 365) (hm : 0 ≤ m.toInt ∧ m.toInt ≤ 1439) (hy : dyd S d) : skd (q_X11_look M d m) (q_X8_setMinute S m) ∧ q_X11_turnOf M d m = ((q_X8_setMinute S m).1 1 12).toInt64 := by
  have hc := cor_eq h hd.1 hd.2
  obtain ⟨y5, y6, y7, y8, y9, y10, y11⟩ := hy
  have hb : -99 ≤ (S.1 1 5).toInt ∧ (S.1 1 5).toInt ≤ 99 := by rw [y5]; exact hc.2
  have ht := trn_eq hm hb
  have et : q_X11_turnOf M d m = (trn m (S.1 1 5)).toInt64 := by
    show q_X11_down (2048 * (((m + q_X11_correctionOf M d) - 720).toInt64)) 45 = _
    rw [hc.1, ← y5]
    exact ht.1
  have es := slp_eq hd.1 hd.2
  have bs := slp_b d
  obtain ⟨-, ⟨l1, l2, l3, l4, l5⟩, -⟩ := h
  have b3 : -16384 ≤ (S.1 1 3).toInt ∧ (S.1 1 3).toInt ≤ 16384 := by rw [l4]; exact sin_b _
  have b4 : -16384 ≤ (S.1 1 4).toInt ∧ (S.1 1 4).toInt ≤ 16384 := by rw [l5]; exact cos_b _
  have bsn := sin_b (slp d)
  have bcs := cos_b (slp d)
  have btn := sin_b (trn m (S.1 1 5))
  have btc := cos_b (trn m (S.1 1 5))
  have ef : q_X11_sineOf ((M.1 0 4).toInt64) = (S.1 1 3).toInt64 := by rw [l1, sin_eq, l4]
  have eg : q_X11_cosineOf ((M.1 0 4).toInt64) = (S.1 1 4).toInt64 := by rw [l1, cos_eq (by omega), l5]
  have eds : q_X11_sineOf (q_X11_slopeOf d) = (q_X10_sineOf (slp d)).toInt64 := by rw [es, sin_eq]
  have edc : q_X11_cosineOf (q_X11_slopeOf d) = (q_X10_cosineOf (slp d)).toInt64 := by rw [es, cos_eq (by omega)]
  have ehs : q_X11_sineOf (q_X11_turnOf M d m) = (q_X10_sineOf (trn m (S.1 1 5))).toInt64 := by rw [et, sin_eq]
  have ehc : q_X11_cosineOf (q_X11_turnOf M d m) = (q_X10_cosineOf (trn m (S.1 1 5))).toInt64 := by rw [et, cos_eq (by omega)]
  refine ⟨⟨?_, ?_, ?_⟩, et⟩
  · show -(q_X11_times (q_X11_cosineOf (q_X11_slopeOf d)) (q_X11_sineOf (q_X11_turnOf M d m))) = (-(q_X10_dot (S.1 1 7) (q_X10_sineOf (trn m (S.1 1 5))))).toInt64
    have b := dot_b bcs btn
    rw [edc, ehs, dot_e bcs btn, y7, n64 (by omega)]
  · show q_X11_times (q_X11_cosineOf ((M.1 0 4).toInt64)) (q_X11_sineOf (q_X11_slopeOf d)) - q_X11_times (q_X11_times (q_X11_sineOf ((M.1 0 4).toInt64)) (q_X11_cosineOf (q_X11_slopeOf d))) (q_X11_cosineOf (q_X11_turnOf M d m)) = ((S.1 1 8) - q_X10_dot (S.1 1 9) (q_X10_cosineOf (trn m (S.1 1 5)))).toInt64
    have d1 := dot_b b4 bsn
    have d2 := dot_b b3 bcs
    have d3 := dot_b d2 btc
    rw [eg, eds, ef, edc, ehc, dot_e b4 bsn, dot_e b3 bcs, dot_e d2 btc, y8, y9, s64 (by omega) (by omega)]
  · show q_X11_times (q_X11_sineOf ((M.1 0 4).toInt64)) (q_X11_sineOf (q_X11_slopeOf d)) + q_X11_times (q_X11_times (q_X11_cosineOf ((M.1 0 4).toInt64)) (q_X11_cosineOf (q_X11_slopeOf d))) (q_X11_cosineOf (q_X11_turnOf M d m)) = ((S.1 1 10) + q_X10_dot (S.1 1 11) (q_X10_cosineOf (trn m (S.1 1 5)))).toInt64
    have d1 := dot_b b3 bsn
    have d2 := dot_b b4 bcs
    have d3 := dot_b d2 btc
    rw [eg, eds, ef, edc, ehc, dot_e b3 bsn, dot_e b4 bcs, dot_e d2 btc, y10, y11, a64 (by omega) (by omega)]
theorem skd_st {M : gSm} {S Y : gSc} (h : skd M S) (e : Y.1 1 = S.1 1) : skd M Y := by
  unfold skd
  rw [e]
  exact h
