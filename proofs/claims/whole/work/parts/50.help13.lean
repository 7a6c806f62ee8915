theorem kz_0 {S : gSc} (h0 : 0 ≤ (S.1 7 6).toInt) (h1 : (S.1 7 6).toInt ≤ 40) (hH : okH S) (k0 : 0 ≤ (S.1 1 1).toInt) (k1 : (S.1 1 1).toInt ≤ 366) : kZ S S := ⟨⟨h0, h1, hH⟩, ⟨k0, k1⟩, rfl⟩
theorem kc_setDay {k : Nat} (h : k ≠ 1) {S : gSc} {d : Int32} : (q_X8_setDay S d).1 k = S.1 k := by
  unfold q_X8_setDay
  dsimp only
  split <;> rw [pI_n h, pI_n h, pI_n h, pI_n h, pI_n h, pI_n h, pI_n h]
theorem kc_setMinute {k : Nat} (h : k ≠ 1) {S : gSc} {m : Int32} : (q_X8_setMinute S m).1 k = S.1 k := by
  unfold q_X8_setMinute
  dsimp only
  rw [pI_n h, pI_n h, pI_n h, pI_n h]
theorem kc_fh_b {k : Nat} (h : k ≠ 7) (S : gSc) : ∀ (n : Nat) (v : Int32) (Z : gSc), (q_X6_findHider_b16 S n v Z).1 k = Z.1 k
  | 0, _, _ => rfl
  | n + 1, v, Z => by
    rw [q_X6_findHider_b16]
    dsimp only
    (repeat' split) <;> first | (rw [kc_fh_b h S n]; done) | (rw [kc_fh_b h S n, pI_n h]; done) | rfl
theorem kc_findHider {k : Nat} (h : k ≠ 7) {S : gSc} : (q_X6_findHider S).1 k = S.1 k := by
  unfold q_X6_findHider
  split
  · rw [kc_fh_b h, pI_n h]
  · rw [pI_n h]
theorem kc_settle {k : Nat} (h : k ≠ 7) {S : gSc} : (q_X6_settle S).2.1 k = S.1 k := by
  unfold q_X6_settle
  dsimp only
  (repeat' split) <;> first | rfl | (dsimp only; rw [pI_n h, pI_n h]; done)
theorem kc_cast {k : Nat} (h : k ≠ 7) {S : gSc} : (q_X6_cast S).2.1 k = S.1 k := by
  unfold q_X6_cast
  dsimp only
  rw [kc_settle h, kc_findHider h]
theorem kw_add3 (S : gSc) (a b c : Int32) : kw (q_X3_add S a b c) S := by
  unfold q_X3_add
  split <;> repeat (first | exact kw_rf | refine kw_tr (kw_pI (Or.inl (by decide)) (Or.inl (by decide))) ?_)
theorem sm_0 {S : gSc} : 0 ≤ ((pI S 13 3 0).1 13 3).toInt ∧ ((pI S 13 3 0).1 13 3).toInt ≤ (0 : Int32).toInt := ⟨by show 0 ≤ (0 : Int32).toInt; decide, by show (0 : Int32).toInt ≤ (0 : Int32).toInt; decide⟩
theorem sm_1 {S Z : gSc} {v x : Int32} {n : Nat} (hi : gL 24 (n + 1) v ∧ kZ S Z ∧ 0 ≤ (Z.1 13 3).toInt ∧ (Z.1 13 3).toInt ≤ v.toInt) (c : ¬ 24 ≤ v) (hx : x = v + 1) : 0 ≤ (Z.1 13 3).toInt ∧ (Z.1 13 3).toInt ≤ x.toInt := by
  have c' := hi.1.lt c (by decide)
  have a := i_1 (v := v) (by omega)
  rw [← hx] at a
  exact ⟨hi.2.2.1, by have := hi.2.2.2; omega⟩
theorem sm_2 {Y : gSc} {v x a b c : Int32} (h : 0 ≤ (Y.1 13 3).toInt ∧ (Y.1 13 3).toInt ≤ v.toInt) (hv : 0 ≤ v.toInt ∧ v.toInt < (24 : Nat)) (hx : x = v + 1) : 0 ≤ ((q_X3_add Y a b c).1 13 3).toInt ∧ ((q_X3_add Y a b c).1 13 3).toInt ≤ x.toInt := by
  have e := i_1 (v := v) (by omega)
  rw [← hx] at e
  have d := i_1 (v := Y.1 13 3) (by omega)
  unfold q_X3_add
  split
  · rw [pI_s, pk_us]
    omega
  · omega
