/-! PURE 10: stretches -/
theorem row_I (M : gSm) (p d p3 p4 : Int32) : ∀ (n : Nat) (v5 v6 v7 : Int32) (Z : gSm), (q_X11_rowOf_b10 M p d p3 p4 n v5 v6 v7 Z).2.1 = Z.1
  | 0, _, _, _, _ => rfl
  | n + 1, v5, v6, v7, Z => by
    rw [q_X11_rowOf_b10]
    dsimp only
    have e := stn_I Z p d v7
    generalize q_X11_stateNow Z p d v7 = T at e ⊢
    (repeat' split) <;> first | rfl | exact e | exact row_I M p d p3 p4 n _ _ _ _ | exact (row_I M p d p3 p4 n _ _ _ _).trans e
theorem kQ_fs (S : gSc) (a : Nat) (d w : Int32) : ∀ (n : Nat) (v4 v5 v6 : Int32) (Z : gSc), kQ (q_X10_followStretches_b36 S a d w n v4 v5 v6 Z).2 Z
  | 0, _, _, _, _ => kQ_rf
  | n + 1, v4, v5, v6, Z => by
    rw [q_X10_followStretches_b36]
    dsimp only
    have h : kQ (q_X6_cast (q_X8_setMinute Z v6)).2 Z := kQ_tr (kQ_cast _) (kQ_setMinute _ _)
    generalize q_X6_cast (q_X8_setMinute Z v6) = T at h ⊢
    have g := kQ_tr (kQ_add26 T.2 v6) h
    generalize q_X4_add_26 T.2 v6 = U at g ⊢
    (repeat' split) <;> first | exact kQ_rf | exact kQ_tr (kQ_fs S a d w n _ _ _ _) h | exact kQ_tr (kQ_fs S a d w n _ _ _ _) g
/-- behind the wanted stretch its range stays -/
theorem fs_tail (S : gSc) (a : Nat) (d w : Int32) (hw : 0 ≤ w.toInt) : ∀ (n c : Nat) (v5 v6 : Int32) (Z : gSc), c + n < 2000000000 → w.toInt < c → ((c : Int) = w.toInt + 1 → v5 = 0) → (q_X10_followStretches_b36 S a d w n (nI c) v5 v6 Z).2.1 26 = Z.1 26
  | 0, _, _, _, _ => fun _ _ _ => rfl
  | n + 1, c, v5, v6, Z => by
    intro h1 h2 h3
    rw [q_X10_followStretches_b36]
    dsimp only
    have h : (q_X6_cast (q_X8_setMinute Z v6)).2.1 26 = Z.1 26 := sx_c (by decide) (by decide)
    generalize q_X6_cast (q_X8_setMinute Z v6) = T at h ⊢
    have tc : (nI c).toInt = (c : Int) := nI_toInt (by omega)
    by_cases g : (1440 : Int32) ≤ v6
    · rw [if_pos g]
    · rw [if_neg g]
      by_cases g0 : T.1 = 0
      · rw [if_pos g0]
        by_cases g5 : v5 = 0
        · rw [if_pos g5, nI_1]
          have e : ¬ nI (c + 1) - 1 = w := fun q => by
            have := congrArg Int32.toInt q
            rw [nI_pred, tc] at this
            omega
          rw [if_neg e, fs_tail S a d w hw n (c + 1) _ _ _ (by omega) (by omega) (fun q => absurd q (by omega))]
          exact h
        · rw [if_neg g5]
          have e : ¬ nI c - 1 = w := fun q => by
            have := congrArg Int32.toInt q
            rw [i_m1 (by omega), tc] at this
            exact g5 (h3 (by omega))
          rw [if_neg e, fs_tail S a d w hw n c _ _ _ (by omega) h2 (fun q => absurd (h3 q) g5)]
          exact h
      · rw [if_neg g0, fs_tail S a d w hw n c _ _ _ (by omega) h2 (fun _ => rfl)]
        exact h
def stA (Z : gSc) (w : Int32) : Int32 := if w = 0 then q_X4_leastOrNone_26 Z else q_X4_greatestOrNone_26 Z
/-- the range of the wanted stretch: from b to i - 1 -/
def rg26 (Z : gSc) (b i : Nat) : Prop := ¬ Z.1 26 0 = 0 ∧ (0 ≤ (Z.1 26 0).toInt ∧ (Z.1 26 0).toInt ≤ i) ∧ Z.1 26 1 = nI b ∧ Z.1 26 2 = nI (i - 1) ∧ b < i
theorem rg_end {Z : gSc} {b i : Nat} {w : Int32} (h : rg26 Z b i) : stA Z w = if w = 0 then nI b else nI (i - 1) := by
  obtain ⟨h1, h2, h3, h4, h5⟩ := h
  unfold stA q_X4_leastOrNone_26 q_X4_greatestOrNone_26
  rw [if_neg h1, if_neg h1, h3, h4]
theorem rg_none {Z : gSc} {w : Int32} (h : Z.1 26 0 = 0) : stA Z w = -2000000005 := by
  unfold stA q_X4_leastOrNone_26 q_X4_greatestOrNone_26
  rw [if_pos h, if_pos h]
  split <;> rfl
theorem rg_1 {Z : gSc} {i : Nat} (h : Z.1 26 0 = 0) (hi : i < 1440) : rg26 (q_X4_add_26 Z (nI i)) i (i + 1) := by
  obtain ⟨a0, a1, a2, -⟩ := add_v26 Z (nI i)
  rw [h, if_pos rfl] at a1 a2
  rw [h] at a0
  refine ⟨by rw [a0]; decide, by rw [a0]; refine ⟨by decide, ?_⟩; show (0 + 1 : Int32).toInt ≤ _; rw [show (0 + 1 : Int32).toInt = 1 by decide]; omega, a1, a2, by omega⟩
theorem rg_2 {Z : gSc} {b i : Nat} (h : rg26 Z b i) (hi : i < 1440) : rg26 (q_X4_add_26 Z (nI i)) b (i + 1) := by
  obtain ⟨h1, h2, h3, h4, h5⟩ := h
  obtain ⟨a0, a1, a2, -⟩ := add_v26 Z (nI i)
  rw [if_neg h1, h3, if_pos (nI_le (by omega) (by omega))] at a1
  rw [if_neg h1, h4, if_neg (nI_ge (by omega) (by omega))] at a2
  have e := i_1 (v := Z.1 26 0) (by omega)
  refine ⟨?_, ?_, a1, a2, by omega⟩
  · rw [a0]
    intro q
    have := congrArg Int32.toInt q
    rw [e, i_0] at this
    omega
  · rw [a0, e]; omega
theorem rg_k {Z Y : gSc} {b i : Nat} (h : rg26 Z b i) (e : Y.1 26 = Z.1 26) : rg26 Y b i := by
  unfold rg26
  rw [e]
  exact h
/-- the reference's numbers and the class's at a minute: c begun, vL whether it was lit -/
def srI (i c : Nat) (vL v5 v6 : Int32) (b : Nat) : Prop := c ≤ i ∧ ((vL = 0 ∧ v6 = -2000000005 ∧ v5 = nI c) ∨ (vL = 1 ∧ v6 = nI b ∧ b < i ∧ 0 < c ∧ v5 = nI (c - 1)))
theorem nI_noneB {b : Nat} (h : b < 2000) : ¬ nI b = (-2000000005) := by
  intro e
  have := congrArg Int32.toInt e
  rw [nI_toInt (by omega), show (-2000000005 : Int32).toInt = -2000000005 by decide] at this
  omega
theorem sr_z {M0 : gSm} {S0 S1 : gSc} {p d P w : Int32} {a : Nat} (hP : 0 ≤ P.toInt) (hd : 0 ≤ d.toInt ∧ d.toInt ≤ 365) : ∀ (n i : Nat) (N : gSm) (Y : gSc) (c b : Nat) (vL v5 v6 : Int32), i + n = 1441 → 0 < n → rdy N S0 Y p a (S0.2.2.2.2 a 4) → dyd Y d → srI i c vL v5 v6 b → v5.toInt ≤ P.toInt → (v5 = P ∧ vL = 1 → rg26 Y b i) → (¬ (v5 = P ∧ vL = 1) → Y.1 26 0 = 0) → (q_X11_rowOf_b10 M0 p d P w (n + 1) v5 v6 (nI i) N).1 = stA (q_X10_followStretches_b36 S1 a d P n (nI c) vL (nI i) Y).2 w
  | 0, i, N, Y, c, b, vL, v5, v6 => fun _ h => absurd h (Nat.lt_irrefl 0)
  | n + 1, i, N, Y, c, b, vL, v5, v6 => by
    intro h1 _ r hy hI h5 hr1 hr0
    have pN : (0 : Int32) ≤ P := Int32.le_iff_toInt_le.mpr (by rw [i_0]; exact hP)
    rw [q_X11_rowOf_b10, q_X10_followStretches_b36]
    dsimp only
    have ti : (nI i).toInt = (i : Int) := nI_toInt (by omega)
    have c1440 : (1440 : Int32).toInt = 1440 := by decide
    by_cases ci : i = 1440
    · subst ci
      have g1 : ¬ (1440 : Int32) < nI 1440 := nI_nlt (Nat.le_refl _) (by decide)
      have g2 : (1440 : Int32) ≤ nI 1440 := nI_le (Nat.le_refl _) (by decide)
      have n0 : n = 0 := by omega
      subst n0
      have g3 : (1440 : Int32) < nI (1440 + 1) := nI_lt (by decide) (by decide)
      have eb : ∀ x y : Int32, q_X11_rowOf_b10 M0 p d P w (0 + 1) x y (nI (1440 + 1)) N = (-2000000005, N) := by
        intro x y
        rw [q_X11_rowOf_b10]
        dsimp only
        rw [if_pos g3, if_pos pN]
      rw [if_neg g1, if_pos g2, if_pos g2, nI_1, eb, eb]
      rcases hI with ⟨hc, ⟨e1, e2, e3⟩ | ⟨e1, e2, e3, e4, e5⟩⟩
      · rw [if_pos e2]
        have := hr0 (fun q => by rw [e1] at q; exact absurd q.2 (by decide))
        rw [rg_none this]
      · rw [e2, if_neg (nI_noneB (by omega))]
        by_cases q : v5 = P
        · rw [if_pos q]
          have g := hr1 ⟨q, e1⟩
          rw [rg_end g]
          by_cases q2 : w = 0
          · rw [if_pos q2, if_pos q2]
          · rw [if_neg q2, if_neg q2]
            rfl
        · rw [if_neg q]
          have := hr0 (fun z => q z.1)
          rw [rg_none this]
    · have g1 : ¬ (1440 : Int32) < nI i := nI_nlt (a := 1440) (b := i) (by omega) (by decide)
      have g2 : ¬ (1440 : Int32) ≤ nI i := nI_ge (a := i) (b := 1440) (by omega) (by decide)
      rw [if_neg g1, if_neg g2, if_neg g2, nI_1]
      have q := r.now (d := d) (m := nI i) hy hd (by rw [ti]; omega)
      have k26 : (q_X6_cast (q_X8_setMinute Y (nI i))).2.1 26 = Y.1 26 := sx_c (by decide) (by decide)
      generalize q_X6_cast (q_X8_setMinute Y (nI i)) = R at q k26 ⊢
      generalize q_X11_stateNow N p d (nI i) = T at q ⊢
      rw [← q.1.1]
      have rr := q.2.2.1
      have yy := q.2.2.2
      have ka := kQ_add26 R.2 (nI i)
      by_cases g : R.1 = 0
      · rw [if_pos g, if_pos g]
        rcases hI with ⟨hc, ⟨e1, e2, e3⟩ | ⟨e1, e2, e3, e4, e5⟩⟩
        · rw [if_pos e1, if_pos e2, nI_1, nI_pred]
          have z0 := hr0 (fun z => by rw [e1] at z; exact absurd z.2 (by decide))
          by_cases q3 : nI c = P
          · rw [if_pos q3]
            exact sr_z hP hd n (i + 1) _ _ (c + 1) i 1 v5 (nI i) (by omega) (by omega) (rr.k ka) (dyd_st yy ka) ⟨by omega, Or.inr ⟨rfl, rfl, by omega, by omega, e3⟩⟩ h5 (fun _ => rg_1 (by rw [k26]; exact z0) (by omega)) (fun z => absurd ⟨e3.trans q3, rfl⟩ z)
          · rw [if_neg q3]
            exact sr_z hP hd n (i + 1) _ _ (c + 1) i 1 v5 (nI i) (by omega) (by omega) rr yy ⟨by omega, Or.inr ⟨rfl, rfl, by omega, by omega, e3⟩⟩ h5 (fun z => absurd (e3.symm.trans z.1) q3) (fun _ => by rw [k26]; exact z0)
        · have nl : ¬ vL = 0 := by rw [e1]; decide
          have ec : nI c - 1 = nI (c - 1) := by
            have := nI_pred (c - 1)
            rwa [Nat.sub_add_cancel (by omega)] at this
          have nb : ¬ v6 = -2000000005 := by rw [e2]; exact nI_noneB (by omega)
          rw [if_neg nl, if_neg nb, ec, ← e5]
          by_cases q3 : v5 = P
          · rw [if_pos q3]
            have gg := hr1 ⟨q3, e1⟩
            exact sr_z hP hd n (i + 1) _ _ c b 1 v5 v6 (by omega) (by omega) (rr.k ka) (dyd_st yy ka) ⟨by omega, Or.inr ⟨rfl, e2, by omega, e4, e5⟩⟩ h5 (fun _ => rg_2 (rg_k gg k26) (by omega)) (fun z => absurd ⟨q3, rfl⟩ z)
          · rw [if_neg q3]
            have z0 := hr0 (fun z => q3 z.1)
            exact sr_z hP hd n (i + 1) _ _ c b 1 v5 v6 (by omega) (by omega) rr yy ⟨by omega, Or.inr ⟨rfl, e2, by omega, e4, e5⟩⟩ h5 (fun z => absurd z.1 q3) (fun _ => by rw [k26]; exact z0)
      · rw [if_neg g, if_neg g]
        rcases hI with ⟨hc, ⟨e1, e2, e3⟩ | ⟨e1, e2, e3, e4, e5⟩⟩
        · rw [if_pos e2]
          have z0 := hr0 (fun z => by rw [e1] at z; exact absurd z.2 (by decide))
          exact sr_z hP hd n (i + 1) _ _ c b 0 v5 v6 (by omega) (by omega) rr yy ⟨by omega, Or.inl ⟨rfl, e2, e3⟩⟩ h5 (fun z => absurd z.2 (by decide)) (fun _ => by rw [k26]; exact z0)
        · have nb : ¬ v6 = -2000000005 := by rw [e2]; exact nI_noneB (by omega)
          rw [if_neg nb]
          have t5 : v5.toInt = (c : Int) - 1 := by rw [e5, nI_toInt (by omega)]; omega
          by_cases q3 : v5 = P
          · rw [if_pos q3]
            have gg := rg_k (hr1 ⟨q3, e1⟩) k26
            have tp : P.toInt = (c : Int) - 1 := by rw [← q3]; exact t5
            have tl := fs_tail S1 a d P hP n c 0 (nI (i + 1)) R.2 (by omega) (by omega) (fun _ => rfl)
            rw [rg_end (rg_k gg tl), e2]
            by_cases q2 : w = 0
            · rw [if_pos q2, if_pos q2]
            · rw [if_neg q2, if_neg q2]
              have := nI_pred (i - 1)
              rw [Nat.sub_add_cancel (by omega)] at this
              exact this
          · rw [if_neg q3]
            have z0 := hr0 (fun z => q3 z.1)
            have e6 : v5 + 1 = nI c := by rw [e5, nI_1, Nat.sub_add_cancel (by omega)]
            have ne : v5.toInt ≠ P.toInt := fun z => q3 (y_inj z)
            rw [e6]
            exact sr_z hP hd n (i + 1) _ _ c b 0 (nI c) (-2000000005) (by omega) (by omega) rr yy ⟨by omega, Or.inl ⟨rfl, rfl, rfl⟩⟩ (by rw [nI_toInt (by omega)]; omega) (fun z => absurd z.2 (by decide)) (fun _ => by rw [k26]; exact z0)
theorem sc_z {M0 : gSm} {S0 S1 : gSc} {p d : Int32} {a : Nat} (hd : 0 ≤ d.toInt ∧ d.toInt ≤ 365) : ∀ (n i : Nat) (N : gSm) (Y : gSc) (c b : Nat) (vL v5 v6 : Int32), i + n = 1441 → 0 < n → rdy N S0 Y p a (S0.2.2.2.2 a 4) → dyd Y d → srI i c vL v5 v6 b → (q_X11_rowOf_b10 M0 p d (-1) 0 (n + 1) v5 v6 (nI i) N).1 = (q_X10_followStretches_b36 S1 a d (-2000000005) n (nI c) vL (nI i) Y).1
  | 0, i, N, Y, c, b, vL, v5, v6 => fun _ h => absurd h (Nat.lt_irrefl 0)
  | n + 1, i, N, Y, c, b, vL, v5, v6 => by
    intro h1 _ r hy hI
    have pN : ¬ (0 : Int32) ≤ -1 := by decide
    have nm : ∀ k : Nat, k < 2000 → ¬ nI k = -1 := by
      intro k hk e
      have := congrArg Int32.toInt e
      rw [nI_toInt (by omega), show (-1 : Int32).toInt = -1 by decide] at this
      omega
    rw [q_X11_rowOf_b10, q_X10_followStretches_b36]
    dsimp only
    have ti : (nI i).toInt = (i : Int) := nI_toInt (by omega)
    by_cases ci : i = 1440
    · subst ci
      have g1 : ¬ (1440 : Int32) < nI 1440 := nI_nlt (Nat.le_refl _) (by decide)
      have g2 : (1440 : Int32) ≤ nI 1440 := nI_le (Nat.le_refl _) (by decide)
      have n0 : n = 0 := by omega
      subst n0
      have g3 : (1440 : Int32) < nI (1440 + 1) := nI_lt (by decide) (by decide)
      have eb : ∀ x y : Int32, q_X11_rowOf_b10 M0 p d (-1) 0 (0 + 1) x y (nI (1440 + 1)) N = (x, N) := by
        intro x y
        rw [q_X11_rowOf_b10]
        dsimp only
        rw [if_pos g3, if_neg pN]
      rw [if_neg g1, if_pos g2, if_pos g2, nI_1, eb, eb]
      rcases hI with ⟨hc, ⟨e1, e2, e3⟩ | ⟨e1, e2, e3, e4, e5⟩⟩
      · rw [if_pos e2]
        exact e3
      · rw [e2, if_neg (nI_noneB (by omega)), e5, if_neg (nm _ (by omega)), nI_1, Nat.sub_add_cancel (by omega)]
    · have g1 : ¬ (1440 : Int32) < nI i := nI_nlt (a := 1440) (b := i) (by omega) (by decide)
      have g2 : ¬ (1440 : Int32) ≤ nI i := nI_ge (a := i) (b := 1440) (by omega) (by decide)
      rw [if_neg g1, if_neg g2, if_neg g2, nI_1]
      have q := r.now (d := d) (m := nI i) hy hd (by rw [ti]; omega)
      generalize q_X6_cast (q_X8_setMinute Y (nI i)) = R at q ⊢
      generalize q_X11_stateNow N p d (nI i) = T at q ⊢
      rw [← q.1.1]
      have rr := q.2.2.1
      have yy := q.2.2.2
      by_cases g : R.1 = 0
      · rw [if_pos g, if_pos g]
        rcases hI with ⟨hc, ⟨e1, e2, e3⟩ | ⟨e1, e2, e3, e4, e5⟩⟩
        · rw [if_pos e1, if_pos e2, nI_1, nI_pred, if_neg (nI_noneB (by omega))]
          exact sc_z hd n (i + 1) _ _ (c + 1) i 1 v5 (nI i) (by omega) (by omega) rr yy ⟨by omega, Or.inr ⟨rfl, rfl, by omega, by omega, e3⟩⟩
        · have nl : ¬ vL = 0 := by rw [e1]; decide
          have ec : nI c - 1 = nI (c - 1) := by
            have := nI_pred (c - 1)
            rwa [Nat.sub_add_cancel (by omega)] at this
          have nb : ¬ v6 = -2000000005 := by rw [e2]; exact nI_noneB (by omega)
          rw [if_neg nl, if_neg nb, ec, if_neg (nI_noneB (by omega))]
          exact sc_z hd n (i + 1) _ _ c b 1 v5 v6 (by omega) (by omega) rr yy ⟨by omega, Or.inr ⟨rfl, e2, by omega, e4, e5⟩⟩
      · rw [if_neg g, if_neg g]
        rcases hI with ⟨hc, ⟨e1, e2, e3⟩ | ⟨e1, e2, e3, e4, e5⟩⟩
        · rw [if_pos e2]
          exact sc_z hd n (i + 1) _ _ c b 0 v5 v6 (by omega) (by omega) rr yy ⟨by omega, Or.inl ⟨rfl, e2, e3⟩⟩
        · have nb : ¬ v6 = -2000000005 := by rw [e2]; exact nI_noneB (by omega)
          rw [if_neg nb, e5, if_neg (nm _ (by omega)), nI_1, Nat.sub_add_cancel (by omega)]
          exact sc_z hd n (i + 1) _ _ c b 0 (nI c) (-2000000005) (by omega) (by omega) rr yy ⟨by omega, Or.inl ⟨rfl, rfl, rfl⟩⟩
/-- a call on a dial on a day -/
theorem dy_eq (d : Int32) : q_X11_isTime d 0 = q_X10_isDay d := by
  have e : q_X11_isIn ((0 : Int32).toInt64) 0 1439 = 1 := by decide
  unfold q_X11_isTime q_X10_isDay
  dsimp only
  rw [e, wi_eq]
  by_cases c : q_X11_isIn (d.toInt64) 0 365 = 0
  · rw [if_pos c, c]
  · rw [if_neg c, if_neg (by decide)]
    have b := qb_X11_isIn (d.toInt64) 0 365
    rcases b with b | b
    · exact absurd b c
    · exact b.symm
theorem fs_0 (S : gSc) (a : Nat) (d w : Int32) : q_X10_followStretches S a d w = q_X10_followStretches_b36 S a d w 1441 0 0 0 (q_X8_setDay (q_X6_setUp (q_X4_clear_26 S) a) d) := by
  unfold q_X10_followStretches
  dsimp only
theorem P_stretches {M : gSm} {S : gSc} (h : inv M S) (p d : Int32) : (q_X10_stretches S p d).1 = (q_X11_stretches M p d).1 ∧ inv (q_X11_stretches M p d).2 (q_X10_stretches S p d).2 := by
  unfold q_X10_stretches q_X11_stretches
  dsimp only
  rw [pl_eq, ← dy_eq]
  rcases ask_3 h.2.1 p d 0 with ⟨e, c | ⟨c1, c2⟩⟩ | ⟨c1, c2, ⟨e, e1⟩ | ⟨e, a, e1, e4⟩⟩
  · rw [e, if_pos c, if_neg nBAD]
    exact ⟨rfl, h⟩
  · rw [e, if_neg c1, if_pos c2, if_neg nBAD]
    exact ⟨rfl, h⟩
  · rw [e, if_neg c1, if_neg c2, if_neg nNO, e1]
    exact ⟨rfl, h⟩
  · rw [e, if_neg c1, if_neg c2, if_pos y00, e1]
    dsimp only
    rw [fs_0]
    unfold q_X11_rowOf
    have ht := isTm_of rfl c2
    have ky := (kQ_clr (S := S)).2.2.2
    have r := (rdy_0 (Y := q_X4_clear_26 S) h e4 ky.cE ky.tE ky.1).day d
    have z := sc_z (M0 := M) (S1 := S) ht.1 1441 0 M _ 0 0 0 0 (-2000000005) (by decide) (by decide) r.1 r.2 ⟨by decide, Or.inl ⟨rfl, rfl, rfl⟩⟩
    rw [nI_0] at z
    try rw [show (1441 : Nat) + 1 = 1442 from rfl] at z
    have i := (r.1.k (kQ_fs S a d (-2000000005) 1441 0 0 0 (q_X8_setDay (q_X6_setUp (q_X4_clear_26 S) a) d))).m (mE_1 (row_I M p d (-1) 0 1442 0 (-2000000005) 0 M))
    exact ⟨z.symm, i.inv⟩
theorem P_stretch {M : gSm} {S : gSc} (h : inv M S) (p d i w : Int32) : (q_X10_stretch S p d i w).1 = (q_X11_stretch M p d i w).1 ∧ inv (q_X11_stretch M p d i w).2 (q_X10_stretch S p d i w).2 := by
  unfold q_X10_stretch q_X11_stretch q_X11_stretch_b25
  dsimp only
  rw [pl_eq, ← dy_eq, wi_eq]
  by_cases ci : i < 0
  · rw [if_pos ci, if_pos ci]
    by_cases c1 : q_X11_isPlace p = 0
    · rw [if_pos c1]; exact ⟨rfl, h⟩
    · rw [if_neg c1]
      by_cases c2 : q_X11_isTime d 0 = 0
      · rw [if_pos c2]; exact ⟨rfl, h⟩
      · rw [if_neg c2]; exact ⟨rfl, h⟩
  · rw [if_neg ci, if_neg ci]
    by_cases cw : q_X11_isIn (w.toInt64) 0 1 = 0
    · rw [if_pos cw, if_pos cw]
      by_cases c1 : q_X11_isPlace p = 0
      · rw [if_pos c1]; exact ⟨rfl, h⟩
      · rw [if_neg c1]
        by_cases c2 : q_X11_isTime d 0 = 0
        · rw [if_pos c2]; exact ⟨rfl, h⟩
        · rw [if_neg c2]; exact ⟨rfl, h⟩
    · rw [if_neg cw, if_neg cw]
      rcases ask_3 h.2.1 p d 0 with ⟨e, c | ⟨c1, c2⟩⟩ | ⟨c1, c2, ⟨e, e1⟩ | ⟨e, a, e1, e4⟩⟩
      · rw [e, if_pos c, if_neg nBAD]
        exact ⟨rfl, h⟩
      · rw [e, if_neg c1, if_pos c2, if_neg nBAD]
        exact ⟨rfl, h⟩
      · rw [e, if_neg c1, if_neg c2, if_neg nNO, e1]
        exact ⟨rfl, h⟩
      · rw [e, if_neg c1, if_neg c2, if_pos y00, e1]
        dsimp only
        rw [fs_0]
        unfold q_X11_rowOf
        have ht := isTm_of rfl c2
        have ky := (kQ_clr (S := S)).2.2.2
        have r := (rdy_0 (Y := q_X4_clear_26 S) h e4 ky.cE ky.tE ky.1).day d
        have hi : 0 ≤ i.toInt := i_nlt ci
        have u26 : (q_X8_setDay (q_X6_setUp (q_X4_clear_26 S) a) d).1 26 0 = 0 := by rw [kc_setDay (by decide), kc_setUp (by decide) (by decide) (by decide) (by decide) (by decide)]; rfl
        have z := sr_z (M0 := M) (S1 := S) (w := w) hi ht.1 1441 0 M _ 0 0 0 0 (-2000000005) (by decide) (by decide) r.1 r.2 ⟨by decide, Or.inl ⟨rfl, rfl, rfl⟩⟩ (by rw [i_0]; exact hi) (fun q => absurd q.2 (by decide)) (fun _ => u26)
        rw [nI_0] at z
        try rw [show (1441 : Nat) + 1 = 1442 from rfl] at z
        have iv := ((r.1.k (kQ_fs S a d i 1441 0 0 0 (q_X8_setDay (q_X6_setUp (q_X4_clear_26 S) a) d))).m (mE_1 (row_I M p d i w 1442 0 (-2000000005) 0 M))).inv
        generalize q_X10_followStretches_b36 S a d i 1441 0 0 0 (q_X8_setDay (q_X6_setUp (q_X4_clear_26 S) a) d) = R at z iv ⊢
        rw [z]
        unfold stA
        by_cases q2 : w = 0
        · rw [if_pos q2, if_pos q2]; exact ⟨rfl, iv⟩
        · rw [if_neg q2, if_neg q2]; exact ⟨rfl, iv⟩
