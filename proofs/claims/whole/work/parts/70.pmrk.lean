/-! PURE 11: marks -/
def mct (f : Nat → Int32) : Nat → Nat
  | 0 => 0
  | n + 1 => mct f n + (if f n = 0 then 0 else 1)
theorem mct_le (f : Nat → Int32) : ∀ n, mct f n ≤ n
  | 0 => Nat.le_refl _
  | n + 1 => by
    have := mct_le f n
    show mct f n + (if f n = 0 then 0 else 1) ≤ n + 1
    split <;> omega
theorem mct_mono (f : Nat → Int32) (i : Nat) : ∀ n, mct f i ≤ mct f (i + n)
  | 0 => Nat.le_refl _
  | n + 1 => by
    have := mct_mono f i n
    show mct f i ≤ mct f (i + n) + (if f (i + n) = 0 then 0 else 1)
    omega
theorem mct_m {f : Nat → Int32} {i n : Nat} (h : i ≤ n) : mct f i ≤ mct f n := by
  have := mct_mono f i (n - i)
  rwa [Nat.add_sub_cancel' h] at this
theorem mct_y {f : Nat → Int32} {i : Nat} (h : ¬ f i = 0) : mct f (i + 1) = mct f i + 1 := by
  show mct f i + (if f i = 0 then 0 else 1) = _
  rw [if_neg h]
theorem mct_n {f : Nat → Int32} {i : Nat} (h : f i = 0) : mct f (i + 1) = mct f i := by
  show mct f i + (if f i = 0 then 0 else 1) = _
  rw [if_pos h]
  rfl
theorem mct_lt {f : Nat → Int32} {i n : Nat} (h : ¬ f i = 0) (hn : i < n) : mct f i < mct f n := by
  have := mct_m (f := f) (show i + 1 ≤ n by omega)
  rw [mct_y h] at this
  omega
theorem mct_cg {f g : Nat → Int32} : ∀ {n : Nat}, (∀ j, j < n → f j = g j) → mct f n = mct g n
  | 0, _ => rfl
  | n + 1, h => by
    show mct f n + (if f n = 0 then 0 else 1) = mct g n + (if g n = 0 then 0 else 1)
    rw [mct_cg (fun j hj => h j (by omega)), h n (by omega)]
/-- the marks of both, of hours below h -/
def mkI (h : Nat) (N : gSm) (Y : gSc) : Prop := Y.1 13 3 = nI (mct (N.1 10) h) ∧ ∀ j, j < h → ¬ N.1 10 j = 0 → Y.1 14 (mct (N.1 10) j) = nI j ∧ (N.2 8 j = (Y.1 15 (mct (N.1 10) j)).toInt64 ∧ N.2 9 j = (Y.1 16 (mct (N.1 10) j)).toInt64) ∧ nr (Y.1 15 (mct (N.1 10) j)) ∧ nr (Y.1 16 (mct (N.1 10) j))
theorem and1 (x : Int32) : x &&& 1 = 0 ∨ x &&& 1 = 1 := by
  rw [pk_and x (m := 1) 1 (by decide)]
  have h : x.toBitVec.toNat % 2 ^ 1 = 0 ∨ x.toBitVec.toNat % 2 ^ 1 = 1 := by omega
  rcases h with h | h <;> rw [h]
  · exact Or.inl rfl
  · exact Or.inr rfl
theorem nar1 : vp_nar .boolean 1 = 1 := by rfl
theorem nar0 : vp_nar .boolean 0 = 0 := by rfl
/-- the reference notes an hour -/
def fmS (M : gSm) (h : Nat) (b : Int32) : gSm := pJ (pJ (pM M 10 h b) 8 h (M.2 0 14)) 9 h (M.2 0 15)
theorem fmS_mE (M : gSm) (h : Nat) (b : Int32) : mE (fmS M h b) M := ⟨⟨⟨rfl, rfl, rfl, rfl, rfl⟩, rfl, rfl, rfl, rfl⟩, rfl, rfl⟩
theorem fmS_10 (M : gSm) (h : Nat) (b : Int32) : (fmS M h b).1 10 = upd (M.1 10) h b := rfl
theorem fmS_8 (M : gSm) (h : Nat) (b : Int32) : (fmS M h b).2 8 = vp_updL (M.2 8) h (M.2 0 14) := rfl
theorem fmS_9 (M : gSm) (h : Nat) (b : Int32) : (fmS M h b).2 9 = vp_updL (M.2 9) h (M.2 0 15) := rfl
theorem mkI_no {h : Nat} {N : gSm} {Y : gSc} (i : mkI h N Y) : mkI (h + 1) (fmS N h 0) Y := by
  obtain ⟨i1, i2⟩ := i
  have cg : ∀ n, n ≤ h → mct (upd (N.1 10) h 0) n = mct (N.1 10) n := fun n hn => mct_cg (fun j hj => pk_un (by omega))
  unfold mkI
  rw [fmS_10, fmS_8, fmS_9]
  refine ⟨?_, fun j hj hb => ?_⟩
  · rw [mct_n pk_us, cg h (Nat.le_refl _)]; exact i1
  · by_cases e : j = h
    · subst e
      exact absurd pk_us hb
    · rw [pk_un e] at hb
      rw [cg j (by omega), pk_uLn e, pk_uLn e]
      exact i2 j (by omega) hb
theorem mkI_yes {h : Nat} {N : gSm} {Y : gSc} (i : mkI h N Y) (hh : h < 24) {x y : Int32} (ex : N.2 0 14 = x.toInt64) (ey : N.2 0 15 = y.toInt64) (nx : nr x) (ny : nr y) : mkI (h + 1) (fmS N h 1) (q_X3_add Y (nI h) x y) := by
  obtain ⟨i1, i2⟩ := i
  have lh := mct_le (N.1 10) h
  have cg : ∀ n, n ≤ h → mct (upd (N.1 10) h 1) n = mct (N.1 10) n := fun n hn => mct_cg (fun j hj => pk_un (by omega))
  have c24 : Y.1 13 3 < 24 := by rw [i1]; exact nI_lt (b := 24) (by omega) (by decide)
  have ec : (Y.1 13 3).toNatClampNeg = mct (N.1 10) h := by rw [i1]; exact nI_clamp (by omega)
  have a13 : (q_X3_add Y (nI h) x y).1 13 3 = nI (mct (N.1 10) h + 1) := by
    unfold q_X3_add
    rw [if_pos c24, pI_s, pk_us, i1, nI_1]
  have a14 : (q_X3_add Y (nI h) x y).1 14 = upd (Y.1 14) (mct (N.1 10) h) (nI h) := by
    unfold q_X3_add
    rw [if_pos c24, ec, pI_n (by decide), pI_n (by decide), pI_n (by decide), pI_s]
  have a15 : (q_X3_add Y (nI h) x y).1 15 = upd (Y.1 15) (mct (N.1 10) h) x := by
    unfold q_X3_add
    rw [if_pos c24, ec, pI_n (by decide), pI_n (by decide), pI_s, pI_n (by decide)]
  have a16 : (q_X3_add Y (nI h) x y).1 16 = upd (Y.1 16) (mct (N.1 10) h) y := by
    unfold q_X3_add
    rw [if_pos c24, ec, pI_n (by decide), pI_s, pI_n (by decide), pI_n (by decide)]
  unfold mkI
  rw [fmS_10, fmS_8, fmS_9, a13, a14, a15, a16]
  have n1 : ¬ upd (N.1 10) h 1 h = 0 := by rw [pk_us]; decide
  refine ⟨by rw [mct_y n1, cg h (Nat.le_refl _)], fun j hj hb => ?_⟩
  by_cases e : j = h
  · subst e
    rw [cg j (Nat.le_refl _), pk_us, pk_us, pk_us, pk_uLs, pk_uLs]
    exact ⟨rfl, ⟨ex, ey⟩, nx, ny⟩
  · rw [pk_un e] at hb
    have lt := mct_lt hb (show j < h by omega)
    have ne : mct (N.1 10) j ≠ mct (N.1 10) h := by omega
    rw [cg j (by omega), pk_uLn e, pk_uLn e, pk_un ne, pk_un ne, pk_un ne]
    exact i2 j (by omega) hb
theorem mkI_k {h : Nat} {N N2 : gSm} {Y Y2 : gSc} (i : mkI h N Y) (m10 : N2.1 10 = N.1 10) (m8 : N2.2 8 = N.2 8) (m9 : N2.2 9 = N.2 9) (c13 : Y2.1 13 3 = Y.1 13 3) (c14 : Y2.1 14 = Y.1 14) (c15 : Y2.1 15 = Y.1 15) (c16 : Y2.1 16 = Y.1 16) : mkI h N2 Y2 := by
  unfold mkI
  rw [m10, m8, m9, c13, c14, c15, c16]
  exact i
theorem now_10 (M : gSm) (p d m : Int32) : (q_X11_stateNow M p d m).2.1 10 = M.1 10 := by rw [stn_I]
theorem fm_z {M0 : gSm} {S0 S1 : gSc} {p d : Int32} {a : Nat} (hd : 0 ≤ d.toInt ∧ d.toInt ≤ 365) : ∀ (n h : Nat) (N : gSm) (Y : gSc), h ≤ 24 → 24 < h + n → rdy N S0 Y p a (S0.2.2.2.2 a 4) → dyd Y d → mkI h N Y → rdy (q_X11_findMarks_b2 M0 p d n (nI h) N) S0 (q_X10_setMarks_b18 S1 a d n (nI h) Y) p a (S0.2.2.2.2 a 4) ∧ dyd (q_X10_setMarks_b18 S1 a d n (nI h) Y) d ∧ mkI 24 (q_X11_findMarks_b2 M0 p d n (nI h) N) (q_X10_setMarks_b18 S1 a d n (nI h) Y)
  | 0, h, N, Y => fun h1 h2 => absurd h2 (by omega)
  | n + 1, h, N, Y => by
    intro h1 h2 r hy hI
    rw [q_X11_findMarks_b2, q_X10_setMarks_b18]
    dsimp only
    by_cases ch : h = 24
    · subst ch
      have cn : (24 : Int32) ≤ nI 24 := nI_le (Nat.le_refl _) (by decide)
      rw [if_pos cn, if_pos cn]
      exact ⟨r, hy, hI⟩
    · have cn : ¬ (24 : Int32) ≤ nI h := nI_ge (a := h) (b := 24) (by omega) (by decide)
      have ec : (nI h).toNatClampNeg = h := nI_clamp (by omega)
      have th : (nI h).toInt = (h : Int) := nI_toInt (by omega)
      rw [if_neg cn, if_neg cn, ec, nI_1]
      have f6 : q_X11_get N p 6 = S0.2.2.2.2 a 6 := r.2.1.2.2.2.2.2.2.1
      have hl : q_X1_hourLeft Y a (nI h) = ((S0.2.2.2.2 a 6) >>> ((nI h) &&& 31)) &&& 1 := by
        unfold q_X1_hourLeft
        rw [r.pool]
      rw [f6, hl]
      rcases and1 ((S0.2.2.2.2 a 6) >>> ((nI h) &&& 31)) with e | e
      · rw [e, if_neg (show ¬ (0 : Int32) = 1 by decide), if_pos rfl, nar0]
        exact fm_z hd n (h + 1) (fmS N h 0) Y (by omega) (by omega) (r.m (fmS_mE N h 0)) hy (mkI_no hI)
      · rw [e, if_pos rfl, if_neg (show ¬ (1 : Int32) = 0 by decide), nar0, nar1]
        have e60 := h60 (hr := nI h) (by omega) (by omega)
        have q := r.now (d := d) (m := 60 * nI h) hy hd (by omega)
        have k14 : (q_X6_cast (q_X8_setMinute Y (60 * nI h))).2.1 14 = Y.1 14 := sx_c (by decide) (by decide)
        have k15 : (q_X6_cast (q_X8_setMinute Y (60 * nI h))).2.1 15 = Y.1 15 := sx_c (by decide) (by decide)
        have k16 : (q_X6_cast (q_X8_setMinute Y (60 * nI h))).2.1 16 = Y.1 16 := sx_c (by decide) (by decide)
        have k13 : (q_X6_cast (q_X8_setMinute Y (60 * nI h))).2.1 13 = Y.1 13 := sx_c (by decide) (by decide)
        have m10 := now_10 N p d (60 * nI h)
        have m8 := now_7 N p d (60 * nI h) (k := 8) (by decide)
        have m9 := now_7 N p d (60 * nI h) (k := 9) (by decide)
        generalize q_X6_cast (q_X8_setMinute Y (60 * nI h)) = R at q k13 k14 k15 k16 ⊢
        generalize q_X11_stateNow N p d (60 * nI h) = T at q m10 m8 m9 ⊢
        have hk : mkI h T.2 R.2 := mkI_k hI m10 m8 m9 (by rw [k13]) k14 k15 k16
        rw [← q.1.1]
        by_cases g : R.1 = 0
        · rw [if_pos g, if_pos g]
          have l := q.1.2 g
          have ka := kQ_add3 R.2 (nI h) (R.2.1 7 12) (R.2.1 7 13)
          exact fm_z hd n (h + 1) (fmS T.2 h 1) _ (by omega) (by omega) ((q.2.2.1.k ka).m (fmS_mE T.2 h 1)) (dyd_st q.2.2.2 ka) (mkI_yes hk (by omega) l.1.1 l.1.2 l.2.1 l.2.2)
        · rw [if_neg g, if_neg g]
          exact fm_z hd n (h + 1) (fmS T.2 h 0) _ (by omega) (by omega) (q.2.2.1.m (fmS_mE T.2 h 0)) q.2.2.2 (mkI_no hk)
/-! a reading -/
def rdO (N : gSm) (Y : gSc) : Prop := N.1 0 20 = Y.1 13 4 ∧ N.1 0 21 = Y.1 13 5 ∧ N.2 0 22 = (Y.1 13 6).toInt64 ∧ 0 ≤ (Y.1 13 6).toInt ∧ (Y.1 13 6).toInt ≤ 3000
theorem wi_1 {k i : Nat} (h : i < k) (hk : k < 2 ^ 31) : q_X10_within ((nI i).toInt64) 0 ((nI k - 1).toInt64) = 1 := by
  have e : nI k - 1 = nI (k - 1) := by
    have := nI_pred (k - 1)
    rwa [Nat.sub_add_cancel (by omega)] at this
  unfold q_X10_within
  rw [e, if_neg (fun q => by have := l_lt q; rw [t64, l_0, nI_toInt (by omega)] at this; omega), if_neg (fun q => by have := l_lt q; rw [t64, t64, nI_toInt (by omega), nI_toInt (by omega)] at this; omega)]
/-- the shown minute -/
theorem sh_z {h0 h : Nat} {r n : Int64} (l0 : h0 < h) (l1 : h < 24) (r0 : ¬ r < 0) (rn : r < n) (nb : n.toInt ≤ 8000000000000) : (60 * ((nI h0).toInt64)) + (((60 * ((nI h - nI h0).toInt64)) * r) / n) = ((60 * nI h0) + ((((60 * (nI h - nI h0)).toInt64 * r) / n).toInt32)).toInt64 ∧ 0 ≤ ((60 * nI h0) + ((((60 * (nI h - nI h0)).toInt64 * r) / n).toInt32)).toInt ∧ ((60 * nI h0) + ((((60 * (nI h - nI h0)).toInt64 * r) / n).toInt32)).toInt ≤ 3000 := by
  have t0 : (nI h0).toInt = (h0 : Int) := nI_toInt (by omega)
  have r0' := l_nlt r0
  rw [l_0] at r0'
  have rn' := l_lt rn
  have c60 : (60 : Int32).toInt = 60 := by decide
  have k60 : (60 : Int32).toInt64 = 60 := by decide
  have es : nI h - nI h0 = nI (h - h0) := pk_sub (by omega)
  rw [es]
  have t1 : (nI (h - h0)).toInt = ((h - h0 : Nat) : Int) := nI_toInt (by omega)
  have e1 := m64 (a := 60) (b := nI h0) (by rw [c60, t0]; omega) (by rw [c60, t0]; omega)
  have e2 := m64 (a := 60) (b := nI (h - h0)) (by rw [c60, t1]; omega) (by rw [c60, t1]; omega)
  rw [k60] at e1 e2
  rw [← e1, ← e2]
  have v1 : (60 * nI h0).toInt = 60 * (h0 : Int) := by rw [i_mul (by rw [c60, t0]; omega) (by rw [c60, t0]; omega), c60, t0]
  have v2 : (60 * nI (h - h0)).toInt = 60 * ((h - h0 : Nat) : Int) := by rw [i_mul (by rw [c60, t1]; omega) (by rw [c60, t1]; omega), c60, t1]
  generalize hK : (h - h0 : Nat) = K at v2 e2 t1 es ⊢
  have kb : 0 ≤ 60 * (K : Int) ∧ 60 * (K : Int) ≤ 1440 := by omega
  generalize 60 * nI K = X at v2 ⊢
  rw [← v2] at kb
  have pm := z_mb (a := X.toInt) (b := r.toInt) (A := 1440) (B := 8000000000000) (by omega) (by omega) (by omega) (by omega)
  have p0 := Int.mul_nonneg kb.1 r0'
  have vm : (X.toInt64 * r).toInt = X.toInt * r.toInt := by rw [l_mul (by rw [t64]; omega) (by rw [t64]; omega), t64]
  have vd : (X.toInt64 * r / n).toInt = X.toInt * r.toInt / n.toInt := by rw [l_div (by rw [vm]; exact p0) (by omega), vm]
  have d0 : 0 ≤ X.toInt * r.toInt / n.toInt := Int.ediv_nonneg p0 (by omega)
  have le1 : X.toInt * r.toInt ≤ X.toInt * n.toInt := Int.mul_le_mul_of_nonneg_left (by omega) kb.1
  have d1 : X.toInt * r.toInt / n.toInt ≤ X.toInt := Int.ediv_le_of_le_mul (by omega) le1
  have v3 : (X.toInt64 * r / n).toInt32.toInt = X.toInt * r.toInt / n.toInt := by rw [t32 (by rw [vd]; omega) (by rw [vd]; omega), vd]
  have a := i_add (a := 60 * nI h0) (b := (X.toInt64 * r / n).toInt32) (by rw [v1, v3]; omega) (by rw [v1, v3]; omega)
  refine ⟨?_, by rw [a, v1, v3]; omega, by rw [a, v1, v3]; omega⟩
  rw [a64 (by rw [v1, v3]; omega) (by rw [v1, v3]; omega), t3264 (by rw [vd]; omega) (by rw [vd]; omega)]
theorem li_z {N : gSm} {Y : gSc} {h0 h : Nat} {x y : Int32} (i : mkI 24 N Y) (m0 : ¬ N.1 10 h0 = 0) (m1 : ¬ N.1 10 h = 0) (l0 : h0 < h) (l1 : h < 24) : (q_X11_lies N (nI h0) (nI h) x.toInt64 y.toInt64).1 = (q_X3_showBetween Y (nI (mct (N.1 10) h0)) (nI (mct (N.1 10) h)) x.toInt64 y.toInt64).1 ∧ ((q_X11_lies N (nI h0) (nI h) x.toInt64 y.toInt64).1 = 0 → (q_X11_lies N (nI h0) (nI h) x.toInt64 y.toInt64).2 = N ∧ (q_X3_showBetween Y (nI (mct (N.1 10) h0)) (nI (mct (N.1 10) h)) x.toInt64 y.toInt64).2 = Y) ∧ (¬ (q_X11_lies N (nI h0) (nI h) x.toInt64 y.toInt64).1 = 0 → rdO (q_X11_lies N (nI h0) (nI h) x.toInt64 y.toInt64).2 (q_X3_showBetween Y (nI (mct (N.1 10) h0)) (nI (mct (N.1 10) h)) x.toInt64 y.toInt64).2) := by
  obtain ⟨i1, i2⟩ := i
  have a := i2 h0 (by omega) m0
  have b := i2 h (by omega) m1
  have k0 := mct_lt m0 (show h0 < 24 by omega)
  have k1 := mct_lt m1 (show h < 24 by omega)
  have l24 := mct_le (N.1 10) 24
  have w0 := wi_1 k0 (by omega)
  have w1 := wi_1 k1 (by omega)
  have ca : (nI (mct (N.1 10) h0)).toNatClampNeg = mct (N.1 10) h0 := nI_clamp (by omega)
  have cb : (nI (mct (N.1 10) h)).toNatClampNeg = mct (N.1 10) h := nI_clamp (by omega)
  have cx : (nI h0).toNatClampNeg = h0 := nI_clamp (by omega)
  have cy : (nI h).toNatClampNeg = h := nI_clamp (by omega)
  unfold q_X11_lies q_X3_showBetween
  dsimp only
  rw [i1, w0, w1, if_neg (show ¬ (1 : Int32) = 0 by decide), if_neg (show ¬ (1 : Int32) = 0 by decide), ca, cb, cx, cy, a.1, b.1, a.2.1.1, a.2.1.2, b.2.1.1, b.2.1.2]
  obtain ⟨-, -, a3, a4⟩ := a
  obtain ⟨-, -, b3, b4⟩ := b
  generalize Y.1 15 (mct (N.1 10) h0) = ax at a3 ⊢
  generalize Y.1 16 (mct (N.1 10) h0) = ay at a4 ⊢
  generalize Y.1 15 (mct (N.1 10) h) = bx at b3 ⊢
  generalize Y.1 16 (mct (N.1 10) h) = byy at b4 ⊢
  unfold nr at a3 a4 b3 b4
  have s1 := i_sub (a := bx) (b := ax) (by omega) (by omega)
  have s2 := i_sub (a := byy) (b := ay) (by omega) (by omega)
  rw [s64 (a := bx) (b := ax) (by omega) (by omega), s64 (a := byy) (b := ay) (by omega) (by omega)]
  have d1 : (bx.toInt64 - ax.toInt64).toInt = bx.toInt - ax.toInt := by rw [l_sub (by rw [t64, t64]; omega) (by rw [t64, t64]; omega), t64, t64]
  have d2 : (byy.toInt64 - ay.toInt64).toInt = byy.toInt - ay.toInt := by rw [l_sub (by rw [t64, t64]; omega) (by rw [t64, t64]; omega), t64, t64]
  generalize bx.toInt64 - ax.toInt64 = dx at d1 ⊢
  generalize byy.toInt64 - ay.toInt64 = dy at d2 ⊢
  have p1 := z_mb (a := dx.toInt) (b := dx.toInt) (A := 2000000) (B := 2000000) (by omega) (by omega) (by omega) (by omega)
  have p2 := z_mb (a := dy.toInt) (b := dy.toInt) (A := 2000000) (B := 2000000) (by omega) (by omega) (by omega) (by omega)
  have v1 : (dx * dx).toInt = dx.toInt * dx.toInt := l_mul (by omega) (by omega)
  have v2 : (dy * dy).toInt = dy.toInt * dy.toInt := l_mul (by omega) (by omega)
  have v3 : (dx * dx + dy * dy).toInt ≤ 8000000000000 := by rw [l_add (by rw [v1, v2]; omega) (by rw [v1, v2]; omega), v1, v2]; omega
  generalize dx * dx + dy * dy = n at v3 ⊢
  generalize (x.toInt64 - ax.toInt64) * dx + (y.toInt64 - ay.toInt64) * dy = r
  by_cases c1 : r < 0
  · rw [if_pos c1, if_pos c1]
    exact ⟨rfl, fun _ => ⟨rfl, rfl⟩, fun q => absurd rfl q⟩
  · rw [if_neg c1, if_neg c1]
    by_cases c2 : r < n
    · rw [if_pos c2, if_pos c2]
      have sh := sh_z (h0 := h0) (h := h) l0 l1 c1 c2 v3
      refine ⟨rfl, fun q => xd q rfl, fun _ => ⟨rfl, rfl, ?_, ?_, ?_⟩⟩
      · exact sh.1
      · exact sh.2.1
      · exact sh.2.2
    · rw [if_neg c2, if_neg c2]
      exact ⟨rfl, fun _ => ⟨rfl, rfl⟩, fun q => absurd rfl q⟩
