/-! PURE 16: angles, sights, counts -/
theorem iS_g {M N : gSm} {S Y : gSc} (h : iS M S) (m4 : N.1 4 = M.1 4) (a4 : N.1 0 4 = M.1 0 4) (a6 : N.1 0 6 = M.1 0 6) (c1 : Y.1 1 1 = S.1 1 1) (c2 : Y.1 1 2 = S.1 1 2) (c3 : Y.1 1 3 = S.1 1 3) (c4 : Y.1 1 4 = S.1 1 4) (c5 : Y.1 2 = S.1 2) : iS N Y := by
  unfold iS
  rw [m4, a4, a6, c1, c2, c3, c4, c5]
  exact h
theorem iG_g {M N : gSm} {S Y : gSc} (h : iG M S) (m1 : N.1 1 = M.1 1) (c1 : Y.2.2 = S.2.2) (c2 : Y.2.1 3 = S.2.1 3) : iG N Y := by
  unfold iG
  rw [m1, c1, c2]
  exact h
theorem iK_g {M N : gSm} {S Y : gSc} (h : iK M S) (m2 : N.1 2 = M.1 2) (m3 : N.1 3 = M.1 3) (a3 : N.1 0 3 = M.1 0 3) (c1 : Y.2.2 = S.2.2) (c2 : Y.2.1 6 = S.2.1 6) (c3 : Y.1 4 = S.1 4) (c4 : Y.1 5 = S.1 5) : iK N Y := by
  unfold iK kSl okR at h ⊢
  rw [m2, m3, a3, c1, c2, c3, c4]
  exact h
theorem iN_g {M N : gSm} {S Y : gSc} (h : iN M S) (m5 : N.1 5 = M.1 5) (a8 : N.1 0 8 = M.1 0 8) (c17 : Y.1 17 4 = S.1 17 4) (c18 : Y.1 18 = S.1 18) (c19 : Y.1 19 = S.1 19) (c20 : Y.1 20 = S.1 20) (c21 : Y.1 21 = S.1 21) : iN N Y := by
  unfold iN
  rw [m5, a8, c17, c18, c19, c20, c21]
  exact h
theorem iT_g {M N : gSm} {S Y : gSc} (h : iT M S) (m6 : N.1 6 = M.1 6) (a10 : N.1 0 10 = M.1 0 10) (c0 : Y.1 0 7 = S.1 0 7) (c22 : Y.1 22 = S.1 22) : iT N Y := by
  unfold iT
  rw [m6, a10, c0, c22]
  exact h
theorem P_sine (M : gSm) (S : gSc) (a : Int32) : q_X10_sine S a = q_X11_sine M a := by
  show q_X10_sineOf a = (q_X11_sineOf (a.toInt64)).toInt32
  rw [sin_eq, t6432]
theorem P_latitude {M : gSm} {S : gSc} (h : inv M S) (f : Int32) : (q_X10_latitude S f).1 = (q_X11_latitude M f).1 ∧ inv (q_X11_latitude M f).2 (q_X10_latitude S f).2 := by
  unfold q_X10_latitude q_X11_latitude
  dsimp only
  rw [wi_eq]
  by_cases c : q_X11_isIn (f.toInt64) (-16384) 16384 = 0
  · rw [if_pos c, if_pos c]; exact ⟨rfl, h⟩
  · rw [if_neg c, if_neg c]
    have b := isIn_of rfl c
    rw [t64, show (-16384 : Int64).toInt = -16384 by decide, show (16384 : Int64).toInt = 16384 by decide] at b
    obtain ⟨⟨⟨k1, k2, k3⟩, ⟨l1, -⟩, l6⟩, hG, hK, hN, hT, hH⟩ := h
    refine ⟨l1.symm, ?_⟩
    unfold q_X8_setLatitude
    dsimp only
    generalize hs : q_X10_sineOf f = s
    generalize hc : q_X10_cosineOf f = co
    refine ⟨⟨⟨k1, k2, k3⟩, ⟨rfl, b.1, b.2, ?_, ?_⟩, l6⟩, iG_g hG rfl rfl rfl, iK_g hK rfl rfl rfl rfl rfl rfl rfl, iN_g hN rfl rfl rfl rfl rfl rfl rfl, iT_g hT rfl rfl rfl rfl, hH⟩
    · show s = q_X10_sineOf f
      exact hs.symm
    · show co = q_X10_cosineOf f
      exact hc.symm
theorem cb_z (M : gSm) (p : Int32) : ∀ (n i : Nat) (Z : gSm), i ≤ 366 → 366 < i + n → (∀ j, j < i → Z.1 4 j = 0) → (q_X11_corrections_b22 M p n (nI i) Z).1 = p ∧ (∀ j, j < 366 → (q_X11_corrections_b22 M p n (nI i) Z).2.1 4 j = 0) ∧ ∀ k, k ≠ 4 → (q_X11_corrections_b22 M p n (nI i) Z).2.1 k = Z.1 k
  | 0, i, Z => fun h1 h2 => absurd h2 (by omega)
  | n + 1, i, Z => by
    intro h1 h2 h3
    rw [q_X11_corrections_b22]
    dsimp only
    by_cases c : i = 366
    · subst c
      rw [if_pos (show (366 : Int32) ≤ nI 366 from nI_le (Nat.le_refl _) (by decide))]
      exact ⟨rfl, h3, fun _ _ => rfl⟩
    · rw [if_neg (show ¬ (366 : Int32) ≤ nI i from nI_ge (a := i) (b := 366) (by omega) (by decide)), nI_1, nI_clamp (show i < 2 ^ 31 by omega)]
      have z := cb_z M p n (i + 1) (pM Z 4 i 0) (by omega) (by omega) (fun j hj => by
        rw [pM_s]
        by_cases e : j = i
        · rw [e, pk_us]
        · rw [pk_un e]; exact h3 j (by omega))
      exact ⟨z.1, z.2.1, fun k hk => by rw [z.2.2 k hk, pM_n hk]⟩
theorem fl_b (S : gSc) : ∀ (n i : Nat) (Z : gSc), i ≤ 366 → 366 < i + n → (∀ j, j < i → Z.1 2 j = 0) → (∀ j, j < 366 → (q_J7_fill_53178_b5 S 0 n (nI i) 366 Z).1 2 j = 0) ∧ (∀ k, k ≠ 2 → (q_J7_fill_53178_b5 S 0 n (nI i) 366 Z).1 k = Z.1 k) ∧ (q_J7_fill_53178_b5 S 0 n (nI i) 366 Z).2 = Z.2
  | 0, i, Z => fun h1 h2 => absurd h2 (by omega)
  | n + 1, i, Z => by
    intro h1 h2 h3
    rw [q_J7_fill_53178_b5]
    dsimp only
    by_cases c : i = 366
    · subst c
      rw [if_pos (show (366 : Int32) ≤ nI 366 from nI_le (Nat.le_refl _) (by decide))]
      exact ⟨h3, fun _ _ => rfl, rfl⟩
    · rw [if_neg (show ¬ (366 : Int32) ≤ nI i from nI_ge (a := i) (b := 366) (by omega) (by decide)), nI_1, nI_clamp (show i < 2 ^ 31 by omega)]
      have z := fl_b S n (i + 1) (pI Z 2 i 0) (by omega) (by omega) (fun j hj => by
        rw [pI_s]
        by_cases e : j = i
        · rw [e, pk_us]
        · rw [pk_un e]; exact h3 j (by omega))
      exact ⟨z.1, fun k hk => by rw [z.2.1 k hk, pI_n hk], z.2.2⟩
theorem fl_all (S : gSc) : (∀ j, j < 366 → (q_J7_fill_53178 S 0).1 2 j = 0) ∧ (∀ k, k ≠ 2 → (q_J7_fill_53178 S 0).1 k = S.1 k) ∧ (q_J7_fill_53178 S 0).2 = S.2 := by
  have zc := fl_b S 367 0 S (by decide) (by decide) (fun j hj => absurd hj (Nat.not_lt_zero j))
  rw [nI_0] at zc
  rw [q_J7_fill_53178]
  exact zc
theorem cc_eq (S : gSc) (p : Int32) : ∃ B : gSc, q_X8_clearCorrections S p = pI B 1 1 p ∧ (∀ j, j < 366 → B.1 2 j = 0) ∧ (∀ k, k ≠ 2 → B.1 k = S.1 k) ∧ B.2 = S.2 := ⟨q_J7_fill_53178 S 0, by rw [q_X8_clearCorrections], fl_all S⟩
theorem P_corrections {M : gSm} {S : gSc} (h : inv M S) (n : Int32) : (q_X10_corrections S n).1 = (q_X11_corrections M n).1 ∧ inv (q_X11_corrections M n).2 (q_X10_corrections S n).2 := by
  unfold q_X10_corrections q_X11_corrections
  dsimp only
  rw [wi_eq]
  by_cases c : q_X11_isIn (n.toInt64) 0 366 = 0
  · rw [if_pos c, if_pos c]; exact ⟨rfl, h⟩
  · rw [if_neg c, if_neg c]
    have b := isIn_of rfl c
    rw [t64, l_0, show (366 : Int64).toInt = 366 by decide] at b
    have zm := cb_z M n 367 0 (pM M 0 6 n) (by decide) (by decide) (fun j hj => absurd hj (Nat.not_lt_zero j))
    rw [nI_0] at zm
    generalize q_X11_corrections_b22 M n 367 0 (pM M 0 6 n) = A at zm ⊢
    obtain ⟨m1, m2, m3⟩ := zm
    obtain ⟨B, eB, c1, c2, c3⟩ := cc_eq S n
    rw [eB]
    clear eB
    obtain ⟨⟨⟨k1, k2, k3⟩, ⟨l1, l2, l3, l4, l5⟩, l6⟩, hG, hK, hN, hT, hH⟩ := h
    have m0 := m3 0 (by decide)
    have c10 := c2 1 (by decide)
    have mz : ∀ j, j ≠ 6 → A.2.1 0 j = M.1 0 j := fun j hj => by rw [m0, pM_s, pk_un hj]
    have m6 : A.2.1 0 6 = n := by rw [m0, pM_s, pk_us]
    have cz : ∀ j, j ≠ 1 → (pI B 1 1 n).1 1 j = S.1 1 j := fun j hj => by rw [pI_s, pk_un hj, c10]
    have cn : (pI B 1 1 n).1 1 1 = n := by rw [pI_s, pk_us]
    have ck : ∀ k, k ≠ 1 → k ≠ 2 → (pI B 1 1 n).1 k = S.1 k := fun k h1 h2 => by rw [pI_n h1, c2 k h2]
    have cr : ∀ j, j < 366 → (pI B 1 1 n).1 2 j = 0 := fun j hj => by rw [pI_n (by decide)]; exact c1 j hj
    have c2e : (pI B 1 1 n).2 = S.2 := c3
    refine ⟨m1.symm, ⟨⟨m6.trans cn.symm, by rw [cn]; exact b.1, by rw [cn]; exact b.2⟩, ⟨?_, ?_, ?_, ?_, ?_⟩, fun j hj => ?_⟩, iG_g hG (m3 1 (by decide)) (by rw [c2e]) (by rw [c2e]), iK_g hK (m3 2 (by decide)) (m3 3 (by decide)) (mz 3 (by decide)) (by rw [c2e]) (by rw [c2e]) (ck 4 (by decide) (by decide)) (ck 5 (by decide) (by decide)), iN_g hN (m3 5 (by decide)) (mz 8 (by decide)) (by rw [ck 17 (by decide) (by decide)]) (ck 18 (by decide) (by decide)) (ck 19 (by decide) (by decide)) (ck 20 (by decide) (by decide)) (ck 21 (by decide) (by decide)), iT_g hT (m3 6 (by decide)) (mz 10 (by decide)) (by rw [ck 0 (by decide) (by decide)]) (ck 22 (by decide) (by decide)), okH_of hH c2e⟩
    · rw [mz 4 (by decide), cz 2 (by decide)]; exact l1
    · rw [cz 2 (by decide)]; exact l2
    · rw [cz 2 (by decide)]; exact l3
    · rw [cz 3 (by decide), cz 2 (by decide)]; exact l4
    · rw [cz 4 (by decide), cz 2 (by decide)]; exact l5
    · rw [m2 j hj, cr j hj]; exact ⟨rfl, by decide, by decide⟩
theorem P_correct {M : gSm} {S : gSc} (h : inv M S) (d v : Int32) : (q_X10_correct S d v).1 = (q_X11_correct M d v).1 ∧ inv (q_X11_correct M d v).2 (q_X10_correct S d v).2 := by
  have k1 := h.1.1.1
  unfold q_X10_correct q_X11_correct
  dsimp only
  rw [wi_eq, wi_eq, k1]
  by_cases c1 : q_X11_isIn (v.toInt64) (-99) 99 = 0
  · rw [if_pos c1, if_pos c1]
    by_cases c2 : q_X11_isIn (d.toInt64) 0 (((S.1 1 1) - 1).toInt64) = 0
    · rw [if_pos c2]; exact ⟨rfl, h⟩
    · rw [if_neg c2]; exact ⟨rfl, h⟩
  · rw [if_neg c1, if_neg c1]
    by_cases c2 : q_X11_isIn (d.toInt64) 0 (((S.1 1 1) - 1).toInt64) = 0
    · rw [if_pos c2, if_pos c2]; exact ⟨rfl, h⟩
    · rw [if_neg c2, if_neg c2]
      have b := isIn_of rfl c1
      rw [t64, show (-99 : Int64).toInt = -99 by decide, show (99 : Int64).toInt = 99 by decide] at b
      obtain ⟨⟨hk, hl, l6⟩, hG, hK, hN, hT, hH⟩ := h
      have e1 := i_m1 (v := S.1 1 1) (by omega)
      have q := isIn_of rfl c2
      rw [t64, t64, l_0, e1] at q
      have lt : d.toNatClampNeg < 366 := by show d.toInt.toNat < 366; omega
      refine ⟨(l6 _ lt).1.symm, ⟨hk, hl, fun j hj => ?_⟩, iG_g hG rfl rfl rfl, iK_g hK rfl rfl rfl rfl rfl rfl rfl, iN_g hN rfl rfl rfl rfl rfl rfl rfl, iT_g hT rfl rfl rfl rfl, hH⟩
      rw [pM_s, pI_s]
      by_cases e : j = d.toNatClampNeg
      · rw [e, pk_us, pk_us]; exact ⟨rfl, b⟩
      · rw [pk_un e, pk_un e]; exact l6 j hj
theorem P_sun {M : gSm} {S : gSc} (h : inv M S) (d m w : Int32) : (q_X10_sun S d m w).1 = (q_X11_sun M d m w).1 ∧ inv (q_X11_sun M d m w).2 (q_X10_sun S d m w).2 := by
  unfold q_X10_sun q_X11_sun
  dsimp only
  rw [tm_eq, wi_eq]
  by_cases c1 : q_X11_isTime d m = 0
  · rw [if_pos c1, if_pos c1]; exact ⟨rfl, h⟩
  · rw [if_neg c1, if_neg c1]
    by_cases c2 : q_X11_isIn (w.toInt64) 0 5 = 0
    · rw [if_pos c2, if_pos c2]; exact ⟨rfl, h⟩
    · rw [if_neg c2, if_neg c2]
      have ht := isTm_of rfl c1
      have es := slp_eq ht.1.1 ht.1.2
      have cd := cE_setDay S d
      have yd := dyd_setDay S d
      have o1 : okH (q_X8_setDay S d) := okH_of h.2.2.2.2.2 (kw_setDay S d).1
      rw [show q_X8_setTime S d m = q_X8_setMinute (q_X8_setDay S d) m from rfl]
      generalize q_X8_setDay S d = Y at cd yd o1 ⊢
      have iY := iS_fr h.1 (mE_1 (rfl : M.1 = M.1)).1 cd.1
      have lk := look_eq (m := m) iY ht.1 ht.2 yd
      have co := cor_eq iY ht.1.1 ht.1.2
      have km := kQ_setMinute Y m
      have m1 : (q_X11_look M d m).1 = M.1 := lk_I M d m
      have tq : q_X11_turnOf (q_X11_look M d m) d m = q_X11_turnOf M d m := by
        unfold q_X11_turnOf q_X11_correctionOf
        rw [m1]
      have cq : q_X11_correctionOf (q_X11_look M d m) d = q_X11_correctionOf M d := by
        unfold q_X11_correctionOf
        rw [m1]
      rw [tq, cq, lk.2, co.1, es, ← yd.1, ← yd.2.1]
      have y5 : (q_X8_setMinute Y m).1 1 5 = Y.1 1 5 := km.2.1 5 (by decide)
      have y6 : (q_X8_setMinute Y m).1 1 6 = Y.1 1 6 := km.2.1 6 (by decide)
      rw [← y5, ← y6]
      have lk1 := lk.1
      generalize q_X8_setMinute Y m = X at km lk1 ⊢
      generalize q_X11_look M d m = N at m1 lk1 ⊢
      have iv : inv N X := inv_fr h (mE_1 m1) (cE_tr km.cE cd.1) (tE_tr km.tE cd.2) (okH_of o1 km.1)
      by_cases w0 : w = 0
      · rw [if_pos w0, if_pos w0]; exact ⟨by show X.1 1 13 = (N.2 0 11).toInt32; rw [lk1.1, t6432], iv⟩
      · rw [if_neg w0, if_neg w0]
        by_cases w1 : w = 1
        · rw [if_pos w1, if_pos w1]; exact ⟨by show X.1 1 14 = (N.2 0 12).toInt32; rw [lk1.2.1, t6432], iv⟩
        · rw [if_neg w1, if_neg w1]
          by_cases w2 : w = 2
          · rw [if_pos w2, if_pos w2]; exact ⟨by show X.1 1 15 = (N.2 0 13).toInt32; rw [lk1.2.2, t6432], iv⟩
          · rw [if_neg w2, if_neg w2]
            by_cases w3 : w = 3
            · rw [if_pos w3, if_pos w3]; exact ⟨(t6432 _).symm, iv⟩
            · rw [if_neg w3, if_neg w3]
              by_cases w4 : w = 4
              · rw [if_pos w4, if_pos w4]; exact ⟨(t6432 _).symm, iv⟩
              · rw [if_neg w4, if_neg w4]; exact ⟨(t6432 _).symm, iv⟩
theorem P_forget {M : gSm} {S : gSc} (h : inv M S) : (q_X10_forget S).1 = (q_X11_forget M).1 ∧ inv (q_X11_forget M).2 (q_X10_forget S).2 := by
  obtain ⟨hS, hG, hK, ⟨⟨n1, n2, n3⟩, n4⟩, hT, hH⟩ := h
  unfold q_X10_forget q_X11_forget
  dsimp only
  refine ⟨n1.symm, iS_g hS rfl rfl rfl rfl rfl rfl rfl rfl, iG_g hG rfl rfl rfl, iK_g hK rfl rfl rfl rfl rfl rfl rfl, ⟨⟨rfl, ?_, ?_⟩, n4⟩, iT_g hT rfl rfl rfl rfl, hH⟩
  · show 0 ≤ (0 : Int32).toInt; decide
  · show (0 : Int32).toInt ≤ 20; decide
theorem P_turn {M : gSm} {S : gSc} (h : inv M S) (i : Int32) : q_X10_turn S i = q_X11_turn M i := by
  obtain ⟨⟨t1, t2, t3⟩, t4⟩ := h.2.2.2.2.1
  unfold q_X10_turn q_X11_turn
  dsimp only
  rw [wi_eq, t1]
  by_cases c : q_X11_isIn (i.toInt64) 0 (((S.1 0 7) - 1).toInt64) = 0
  · rw [if_pos c, if_pos c]
  · rw [if_neg c, if_neg c]
    have e1 := i_m1 (v := S.1 0 7) (by omega)
    have q := isIn_of rfl c
    rw [t64, t64, l_0, e1] at q
    exact (t4 _ (by show i.toInt.toNat < _; omega)).symm
theorem nq4 {i : Nat} (h : i < 20) : (4 * nI i).toNatClampNeg = 4 * i ∧ (4 * nI i + 1).toNatClampNeg = 4 * i + 1 ∧ (4 * nI i + 2).toNatClampNeg = 4 * i + 2 ∧ (4 * nI i + 3).toNatClampNeg = 4 * i + 3 := n4 h
theorem P_sight {M : gSm} {S : gSc} (h : inv M S) (d m x y : Int32) : (q_X10_sight S d m x y).1 = (q_X11_sight M d m x y).1 ∧ inv (q_X11_sight M d m x y).2 (q_X10_sight S d m x y).2 := by
  have e : ∀ X : Int64, q_X10_isNear X = q_X11_isIn X (-1000000) 1000000 := fun _ => rfl
  unfold q_X10_sight q_X11_sight
  dsimp only
  rw [tm_eq, e, e]
  by_cases c1 : q_X11_isTime d m = 0
  · rw [if_pos c1, if_pos c1]; exact ⟨rfl, h⟩
  · rw [if_neg c1, if_neg c1]
    by_cases c2 : q_X11_isIn (x.toInt64) (-1000000) 1000000 = 0
    · rw [if_pos c2, if_pos c2]; exact ⟨rfl, h⟩
    · rw [if_neg c2, if_neg c2]
      by_cases c3 : q_X11_isIn (y.toInt64) (-1000000) 1000000 = 0
      · rw [if_pos c3, if_pos c3]; exact ⟨rfl, h⟩
      · rw [if_neg c3, if_neg c3]
        have ht := isTm_of rfl c1
        have hx := isIn_of rfl c2
        have hy := isIn_of rfl c3
        rw [t64, show (-1000000 : Int64).toInt = -1000000 by decide, show (1000000 : Int64).toInt = 1000000 by decide] at hx hy
        obtain ⟨hS, hG, hK, ⟨⟨n1, n2, n3⟩, n4⟩, hT, hH⟩ := id h
        have c20 : (20 : Int32).toInt = 20 := by decide
        rw [n1]
        by_cases c4 : S.1 17 4 < 20
        · have c4' := i_lt c4
          rw [c20] at c4'
          have ne : ¬ S.1 17 4 = 20 := fun q => by rw [q] at c4'; omega
          rw [if_pos c4, if_neg ne]
          unfold q_X7_add
          rw [if_pos c4]
          have hk : S.1 17 4 = nI (S.1 17 4).toInt.toNat := y_inj (by rw [nI_toInt (by omega)]; omega)
          have hk2 : (S.1 17 4).toInt.toNat < 20 := by omega
          have i1 := i_1 (v := S.1 17 4) (by omega)
          have ec : (S.1 17 4).toNatClampNeg = (S.1 17 4).toInt.toNat := rfl
          generalize hkk : (S.1 17 4).toInt.toNat = k at hk hk2 ec
          rw [ec]
          obtain ⟨q0, q1, q2, q3⟩ := nq4 hk2
          rw [hk] at n1 i1 ⊢
          rw [q0, q1, q2, q3]
          refine ⟨rfl, iS_g hS rfl rfl rfl rfl rfl rfl rfl rfl, iG_g hG rfl rfl rfl, iK_g hK rfl rfl rfl rfl rfl rfl rfl, ⟨⟨rfl, ?_, ?_⟩, fun j hj => ?_⟩, iT_g hT rfl rfl rfl rfl, hH⟩
          · show 0 ≤ (nI k + 1).toInt
            rw [nI_1, nI_toInt (by omega)]; omega
          · show (nI k + 1).toInt ≤ 20
            rw [nI_1, nI_toInt (by omega)]; omega
          · have e5 : (pM (pM (pM (pM (pM M 5 (4 * k) d) 5 (4 * k + 1) m) 5 (4 * k + 2) x) 5 (4 * k + 3) y) 0 8 (nI k + 1)).1 5 = upd (upd (upd (upd (M.1 5) (4 * k) d) (4 * k + 1) m) (4 * k + 2) x) (4 * k + 3) y := rfl
            have e18 : (pI (pI (pI (pI (pI S 18 k d) 19 k m) 20 k x) 21 k y) 17 4 (nI k + 1)).1 18 = upd (S.1 18) k d := rfl
            have e19 : (pI (pI (pI (pI (pI S 18 k d) 19 k m) 20 k x) 21 k y) 17 4 (nI k + 1)).1 19 = upd (S.1 19) k m := rfl
            have e20 : (pI (pI (pI (pI (pI S 18 k d) 19 k m) 20 k x) 21 k y) 17 4 (nI k + 1)).1 20 = upd (S.1 20) k x := rfl
            have e21 : (pI (pI (pI (pI (pI S 18 k d) 19 k m) 20 k x) 21 k y) 17 4 (nI k + 1)).1 21 = upd (S.1 21) k y := rfl
            dsimp only
            rw [e5, e18, e19, e20, e21]
            by_cases ej : j = k
            · subst ej
              rw [pk_us, pk_us, pk_us, pk_us, pk_us, pk_un (show 4 * j ≠ 4 * j + 3 by omega), pk_un (show 4 * j ≠ 4 * j + 2 by omega), pk_un (show 4 * j ≠ 4 * j + 1 by omega), pk_us, pk_un (show 4 * j + 1 ≠ 4 * j + 3 by omega), pk_un (show 4 * j + 1 ≠ 4 * j + 2 by omega), pk_us, pk_un (show 4 * j + 2 ≠ 4 * j + 3 by omega), pk_us]
              exact ⟨⟨rfl, rfl, rfl, rfl⟩, ht.1, ht.2, hx, hy⟩
            · have z := n4 j hj
              rw [pk_un ej, pk_un ej, pk_un ej, pk_un ej]
              have u : ∀ r, r < 4 → upd (upd (upd (upd (M.1 5) (4 * k) d) (4 * k + 1) m) (4 * k + 2) x) (4 * k + 3) y (4 * j + r) = M.1 5 (4 * j + r) := fun r hr => by rw [pk_un (by omega), pk_un (by omega), pk_un (by omega), pk_un (by omega)]
              have u0 : upd (upd (upd (upd (M.1 5) (4 * k) d) (4 * k + 1) m) (4 * k + 2) x) (4 * k + 3) y (4 * j) = M.1 5 (4 * j) := by rw [pk_un (by omega), pk_un (by omega), pk_un (by omega), pk_un (by omega)]
              rw [u0, u 1 (by decide), u 2 (by decide), u 3 (by decide)]
              exact z
        · have c4' := i_nlt c4
          rw [c20] at c4'
          have eq : S.1 17 4 = 20 := y_inj (by rw [c20]; omega)
          rw [if_neg c4, if_pos eq]
          exact ⟨rfl, h⟩
