/-! PURE 14: the class's turns -/
theorem isIn_cl {x s : Int32} (hx : nr x) (hs : nr s) : q_X11_isIn (x.toInt64 - s.toInt64) (-1) 1 = 0 ↔ ¬ (-1 ≤ x.toInt - s.toInt ∧ x.toInt - s.toInt ≤ 1) := by
  unfold nr at hx hs
  have d : (x.toInt64 - s.toInt64).toInt = x.toInt - s.toInt := by rw [l_sub (by rw [t64, t64]; omega) (by rw [t64, t64]; omega), t64, t64]
  have m1 : (-1 : Int64).toInt = -1 := by decide
  unfold q_X11_isIn
  by_cases c1 : x.toInt64 - s.toInt64 < -1
  · have c1' := l_lt c1
    rw [d, m1] at c1'
    rw [if_pos c1]
    exact ⟨fun _ => by omega, fun _ => rfl⟩
  · have c1' := l_nlt c1
    rw [d, m1] at c1'
    rw [if_neg c1]
    by_cases c2 : 1 < x.toInt64 - s.toInt64
    · have c2' := l_lt c2
      rw [d, l_1] at c2'
      rw [if_pos c2]
      exact ⟨fun _ => by omega, fun _ => rfl⟩
    · have c2' := l_nlt c2
      rw [d, l_1] at c2'
      rw [if_neg c2]
      exact ⟨fun q => absurd q (by decide), fun q => absurd ⟨by omega, by omega⟩ q⟩
theorem ab_cl {x s : Int32} (hx : nr x) (hs : nr s) : (1 < (if 0 ≤ (s - x) then (s - x) else 0 - (s - x))) ↔ ¬ (-1 ≤ x.toInt - s.toInt ∧ x.toInt - s.toInt ≤ 1) := by
  unfold nr at hx hs
  have e := i_sub (a := s) (b := x) (by omega) (by omega)
  have e2 := i_sub (a := 0) (b := s - x) (by rw [i_0]; omega) (by rw [i_0]; omega)
  rw [i_0, e] at e2
  rw [Int32.lt_iff_toInt_lt, i_one]
  by_cases c : 0 ≤ (s - x)
  · have c' := i_le c
    rw [i_0, e] at c'
    rw [if_pos c, e]
    omega
  · have c' := i_nle c
    rw [i_0, e] at c'
    rw [if_neg c, e2]
    omega
theorem cl_z {S : gSc} {i k : Nat} {x y : Int32} (hk : S.1 17 4 = nI k) (hi : i < k) (h20 : k ≤ 20) (hx : nr x) (hy : nr y) (hsx : nr (S.1 20 i)) (hsy : nr (S.1 21 i)) : q_X7_isCloseTo S (nI i) x y = 0 ↔ (q_X11_isIn (x.toInt64 - (S.1 20 i).toInt64) (-1) 1 = 0 ∨ q_X11_isIn (y.toInt64 - (S.1 21 i).toInt64) (-1) 1 = 0) := by
  have w := wi_1 hi (by omega)
  have ec : (nI i).toNatClampNeg = i := nI_clamp (by omega)
  unfold q_X7_isCloseTo
  dsimp only
  rw [hk, w, if_neg (show ¬ (1 : Int32) = 0 by decide), ec, isIn_cl hx hsx, isIn_cl hy hsy]
  have a1 := ab_cl hx hsx
  have a2 := ab_cl hy hsy
  by_cases c1 : 1 < (if 0 ≤ (S.1 20 i - x) then (S.1 20 i - x) else 0 - (S.1 20 i - x))
  · rw [if_pos c1]
    exact ⟨fun _ => Or.inl (a1.mp c1), fun _ => rfl⟩
  · rw [if_neg c1]
    by_cases c2 : 1 < (if 0 ≤ (S.1 21 i - y) then (S.1 21 i - y) else 0 - (S.1 21 i - y))
    · rw [if_pos c2]
      exact ⟨fun _ => Or.inr (a2.mp c2), fun _ => rfl⟩
    · rw [if_neg c2]
      refine ⟨fun q => absurd q (by decide), fun q => ?_⟩
      rcases q with q | q
      · exact absurd (a1.mpr q) c1
      · exact absurd (a2.mpr q) c2
/-- what the loop over the turns leaves as it was -/
def tk (k : Nat) : Bool := k == 2 || k == 4 || k == 5 || k == 12 || k == 17 || k == 18 || k == 19 || k == 20 || k == 21
def kT (Y Z : gSc) : Prop := Y.2 = Z.2 ∧ Y.1 1 = Z.1 1 ∧ (∀ j, j ≤ 11 → Y.1 7 j = Z.1 7 j) ∧ ∀ k, tk k = true → Y.1 k = Z.1 k
theorem kT_rf {Z : gSc} : kT Z Z := ⟨rfl, rfl, fun _ _ => rfl, fun _ _ => rfl⟩
theorem kT_tr {X Y Z : gSc} (h : kT X Y) (g : kT Y Z) : kT X Z := ⟨h.1.trans g.1, h.2.1.trans g.2.1, fun j q => (h.2.2.1 j q).trans (g.2.2.1 j q), fun k q => (h.2.2.2 k q).trans (g.2.2.2 k q)⟩
theorem kT_pI {Z : gSc} {k j : Nat} {v : Int32} (h : tk k = false ∧ 1 ≠ k ∧ (k ≠ 7 ∨ 12 ≤ j)) : kT (pI Z k j v) Z := by
  obtain ⟨h1, h2, h3⟩ := h
  refine ⟨rfl, pI_n h2, fun i hi => ?_, fun i hi => ?_⟩
  · by_cases e : 7 = k
    · subst e
      rw [pI_s, pk_un (by omega)]
    · rw [pI_n e]
  · exact pI_n (fun e => by rw [e, h1] at hi; cases hi)
theorem kT_rows (S : gSc) (a : Nat) (g : Int32) : kT (q_X6_setRows S a g) S := by
  refine ⟨sr_2 S a g, sr_k (by decide) (by decide) (by decide) S a g, fun j _ => by rw [sr_k (by decide) (by decide) (by decide) S a g], fun k hk => ?_⟩
  exact sr_k (fun e => by rw [e] at hk; cases hk) (fun e => by rw [e] at hk; cases hk) (fun e => by rw [e] at hk; cases hk) S a g
theorem kT_settle (S : gSc) : kT (q_X6_settle S).2 S := by
  unfold q_X6_settle
  dsimp only
  (repeat' split) <;> first | exact kT_rf | exact kT_tr (kT_pI (by decide)) (kT_pI (by decide))
theorem kT.cE {Y Z : gSc} (h : kT Y Z) : cE Y Z := by
  obtain ⟨h1, h2, h3, h4⟩ := h
  exact ⟨⟨by rw [h1], by rw [h1], by rw [h1]⟩, ⟨by rw [h2], by rw [h2], by rw [h2], by rw [h2]⟩, h4 2 rfl, h4 4 rfl, h4 5 rfl, h4 17 rfl, h4 18 rfl, h4 19 rfl, h4 20 rfl, h4 21 rfl⟩
theorem suD_T {S Y : gSc} {a : Nat} (h : suD S a) (k : kT Y S) : suD Y a := by
  obtain ⟨h1, h2, h3, h4, h5⟩ := h
  obtain ⟨k1, k2, k3, k4⟩ := k
  refine ⟨?_, ?_, ?_, ?_, hsG_st h5 k1 (k3 6 (by decide)) (k4 12 rfl)⟩
  · rw [k3 7 (by decide), k1]; exact h1
  · rw [k3 8 (by decide), k1]; exact h2
  · rw [k3 9 (by decide), k1]; exact h3
  · rw [k3 10 (by decide), k1]; exact h4
/-- one turn at one sight -/
theorem tn_eq {M5 : gSm} {Y : gSc} {p g : Int32} {a : Nat} (k : skd M5 Y) (hF : dF M5 p (Y.2.2.2.2 a)) (hg : g.toInt < 2147467264) (su : suD Y a) (hh : 0 < Y.1 1 15 → Y.1 7 11 = q_X11_hider M5 p) : lit (q_X6_settle (q_X6_setRows Y a g)) (stT M5 p g.toInt64) ∧ kT (q_X6_settle (q_X6_setRows Y a g)).2 Y ∧ (q_X6_settle (q_X6_setRows Y a g)).2.1 22 = Y.1 22 ∧ (q_X6_settle (q_X6_setRows Y a g)).2.1 0 = Y.1 0 := by
  have kr := kT_rows Y a g
  have rw0 := rwD_set Y a g
  have e22 : (q_X6_setRows Y a g).1 22 = Y.1 22 := sr_k (by decide) (by decide) (by decide) Y a g
  have e0 : (q_X6_setRows Y a g).1 0 = Y.1 0 := sr_k (by decide) (by decide) (by decide) Y a g
  generalize q_X6_setRows Y a g = X at kr rw0 e22 e0 ⊢
  have su2 := suD_T su kr
  have st := settle_eq (M := M5) (S := X) (p := p) (g := g) (a := a) (skd_st k kr.2.1) (by rw [kr.1]; exact hF) hg (by rw [kr.1]; exact rw0) su2.2.2.1 su2.2.2.2.1 (by rw [kr.2.1, kr.2.2.1 11 (by decide)]; exact hh)
  exact ⟨st.1, kT_tr (kT_settle X) kr, by rw [kc_settle (by decide), e22], by rw [kc_settle (by decide), e0]⟩
def kaJ (P Q : Nat → Bool) (j : Nat) (Y : gSc) : Prop := Y.1 0 7 = nI (kc P 601) ∧ (∀ t, t < j → Q t = true → Y.1 22 (kc Q t) = uu t) ∧ ∀ t, j ≤ t → t < 601 → P t = true → Y.1 22 (kc P t) = uu t
theorem ka_z {M M5 : gSm} {S1 Y0 : gSc} {p g : Int32} {a i k : Nat} {P Q : Nat → Bool} (hk : skd M5 Y0) (hF : dF M5 p (Y0.2.2.2.2 a)) (hg : g = Y0.2.2.2.2 a 4) (hgb : 0 ≤ g.toInt ∧ g.toInt ≤ 65535) (su : suD Y0 a) (hh : 0 < Y0.1 1 15 → Y0.1 7 11 = q_X11_hider M5 p) (h17 : Y0.1 17 4 = nI k) (hi : i < k) (h20 : k ≤ 20) (hsx : nr (Y0.1 20 i)) (hsy : nr (Y0.1 21 i)) (hQ : ∀ j, Q j = (P j && agB M p g (uu j) i)) (hB : ∀ u, agB M p g u i = (decide ((stT M5 p ((g + u).toInt64)).1 = 0) && (!(decide (q_X11_isIn ((stT M5 p ((g + u).toInt64)).2.2 0 14 - (Y0.1 20 i).toInt64) (-1) 1 = 0)) && !(decide (q_X11_isIn ((stT M5 p ((g + u).toInt64)).2.2 0 15 - (Y0.1 21 i).toInt64) (-1) 1 = 0))))) : ∀ (m j : Nat), j + m = 601 → ∀ (n : Nat) (Y : gSc), kc P 601 < kc P j + n → kT Y Y0 → kaJ P Q j Y → kT (q_X10_keepAgreeingTurns_b41 S1 a (nI i) n (nI (kc Q j)) (nI (kc P j)) Y) Y0 ∧ tI Q 601 ((q_X10_keepAgreeingTurns_b41 S1 a (nI i) n (nI (kc Q j)) (nI (kc P j)) Y).1 22) ((q_X10_keepAgreeingTurns_b41 S1 a (nI i) n (nI (kc Q j)) (nI (kc P j)) Y).1 0 7) := by
  have QP : ∀ j, Q j = true → P j = true := fun j q => by
    rw [hQ] at q
    exact (Bool.and_eq_true _ _ ▸ q).1
  have l601 := kc_le P 601
  intro m
  induction m with
  | zero =>
    intro j h1 n Y h2 kt hJ
    have e : j = 601 := by omega
    subst e
    cases n with
    | zero => exact absurd h2 (by omega)
    | succ n =>
      rw [q_X10_keepAgreeingTurns_b41]
      dsimp only
      rw [if_pos (show Y.1 0 7 ≤ nI (kc P 601) by rw [hJ.1]; exact nI_le (Nat.le_refl _) (by omega))]
      refine ⟨kT_tr (kT_pI (by decide)) kt, ?_, ?_⟩
      · rw [pI_s, pk_us]
      · intro t ht q
        rw [pI_n (by decide)]
        exact hJ.2.1 t ht q
  | succ m ih =>
    intro j h1 n Y h2 kt hJ
    by_cases pj : P j = true
    · have lt := kc_lt pj (show j < 601 by omega)
      have lq := kc_sub QP j
      have lj := kc_le P j
      cases n with
      | zero =>
        have := kc_m (P := P) (show j ≤ 601 by omega)
        exact absurd h2 (by omega)
      | succ n =>
        rw [q_X10_keepAgreeingTurns_b41]
        dsimp only
        have e1 : (nI (kc P j)).toNatClampNeg = kc P j := nI_clamp (by omega)
        have e2 : (nI (kc Q j)).toNatClampNeg = kc Q j := nI_clamp (by omega)
        have ez := uu_z (j := j) (by omega)
        have ga := i_add (a := g) (b := uu j) (by omega) (by omega)
        have f4 : Y.2.2.2.2 a 4 = g := by rw [kt.1]; exact hg.symm
        rw [if_neg (show ¬ Y.1 0 7 ≤ nI (kc P j) by rw [hJ.1]; exact nI_ge lt (by omega)), e1, e2, hJ.2.2 j (Nat.le_refl _) (by omega) pj, f4, nI_1, nI_1]
        have tn := tn_eq (M5 := M5) (Y := Y) (p := p) (g := g + uu j) (a := a) (skd_st hk kt.2.1) (by rw [kt.1]; exact hF) (by omega) (suD_T su kt) (by rw [kt.2.1, kt.2.2.1 11 (by decide)]; exact hh)
        have hb := hB (uu j)
        generalize q_X6_settle (q_X6_setRows Y a (g + uu j)) = R at tn ⊢
        generalize stT M5 p ((g + uu j).toInt64) = T at tn hb
        obtain ⟨lt1, kr, r22, r0⟩ := tn
        have kt2 := kT_tr kr kt
        have no : agB M p g (uu j) i = false → ¬ Q j = true := fun q z => by
          rw [hQ, q, Bool.and_false] at z
          cases z
        have skp : ¬ Q j = true → kT (q_X10_keepAgreeingTurns_b41 S1 a (nI i) n (nI (kc Q j)) (nI (kc P j + 1)) R.2) Y0 ∧ tI Q 601 ((q_X10_keepAgreeingTurns_b41 S1 a (nI i) n (nI (kc Q j)) (nI (kc P j + 1)) R.2).1 22) ((q_X10_keepAgreeingTurns_b41 S1 a (nI i) n (nI (kc Q j)) (nI (kc P j + 1)) R.2).1 0 7) := by
          intro nq
          have z := ih (j + 1) (by omega) n R.2 (by rw [kc_y pj]; omega) kt2 (by
            refine ⟨by rw [r0]; exact hJ.1, fun t ht q => ?_, fun t h3 h4 q => ?_⟩
            · by_cases et : t = j
              · rw [et] at q; exact absurd q nq
              · rw [r22]; exact hJ.2.1 t (by omega) q
            · rw [r22]; exact hJ.2.2 t (by omega) h4 q)
          rwa [kc_n nq, kc_y pj] at z
        by_cases g0 : R.1 = 0
        · rw [if_pos g0]
          obtain ⟨⟨x1, x2⟩, nx, ny⟩ := lt1.2 g0
          have k17 : R.2.1 17 4 = nI k := by rw [kt2.2.2.2 17 rfl]; exact h17
          have s20 : R.2.1 20 i = Y0.1 20 i := by rw [kt2.2.2.2 20 rfl]
          have s21 : R.2.1 21 i = Y0.1 21 i := by rw [kt2.2.2.2 21 rfl]
          have cl := cl_z (S := R.2) (x := R.2.1 7 12) (y := R.2.1 7 13) k17 hi h20 nx ny (by rw [s20]; exact hsx) (by rw [s21]; exact hsy)
          rw [s20, s21, ← x1, ← x2] at cl
          by_cases g1 : q_X7_isCloseTo R.2 (nI i) (R.2.1 7 12) (R.2.1 7 13) = 0
          · rw [if_pos g1]
            refine skp (no ?_)
            rw [hb]
            rcases cl.mp g1 with q | q
            · rw [decide_eq_true q]; simp
            · rw [decide_eq_true q]; simp
          · rw [if_neg g1]
            have n1 : ¬ q_X11_isIn (T.2.2 0 14 - (Y0.1 20 i).toInt64) (-1) 1 = 0 := fun q => g1 (cl.mpr (Or.inl q))
            have n2 : ¬ q_X11_isIn (T.2.2 0 15 - (Y0.1 21 i).toInt64) (-1) 1 = 0 := fun q => g1 (cl.mpr (Or.inr q))
            have qj : Q j = true := by rw [hQ, pj, hb, decide_eq_true (lt1.1.symm.trans g0), decide_eq_false n1, decide_eq_false n2]; rfl
            have er : R.2.1 22 (kc P j) = uu j := by rw [r22]; exact hJ.2.2 j (Nat.le_refl _) (by omega) pj
            rw [er]
            have z := ih (j + 1) (by omega) n (pI R.2 22 (kc Q j) (uu j)) (by rw [kc_y pj]; omega) (kT_tr (kT_pI ⟨rfl, by decide, Or.inl (by decide)⟩) kt2) (by
              refine ⟨by rw [pI_n (by decide), r0]; exact hJ.1, fun t ht q => ?_, fun t h3 h4 q => ?_⟩
              · rw [pI_s]
                by_cases et : t = j
                · rw [et, pk_us]
                · have l := kc_lt q (show t < j by omega)
                  rw [pk_un (by omega), r22]
                  exact hJ.2.1 t (by omega) q
              · have l := kc_lt pj (show j < t by omega)
                rw [pI_s, pk_un (by omega), r22]
                exact hJ.2.2 t (by omega) h4 q)
            rwa [kc_y qj, kc_y pj] at z
        · rw [if_neg g0]
          refine skp (no ?_)
          rw [hb, decide_eq_false (fun q => g0 (lt1.1.trans q))]
          rfl
    · have nq : ¬ Q j = true := fun q => pj (QP j q)
      have z := ih (j + 1) (by omega) n Y (by rw [kc_n pj]; exact h2) kt ⟨hJ.1, fun t ht q => by
          by_cases et : t = j
          · rw [et] at q; exact absurd q nq
          · exact hJ.2.1 t (by omega) q, fun t h3 h4 q => hJ.2.2 t (by omega) h4 q⟩
      rwa [kc_n nq, kc_n pj] at z
