/-! PURE 6: the state of a dial, and its end -/
theorem xd {a b : Int32} {P : Prop} (q : a = b) (h : decide (a = b) = false) : P := absurd q (of_decide_eq_false h)
theorem z_i64 : (0 : Int32).toInt64 = 0 := by decide
theorem ht_eq {S : gSc} {U : Int64} (hU : U = (S.1 1 15).toInt64) : ∀ (n : Nat) (v s : Int32), 0 ≤ v.toInt → v.toInt ≤ 16384 → 0 ≤ s.toInt → s.toInt ≤ 16384 → q_X11_heightOf_b7 U n v.toInt64 s.toInt64 = (q_X8_height_b6 S n v s).toInt64 ∧ 0 ≤ (q_X8_height_b6 S n v s).toInt ∧ (q_X8_height_b6 S n v s).toInt ≤ 16384
  | 0, v, s => fun _ _ _ _ => ⟨by show (0 : Int64) = (0 : Int32).toInt64; decide, by show 0 ≤ (0 : Int32).toInt; decide, by show (0 : Int32).toInt ≤ 16384; decide⟩
  | n + 1, v, s => by
    intro h1 h2 h3 h4
    have k16 : (16384 : Int32).toInt64 = 16384 := by decide
    have c16 : (16384 : Int32).toInt = 16384 := by decide
    have a := i_add (a := v) (b := s) (by omega) (by omega)
    have e := a64 (a := v) (b := s) (by omega) (by omega)
    have eh : s.toInt64 / 2 = (s >>> ((1 : Int32) &&& 31)).toInt64 := x_inj (by
      have c2 : (2 : Int64).toInt = 2 := by decide
      rw [l_div (by rw [t64]; exact h3) (by decide), c2, t64, t64, i_shr1])
    have hs := i_shr1 s
    rw [q_X11_heightOf_b7, q_X8_height_b6]
    dsimp only
    rw [eh, ← e, sin_eq]
    generalize s >>> ((1 : Int32) &&& 31) = s2 at hs ⊢
    have b1 : (s.toInt64 ≤ 0) ↔ s ≤ 0 := by rw [← z_i64]; exact le64 s 0
    have b2 : (16384 < (v + s).toInt64) ↔ 16384 < v + s := by rw [← k16]; exact lt64 16384 (v + s)
    have b3 : (U < (q_X10_sineOf (v + s)).toInt64) ↔ S.1 1 15 < q_X10_sineOf (v + s) := by rw [hU]; exact lt64 _ _
    by_cases d1 : s ≤ 0
    · rw [if_pos d1, if_pos (b1.mpr d1)]
      exact ⟨rfl, h1, h2⟩
    · rw [if_neg d1, if_neg (fun q => d1 (b1.mp q))]
      by_cases d2 : 16384 < v + s
      · rw [if_pos d2, if_pos (b2.mpr d2)]
        exact ht_eq hU n v s2 h1 h2 (by omega) (by omega)
      · rw [if_neg d2, if_neg (fun q => d2 (b2.mp q))]
        have d2' := i_nlt d2
        by_cases d3 : S.1 1 15 < q_X10_sineOf (v + s)
        · rw [if_pos d3, if_pos (b3.mpr d3)]
          exact ht_eq hU n v s2 h1 h2 (by omega) (by omega)
        · rw [if_neg d3, if_neg (fun q => d3 (b3.mp q))]
          exact ht_eq hU n (v + s) s2 (by omega) (by omega) (by omega) (by omega)
/-- the last steps of a state: is the end near -/
def clE (S : gSc) (A B : Int64) : Int32 × gSc := (let r129 := q_X10_isNear A; (if r129 = 0 then (4, S) else (let r137 := q_X10_isNear B; (if r137 = 0 then (4, S) else (0, pI (pI S 7 12 (A.toInt32)) 7 13 (B.toInt32))))))
def rfE (N : gSm) (A B : Int64) : Int32 × gSm := (let r61 := q_X11_isIn A (-1000000) 1000000; (if r61 = 0 then (4, N) else (let r77 := q_X11_isIn B (-1000000) 1000000; (if r77 = 0 then (4, N) else (0, N)))))
def nr (v : Int32) : Prop := -1000000 ≤ v.toInt ∧ v.toInt ≤ 1000000
theorem near_fin (S : gSc) (N : gSm) (A B : Int64) (hA : N.2 0 14 = A) (hB : N.2 0 15 = B) : (clE S A B).1 = (rfE N A B).1 ∧ ((clE S A B).1 = 0 → ((rfE N A B).2.2 0 14 = ((clE S A B).2.1 7 12).toInt64 ∧ (rfE N A B).2.2 0 15 = ((clE S A B).2.1 7 13).toInt64) ∧ nr ((clE S A B).2.1 7 12) ∧ nr ((clE S A B).2.1 7 13)) ∧ ¬ (clE S A B).1 = 3 := by
  have e : ∀ X : Int64, q_X10_isNear X = q_X11_isIn X (-1000000) 1000000 := fun _ => rfl
  by_cases c1 : q_X11_isIn A (-1000000) 1000000 = 0
  · have eC : clE S A B = (4, S) := by unfold clE; dsimp only; rw [e, if_pos c1]
    have eR : rfE N A B = (4, N) := by unfold rfE; dsimp only; rw [if_pos c1]
    rw [eC, eR]
    exact ⟨rfl, fun q => xd q rfl, fun q => xd q rfl⟩
  · by_cases c2 : q_X11_isIn B (-1000000) 1000000 = 0
    · have eC : clE S A B = (4, S) := by unfold clE; dsimp only; rw [e, e, if_neg c1, if_pos c2]
      have eR : rfE N A B = (4, N) := by unfold rfE; dsimp only; rw [if_neg c1, if_pos c2]
      rw [eC, eR]
      exact ⟨rfl, fun q => xd q rfl, fun q => xd q rfl⟩
    · have eC : clE S A B = (0, pI (pI S 7 12 (A.toInt32)) 7 13 (B.toInt32)) := by unfold clE; dsimp only; rw [e, e, if_neg c1, if_neg c2]
      have eR : rfE N A B = (0, N) := by unfold rfE; dsimp only; rw [if_neg c1, if_neg c2]
      have a := isIn_of rfl c1
      have b := isIn_of rfl c2
      have m1 : (-1000000 : Int64).toInt = -1000000 := by decide
      have m2 : (1000000 : Int64).toInt = 1000000 := by decide
      rw [m1, m2] at a b
      have e12 : (pI (pI S 7 12 (A.toInt32)) 7 13 (B.toInt32)).1 7 12 = A.toInt32 := by rw [pI_s, pk_un (by decide), pI_s, pk_us]
      have e13 : (pI (pI S 7 12 (A.toInt32)) 7 13 (B.toInt32)).1 7 13 = B.toInt32 := by rw [pI_s, pk_us]
      rw [eC, eR]
      dsimp only
      rw [e12, e13, hA, hB, t3264 (by omega) (by omega), t3264 (by omega) (by omega)]
      unfold nr
      rw [t32 (by omega) (by omega), t32 (by omega) (by omega)]
      exact ⟨rfl, fun _ => ⟨⟨rfl, rfl⟩, a, b⟩, fun q => xd q rfl⟩
/-- the reference's state behind its look -/
def stT (M5 : gSm) (p1 : Int32) (p2 : Int64) : Int32 × gSm := (if 0 < (M5.2 0 13) then (let r23 := q_X11_sunBy M5 p1 p2 0; (if 0 < r23 then (let r35 := q_X11_hider M5 p1; (if r35 = (-2000000005) then (let M48 := q_X11_findEnd M5 p1 p2; (let r61 := q_X11_isIn (M48.2 0 14) (-1000000) 1000000; (if r61 = 0 then (4, M48) else (let r77 := q_X11_isIn (M48.2 0 15) (-1000000) 1000000; (if r77 = 0 then (4, M48) else (0, M48)))))) else (3, M5))) else (2, M5))) else (1, M5))
theorem st_T (M : gSm) (p : Int32) (g : Int64) (d m : Int32) : q_X11_stateOf M p g d m = stT (q_X11_look M d m) p g := rfl
def lit (R : Int32 × gSc) (N : Int32 × gSm) : Prop := R.1 = N.1 ∧ (R.1 = 0 → (N.2.2 0 14 = (R.2.1 7 12).toInt64 ∧ N.2.2 0 15 = (R.2.1 7 13).toInt64) ∧ nr (R.2.1 7 12) ∧ nr (R.2.1 7 13))
theorem settle_eq {M : gSm} {S : gSc} {p g : Int32} {a : Nat} (k : skd M S) (hF : dF M p (S.2.2.2.2 a)) (hg : g.toInt < 2147467264) (hr : rwD S (S.2.2.2.2 a) g) (h9 : S.1 7 9 = S.2.2.2.2 a 3) (h10 : S.1 7 10 = isK (S.2.2.2.2 a 0) 3) (hh : 0 < S.1 1 15 → S.1 7 11 = q_X11_hider M p) : lit (q_X6_settle S) (stT M p g.toInt64) ∧ ((q_X6_settle S).1 = 3 → (stT M p g.toInt64).2 = M ∧ (q_X6_settle S).2 = S) := by
  obtain ⟨s0, s1, s2⟩ := sun_all k hF hg hr
  have kd := (kd_of hF.2.2.2.2.2.2.2).2.2.1
  have c1e : (0 < M.2 0 13) ↔ 0 < S.1 1 15 := by rw [k.2.2, ← z_i64]; exact lt64 0 _
  by_cases c1 : 0 < S.1 1 15
  · have c1' := c1e.mpr c1
    have h11 := hh c1
    by_cases c2 : 0 < q_X5_sunBy_8 S
    · have c2' : 0 < (q_X5_sunBy_8 S).toInt := by have := l_lt c2; rwa [l_0] at this
      by_cases c3 : q_X11_hider M p = (-2000000005)
      · by_cases cr : isK (S.2.2.2.2 a 0) 3 = 0
        · have e0 : ¬ q_X11_get M p 0 = 5 := by rw [hF.1]; exact kd.mp cr
          generalize hA : q_J9_floorDiv_f86c9 (((-(S.1 7 9)).toInt64) * (q_X5_sunBy_9 S)) (q_X5_sunBy_8 S) = A
          generalize hB : q_J9_floorDiv_f86c9 (((-(S.1 7 9)).toInt64) * (q_X5_sunBy_10 S)) (q_X5_sunBy_8 S) = B
          have eE : q_X11_findEnd M p g.toInt64 = pJ (pJ M 0 14 A) 0 15 B := by
            unfold q_X11_findEnd
            dsimp only
            rw [if_neg e0, s0, s1, hF.2.2.2.1, ← h9, fl_eq c2', hA]
            have hF2 : dF (pJ M 0 14 A) p (S.2.2.2.2 a) := dF_fr hF rfl
            have k2 : skd (pJ M 0 14 A) S := k
            rw [(sun_all k2 hF2 hg hr).2.2, hF2.2.2.2.1, ← h9, fl_eq c2', hB]
          have eC : q_X6_settle S = clE S A B := by
            unfold q_X6_settle clE
            dsimp only
            rw [if_pos c1, if_pos c2, h11, if_pos c3, h10, if_pos cr, if_pos cr, hA, hB]
          have eR : stT M p g.toInt64 = rfE (pJ (pJ M 0 14 A) 0 15 B) A B := by
            unfold stT
            dsimp only
            rw [if_pos c1', s0, if_pos c2, if_pos c3, eE]
            rfl
          rw [eC, eR]
          have nf := near_fin S (pJ (pJ M 0 14 A) 0 15 B) A B rfl rfl
          exact ⟨⟨nf.1, nf.2.1⟩, fun q => absurd q nf.2.2⟩
        · have e0 : q_X11_get M p 0 = 5 := by
            rw [hF.1]
            exact Decidable.byContradiction (fun q => cr (kd.mpr q))
          have hq := ht_eq (S := S) (U := M.2 0 13) k.2.2 17 0 16384 (by decide) (by decide) (by decide) (by decide)
          rw [show (0 : Int32).toInt64 = 0 by decide, show (16384 : Int32).toInt64 = 16384 by decide] at hq
          have hq1 : q_X11_heightOf (M.2 0 13) = (q_X8_height S).toInt64 := hq.1
          have hq2 : 0 ≤ (q_X8_height S).toInt := hq.2.1
          have hq3 : (q_X8_height S).toInt ≤ 16384 := hq.2.2
          have c2i : (2 : Int32).toInt = 2 := by decide
          have k2i : (2 : Int32).toInt64 = 2 := by decide
          have e2 := m64 (a := 2) (b := q_X8_height S) (by rw [c2i]; omega) (by rw [c2i]; omega)
          rw [k2i] at e2
          have w1 : (M.2 0 11 < 0) ↔ ¬ (0 ≤ S.1 1 13) := by
            rw [k.1, ← z_i64, lt64, Int32.not_le]
          generalize hA : (2 * (q_X8_height S)).toInt64 = A at e2
          have eE : q_X11_findEnd M p g.toInt64 = pJ (pJ M 0 14 A) 0 15 ((q_X8_westSide S).toInt64) := by
            unfold q_X11_findEnd q_X8_westSide
            dsimp only
            rw [if_pos e0, hq1, ← e2]
            by_cases cw : 0 ≤ S.1 1 13
            · rw [if_pos cw, if_neg (fun q => w1.mp q cw), z_i64]
            · rw [if_neg cw, if_pos (w1.mpr cw), show (1 : Int32).toInt64 = 1 by decide]
          generalize hB : (q_X8_westSide S).toInt64 = B at eE
          have eC : q_X6_settle S = clE S A B := by
            unfold q_X6_settle clE
            dsimp only
            rw [if_pos c1, if_pos c2, h11, if_pos c3, h10, if_neg cr, if_neg cr, hA, hB]
          have eR : stT M p g.toInt64 = rfE (pJ (pJ M 0 14 A) 0 15 B) A B := by
            unfold stT
            dsimp only
            rw [if_pos c1', s0, if_pos c2, if_pos c3, eE]
            rfl
          rw [eC, eR]
          have nf := near_fin S (pJ (pJ M 0 14 A) 0 15 B) A B rfl rfl
          exact ⟨⟨nf.1, nf.2.1⟩, fun q => absurd q nf.2.2⟩
      · have eC : q_X6_settle S = (3, S) := by
          unfold q_X6_settle
          dsimp only
          rw [if_pos c1, if_pos c2, h11, if_neg c3]
        have eR : stT M p g.toInt64 = (3, M) := by
          unfold stT
          dsimp only
          rw [if_pos c1', s0, if_pos c2, if_neg c3]
        rw [eC, eR]
        exact ⟨⟨rfl, fun q => xd q rfl⟩, fun _ => ⟨rfl, rfl⟩⟩
    · have eC : q_X6_settle S = (2, S) := by
        unfold q_X6_settle
        dsimp only
        rw [if_pos c1, if_neg c2]
      have eR : stT M p g.toInt64 = (2, M) := by
        unfold stT
        dsimp only
        rw [if_pos c1', s0, if_neg c2]
      rw [eC, eR]
      exact ⟨⟨rfl, fun q => xd q rfl⟩, fun q => xd q rfl⟩
  · have eC : q_X6_settle S = (1, S) := by
      unfold q_X6_settle
      rw [if_neg c1]
    have eR : stT M p g.toInt64 = (1, M) := by
      unfold stT
      rw [if_neg (fun q => c1 (c1e.mp q))]
    rw [eC, eR]
    exact ⟨⟨rfl, fun q => xd q rfl⟩, fun q => xd q rfl⟩
/-! a dial is set up -/
def suD (S : gSc) (a : Nat) : Prop := S.1 7 7 = S.2.2.2.2 a 1 ∧ S.1 7 8 = S.2.2.2.2 a 2 ∧ S.1 7 9 = S.2.2.2.2 a 3 ∧ S.1 7 10 = isK (S.2.2.2.2 a 0) 3 ∧ hsG S
theorem suD_st {S Y : gSc} {a : Nat} (h : suD S a) (k : kQ Y S) : suD Y a := by
  obtain ⟨h1, h2, h3, h4, h5⟩ := h
  obtain ⟨k1, k2, k3, k4⟩ := k
  refine ⟨?_, ?_, ?_, ?_, hsG_st h5 k1 (k3 6 (by decide)) (k4 12 rfl)⟩
  · rw [k3 7 (by decide), k1]; exact h1
  · rw [k3 8 (by decide), k1]; exact h2
  · rw [k3 9 (by decide), k1]; exact h3
  · rw [k3 10 (by decide), k1]; exact h4
theorem rwD_k {S Y : gSc} {a : Nat} {g : Int32} (h : rwD S (S.2.2.2.2 a) g) (k : kQ Y S) : rwD Y (Y.2.2.2.2 a) g := by
  rw [k.1]
  exact rwD_st h (k.2.2.2 8 rfl) (k.2.2.2 9 rfl) (k.2.2.2 10 rfl)
theorem hider_eq {M : gSm} {S : gSc} {p : Int32} {a : Nat} (k : skd M S) (hG : iG M S) (su : suD S a) (hF : dF M p (S.2.2.2.2 a)) (c : 0 < S.1 1 15) : (q_X6_findHider S).1 7 11 = q_X11_hider M p := by
  unfold q_X6_findHider q_X11_hider
  rw [if_pos c]
  have q := hi_z S k hG su.2.2.2.2 hF.2.1 hF.2.2.1 su.1 su.2.1 41 0 (by decide) (by decide) 41 (pI S 7 11 (-2000000005)) (by have := hct_le S 40; show hct S 40 < 0 + 41; omega) (kQ_pI (by decide)) (pI_n (by decide)) (by rw [pI_s, pk_us])
  rw [show hct S 0 = 0 from rfl, nI_0] at q
  exact q
/-- the answer of a look: the class's state and the reference's -/
theorem cast_eq {M : gSm} {S : gSc} {p g d m : Int32} {a : Nat} (h : iS M S) (hG : iG M S) (hF : dF M p (S.2.2.2.2 a)) (su : suD S a) (hr : rwD S (S.2.2.2.2 a) g) (hg : g.toInt < 2147467264) (hy : dyd S d) (hd : 0 ≤ d.toInt ∧ d.toInt ≤ 365) (hm : 0 ≤ m.toInt ∧ m.toInt ≤ 1439) : lit (q_X6_cast (q_X8_setMinute S m)) (q_X11_stateOf M p g.toInt64 d m) ∧ ((q_X6_cast (q_X8_setMinute S m)).1 = 3 → (q_X6_cast (q_X8_setMinute S m)).2.1 7 11 = q_X11_hider (q_X11_stateOf M p g.toInt64 d m).2 p) := by
  have k1 := kQ_setMinute S m
  have sk := (look_eq h hd hm hy).1
  rw [st_T]
  have m1 : (q_X11_look M d m).1 = M.1 := lk_I M d m
  generalize q_X8_setMinute S m = S1 at k1 sk ⊢
  generalize q_X11_look M d m = M5 at sk m1 ⊢
  have k2 := kQ_findHider S1
  have e1 : (q_X6_findHider S1).1 1 = S1.1 1 := kc_findHider (by decide)
  have hG1 : iG M5 S1 := iG_fr hG (mE_1 m1).1 k1.cE
  have su1 := suD_st su k1
  have hF1 : dF M5 p (S1.2.2.2.2 a) := by rw [k1.1]; exact dF_fr hF (by rw [m1])
  have hh : 0 < S1.1 1 15 → (q_X6_findHider S1).1 7 11 = q_X11_hider M5 p := fun c => hider_eq sk hG1 su1 hF1 c
  have er : q_X6_cast S1 = q_X6_settle (q_X6_findHider S1) := rfl
  rw [er]
  generalize q_X6_findHider S1 = S2 at k2 e1 hh ⊢
  have su2 := suD_st su1 k2
  have st := settle_eq (M := M5) (S := S2) (p := p) (g := g) (a := a) (skd_st sk e1) (by rw [k2.1]; exact hF1) hg (rwD_k (rwD_k hr k1) k2) su2.2.2.1 su2.2.2.2.1 (by rw [e1]; exact hh)
  refine ⟨st.1, fun c => ?_⟩
  have t := st.2 c
  rw [t.1, t.2]
  refine hh ?_
  rw [← e1]
  refine Decidable.byContradiction (fun q => ?_)
  unfold q_X6_settle at c
  rw [if_neg q] at c
  exact xd c rfl
