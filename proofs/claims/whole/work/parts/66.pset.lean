/-! PURE 7: a dial set up on a day -/
theorem gh_7j (S : gSc) {j : Nat} (h : j ≠ 6) : ∀ (n : Nat) (v : Int32) (Z : gSc), (q_X6_gatherHouses_b7 S n v Z).1 7 j = Z.1 7 j
  | 0, _, _ => rfl
  | n + 1, v, Z => by
    rw [q_X6_gatherHouses_b7]
    dsimp only
    by_cases c : 40 ≤ v
    · rw [if_pos c]
    · rw [if_neg c, if_neg c]
      split
      · exact gh_7j S h n _ _
      · split
        · exact gh_7j S h n _ _
        · rw [gh_7j S h n, pI_s, pk_un h, pI_n (by decide)]
          rfl
theorem gh_R (S : gSc) {k : Nat} (h : k ≠ 11) : ∀ (n : Nat) (v : Int32) (Z : gSc), (q_X6_gatherHouses_b7 S n v Z).2.1 k = Z.2.1 k
  | 0, _, _ => rfl
  | n + 1, v, Z => by
    rw [q_X6_gatherHouses_b7]
    dsimp only
    by_cases c : 40 ≤ v
    · rw [if_pos c]
    · rw [if_neg c, if_neg c]
      split
      · exact gh_R S h n _ _
      · split
        · exact gh_R S h n _ _
        · rw [gh_R S h n]
          exact va_up_ne _ _ h
theorem su_all (S : gSc) (a : Nat) : suD (q_X6_setUp S a) a ∧ rwD (q_X6_setUp S a) ((q_X6_setUp S a).2.2.2.2 a) (S.2.2.2.2 a 4) ∧ cE (q_X6_setUp S a) S ∧ tE (q_X6_setUp S a) S := by
  have hc : cE (q_X6_setUp S a) S ∧ tE (q_X6_setUp S a) S := by
    have hp := qp_X6_setUp S a
    have hR : ∀ k, k ≠ 11 → (q_X6_setUp S a).2.1 k = S.2.1 k := by
      intro k h
      unfold q_X6_setUp q_X6_gatherHouses
      dsimp only
      rw [gh_R _ h, pI_2, sr_2]
      rfl
    have kc := fun (k : Nat) (h7 : k ≠ 7) (h8 : k ≠ 8) (h9 : k ≠ 9) (h10 : k ≠ 10) (h12 : k ≠ 12) => kc_setUp h7 h8 h9 h10 h12 S a
    have k1 := kc 1 (by decide) (by decide) (by decide) (by decide) (by decide)
    exact ⟨⟨⟨hp, hR 3 (by decide), hR 6 (by decide)⟩, ⟨by rw [k1], by rw [k1], by rw [k1], by rw [k1]⟩, kc 2 (by decide) (by decide) (by decide) (by decide) (by decide), kc 4 (by decide) (by decide) (by decide) (by decide) (by decide), kc 5 (by decide) (by decide) (by decide) (by decide) (by decide), kc 17 (by decide) (by decide) (by decide) (by decide) (by decide), kc 18 (by decide) (by decide) (by decide) (by decide) (by decide), kc 19 (by decide) (by decide) (by decide) (by decide) (by decide), kc 20 (by decide) (by decide) (by decide) (by decide) (by decide), kc 21 (by decide) (by decide) (by decide) (by decide) (by decide)⟩, kc 0 (by decide) (by decide) (by decide) (by decide) (by decide), kc 22 (by decide) (by decide) (by decide) (by decide) (by decide)⟩
  refine ⟨?_, ?_, hc⟩
  all_goals
    rw [show q_X6_setUp S a = q_X6_gatherHouses (q_X6_setRows (pI (pI (pI (pI S 7 7 (S.2.2.2.2 a 1)) 7 8 (S.2.2.2.2 a 2)) 7 9 (S.2.2.2.2 a 3)) 7 10 (isK (S.2.2.2.2 a 0) 3)) a (S.2.2.2.2 a 4)) from rfl]
    generalize hY : pI (pI (pI (pI S 7 7 (S.2.2.2.2 a 1)) 7 8 (S.2.2.2.2 a 2)) 7 9 (S.2.2.2.2 a 3)) 7 10 (isK (S.2.2.2.2 a 0) 3) = Y
    have y2 : Y.2 = S.2 := by rw [← hY]; rfl
    have xr := rwD_set Y a (S.2.2.2.2 a 4)
    have x2 := sr_2 Y a (S.2.2.2.2 a 4)
    have x7 : (q_X6_setRows Y a (S.2.2.2.2 a 4)).1 7 = Y.1 7 := sr_k (by decide) (by decide) (by decide) Y a _
    generalize q_X6_setRows Y a (S.2.2.2.2 a 4) = X at xr x2 x7 ⊢
    have z22 := qp_X6_gatherHouses X
    have zf : (q_X6_gatherHouses X).2.2.2.2 a = S.2.2.2.2 a := by rw [z22, x2, y2]
  · have z7 : ∀ j, j ≠ 6 → (q_X6_gatherHouses X).1 7 j = Y.1 7 j := by
      intro j h
      unfold q_X6_gatherHouses
      rw [gh_7j _ h, pI_s, pk_un h, x7]
    refine ⟨?_, ?_, ?_, ?_, hsG_set X⟩
    · rw [z7 7 (by decide), zf, ← hY]; rfl
    · rw [z7 8 (by decide), zf, ← hY]; rfl
    · rw [z7 9 (by decide), zf, ← hY]; rfl
    · rw [z7 10 (by decide), zf, ← hY]; rfl
  · rw [zf]
    have e : Y.2.2.2.2 a = S.2.2.2.2 a := by rw [y2]
    rw [e] at xr
    unfold q_X6_gatherHouses
    refine rwD_st xr ?_ ?_ ?_
    · rw [kc_gh_b (by decide) (by decide), pI_n (by decide)]
    · rw [kc_gh_b (by decide) (by decide), pI_n (by decide)]
    · rw [kc_gh_b (by decide) (by decide), pI_n (by decide)]
theorem su_c1 {S Y : gSc} {a : Nat} {g : Int32} (h : suD S a) (hr : rwD S (S.2.2.2.2 a) g) (e : Y.2 = S.2) (ek : ∀ k, k ≠ 1 → Y.1 k = S.1 k) : suD Y a ∧ rwD Y (Y.2.2.2.2 a) g := by
  obtain ⟨h1, h2, h3, h4, h5⟩ := h
  refine ⟨⟨?_, ?_, ?_, ?_, hsG_st h5 e (by rw [ek 7 (by decide)]) (ek 12 (by decide))⟩, ?_⟩
  · rw [ek 7 (by decide), e]; exact h1
  · rw [ek 7 (by decide), e]; exact h2
  · rw [ek 7 (by decide), e]; exact h3
  · rw [ek 7 (by decide), e]; exact h4
  · rw [e]
    exact rwD_st hr (ek 8 (by decide)) (ek 9 (by decide)) (ek 10 (by decide))
theorem mE_rf {M : gSm} : mE M M := mE_1 rfl
/-- ready: from the state S0 of both (with M's scratch), the class stands at S, a dial set up with the angle g -/
def rdy (M : gSm) (S0 S : gSc) (p : Int32) (a : Nat) (g : Int32) : Prop := inv M S0 ∧ dF M p (S0.2.2.2.2 a) ∧ suD S a ∧ rwD S (S.2.2.2.2 a) g ∧ cE S S0 ∧ tE S S0 ∧ okH S ∧ g.toInt < 2147467264
theorem rdy.k {M : gSm} {S0 S Y : gSc} {p g : Int32} {a : Nat} (h : rdy M S0 S p a g) (k : kQ Y S) : rdy M S0 Y p a g := by
  obtain ⟨h1, h2, h3, h4, h5, h6, h7, h8⟩ := h
  exact ⟨h1, h2, suD_st h3 k, rwD_k h4 k, cE_tr k.cE h5, tE_tr k.tE h6, okH_of h7 k.1, h8⟩
theorem rdy.m {M N : gSm} {S0 S : gSc} {p g : Int32} {a : Nat} (h : rdy M S0 S p a g) (e : mE N M) : rdy N S0 S p a g := by
  obtain ⟨h1, h2, h3, h4, h5, h6, h7, h8⟩ := h
  exact ⟨inv_fr h1 e cE_rf tE_rf h1.2.2.2.2.2, dF_fr h2 e.1.1.1, h3, h4, h5, h6, h7, h8⟩
theorem rdy.inv {M : gSm} {S0 S : gSc} {p g : Int32} {a : Nat} (h : rdy M S0 S p a g) : inv M S := inv_fr h.1 mE_rf h.2.2.2.2.1 h.2.2.2.2.2.1 h.2.2.2.2.2.2.1
theorem rdy.pool {M : gSm} {S0 S : gSc} {p g : Int32} {a : Nat} (h : rdy M S0 S p a g) : S.2.2 = S0.2.2 := h.2.2.2.2.1.1.1
theorem rdy_mk {M : gSm} {S0 S : gSc} {p g : Int32} {a : Nat} (h1 : inv M S0) (h2 : dF M p (S0.2.2.2.2 a)) (h3 : suD S a) (h4 : rwD S (S.2.2.2.2 a) g) (h5 : cE S S0) (h6 : tE S S0) (h7 : okH S) (h8 : g.toInt < 2147467264) : rdy M S0 S p a g := ⟨h1, h2, h3, h4, h5, h6, h7, h8⟩
set_option maxHeartbeats 100000 in
theorem rdy.day {M : gSm} {S0 S : gSc} {p g : Int32} {a : Nat} (h : rdy M S0 S p a g) (d : Int32) : rdy M S0 (q_X8_setDay S d) p a g ∧ dyd (q_X8_setDay S d) d := by
  have y := dyd_setDay S d
  have e := (kw_setDay S d).1
  have c := cE_setDay S d
  have k : ∀ k, k ≠ 1 → (q_X8_setDay S d).1 k = S.1 k := fun k hk => kc_setDay hk
  generalize q_X8_setDay S d = Y at y e c k ⊢
  obtain ⟨h1, h2, h3, h4, h5, h6, h7, h8⟩ := h
  have s := su_c1 h3 h4 e k
  exact ⟨rdy_mk h1 h2 s.1 s.2 (cE_tr c.1 h5) (tE_tr c.2 h6) (okH_of h7 e) h8, y⟩
set_option maxHeartbeats 100000 in
theorem rdy_0 {M : gSm} {S Y : gSc} {p : Int32} {a : Nat} (h : inv M S) (hF : dF M p (S.2.2.2.2 a)) (c : cE Y S) (t : tE Y S) (e : Y.2 = S.2) : rdy M S (q_X6_setUp Y a) p a (S.2.2.2.2 a 4) := by
  have su := su_all Y a
  have e4 : Y.2.2.2.2 a 4 = S.2.2.2.2 a 4 := by rw [e]
  rw [e4] at su
  have z := su_kZ (S := S) (Y := Y) (a := a) (okR_of_iG h.2.1) h.2.2.2.2.2 h.1.1.2.1 h.1.1.2.2 e c.2.1.1
  have z2 : okH (q_X6_setUp Y a) := z.1.2.2
  clear z
  generalize q_X6_setUp Y a = X at su z2 ⊢
  have b : (S.2.2.2.2 a 4).toInt ≤ 65535 := hF.2.2.2.2.2.2.2.2.1.2
  exact rdy_mk h hF su.1 su.2.1 (cE_tr su.2.2.1 c) (tE_tr su.2.2.2 t) z2 (by omega)
theorem rdy.cast {M : gSm} {S0 S : gSc} {p g d m : Int32} {a : Nat} (h : rdy M S0 S p a g) (hy : dyd S d) (hd : 0 ≤ d.toInt ∧ d.toInt ≤ 365) (hm : 0 ≤ m.toInt ∧ m.toInt ≤ 1439) : lit (q_X6_cast (q_X8_setMinute S m)) (q_X11_stateOf M p g.toInt64 d m) ∧ ((q_X6_cast (q_X8_setMinute S m)).1 = 3 → (q_X6_cast (q_X8_setMinute S m)).2.1 7 11 = q_X11_hider (q_X11_stateOf M p g.toInt64 d m).2 p) := by
  have i := h.inv
  have pl := h.pool
  exact cast_eq i.1 i.2.1 (by rw [pl]; exact h.2.1) h.2.2.1 h.2.2.2.1 h.2.2.2.2.2.2.2 hy hd hm
theorem now_of {M : gSm} {p d m : Int32} {F : Nat → Int32} (h : dF M p F) : q_X11_stateNow M p d m = q_X11_stateOf M p (F 4).toInt64 d m := by
  unfold q_X11_stateNow
  dsimp only
  rw [h.2.2.2.2.1]
/-- one look: answers alike, and ready again -/
theorem rdy.now {M : gSm} {S0 S : gSc} {p d m : Int32} {a : Nat} (h : rdy M S0 S p a (S0.2.2.2.2 a 4)) (hy : dyd S d) (hd : 0 ≤ d.toInt ∧ d.toInt ≤ 365) (hm : 0 ≤ m.toInt ∧ m.toInt ≤ 1439) : lit (q_X6_cast (q_X8_setMinute S m)) (q_X11_stateNow M p d m) ∧ ((q_X6_cast (q_X8_setMinute S m)).1 = 3 → (q_X6_cast (q_X8_setMinute S m)).2.1 7 11 = q_X11_hider (q_X11_stateNow M p d m).2 p) ∧ (rdy (q_X11_stateNow M p d m).2 S0 (q_X6_cast (q_X8_setMinute S m)).2 p a (S0.2.2.2.2 a 4) ∧ dyd (q_X6_cast (q_X8_setMinute S m)).2 d) := by
  have c := h.cast hy hd hm
  rw [now_of h.2.1]
  have k : kQ (q_X6_cast (q_X8_setMinute S m)).2 S := kQ_tr (kQ_cast _) (kQ_setMinute _ _)
  exact ⟨c.1, c.2, (h.m (mE_1 (sto_I _ _ _ _ _))).k k, dyd_st hy k⟩
/-! places and times -/
theorem pl_eq (p : Int32) : q_X10_isPlace p = q_X11_isPlace p := rfl
theorem tm_eq (d m : Int32) : q_X10_isTime d m = q_X11_isTime d m := rfl
theorem wi_eq (a b c : Int64) : q_X10_within a b c = q_X11_isIn a b c := rfl
theorem da_eq {M : gSm} {S : gSc} {p k : Int32} (hG : iG M S) (hp : isP p) (h0 : 0 ≤ k.toInt) (h4 : k.toInt ≤ 4) : (q_X10_dialAt S p k = none ∧ q_X11_isOfKind M p k = 0) ∨ ∃ a, q_X10_dialAt S p k = some a ∧ S.2.1 3 p.toNatClampNeg = some a ∧ S.2.2.2.1 a = 1 ∧ dF M p (S.2.2.2.2 a) ∧ ¬ q_X11_isOfKind M p k = 0 := by
  have hn : ¬ q_X10_isPlace p = 0 := by
    obtain ⟨p0, p1⟩ := hp
    show ¬ q_X10_within (p.toInt64) 0 39 = 0
    unfold q_X10_within
    rw [if_neg (fun q => by have := l_lt q; rw [t64, l_0] at this; omega), if_neg (fun q => by have := l_lt q; rw [t64, show (39 : Int64).toInt = 39 by decide] at this; omega)]
    decide
  unfold q_X10_dialAt
  dsimp only
  rw [if_neg hn]
  cases ho : S.2.1 3 p.toNatClampNeg with
  | none => exact Or.inl ⟨rfl, nF_kind (nF_of hG hp ho) h0 h4⟩
  | some a =>
    dsimp only
    by_cases hk : S.2.2.2.1 a = 1
    · have f := dF_of hG hp ho hk
      rw [if_pos hk, isA_K, ok_eq f h0 h4]
      by_cases c : isK (S.2.2.2.2 a 0) k = 0
      · rw [if_pos c]
        exact Or.inl ⟨rfl, c⟩
      · rw [if_neg c]
        exact Or.inr ⟨a, rfl, rfl, hk, f, c⟩
    · rw [if_neg hk]
      exact Or.inl ⟨rfl, hF_kind (hF_of hG hp ho hk) h0 h4⟩
theorem da0_eq {M : gSm} {S : gSc} {p : Int32} (hG : iG M S) (hp : isP p) : (q_X10_dialAt S p 0 = none ∧ q_X11_isDial M p = 0) ∨ ∃ a, q_X10_dialAt S p 0 = some a ∧ S.2.1 3 p.toNatClampNeg = some a ∧ S.2.2.2.1 a = 1 ∧ dF M p (S.2.2.2.2 a) ∧ q_X11_isDial M p = 1 := by
  rcases da_eq (k := 0) hG hp (by decide) (by decide) with ⟨h1, h2⟩ | ⟨a, h1, h2, h3, h4, h5⟩
  · refine Or.inl ⟨h1, ?_⟩
    cases ho : S.2.1 3 p.toNatClampNeg with
    | none => exact nF_dial (nF_of hG hp ho)
    | some a =>
      by_cases hk : S.2.2.2.1 a = 1
      · have f := dF_of hG hp ho hk
        rw [ok_eq f (by decide) (by decide), (kd_of f.2.2.2.2.2.2.2).2.1] at h2
        exact absurd h2 (by decide)
      · exact hF_dial (hF_of hG hp ho hk)
  · exact Or.inr ⟨a, h1, h2, h3, h4, dF_dial h4⟩
