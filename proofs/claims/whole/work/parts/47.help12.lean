/-! what the class's scratch leaves as it is -/
theorem pI_n {S : gSc} {k j k2 : Nat} {v : Int32} (h : k2 ≠ k) : (pI S k j v).1 k2 = S.1 k2 := if_neg h
theorem pI_s {S : gSc} {k j : Nat} {v : Int32} : (pI S k j v).1 k = upd (S.1 k) j v := if_pos rfl
def kw (Y Z : gSc) : Prop := Y.2 = Z.2 ∧ Y.1 7 6 = Z.1 7 6 ∧ Y.1 1 1 = Z.1 1 1
theorem kw_rf {Z : gSc} : kw Z Z := ⟨rfl, rfl, rfl⟩
theorem kw_tr {X Y Z : gSc} (h : kw X Y) (g : kw Y Z) : kw X Z := ⟨h.1.trans g.1, h.2.1.trans g.2.1, h.2.2.trans g.2.2⟩
theorem kw_pI {Z : gSc} {k j : Nat} {v : Int32} (h1 : 7 ≠ k ∨ 6 ≠ j) (h2 : 1 ≠ k ∨ 1 ≠ j) : kw (pI Z k j v) Z := by
  refine ⟨rfl, ?_, ?_⟩
  · by_cases e : 7 = k
    · subst e
      rw [pI_s, pk_un (by rcases h1 with h | h; exact absurd rfl h; exact h)]
    · rw [pI_n e]
  · by_cases e : 1 = k
    · subst e
      rw [pI_s, pk_un (by rcases h2 with h | h; exact absurd rfl h; exact h)]
    · rw [pI_n e]
theorem sr_11 (S : gSc) (a : Nat) (g : Int32) : (q_X6_setRows S a g).1 1 = S.1 1 := by
  unfold q_X6_setRows
  dsimp only
  (repeat' split) <;> rfl
theorem kw_setDay (S : gSc) (d : Int32) : kw (q_X8_setDay S d) S := by
  unfold q_X8_setDay
  dsimp only
  split <;> repeat (first | exact kw_rf | refine kw_tr (kw_pI (by decide) (by decide)) ?_)
theorem kw_setMinute (S : gSc) (m : Int32) : kw (q_X8_setMinute S m) S := by
  unfold q_X8_setMinute
  dsimp only
  repeat (first | exact kw_rf | refine kw_tr (kw_pI (by decide) (by decide)) ?_)
theorem kw_setTime (S : gSc) (d m : Int32) : kw (q_X8_setTime S d m) S := by
  unfold q_X8_setTime
  dsimp only
  exact kw_tr (kw_setMinute _ _) (kw_setDay _ _)
theorem kw_fh_b (S : gSc) : ∀ (n : Nat) (v : Int32) (Z : gSc), kw (q_X6_findHider_b16 S n v Z) Z
  | 0, _, _ => kw_rf
  | n + 1, v, Z => by
    rw [q_X6_findHider_b16]
    dsimp only
    (repeat' split) <;> first | exact kw_rf | exact kw_fh_b S n _ _ | exact kw_tr (kw_fh_b S n _ _) (kw_pI (by decide) (by decide))
theorem kw_findHider (S : gSc) : kw (q_X6_findHider S) S := by
  unfold q_X6_findHider
  split
  · exact kw_tr (kw_fh_b S _ _ _) (kw_pI (by decide) (by decide))
  · exact kw_pI (by decide) (by decide)
theorem kw_settle (S : gSc) : kw (q_X6_settle S).2 S := by
  unfold q_X6_settle
  dsimp only
  (repeat' split) <;> first | exact kw_rf | exact kw_tr (kw_pI (by decide) (by decide)) (kw_pI (by decide) (by decide))
theorem kw_cast (S : gSc) : kw (q_X6_cast S).2 S := by
  unfold q_X6_cast
  dsimp only
  exact kw_tr (kw_settle _) (kw_findHider _)
def kZ (S Z : gSc) : Prop := (0 ≤ (Z.1 7 6).toInt ∧ (Z.1 7 6).toInt ≤ 40 ∧ okH Z) ∧ (0 ≤ (Z.1 1 1).toInt ∧ (Z.1 1 1).toInt ≤ 366) ∧ Z.2.2 = S.2.2
theorem kZ.st {S Z Y : gSc} (h : kZ S Z) (k : kw Y Z) : kZ S Y := by
  obtain ⟨⟨h1, h2, h3⟩, h4, h5⟩ := h
  obtain ⟨k1, k2, k3⟩ := k
  refine ⟨⟨by rw [k2]; exact h1, by rw [k2]; exact h2, okH_of h3 k1⟩, by rw [k3]; exact h4, by rw [k1]; exact h5⟩
theorem gh_ind (S : gSc) (hT : okR S 3 40) : ∀ (n : Nat) (v : Int32) (Z : gSc), gL 40 n v → ghI S v Z → okH Z → (0 ≤ ((q_X6_gatherHouses_b7 S n v Z).1 7 6).toInt ∧ ((q_X6_gatherHouses_b7 S n v Z).1 7 6).toInt ≤ 40) ∧ okH (q_X6_gatherHouses_b7 S n v Z) ∧ (q_X6_gatherHouses_b7 S n v Z).1 1 = Z.1 1
  | 0, v, Z => fun hg _ _ => hg.z
  | n + 1, v, Z => by
    intro hg hi hH
    rw [q_X6_gatherHouses_b7]
    dsimp only
    by_cases c : 40 ≤ v
    · rw [if_pos c]
      exact ⟨⟨hi.1.1, by have := hi.1.2; have := hg.2.1; omega⟩, hH, rfl⟩
    · rw [if_neg c, if_neg c]
      have hg' := hg.st c (by decide) rfl
      split
      · exact gh_ind S hT n _ _ hg' (gh_s1 ⟨hg, hi⟩ c rfl) hH
      · next a ho =>
        split
        · exact gh_ind S hT n _ _ hg' (gh_s1 ⟨hg, hi⟩ c rfl) hH
        · next hk =>
          have h1 := gh_ind S hT n (v + 1) (pI (pI (sR Z 11 (va_up (Z.2.1 11) ((Z.1 7 6).toNatClampNeg) (some a))) 12 ((Z.1 7 6).toNatClampNeg) v) 7 6 ((Z.1 7 6) + 1)) hg' (gh_s2 ⟨hg, hi⟩ c rfl) (by
            intro j b hj e
            have e' : va_up (Z.2.1 11) ((Z.1 7 6).toNatClampNeg) (some a) j = some b := e
            by_cases hji : j = (Z.1 7 6).toNatClampNeg
            · rw [hji] at e'
              have e2 : some a = some b := (if_pos rfl).symm.trans e'
              cases e2
              exact ⟨gh_t (Z := Z) hT ⟨hg, hi⟩ c ho, hk⟩
            · rw [va_up_ne _ _ hji] at e'
              exact hH j b hj e')
          exact ⟨h1.1, h1.2.1, h1.2.2⟩
theorem su_kZ {S Y : gSc} {a : Nat} (hT : okR S 3 40) (hH : okH S) (h0 : 0 ≤ (S.1 1 1).toInt) (h1 : (S.1 1 1).toInt ≤ 366) (e : Y.2 = S.2) (e1 : Y.1 1 1 = S.1 1 1) : kZ S (q_X6_setUp Y a) := by
  have hp := qp_X6_setUp Y a
  unfold q_X6_setUp at hp ⊢
  dsimp only at hp ⊢
  generalize hX : q_X6_setRows _ a _ = X at hp ⊢
  have e2 : X.2 = S.2 := by rw [← hX, sr_2]; exact e
  have e3 : X.1 1 1 = S.1 1 1 := by rw [← hX, congrFun (sr_11 _ _ _) 1]; exact e1
  have hT' : okR X 3 40 := okR_of hT e2
  have hH' : okH X := okH_of hH e2
  unfold q_X6_gatherHouses at hp ⊢
  have g := gh_ind X hT' 41 0 (pI X 7 6 0) (gL.i 40) gh_i hH'
  refine ⟨⟨g.1.1, g.1.2, g.2.1⟩, ?_, ?_⟩
  · rw [g.2.2]
    show 0 ≤ (X.1 1 1).toInt ∧ (X.1 1 1).toInt ≤ 366
    rw [e3]
    exact ⟨h0, h1⟩
  · rw [hp, e]
theorem kw_add23 (S : gSc) (v : Int32) : kw (q_X4_add_23 S v) S := by
  unfold q_X4_add_23
  (repeat' split) <;> repeat (first | exact kw_rf | refine kw_tr (kw_pI (by decide) (by decide)) ?_)
theorem kw_add24 (S : gSc) (v : Int32) : kw (q_X4_add_24 S v) S := by
  unfold q_X4_add_24
  (repeat' split) <;> repeat (first | exact kw_rf | refine kw_tr (kw_pI (by decide) (by decide)) ?_)
theorem kw_add25 (S : gSc) (v : Int32) : kw (q_X4_add_25 S v) S := by
  unfold q_X4_add_25
  (repeat' split) <;> repeat (first | exact kw_rf | refine kw_tr (kw_pI (by decide) (by decide)) ?_)
theorem kw_add26 (S : gSc) (v : Int32) : kw (q_X4_add_26 S v) S := by
  unfold q_X4_add_26
  (repeat' split) <;> repeat (first | exact kw_rf | refine kw_tr (kw_pI (by decide) (by decide)) ?_)
