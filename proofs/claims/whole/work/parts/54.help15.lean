/-! HELP for found -/
theorem kt_b (S : gSc) (a : Nat) (i : Int32) (ht : (S.1 0 7).toInt ≤ 601) : ∀ (n : Nat) (v3 v4 : Int32) (Z : gSc), kaI S n v3 v4 Z → kw (q_X10_keepAgreeingTurns_b41 S a i n v3 v4 Z) Z ∧ (q_X10_keepAgreeingTurns_b41 S a i n v3 v4 Z).1 17 4 = Z.1 17 4 ∧ 0 ≤ ((q_X10_keepAgreeingTurns_b41 S a i n v3 v4 Z).1 0 7).toInt ∧ ((q_X10_keepAgreeingTurns_b41 S a i n v3 v4 Z).1 0 7).toInt ≤ 601
  | 0, _, _, _ => fun hi => absurd hi.1.2.2 (by have := hi.1.2.1; omega)
  | n + 1, v3, v4, Z => by
    intro hi
    rw [q_X10_keepAgreeingTurns_b41]
    dsimp only
    by_cases c : Z.1 0 7 ≤ v4
    · rw [if_pos c]
      refine ⟨kw_pI (Or.inl (by decide)) (Or.inl (by decide)), by rw [pI_n (by decide)], ?_, ?_⟩
      · rw [pI_s, pk_us]; exact hi.2.1.1
      · rw [pI_s, pk_us]; have := hi.2.1.2; have := hi.1.2.1; omega
    · rw [if_neg c]
      have k := kn_turn Z a ((Z.2.2.2.2 a 4) + (Z.1 22 (v4.toNatClampNeg)))
      generalize q_X6_settle (q_X6_setRows Z a ((Z.2.2.2.2 a 4) + (Z.1 22 (v4.toNatClampNeg)))) = T at k ⊢
      have up : ∀ {Y X : gSc}, kn Y Z → (kw X Y ∧ X.1 17 4 = Y.1 17 4 ∧ 0 ≤ (X.1 0 7).toInt ∧ (X.1 0 7).toInt ≤ 601) → kw X Z ∧ X.1 17 4 = Z.1 17 4 ∧ 0 ≤ (X.1 0 7).toInt ∧ (X.1 0 7).toInt ≤ 601 := fun k h => ⟨kw_tr h.1 k.1, h.2.1.trans k.2.2, h.2.2⟩
      by_cases c2 : T.1 = 0
      · rw [if_pos c2]
        by_cases c3 : q_X7_isCloseTo T.2 i (T.2.1 7 12) (T.2.1 7 13) = 0
        · rw [if_pos c3]
          exact up k (kt_b S a i ht n _ _ _ (ka_s1 hi c ht rfl k.2.1 k.2.2 k.1.1))
        · rw [if_neg c3]
          have k' := kn_tr (kn_pI (Z := T.2) (j := v3.toNatClampNeg) (v := T.2.1 22 (v4.toNatClampNeg))) k
          exact up k' (kt_b S a i ht n _ _ _ (ka_s2 hi c ht rfl rfl k'.2.1 k'.2.2 k'.1.1))
      · rw [if_neg c2]
        exact up k (kt_b S a i ht n _ _ _ (ka_s1 hi c ht rfl k.2.1 k.2.2 k.1.1))
theorem kt_all (S : gSc) (a : Nat) (i : Int32) (ht0 : 0 ≤ (S.1 0 7).toInt) (ht : (S.1 0 7).toInt ≤ 601) : kw (q_X10_keepAgreeingTurns S a i) S ∧ (q_X10_keepAgreeingTurns S a i).1 17 4 = S.1 17 4 ∧ 0 ≤ ((q_X10_keepAgreeingTurns S a i).1 0 7).toInt ∧ ((q_X10_keepAgreeingTurns S a i).1 0 7).toInt ≤ 601 := by
  unfold q_X10_keepAgreeingTurns
  dsimp only
  have k := kn_start S (S.1 18 (i.toNatClampNeg)) (S.1 19 (i.toNatClampNeg))
  have h := kt_b S a i ht 602 0 0 _ (ka_0 ht0 ht k)
  exact ⟨kw_tr h.1 k.1, h.2.1.trans k.2.2, h.2.2⟩
theorem kl_b (S : gSc) : ∀ (n : Nat) (v : Int32) (Z : gSc), gL 601 n v → (q_X10_keepAllTurns_b2 S n v Z).1 0 7 = 601 ∧ ∀ k, k ≠ 0 → k ≠ 22 → (q_X10_keepAllTurns_b2 S n v Z).1 k = Z.1 k
  | 0, _, _ => fun h => h.z
  | n + 1, v, Z => by
    intro hg
    rw [q_X10_keepAllTurns_b2]
    dsimp only
    by_cases c : 601 ≤ v
    · rw [if_pos c]
      exact ⟨by rw [pI_s, pk_us], fun k h _ => by rw [pI_n h]⟩
    · rw [if_neg c]
      have h := kl_b S n (v + 1) (pI Z 22 (v.toNatClampNeg) (v - 300)) (hg.st c (by decide) rfl)
      exact ⟨h.1, fun k h1 h2 => by rw [h.2 k h1 h2, pI_n h2]⟩
theorem kl_all (S : gSc) : (q_X10_keepAllTurns S).1 0 7 = 601 ∧ ∀ k, k ≠ 0 → k ≠ 22 → (q_X10_keepAllTurns S).1 k = S.1 k := by
  unfold q_X10_keepAllTurns
  exact kl_b S _ _ _ (gL.i 601)
theorem kc_gh_b {k : Nat} (h7 : k ≠ 7) (h12 : k ≠ 12) (S : gSc) : ∀ (n : Nat) (v : Int32) (Z : gSc), (q_X6_gatherHouses_b7 S n v Z).1 k = Z.1 k
  | 0, _, _ => rfl
  | n + 1, v, Z => by
    rw [q_X6_gatherHouses_b7]
    dsimp only
    by_cases c : 40 ≤ v
    · rw [if_pos c]
    · rw [if_neg c, if_neg c]
      split
      · exact kc_gh_b h7 h12 S n _ _
      · split
        · exact kc_gh_b h7 h12 S n _ _
        · rw [kc_gh_b h7 h12 S n, pI_n h7, pI_n h12]
          rfl
theorem kc_setUp {k : Nat} (h7 : k ≠ 7) (h8 : k ≠ 8) (h9 : k ≠ 9) (h10 : k ≠ 10) (h12 : k ≠ 12) (S : gSc) (a : Nat) : (q_X6_setUp S a).1 k = S.1 k := by
  unfold q_X6_setUp
  dsimp only
  unfold q_X6_gatherHouses
  rw [kc_gh_b h7 h12, pI_n h7, sr_k h8 h9 h10, pI_n h7, pI_n h7, pI_n h7, pI_n h7]
def foI (S : gSc) (n : Nat) (v : Int32) (Z : gSc) : Prop := (0 ≤ v.toInt ∧ v.toInt ≤ (S.1 17 4).toInt ∧ (S.1 17 4).toInt < v.toInt + n) ∧ kZ S Z ∧ (0 ≤ (Z.1 0 7).toInt ∧ (Z.1 0 7).toInt ≤ 601) ∧ Z.1 17 4 = S.1 17 4
theorem fo_lt {S Z : gSc} {v : Int32} {n : Nat} (hi : foI S n v Z) (c : ¬ Z.1 17 4 ≤ v) : v.toInt < (S.1 17 4).toInt := by
  have c' := i_nle c
  rw [hi.2.2.2] at c'
  exact c'
theorem fo_st {S Z Y : gSc} {v x : Int32} {n : Nat} (hi : foI S (n + 1) v Z) (c : ¬ Z.1 17 4 ≤ v) (hs : (S.1 17 4).toInt ≤ 20) (hx : x = v + 1) (k : kw Y Z ∧ Y.1 17 4 = Z.1 17 4 ∧ 0 ≤ (Y.1 0 7).toInt ∧ (Y.1 0 7).toInt ≤ 601) : foI S n x Y := by
  have c' := fo_lt hi c
  obtain ⟨⟨a1, a2, a3⟩, b, d, e⟩ := hi
  have a := i_1 (v := v) (by omega)
  rw [← hx] at a
  exact ⟨⟨by omega, by omega, by omega⟩, b.st k.1, k.2.2, k.2.1.trans e⟩
theorem fo_0 {S : gSc} {a : Nat} (hT : okR S 3 40) (hH : okH S) (h0 : 0 ≤ (S.1 1 1).toInt) (h1 : (S.1 1 1).toInt ≤ 366) (hs0 : 0 ≤ (S.1 17 4).toInt) (hs : (S.1 17 4).toInt ≤ 20) : foI S 21 0 (q_X6_setUp (q_X10_keepAllTurns S) a) := by
  have k := kl_all S
  refine ⟨⟨by decide, by show 0 ≤ _; exact hs0, by show _ < (0 : Int) + 21; omega⟩, su_kZ hT hH h0 h1 (ka_2 S) (congrFun (k.2 1 (by decide) (by decide)) 1), ?_, ?_⟩
  · rw [kc_setUp (by decide) (by decide) (by decide) (by decide) (by decide), k.1]; decide
  · rw [kc_setUp (by decide) (by decide) (by decide) (by decide) (by decide), k.2 17 (by decide) (by decide)]
