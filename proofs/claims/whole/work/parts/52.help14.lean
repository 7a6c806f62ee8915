/-! HELP for readings and turns: what is left as it was -/
theorem kw_sm_b (S : gSc) (a : Nat) (d : Int32) : ∀ (n : Nat) (v : Int32) (Z : gSc), kw (q_X10_setMarks_b18 S a d n v Z) Z
  | 0, _, _ => kw_rf
  | n + 1, v, Z => by
    rw [q_X10_setMarks_b18]
    dsimp only
    by_cases c : 24 ≤ v
    · rw [if_pos c]; exact kw_rf
    · rw [if_neg c]
      by_cases c2 : q_X1_hourLeft Z a v = 0
      · rw [if_pos c2]; exact kw_sm_b S a d n _ _
      · rw [if_neg c2]
        have h := kw_tr (kw_cast (q_X8_setMinute Z (60 * v))) (kw_setMinute Z (60 * v))
        by_cases c3 : (q_X6_cast (q_X8_setMinute Z (60 * v))).1 = 0
        · rw [if_pos c3]; exact kw_tr (kw_sm_b S a d n _ _) (kw_tr (kw_add3 _ _ _ _) h)
        · rw [if_neg c3]; exact kw_tr (kw_sm_b S a d n _ _) h
theorem kw_setMarks (S : gSc) (a : Nat) (d : Int32) : kw (q_X10_setMarks S a d) S := by
  unfold q_X10_setMarks
  dsimp only
  exact kw_tr (kw_sm_b S a d _ _ _) (kw_tr (kw_setDay _ _) (kw_pI (by decide) (by decide)))
theorem qp_X10_setMarks (S : gSc) (a : Nat) (d : Int32) : (q_X10_setMarks S a d).2.2 = S.2.2 := by rw [(kw_setMarks S a d).1]
theorem sm_3 {z v x : Int32} (h : 0 ≤ z.toInt ∧ z.toInt ≤ v.toInt) (hv : 0 ≤ v.toInt ∧ v.toInt < (24 : Nat)) (hx : x = v + 1) : 0 ≤ z.toInt ∧ z.toInt ≤ x.toInt := by
  have a := i_1 (v := v) (by omega)
  rw [← hx] at a
  exact ⟨h.1, by omega⟩
theorem ms_sm_b (S : gSc) (a : Nat) (d : Int32) : ∀ (n : Nat) (v : Int32) (Z : gSc), gL 24 n v → (0 ≤ (Z.1 13 3).toInt ∧ (Z.1 13 3).toInt ≤ v.toInt) → 0 ≤ ((q_X10_setMarks_b18 S a d n v Z).1 13 3).toInt ∧ ((q_X10_setMarks_b18 S a d n v Z).1 13 3).toInt ≤ 24
  | 0, _, _ => fun h _ => h.z
  | n + 1, v, Z => by
    intro hg h
    rw [q_X10_setMarks_b18]
    dsimp only
    by_cases c : 24 ≤ v
    · rw [if_pos c]; exact ⟨h.1, by have := h.2; have := hg.2.1; omega⟩
    · rw [if_neg c]
      have hl := hg.lt c (by decide)
      have hg' := hg.st c (by decide) rfl
      by_cases c2 : q_X1_hourLeft Z a v = 0
      · rw [if_pos c2]; exact ms_sm_b S a d n _ _ hg' (sm_3 h hl rfl)
      · rw [if_neg c2]
        have e : (q_X6_cast (q_X8_setMinute Z (60 * v))).2.1 13 = Z.1 13 := by rw [kc_cast (by decide), kc_setMinute (by decide)]
        by_cases c3 : (q_X6_cast (q_X8_setMinute Z (60 * v))).1 = 0
        · rw [if_pos c3]; exact ms_sm_b S a d n _ _ hg' (sm_2 (by rw [e]; exact h) hl rfl)
        · rw [if_neg c3]; exact ms_sm_b S a d n _ _ hg' (by rw [e]; exact sm_3 h hl rfl)
theorem ms_setMarks (S : gSc) (a : Nat) (d : Int32) : 0 ≤ ((q_X10_setMarks S a d).1 13 3).toInt ∧ ((q_X10_setMarks S a d).1 13 3).toInt ≤ 24 := by
  unfold q_X10_setMarks
  dsimp only
  exact ms_sm_b S a d _ _ _ (gL.i 24) (by rw [kc_setDay (by decide)]; exact sm_0)
theorem kw_sb (S : gSc) (a b : Int32) (x y : Int64) : kw (q_X3_showBetween S a b x y).2 S := by
  unfold q_X3_showBetween
  dsimp only
  (repeat' split) <;> first | exact kw_rf | exact kw_tr (kw_pI (Or.inl (by decide)) (Or.inl (by decide))) (kw_tr (kw_pI (Or.inl (by decide)) (Or.inl (by decide))) (kw_pI (Or.inl (by decide)) (Or.inl (by decide))))
def km (Y Z : gSc) : Prop := kw Y Z ∧ Y.1 13 3 = Z.1 13 3
theorem km_rf {Z : gSc} : km Z Z := ⟨kw_rf, rfl⟩
theorem km_tr {X Y Z : gSc} (h : km X Y) (g : km Y Z) : km X Z := ⟨kw_tr h.1 g.1, h.2.trans g.2⟩
theorem km_sb (S : gSc) (a b : Int32) (x y : Int64) : km (q_X3_showBetween S a b x y).2 S := ⟨kw_sb S a b x y, sb_c S a b x y⟩
theorem km_sw_b (S : gSc) (p1 p2 p3 : Int32) : ∀ (n : Nat) (v4 v5 : Int32) (Z : gSc), km (q_X3_show_b7 S p1 p2 p3 n v4 v5 Z).2 Z
  | 0, _, _, _ => km_rf
  | n + 1, v4, v5, Z => by
    rw [q_X3_show_b7]
    dsimp only
    have h := km_sb Z v4 v5 p1.toInt64 p2.toInt64
    generalize q_X3_showBetween Z v4 v5 p1.toInt64 p2.toInt64 = T at h ⊢
    (repeat' split) <;> first | exact km_rf | exact km_sw_b S p1 p2 p3 n _ _ _ | exact h | exact km_tr (km_sw_b S p1 p2 p3 n _ _ _) h
theorem km_show (S : gSc) (p1 p2 p3 : Int32) : km (q_X3_show S p1 p2 p3).2 S := by
  unfold q_X3_show
  exact km_sw_b S p1 p2 p3 _ _ _ _
theorem km_has (S : gSc) (a : Nat) (m : Int32) : km (q_X10_hasReading S a m).2 S := by
  unfold q_X10_hasReading
  dsimp only
  have h : km (q_X6_cast (q_X8_setMinute S m)).2 S := ⟨kw_tr (kw_cast _) (kw_setMinute _ _), by rw [kc_cast (by decide), kc_setMinute (by decide)]⟩
  generalize q_X6_cast (q_X8_setMinute S m) = T at h ⊢
  have g := km_show T.2 (T.2.1 7 12) (T.2.1 7 13) (q_X1_isA T.2 a 3)
  generalize q_X3_show T.2 (T.2.1 7 12) (T.2.1 7 13) (q_X1_isA T.2 a 3) = U at g ⊢
  (repeat' split) <;> first | exact h | exact km_tr g h
theorem qp_X10_hasReading (S : gSc) (a : Nat) (m : Int32) : (q_X10_hasReading S a m).2.2.2 = S.2.2 := by rw [(km_has S a m).1.1]
/-! turns -/
theorem sr_k {k : Nat} (h8 : k ≠ 8) (h9 : k ≠ 9) (h10 : k ≠ 10) (S : gSc) (a : Nat) (g : Int32) : (q_X6_setRows S a g).1 k = S.1 k := by
  unfold q_X6_setRows q_X5_set_8 q_X5_set_9 q_X5_set_10
  dsimp only
  (repeat' split) <;> rw [pI_n h10, pI_n h10, pI_n h10, pI_n h9, pI_n h9, pI_n h9, pI_n h8, pI_n h8, pI_n h8]
def kaI (S : gSc) (n : Nat) (v3 v4 : Int32) (Z : gSc) : Prop := (0 ≤ v4.toInt ∧ v4.toInt ≤ (S.1 0 7).toInt ∧ (S.1 0 7).toInt < v4.toInt + n) ∧ (0 ≤ v3.toInt ∧ v3.toInt ≤ v4.toInt) ∧ Z.1 0 7 = S.1 0 7 ∧ Z.1 17 4 = S.1 17 4 ∧ Z.2 = S.2
theorem ka_lt {S Z : gSc} {v3 v4 : Int32} {n : Nat} (hi : kaI S n v3 v4 Z) (c : ¬ Z.1 0 7 ≤ v4) : v4.toInt < (S.1 0 7).toInt := by
  have c' := i_nle c
  rw [hi.2.2.1] at c'
  exact c'
theorem ka_in {S Z : gSc} {v3 v4 : Int32} {n : Nat} (hi : kaI S n v3 v4 Z) (c : ¬ Z.1 0 7 ≤ v4) (ht : (S.1 0 7).toInt ≤ 601) : vp_in v4 601 := vx hi.1.1 (by have := ka_lt hi c; show _ < (601 : Int); omega)
theorem ka_in3 {S Z : gSc} {v3 v4 : Int32} {n : Nat} (hi : kaI S n v3 v4 Z) (c : ¬ Z.1 0 7 ≤ v4) (ht : (S.1 0 7).toInt ≤ 601) : vp_in v3 601 := vx hi.2.1.1 (by have := ka_lt hi c; have := hi.2.1.2; show _ < (601 : Int); omega)
theorem ka_s1 {S Z Y : gSc} {v3 v4 x : Int32} {n : Nat} (hi : kaI S (n + 1) v3 v4 Z) (c : ¬ Z.1 0 7 ≤ v4) (ht : (S.1 0 7).toInt ≤ 601) (hx : x = v4 + 1) (k1 : Y.1 0 7 = Z.1 0 7) (k2 : Y.1 17 4 = Z.1 17 4) (k3 : Y.2 = Z.2) : kaI S n v3 x Y := by
  have c' := ka_lt hi c
  obtain ⟨⟨a1, a2, a3⟩, ⟨b1, b2⟩, d1, d2, d3⟩ := hi
  have a := i_1 (v := v4) (by omega)
  rw [← hx] at a
  exact ⟨⟨by omega, by omega, by omega⟩, ⟨b1, by omega⟩, k1.trans d1, k2.trans d2, k3.trans d3⟩
theorem ka_s2 {S Z Y : gSc} {v3 v4 x y : Int32} {n : Nat} (hi : kaI S (n + 1) v3 v4 Z) (c : ¬ Z.1 0 7 ≤ v4) (ht : (S.1 0 7).toInt ≤ 601) (hx : x = v4 + 1) (hy : y = v3 + 1) (k1 : Y.1 0 7 = Z.1 0 7) (k2 : Y.1 17 4 = Z.1 17 4) (k3 : Y.2 = Z.2) : kaI S n y x Y := by
  have c' := ka_lt hi c
  obtain ⟨⟨a1, a2, a3⟩, ⟨b1, b2⟩, d1, d2, d3⟩ := hi
  have a := i_1 (v := v4) (by omega)
  have b := i_1 (v := v3) (by omega)
  rw [← hx] at a
  rw [← hy] at b
  exact ⟨⟨by omega, by omega, by omega⟩, ⟨by omega, by omega⟩, k1.trans d1, k2.trans d2, k3.trans d3⟩
def kn (Y Z : gSc) : Prop := kw Y Z ∧ Y.1 0 7 = Z.1 0 7 ∧ Y.1 17 4 = Z.1 17 4
theorem kn_tr {X Y Z : gSc} (h : kn X Y) (g : kn Y Z) : kn X Z := ⟨kw_tr h.1 g.1, h.2.1.trans g.2.1, h.2.2.trans g.2.2⟩
theorem kn_rows (S : gSc) (a : Nat) (g : Int32) : kn (q_X6_setRows S a g) S := ⟨⟨sr_2 S a g, by rw [sr_k (by decide) (by decide) (by decide)], by rw [sr_k (by decide) (by decide) (by decide)]⟩, by rw [sr_k (by decide) (by decide) (by decide)], by rw [sr_k (by decide) (by decide) (by decide)]⟩
theorem kn_settle (S : gSc) : kn (q_X6_settle S).2 S := ⟨kw_settle S, by rw [kc_settle (by decide)], by rw [kc_settle (by decide)]⟩
theorem kn_turn (S : gSc) (a : Nat) (g : Int32) : kn (q_X6_settle (q_X6_setRows S a g)).2 S := kn_tr (kn_settle _) (kn_rows _ _ _)
theorem kn_pI {Z : gSc} {j : Nat} {v : Int32} : kn (pI Z 22 j v) Z := ⟨kw_pI (Or.inl (by decide)) (Or.inl (by decide)), by rw [pI_n (by decide)], by rw [pI_n (by decide)]⟩
theorem kn_start (S : gSc) (d m : Int32) : kn (q_X6_findHider (q_X8_setTime S d m)) S := by
  refine ⟨kw_tr (kw_findHider _) (kw_setTime _ _ _), ?_, ?_⟩
  · rw [kc_findHider (by decide)]; unfold q_X8_setTime; dsimp only; rw [kc_setMinute (by decide), kc_setDay (by decide)]
  · rw [kc_findHider (by decide)]; unfold q_X8_setTime; dsimp only; rw [kc_setMinute (by decide), kc_setDay (by decide)]
theorem ka_0 {S Y : gSc} (ht0 : 0 ≤ (S.1 0 7).toInt) (ht : (S.1 0 7).toInt ≤ 601) (h : kn Y S) : kaI S 602 0 0 Y := ⟨⟨by decide, by show 0 ≤ _; exact ht0, by show _ < (0 : Int) + 602; omega⟩, ⟨by decide, by decide⟩, h.2.1, h.2.2, h.1.1⟩
