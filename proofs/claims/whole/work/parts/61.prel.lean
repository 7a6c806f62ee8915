/-! PURE 2: what stands between the reference's state and the class's; what is left as it was -/
def isK (kd k : Int32) : Int32 := (let r4 := q_X10_isKind kd; (if r4 = 0 then 0 else (if (((gKn kd) >>> (k &&& 31)) &&& 1) = 1 then 1 else 0)))
theorem isA_K (S : gSc) (a : Nat) (k : Int32) : q_X1_isA S a k = isK (S.2.2.2.2 a 0) k := rfl
abbrev gTh : Type := List Nat × (Nat → Nat) × (Nat → Nat → Int32)
def dOk (F : Nat → Int32) : Prop := (0 ≤ (F 0).toInt ∧ (F 0).toInt ≤ 4) ∧ (0 ≤ (F 4).toInt ∧ (F 4).toInt ≤ 65535) ∧ (0 ≤ (F 5).toInt ∧ (F 5).toInt ≤ 16384) ∧ (0 ≤ (F 6).toInt ∧ (F 6).toInt < 16777216)
/-- a row of the reference and what the class holds there -/
def tR (T : gTh) (row : Nat → Int32) (o : Option Nat) : Prop :=
  (o = none → row 0 = 0) ∧ ∀ a, o = some a → a ∈ T.1 ∧ (T.2.1 a = 1 → row 0 = 2 + T.2.2 a 0 ∧ (∀ i, i < 6 → row (1 + i) = T.2.2 a (1 + i)) ∧ dOk (T.2.2 a)) ∧ (¬ T.2.1 a = 1 → row 0 = 1 ∧ ∀ i, i < 5 → row (1 + i) = T.2.2 a i)
def iS (M : gSm) (S : gSc) : Prop := (M.1 0 6 = S.1 1 1 ∧ 0 ≤ (S.1 1 1).toInt ∧ (S.1 1 1).toInt ≤ 366) ∧ (M.1 0 4 = S.1 1 2 ∧ -16384 ≤ (S.1 1 2).toInt ∧ (S.1 1 2).toInt ≤ 16384 ∧ S.1 1 3 = q_X10_sineOf (S.1 1 2) ∧ S.1 1 4 = q_X10_cosineOf (S.1 1 2)) ∧ ∀ j, j < 366 → M.1 4 j = S.1 2 j ∧ -99 ≤ (S.1 2 j).toInt ∧ (S.1 2 j).toInt ≤ 99
def iG (M : gSm) (S : gSc) : Prop := ∀ p, p < 40 → tR S.2.2 (fun i => M.1 1 (7 * p + i)) (S.2.1 3 p)
def kSl (S : gSc) (i : Nat) : Nat := ((S.1 4 2).toInt.toNat + 17 + i - (S.1 4 3).toInt.toNat) % 16
def iK (M : gSm) (S : gSc) : Prop := (M.1 0 3 = S.1 4 3 ∧ 0 ≤ (S.1 4 3).toInt ∧ (S.1 4 3).toInt ≤ 16) ∧ (0 ≤ (S.1 4 2).toInt ∧ (S.1 4 2).toInt < 16) ∧ (∀ j, j < 16 → isP (S.1 5 j)) ∧ (∀ j, j < 16 → isP (M.1 2 j)) ∧ okR S 6 16 ∧ ∀ i, i < (S.1 4 3).toInt.toNat → M.1 2 i = S.1 5 (kSl S i) ∧ tR S.2.2 (fun k => M.1 3 (7 * i + k)) (S.2.1 6 (kSl S i))
def iN (M : gSm) (S : gSc) : Prop := (M.1 0 8 = S.1 17 4 ∧ 0 ≤ (S.1 17 4).toInt ∧ (S.1 17 4).toInt ≤ 20) ∧ ∀ j, j < 20 → (M.1 5 (4 * j) = S.1 18 j ∧ M.1 5 (4 * j + 1) = S.1 19 j ∧ M.1 5 (4 * j + 2) = S.1 20 j ∧ M.1 5 (4 * j + 3) = S.1 21 j) ∧ (0 ≤ (S.1 18 j).toInt ∧ (S.1 18 j).toInt ≤ 365) ∧ (0 ≤ (S.1 19 j).toInt ∧ (S.1 19 j).toInt ≤ 1439) ∧ (-1000000 ≤ (S.1 20 j).toInt ∧ (S.1 20 j).toInt ≤ 1000000) ∧ (-1000000 ≤ (S.1 21 j).toInt ∧ (S.1 21 j).toInt ≤ 1000000)
def iT (M : gSm) (S : gSc) : Prop := (M.1 0 10 = S.1 0 7 ∧ 0 ≤ (S.1 0 7).toInt ∧ (S.1 0 7).toInt ≤ 601) ∧ ∀ j, j < (S.1 0 7).toInt.toNat → M.1 6 j = S.1 22 j
def inv (M : gSm) (S : gSc) : Prop := iS M S ∧ iG M S ∧ iK M S ∧ iN M S ∧ iT M S ∧ okH S
/-! what is left as it was -/
def mE0 (Y M : gSm) : Prop := (Y.1 1 = M.1 1 ∧ Y.1 2 = M.1 2 ∧ Y.1 3 = M.1 3 ∧ Y.1 4 = M.1 4 ∧ Y.1 5 = M.1 5) ∧ (Y.1 0 3 = M.1 0 3 ∧ Y.1 0 4 = M.1 0 4 ∧ Y.1 0 6 = M.1 0 6 ∧ Y.1 0 8 = M.1 0 8)
def mE (Y M : gSm) : Prop := mE0 Y M ∧ Y.1 6 = M.1 6 ∧ Y.1 0 10 = M.1 0 10
theorem mE_1 {Y M : gSm} (h : Y.1 = M.1) : mE Y M := by
  unfold mE mE0
  rw [h]
  exact ⟨⟨⟨rfl, rfl, rfl, rfl, rfl⟩, rfl, rfl, rfl, rfl⟩, rfl, rfl⟩
theorem mE0_tr {X Y Z : gSm} (h : mE0 X Y) (g : mE0 Y Z) : mE0 X Z := by
  obtain ⟨⟨a1, a2, a3, a4, a5⟩, a7, a8, a9, a10⟩ := h
  obtain ⟨⟨b1, b2, b3, b4, b5⟩, b7, b8, b9, b10⟩ := g
  exact ⟨⟨a1.trans b1, a2.trans b2, a3.trans b3, a4.trans b4, a5.trans b5⟩, a7.trans b7, a8.trans b8, a9.trans b9, a10.trans b10⟩
theorem mE_tr {X Y Z : gSm} (h : mE X Y) (g : mE Y Z) : mE X Z := ⟨mE0_tr h.1 g.1, h.2.1.trans g.2.1, h.2.2.trans g.2.2⟩
def cE (Y S : gSc) : Prop := (Y.2.2 = S.2.2 ∧ Y.2.1 3 = S.2.1 3 ∧ Y.2.1 6 = S.2.1 6) ∧ (Y.1 1 1 = S.1 1 1 ∧ Y.1 1 2 = S.1 1 2 ∧ Y.1 1 3 = S.1 1 3 ∧ Y.1 1 4 = S.1 1 4) ∧ (Y.1 2 = S.1 2 ∧ Y.1 4 = S.1 4 ∧ Y.1 5 = S.1 5 ∧ Y.1 17 = S.1 17 ∧ Y.1 18 = S.1 18 ∧ Y.1 19 = S.1 19 ∧ Y.1 20 = S.1 20 ∧ Y.1 21 = S.1 21)
theorem cE_rf {S : gSc} : cE S S := ⟨⟨rfl, rfl, rfl⟩, ⟨rfl, rfl, rfl, rfl⟩, rfl, rfl, rfl, rfl, rfl, rfl, rfl, rfl⟩
theorem cE_tr {X Y Z : gSc} (h : cE X Y) (g : cE Y Z) : cE X Z := by
  obtain ⟨⟨a1, a2, a3⟩, ⟨a4, a5, a6, a7⟩, a8, a9, a10, a11, a12, a13, a14, a15⟩ := h
  obtain ⟨⟨b1, b2, b3⟩, ⟨b4, b5, b6, b7⟩, b8, b9, b10, b11, b12, b13, b14, b15⟩ := g
  exact ⟨⟨a1.trans b1, a2.trans b2, a3.trans b3⟩, ⟨a4.trans b4, a5.trans b5, a6.trans b6, a7.trans b7⟩, a8.trans b8, a9.trans b9, a10.trans b10, a11.trans b11, a12.trans b12, a13.trans b13, a14.trans b14, a15.trans b15⟩
/-- the turns that are kept -/
def tE (Y S : gSc) : Prop := Y.1 0 = S.1 0 ∧ Y.1 22 = S.1 22
theorem tE_rf {S : gSc} : tE S S := ⟨rfl, rfl⟩
theorem tE_tr {X Y Z : gSc} (h : tE X Y) (g : tE Y Z) : tE X Z := ⟨h.1.trans g.1, h.2.trans g.2⟩
theorem iS_fr {M N : gSm} {S Y : gSc} (h : iS M S) (m : mE0 N M) (c : cE Y S) : iS N Y := by
  obtain ⟨⟨-, -, -, m4, -⟩, -, m8, m9, -⟩ := m
  obtain ⟨-, ⟨c4, c5, c6, c7⟩, c8, -⟩ := c
  unfold iS
  rw [m4, m8, m9, c4, c5, c6, c7, c8]
  exact h
theorem iG_fr {M N : gSm} {S Y : gSc} (h : iG M S) (m : mE0 N M) (c : cE Y S) : iG N Y := by
  obtain ⟨⟨m1, -⟩, -⟩ := m
  obtain ⟨⟨c1, c2, -⟩, -⟩ := c
  unfold iG
  rw [m1, c1, c2]
  exact h
theorem iK_fr {M N : gSm} {S Y : gSc} (h : iK M S) (m : mE0 N M) (c : cE Y S) : iK N Y := by
  obtain ⟨⟨-, m2, m3, -⟩, m7, -⟩ := m
  obtain ⟨⟨c1, -, c3⟩, -, -, c9, c10, -⟩ := c
  unfold iK kSl okR at h ⊢
  rw [m2, m3, m7, c1, c3, c9, c10]
  exact h
theorem iN_fr {M N : gSm} {S Y : gSc} (h : iN M S) (m : mE0 N M) (c : cE Y S) : iN N Y := by
  obtain ⟨⟨-, -, -, -, m5⟩, -, -, -, m10⟩ := m
  obtain ⟨-, -, -, -, -, c11, c12, c13, c14, c15⟩ := c
  unfold iN
  rw [m5, m10, c11, c12, c13, c14, c15]
  exact h
theorem iT_fr {M N : gSm} {S Y : gSc} (h : iT M S) (m : mE N M) (c : tE Y S) : iT N Y := by
  obtain ⟨-, m6, m11⟩ := m
  unfold iT
  rw [m6, m11, c.1, c.2]
  exact h
theorem inv_fr {M N : gSm} {S Y : gSc} (h : inv M S) (m : mE N M) (c : cE Y S) (t : tE Y S) (o : okH Y) : inv N Y :=
  ⟨iS_fr h.1 m.1 c, iG_fr h.2.1 m.1 c, iK_fr h.2.2.1 m.1 c, iN_fr h.2.2.2.1 m.1 c, iT_fr h.2.2.2.2.1 m t, o⟩
/-- nothing but what a look leaves behind: the minute's sun, the shade's answer, marks, ranges -/
def qk (k : Nat) : Bool := k == 0 || k == 2 || k == 4 || k == 5 || k == 8 || k == 9 || k == 10 || k == 12 || k == 17 || k == 18 || k == 19 || k == 20 || k == 21 || k == 22
def kQ (Y Z : gSc) : Prop := Y.2 = Z.2 ∧ (∀ j, j ≤ 11 → Y.1 1 j = Z.1 1 j) ∧ (∀ j, j ≤ 10 → Y.1 7 j = Z.1 7 j) ∧ ∀ k, qk k = true → Y.1 k = Z.1 k
theorem kQ_rf {Z : gSc} : kQ Z Z := ⟨rfl, fun _ _ => rfl, fun _ _ => rfl, fun _ _ => rfl⟩
theorem kQ_tr {X Y Z : gSc} (h : kQ X Y) (g : kQ Y Z) : kQ X Z := ⟨h.1.trans g.1, fun j q => (h.2.1 j q).trans (g.2.1 j q), fun j q => (h.2.2.1 j q).trans (g.2.2.1 j q), fun k q => (h.2.2.2 k q).trans (g.2.2.2 k q)⟩
theorem kQ_pI {Z : gSc} {k j : Nat} {v : Int32} (h : qk k = false ∧ (k ≠ 1 ∨ 12 ≤ j) ∧ (k ≠ 7 ∨ 11 ≤ j)) : kQ (pI Z k j v) Z := by
  obtain ⟨h1, h2, h3⟩ := h
  refine ⟨rfl, fun i hi => ?_, fun i hi => ?_, fun i hi => ?_⟩
  · by_cases e : 1 = k
    · subst e
      rw [pI_s, pk_un (by omega)]
    · rw [pI_n e]
  · by_cases e : 7 = k
    · subst e
      rw [pI_s, pk_un (by omega)]
    · rw [pI_n e]
  · exact pI_n (fun e => by rw [e, h1] at hi; cases hi)
theorem kQ.cE {Y Z : gSc} (h : kQ Y Z) : cE Y Z := by
  obtain ⟨h1, h2, h3, h4⟩ := h
  exact ⟨⟨by rw [h1], by rw [h1], by rw [h1]⟩, ⟨h2 1 (by decide), h2 2 (by decide), h2 3 (by decide), h2 4 (by decide)⟩, h4 2 rfl, h4 4 rfl, h4 5 rfl, h4 17 rfl, h4 18 rfl, h4 19 rfl, h4 20 rfl, h4 21 rfl⟩
theorem kQ.tE {Y Z : gSc} (h : kQ Y Z) : tE Y Z := ⟨h.2.2.2 0 rfl, h.2.2.2 22 rfl⟩
theorem kQ_setMinute (S : gSc) (m : Int32) : kQ (q_X8_setMinute S m) S := by
  unfold q_X8_setMinute
  dsimp only
  repeat (first | exact kQ_rf | refine kQ_tr (kQ_pI (by decide)) ?_)
theorem kQ_fh_b (S : gSc) : ∀ (n : Nat) (v : Int32) (Z : gSc), kQ (q_X6_findHider_b16 S n v Z) Z
  | 0, _, _ => kQ_rf
  | n + 1, v, Z => by
    rw [q_X6_findHider_b16]
    dsimp only
    (repeat' split) <;> first | exact kQ_rf | exact kQ_fh_b S n _ _ | exact kQ_tr (kQ_fh_b S n _ _) (kQ_pI (by decide))
theorem kQ_findHider (S : gSc) : kQ (q_X6_findHider S) S := by
  unfold q_X6_findHider
  split
  · exact kQ_tr (kQ_fh_b S _ _ _) (kQ_pI (by decide))
  · exact kQ_pI (by decide)
theorem kQ_settle (S : gSc) : kQ (q_X6_settle S).2 S := by
  unfold q_X6_settle
  dsimp only
  (repeat' split) <;> first | exact kQ_rf | exact kQ_tr (kQ_pI (by decide)) (kQ_pI (by decide))
theorem kQ_cast (S : gSc) : kQ (q_X6_cast S).2 S := by
  unfold q_X6_cast
  dsimp only
  exact kQ_tr (kQ_settle _) (kQ_findHider _)
theorem kQ_add3 (S : gSc) (a b c : Int32) : kQ (q_X3_add S a b c) S := by
  unfold q_X3_add
  split
  · exact kQ_tr (kQ_pI ⟨rfl, Or.inl (by decide), Or.inl (by decide)⟩) (kQ_tr (kQ_pI ⟨rfl, Or.inl (by decide), Or.inl (by decide)⟩) (kQ_tr (kQ_pI ⟨rfl, Or.inl (by decide), Or.inl (by decide)⟩) (kQ_pI ⟨rfl, Or.inl (by decide), Or.inl (by decide)⟩)))
  · exact kQ_rf
theorem kQ_sb (S : gSc) (a b : Int32) (x y : Int64) : kQ (q_X3_showBetween S a b x y).2 S := by
  unfold q_X3_showBetween
  dsimp only
  (repeat' split) <;> first | exact kQ_rf | exact kQ_tr (kQ_pI (by decide)) (kQ_tr (kQ_pI (by decide)) (kQ_pI (by decide)))
theorem kQ_sw_b (S : gSc) (p1 p2 p3 : Int32) : ∀ (n : Nat) (v4 v5 : Int32) (Z : gSc), kQ (q_X3_show_b7 S p1 p2 p3 n v4 v5 Z).2 Z
  | 0, _, _, _ => kQ_rf
  | n + 1, v4, v5, Z => by
    rw [q_X3_show_b7]
    dsimp only
    have h := kQ_sb Z v4 v5 p1.toInt64 p2.toInt64
    generalize q_X3_showBetween Z v4 v5 p1.toInt64 p2.toInt64 = T at h ⊢
    (repeat' split) <;> first | exact kQ_rf | exact kQ_sw_b S p1 p2 p3 n _ _ _ | exact h | exact kQ_tr (kQ_sw_b S p1 p2 p3 n _ _ _) h
theorem kQ_show (S : gSc) (p1 p2 p3 : Int32) : kQ (q_X3_show S p1 p2 p3).2 S := by
  unfold q_X3_show
  exact kQ_sw_b S p1 p2 p3 _ _ _ _
theorem kQ_has (S : gSc) (a : Nat) (m : Int32) : kQ (q_X10_hasReading S a m).2 S := by
  unfold q_X10_hasReading
  dsimp only
  have h : kQ (q_X6_cast (q_X8_setMinute S m)).2 S := kQ_tr (kQ_cast _) (kQ_setMinute _ _)
  generalize q_X6_cast (q_X8_setMinute S m) = T at h ⊢
  have g := kQ_show T.2 (T.2.1 7 12) (T.2.1 7 13) (q_X1_isA T.2 a 3)
  generalize q_X3_show T.2 (T.2.1 7 12) (T.2.1 7 13) (q_X1_isA T.2 a 3) = U at g ⊢
  (repeat' split) <;> first | exact h | exact kQ_tr g h
theorem kQ_add23 (S : gSc) (v : Int32) : kQ (q_X4_add_23 S v) S := by
  unfold q_X4_add_23
  (repeat' split) <;> repeat (first | exact kQ_rf | refine kQ_tr (kQ_pI (by decide)) ?_)
theorem kQ_add24 (S : gSc) (v : Int32) : kQ (q_X4_add_24 S v) S := by
  unfold q_X4_add_24
  (repeat' split) <;> repeat (first | exact kQ_rf | refine kQ_tr (kQ_pI (by decide)) ?_)
theorem kQ_add25 (S : gSc) (v : Int32) : kQ (q_X4_add_25 S v) S := by
  unfold q_X4_add_25
  (repeat' split) <;> repeat (first | exact kQ_rf | refine kQ_tr (kQ_pI (by decide)) ?_)
theorem kQ_add26 (S : gSc) (v : Int32) : kQ (q_X4_add_26 S v) S := by
  unfold q_X4_add_26
  (repeat' split) <;> repeat (first | exact kQ_rf | refine kQ_tr (kQ_pI (by decide)) ?_)
/-- the day's sun: only the sky's fields from 5 on change -/
theorem cE_sky {Z : gSc} {j : Nat} {v : Int32} (h : 5 ≤ j) : cE (pI Z 1 j v) Z ∧ tE (pI Z 1 j v) Z := by
  refine ⟨⟨⟨rfl, rfl, rfl⟩, ⟨?_, ?_, ?_, ?_⟩, rfl, rfl, rfl, rfl, rfl, rfl, rfl, rfl⟩, rfl, rfl⟩
  all_goals rw [pI_s, pk_un (by omega)]
theorem cE_setDay (S : gSc) (d : Int32) : cE (q_X8_setDay S d) S ∧ tE (q_X8_setDay S d) S := by
  have tr : ∀ {X Y Z : gSc}, cE X Y ∧ tE X Y → cE Y Z ∧ tE Y Z → cE X Z ∧ tE X Z := fun h g => ⟨cE_tr h.1 g.1, tE_tr h.2 g.2⟩
  unfold q_X8_setDay
  dsimp only
  split <;> exact tr (cE_sky (by decide)) (tr (cE_sky (by decide)) (tr (cE_sky (by decide)) (tr (cE_sky (by decide)) (tr (cE_sky (by decide)) (tr (cE_sky (by decide)) (cE_sky (by decide)))))))
