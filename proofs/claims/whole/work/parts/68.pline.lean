/-! PURE 9: the line over the year -/
theorem add_v23 (S : gSc) (v : Int32) : (q_X4_add_23 S v).1 23 0 = S.1 23 0 + 1 ∧ (q_X4_add_23 S v).1 23 1 = (if S.1 23 0 = 0 then v else if S.1 23 1 ≤ v then S.1 23 1 else v) ∧ (q_X4_add_23 S v).1 23 2 = (if S.1 23 0 = 0 then v else if v ≤ S.1 23 2 then S.1 23 2 else v) ∧ ∀ k, k ≠ 23 → (q_X4_add_23 S v).1 k = S.1 k := by
  unfold q_X4_add_23
  by_cases c : S.1 23 0 = 0
  · simp only [if_pos c]
    exact ⟨rfl, rfl, rfl, fun k h => by repeat rw [pI_n h]⟩
  · simp only [if_neg c]
    by_cases c1 : S.1 23 1 ≤ v
    · by_cases c2 : v ≤ S.1 23 2
      · simp only [if_pos c1, if_pos c2]
        exact ⟨rfl, rfl, rfl, fun k h => by repeat rw [pI_n h]⟩
      · simp only [if_pos c1, if_neg c2]
        exact ⟨rfl, rfl, rfl, fun k h => by repeat rw [pI_n h]⟩
    · by_cases c2 : v ≤ S.1 23 2
      · simp only [if_neg c1, if_pos c2]
        exact ⟨rfl, rfl, rfl, fun k h => by repeat rw [pI_n h]⟩
      · simp only [if_neg c1, if_neg c2]
        exact ⟨rfl, rfl, rfl, fun k h => by repeat rw [pI_n h]⟩
theorem add_v24 (S : gSc) (v : Int32) : (q_X4_add_24 S v).1 24 0 = S.1 24 0 + 1 ∧ (q_X4_add_24 S v).1 24 1 = (if S.1 24 0 = 0 then v else if S.1 24 1 ≤ v then S.1 24 1 else v) ∧ (q_X4_add_24 S v).1 24 2 = (if S.1 24 0 = 0 then v else if v ≤ S.1 24 2 then S.1 24 2 else v) ∧ ∀ k, k ≠ 24 → (q_X4_add_24 S v).1 k = S.1 k := by
  unfold q_X4_add_24
  by_cases c : S.1 24 0 = 0
  · simp only [if_pos c]
    exact ⟨rfl, rfl, rfl, fun k h => by repeat rw [pI_n h]⟩
  · simp only [if_neg c]
    by_cases c1 : S.1 24 1 ≤ v
    · by_cases c2 : v ≤ S.1 24 2
      · simp only [if_pos c1, if_pos c2]
        exact ⟨rfl, rfl, rfl, fun k h => by repeat rw [pI_n h]⟩
      · simp only [if_pos c1, if_neg c2]
        exact ⟨rfl, rfl, rfl, fun k h => by repeat rw [pI_n h]⟩
    · by_cases c2 : v ≤ S.1 24 2
      · simp only [if_neg c1, if_pos c2]
        exact ⟨rfl, rfl, rfl, fun k h => by repeat rw [pI_n h]⟩
      · simp only [if_neg c1, if_neg c2]
        exact ⟨rfl, rfl, rfl, fun k h => by repeat rw [pI_n h]⟩
theorem add_v25 (S : gSc) (v : Int32) : (q_X4_add_25 S v).1 25 0 = S.1 25 0 + 1 ∧ (q_X4_add_25 S v).1 25 1 = (if S.1 25 0 = 0 then v else if S.1 25 1 ≤ v then S.1 25 1 else v) ∧ (q_X4_add_25 S v).1 25 2 = (if S.1 25 0 = 0 then v else if v ≤ S.1 25 2 then S.1 25 2 else v) ∧ ∀ k, k ≠ 25 → (q_X4_add_25 S v).1 k = S.1 k := by
  unfold q_X4_add_25
  by_cases c : S.1 25 0 = 0
  · simp only [if_pos c]
    exact ⟨rfl, rfl, rfl, fun k h => by repeat rw [pI_n h]⟩
  · simp only [if_neg c]
    by_cases c1 : S.1 25 1 ≤ v
    · by_cases c2 : v ≤ S.1 25 2
      · simp only [if_pos c1, if_pos c2]
        exact ⟨rfl, rfl, rfl, fun k h => by repeat rw [pI_n h]⟩
      · simp only [if_pos c1, if_neg c2]
        exact ⟨rfl, rfl, rfl, fun k h => by repeat rw [pI_n h]⟩
    · by_cases c2 : v ≤ S.1 25 2
      · simp only [if_neg c1, if_pos c2]
        exact ⟨rfl, rfl, rfl, fun k h => by repeat rw [pI_n h]⟩
      · simp only [if_neg c1, if_neg c2]
        exact ⟨rfl, rfl, rfl, fun k h => by repeat rw [pI_n h]⟩
theorem add_v26 (S : gSc) (v : Int32) : (q_X4_add_26 S v).1 26 0 = S.1 26 0 + 1 ∧ (q_X4_add_26 S v).1 26 1 = (if S.1 26 0 = 0 then v else if S.1 26 1 ≤ v then S.1 26 1 else v) ∧ (q_X4_add_26 S v).1 26 2 = (if S.1 26 0 = 0 then v else if v ≤ S.1 26 2 then S.1 26 2 else v) ∧ ∀ k, k ≠ 26 → (q_X4_add_26 S v).1 k = S.1 k := by
  unfold q_X4_add_26
  by_cases c : S.1 26 0 = 0
  · simp only [if_pos c]
    exact ⟨rfl, rfl, rfl, fun k h => by repeat rw [pI_n h]⟩
  · simp only [if_neg c]
    by_cases c1 : S.1 26 1 ≤ v
    · by_cases c2 : v ≤ S.1 26 2
      · simp only [if_pos c1, if_pos c2]
        exact ⟨rfl, rfl, rfl, fun k h => by repeat rw [pI_n h]⟩
      · simp only [if_pos c1, if_neg c2]
        exact ⟨rfl, rfl, rfl, fun k h => by repeat rw [pI_n h]⟩
    · by_cases c2 : v ≤ S.1 26 2
      · simp only [if_neg c1, if_pos c2]
        exact ⟨rfl, rfl, rfl, fun k h => by repeat rw [pI_n h]⟩
      · simp only [if_neg c1, if_neg c2]
        exact ⟨rfl, rfl, rfl, fun k h => by repeat rw [pI_n h]⟩
theorem kQ_clr {S : gSc} : kQ (pI S 23 0 0) S ∧ kQ (pI S 24 0 0) S ∧ kQ (pI S 25 0 0) S ∧ kQ (pI S 26 0 0) S := ⟨kQ_pI (by decide), kQ_pI (by decide), kQ_pI (by decide), kQ_pI (by decide)⟩
theorem if3 {α β : Type} (c d : Prop) [Decidable c] [Decidable d] (f : α → β) (a b : α) : (if c then f a else (if d then f b else f a)) = f (if c then a else (if d then b else a)) := by
  by_cases h : c
  · rw [if_pos h, if_pos h]
  · rw [if_neg h, if_neg h]
    by_cases g : d
    · rw [if_pos g, if_pos g]
    · rw [if_neg g, if_neg g]
/-- the reference's told numbers behind a day with an end -/
def lnN (Z : gSm) (v4 v6 : Int32) (t1 : Int64) : gSm := pJ (pJ (pJ (pJ (pJ (pJ Z 7 1 t1) 7 2 (v6.toInt64)) 7 3 (if v4 = 0 then Z.2 0 14 else (if Z.2 7 3 ≤ Z.2 0 14 then Z.2 7 3 else Z.2 0 14))) 7 4 (if v4 = 0 then Z.2 0 14 else (if Z.2 0 14 ≤ Z.2 7 4 then Z.2 7 4 else Z.2 0 14))) 7 5 (if v4 = 0 then Z.2 0 15 else (if Z.2 7 5 ≤ Z.2 0 15 then Z.2 7 5 else Z.2 0 15))) 7 6 (if v4 = 0 then Z.2 0 15 else (if Z.2 0 15 ≤ Z.2 7 6 then Z.2 7 6 else Z.2 0 15))
theorem cl_n : (1 : Int32).toNatClampNeg = 1 ∧ (2 : Int32).toNatClampNeg = 2 ∧ (3 : Int32).toNatClampNeg = 3 ∧ (4 : Int32).toNatClampNeg = 4 ∧ (5 : Int32).toNatClampNeg = 5 ∧ (6 : Int32).toNatClampNeg = 6 := by decide
theorem ln_b (M : gSm) (p1 p2 p3 : Int32) (kk : Int32 → Int32 → gSm → Int32 × gSm) (v4 v6 : Int32) (t1 : Int64) (Z : gSm) : q_X11_line_b97 M p1 p2 p3 kk v4 v6 t1 Z = kk (v4 + 1) (v6 + 1) (lnN Z v4 v6 t1) := by
  obtain ⟨n1, n2, n3, n4, n5, n6⟩ := cl_n
  unfold q_X11_line_b97
  rw [if3 _ _ (fun t => q_X11_line_b136 M p1 p2 p3 kk v4 v6 t _)]
  unfold q_X11_line_b136
  rw [if3 _ _ (fun t => q_X11_line_b168 M p1 p2 p3 kk v4 v6 t _)]
  unfold q_X11_line_b168
  rw [if3 _ _ (fun t => q_X11_line_b200 M p1 p2 p3 kk v4 v6 t _)]
  unfold q_X11_line_b200
  rw [if3 _ _ (fun t => q_X11_line_b235 M p1 p2 p3 kk v4 v6 t _)]
  unfold q_X11_line_b235
  dsimp only
  rw [n1, n2, n3, n4, n5, n6]
  rfl
def lnI (i : Nat) (N : gSm) (Y : gSc) (c : Int32) : Prop := (Y.1 23 0 = c ∧ Y.1 24 0 = c ∧ Y.1 25 0 = c ∧ 0 ≤ c.toInt ∧ c.toInt ≤ i) ∧ (¬ c = 0 → (N.2 7 1 = (Y.1 23 1).toInt64 ∧ N.2 7 2 = (Y.1 23 2).toInt64 ∧ N.2 7 3 = (Y.1 24 1).toInt64 ∧ N.2 7 4 = (Y.1 24 2).toInt64 ∧ N.2 7 5 = (Y.1 25 1).toInt64 ∧ N.2 7 6 = (Y.1 25 2).toInt64) ∧ (Y.1 23 1).toInt ≤ (Y.1 23 2).toInt ∧ (Y.1 23 2).toInt < i)
/-- what the class answers behind the loop -/
def lnA (Z : gSc) (w : Int32) : Int32 := (if w = 0 then Z.1 23 0 else if w = 1 then q_X4_leastOrNone_23 Z else if w = 2 then q_X4_greatestOrNone_23 Z else if w = 3 then q_X4_leastOrNone_24 Z else if w = 4 then q_X4_greatestOrNone_24 Z else if w = 5 then q_X4_leastOrNone_25 Z else q_X4_greatestOrNone_25 Z)
theorem i_06 {x : Int32} (h0 : 0 ≤ x.toInt) (h6 : x.toInt ≤ 6) : x = 0 ∨ x = 1 ∨ x = 2 ∨ x = 3 ∨ x = 4 ∨ x = 5 ∨ x = 6 := by
  have h : x.toInt = 0 ∨ x.toInt = 1 ∨ x.toInt = 2 ∨ x.toInt = 3 ∨ x.toInt = 4 ∨ x.toInt = 5 ∨ x.toInt = 6 := by omega
  rcases h with h | h | h | h | h | h | h
  · exact Or.inl (y_inj (h.trans (by decide)))
  · exact Or.inr (Or.inl (y_inj (h.trans (by decide))))
  · exact Or.inr (Or.inr (Or.inl (y_inj (h.trans (by decide)))))
  · exact Or.inr (Or.inr (Or.inr (Or.inl (y_inj (h.trans (by decide))))))
  · exact Or.inr (Or.inr (Or.inr (Or.inr (Or.inl (y_inj (h.trans (by decide)))))))
  · exact Or.inr (Or.inr (Or.inr (Or.inr (Or.inr (Or.inl (y_inj (h.trans (by decide))))))))
  · exact Or.inr (Or.inr (Or.inr (Or.inr (Or.inr (Or.inr (y_inj (h.trans (by decide))))))))
theorem ln_end {i : Nat} {N : gSm} {Y : gSc} {c w : Int32} (h : lnI i N Y c) (w0 : 0 ≤ w.toInt) (w6 : w.toInt ≤ 6) : (if w = 0 then c else (if c = 0 then (-2000000005) else (N.2 7 (w.toNatClampNeg)).toInt32)) = lnA Y w := by
  obtain ⟨⟨h1, h2, h3, -, -⟩, h4⟩ := h
  obtain ⟨n1, n2, n3, n4, n5, n6⟩ := cl_n
  unfold lnA q_X4_leastOrNone_23 q_X4_greatestOrNone_23 q_X4_leastOrNone_24 q_X4_greatestOrNone_24 q_X4_leastOrNone_25 q_X4_greatestOrNone_25
  rw [h1, h2, h3]
  by_cases c0 : c = 0
  · simp only [if_pos c0]
    rcases i_06 w0 w6 with e | e | e | e | e | e | e <;> subst e <;> first | rfl | exact c0
  · simp only [if_neg c0]
    obtain ⟨⟨g1, g2, g3, g4, g5, g6⟩, -, -⟩ := h4 c0
    rcases i_06 w0 w6 with e | e | e | e | e | e | e <;> subst e
    · rfl
    · rw [if_neg (by decide), if_neg (by decide), if_pos rfl, n1, g1, t6432]
    · rw [if_neg (by decide), if_neg (by decide), if_neg (by decide), if_pos rfl, n2, g2, t6432]
    · rw [if_neg (by decide), if_neg (by decide), if_neg (by decide), if_neg (by decide), if_pos rfl, n3, g3, t6432]
    · rw [if_neg (by decide), if_neg (by decide), if_neg (by decide), if_neg (by decide), if_neg (by decide), if_pos rfl, n4, g4, t6432]
    · rw [if_neg (by decide), if_neg (by decide), if_neg (by decide), if_neg (by decide), if_neg (by decide), if_neg (by decide), if_pos rfl, n5, g5, t6432]
    · rw [if_neg (by decide), if_neg (by decide), if_neg (by decide), if_neg (by decide), if_neg (by decide), if_neg (by decide), if_neg (by decide), n6, g6, t6432]
/-- the least and the greatest, in both sizes -/
theorem mn_eq (z : Prop) [Decidable z] (t e : Int32) : (if z then e.toInt64 else (if t.toInt64 ≤ e.toInt64 then t.toInt64 else e.toInt64)) = (if z then e else if t ≤ e then t else e).toInt64 := by
  by_cases h : z
  · rw [if_pos h, if_pos h]
  · rw [if_neg h, if_neg h]
    by_cases g : t ≤ e
    · rw [if_pos g, if_pos ((le64 _ _).mpr g)]
    · rw [if_neg g, if_neg (fun q => g ((le64 _ _).mp q))]
theorem mx_eq (z : Prop) [Decidable z] (t e : Int32) : (if z then e.toInt64 else (if e.toInt64 ≤ t.toInt64 then t.toInt64 else e.toInt64)) = (if z then e else if e ≤ t then t else e).toInt64 := by
  by_cases h : z
  · rw [if_pos h, if_pos h]
  · rw [if_neg h, if_neg h]
    by_cases g : e ≤ t
    · rw [if_pos g, if_pos ((le64 _ _).mpr g)]
    · rw [if_neg g, if_neg (fun q => g ((le64 _ _).mp q))]
theorem mnz {c : Int32} {t : Int64} {u e : Int32} (h : ¬ c = 0 → t = u.toInt64) : (if c = 0 then e.toInt64 else (if t ≤ e.toInt64 then t else e.toInt64)) = (if c = 0 then e else if u ≤ e then u else e).toInt64 := by
  by_cases g : c = 0
  · rw [if_pos g, if_pos g]
  · rw [h g]; exact mn_eq _ _ _
theorem mxz {c : Int32} {t : Int64} {u e : Int32} (h : ¬ c = 0 → t = u.toInt64) : (if c = 0 then e.toInt64 else (if e.toInt64 ≤ t then t else e.toInt64)) = (if c = 0 then e else if e ≤ u then u else e).toInt64 := by
  by_cases g : c = 0
  · rw [if_pos g, if_pos g]
  · rw [h g]; exact mx_eq _ _ _
theorem ln_add {i : Nat} {N : gSm} {Y : gSc} {c x y : Int32} (h : lnI i N Y c) (hi : i < 366) (e14 : N.2 0 14 = x.toInt64) (e15 : N.2 0 15 = y.toInt64) : lnI (i + 1) (lnN N c (nI i) (if c = 0 then (nI i).toInt64 else N.2 7 1)) (q_X4_add_25 (q_X4_add_24 (q_X4_add_23 Y (nI i)) x) y) (c + 1) := by
  obtain ⟨⟨h1, h2, h3, h5, h6⟩, h4⟩ := h
  obtain ⟨a0, a1, a2, ak⟩ := add_v23 Y (nI i)
  obtain ⟨b0, b1, b2, bk⟩ := add_v24 (q_X4_add_23 Y (nI i)) x
  obtain ⟨d0, d1, d2, dk⟩ := add_v25 (q_X4_add_24 (q_X4_add_23 Y (nI i)) x) y
  rw [ak 24 (by decide)] at b0 b1 b2
  rw [bk 25 (by decide), ak 25 (by decide)] at d0 d1 d2
  have x23 : (q_X4_add_25 (q_X4_add_24 (q_X4_add_23 Y (nI i)) x) y).1 23 = (q_X4_add_23 Y (nI i)).1 23 := by rw [dk 23 (by decide), bk 23 (by decide)]
  have x24 : (q_X4_add_25 (q_X4_add_24 (q_X4_add_23 Y (nI i)) x) y).1 24 = (q_X4_add_24 (q_X4_add_23 Y (nI i)) x).1 24 := dk 24 (by decide)
  rw [h1] at a0 a1 a2
  rw [h2] at b0 b1 b2
  rw [h3] at d0 d1 d2
  have ti : (nI i).toInt = (i : Int) := nI_toInt (by omega)
  have c1 := i_1 (v := c) (by omega)
  have nz : ¬ c + 1 = 0 := fun q => by
    have := congrArg Int32.toInt q
    rw [c1, i_0] at this
    omega
  unfold lnI
  rw [x23, x24]
  refine ⟨⟨a0, b0, d0, by omega, by omega⟩, fun _ => ⟨⟨?_, ?_, ?_, ?_, ?_, ?_⟩, ?_, ?_⟩⟩
  · show (if c = 0 then (nI i).toInt64 else N.2 7 1) = _
    rw [a1]
    by_cases g : c = 0
    · rw [if_pos g, if_pos g]
    · rw [if_neg g, if_neg g, (h4 g).1.1]
      have o := (h4 g).2
      rw [if_pos (Int32.le_iff_toInt_le.mpr (by rw [ti]; omega))]
  · show (nI i).toInt64 = _
    rw [a2]
    by_cases g : c = 0
    · rw [if_pos g]
    · have o := (h4 g).2
      rw [if_neg g, if_neg (fun q => by have := i_le q; rw [ti] at this; omega)]
  · show (if c = 0 then N.2 0 14 else (if N.2 7 3 ≤ N.2 0 14 then N.2 7 3 else N.2 0 14)) = _
    rw [b1, e14]
    exact mnz (fun g => (h4 g).1.2.2.1)
  · show (if c = 0 then N.2 0 14 else (if N.2 0 14 ≤ N.2 7 4 then N.2 7 4 else N.2 0 14)) = _
    rw [b2, e14]
    exact mxz (fun g => (h4 g).1.2.2.2.1)
  · show (if c = 0 then N.2 0 15 else (if N.2 7 5 ≤ N.2 0 15 then N.2 7 5 else N.2 0 15)) = _
    rw [d1, e15]
    exact mnz (fun g => (h4 g).1.2.2.2.2.1)
  · show (if c = 0 then N.2 0 15 else (if N.2 0 15 ≤ N.2 7 6 then N.2 7 6 else N.2 0 15)) = _
    rw [d2, e15]
    exact mxz (fun g => (h4 g).1.2.2.2.2.2)
  · rw [a1, a2]
    by_cases g : c = 0
    · rw [if_pos g, if_pos g]; exact Int.le_refl _
    · have o := (h4 g).2
      rw [if_neg g, if_neg g, if_pos (Int32.le_iff_toInt_le.mpr (by rw [ti]; omega)), if_neg (fun q => by have := i_le q; rw [ti] at this; omega), ti]
      omega
  · rw [a2]
    by_cases g : c = 0
    · rw [if_pos g, ti]; omega
    · have o := (h4 g).2
      rw [if_neg g, if_neg (fun q => by have := i_le q; rw [ti] at this; omega), ti]
      omega
theorem lnI_k {i : Nat} {N N2 : gSm} {Y Y2 : gSc} {c : Int32} (h : lnI i N Y c) (e7 : N2.2 7 = N.2 7) (e23 : Y2.1 23 = Y.1 23) (e24 : Y2.1 24 = Y.1 24) (e25 : Y2.1 25 = Y.1 25) : lnI i N2 Y2 c ∧ lnI (i + 1) N2 Y2 c := by
  obtain ⟨⟨h1, h2, h3, h5, h6⟩, h4⟩ := h
  unfold lnI
  rw [e7, e23, e24, e25]
  exact ⟨⟨⟨h1, h2, h3, h5, h6⟩, h4⟩, ⟨h1, h2, h3, h5, by omega⟩, fun g => ⟨(h4 g).1, (h4 g).2.1, by have := (h4 g).2.2; omega⟩⟩
/-- a look leaves the told numbers and the ranges -/
theorem fe_7 (M : gSm) (p : Int32) (g : Int64) {k : Nat} (h : k ≠ 0) : (q_X11_findEnd M p g).2 k = M.2 k := by
  have e : ∀ (Z : gSm) (j : Nat) (v : Int64), (pJ Z 0 j v).2 k = Z.2 k := fun Z j v => va_up_ne _ _ h
  unfold q_X11_findEnd
  dsimp only
  (repeat' split) <;> rw [e, e]
theorem sto_7 (M : gSm) (p : Int32) (g : Int64) (d m : Int32) {k : Nat} (h : k ≠ 0) : (q_X11_stateOf M p g d m).2.2 k = M.2 k := by
  have e : ∀ (Z : gSm) (j : Nat) (v : Int64), (pJ Z 0 j v).2 k = Z.2 k := fun Z j v => va_up_ne _ _ h
  have lk : (q_X11_look M d m).2 k = M.2 k := by
    unfold q_X11_look
    dsimp only
    rw [e, e, e]
  rw [st_T]
  generalize q_X11_look M d m = N at lk ⊢
  unfold stT
  dsimp only
  (repeat' split) <;> first | exact lk | (dsimp only; rw [fe_7 N p g h]; exact lk)
theorem now_7 (M : gSm) (p d m : Int32) {k : Nat} (h : k ≠ 0) : (q_X11_stateNow M p d m).2.2 k = M.2 k := by
  unfold q_X11_stateNow
  exact sto_7 _ _ _ _ _ h
theorem sx_c {k : Nat} (h1 : k ≠ 1) (h7 : k ≠ 7) {S : gSc} {m : Int32} : (q_X6_cast (q_X8_setMinute S m)).2.1 k = S.1 k := by rw [kc_cast h7, kc_setMinute h1]
theorem ln_z {M0 : gSm} {S0 S1 : gSc} {p hr w : Int32} {a : Nat} (hw0 : 0 ≤ w.toInt) (hw6 : w.toInt ≤ 6) (hm : 0 ≤ (60 * hr).toInt ∧ (60 * hr).toInt ≤ 1439) : ∀ (n i : Nat) (N : gSm) (Y : gSc) (c : Int32), i ≤ 366 → 366 < i + n → rdy N S0 Y p a (S0.2.2.2.2 a 4) → lnI i N Y c → (q_X11_line_b57 M0 p hr w n c (nI i) N).1 = lnA (q_X10_followLine_b35 S1 a hr n (nI i) Y) w ∧ inv (q_X11_line_b57 M0 p hr w n c (nI i) N).2 (q_X10_followLine_b35 S1 a hr n (nI i) Y)
  | 0, i, N, Y, c => fun h1 h2 => absurd h2 (by omega)
  | n + 1, i, N, Y, c => by
    intro h1 h2 r hl
    rw [q_X11_line_b57, q_X10_followLine_b35]
    dsimp only
    by_cases ci : i = 366
    · subst ci
      have cn : (366 : Int32) ≤ nI 366 := nI_le (Nat.le_refl _) (by decide)
      rw [if_pos cn, if_pos cn]
      have e := ln_end hl hw0 hw6
      refine ⟨?_, ?_⟩
      · rw [← e]
        by_cases g1 : w = 0
        · rw [if_pos g1, if_pos g1]
        · rw [if_neg g1, if_neg g1]
          by_cases g2 : c = 0
          · rw [if_pos g2, if_pos g2]
          · rw [if_neg g2, if_neg g2]
      · have : ∀ (b1 b2 : Prop) [Decidable b1] [Decidable b2] (x1 x2 x3 : Int32), (if b1 then (x1, N) else (if b2 then (x2, N) else (x3, N))).2 = N := by
          intro b1 b2 _ _ x1 x2 x3
          by_cases q1 : b1
          · rw [if_pos q1]
          · rw [if_neg q1]
            by_cases q2 : b2
            · rw [if_pos q2]
            · rw [if_neg q2]
        rw [this]
        exact r.inv
    · have cn : ¬ (366 : Int32) ≤ nI i := nI_ge (a := i) (b := 366) (by omega) (by decide)
      rw [if_neg cn, if_neg cn, nI_1]
      have ti : (nI i).toInt = (i : Int) := nI_toInt (by omega)
      have rd := r.day (nI i)
      have q := rd.1.now (d := nI i) (m := 60 * hr) rd.2 (by rw [ti]; omega) hm
      rw [show q_X8_setTime Y (nI i) (60 * hr) = q_X8_setMinute (q_X8_setDay Y (nI i)) (60 * hr) from rfl]
      have k23 : (q_X6_cast (q_X8_setMinute (q_X8_setDay Y (nI i)) (60 * hr))).2.1 23 = Y.1 23 := by rw [sx_c (by decide) (by decide), kc_setDay (by decide)]
      have k24 : (q_X6_cast (q_X8_setMinute (q_X8_setDay Y (nI i)) (60 * hr))).2.1 24 = Y.1 24 := by rw [sx_c (by decide) (by decide), kc_setDay (by decide)]
      have k25 : (q_X6_cast (q_X8_setMinute (q_X8_setDay Y (nI i)) (60 * hr))).2.1 25 = Y.1 25 := by rw [sx_c (by decide) (by decide), kc_setDay (by decide)]
      have m7 := now_7 N p (nI i) (60 * hr) (k := 7) (by decide)
      generalize q_X6_cast (q_X8_setMinute (q_X8_setDay Y (nI i)) (60 * hr)) = R at q k23 k24 k25 ⊢
      generalize q_X11_stateNow N p (nI i) (60 * hr) = T at q m7 ⊢
      have lk := lnI_k hl m7 k23 k24 k25
      rw [← q.1.1]
      by_cases g : R.1 = 0
      · rw [if_pos g, if_pos g]
        have l := (q.1.2 g).1
        have e712 : (q_X4_add_23 R.2 (nI i)).1 7 = R.2.1 7 := (add_v23 R.2 (nI i)).2.2.2 7 (by decide)
        have e713 : (q_X4_add_24 (q_X4_add_23 R.2 (nI i)) (R.2.1 7 12)).1 7 = R.2.1 7 := by rw [(add_v24 (q_X4_add_23 R.2 (nI i)) (R.2.1 7 12)).2.2.2 7 (by decide), e712]
        rw [e712, e713]
        have la := ln_add lk.1 (by omega) l.1 l.2
        have kk : kQ (q_X4_add_25 (q_X4_add_24 (q_X4_add_23 R.2 (nI i)) (R.2.1 7 12)) (R.2.1 7 13)) R.2 := kQ_tr (kQ_add25 _ _) (kQ_tr (kQ_add24 _ _) (kQ_add23 _ _))
        have rr := (q.2.2.1.k kk).m (mE_1 (show (lnN T.2 c (nI i) (if c = 0 then (nI i).toInt64 else T.2.2 7 1)).1 = T.2.1 from rfl))
        have ih := ln_z (M0 := M0) (S0 := S0) (S1 := S1) (p := p) (hr := hr) (w := w) (a := a) hw0 hw6 hm n (i + 1) _ _ (c + 1) (by omega) (by omega) rr la
        by_cases g2 : c = 0
        · rw [if_pos g2, ln_b, nI_1]
          rw [if_pos g2] at ih
          exact ih
        · rw [if_neg g2, ln_b, nI_1, cl_n.1]
          rw [if_neg g2] at ih
          exact ih
      · rw [if_neg g, if_neg g]
        exact ln_z hw0 hw6 hm n (i + 1) _ _ c (by omega) (by omega) q.2.2.1 lk.2
theorem h60 {hr : Int32} (h0 : 0 ≤ hr.toInt) (h1 : hr.toInt ≤ 23) : (60 * hr).toInt = 60 * hr.toInt := by
  have c : (60 : Int32).toInt = 60 := by decide
  rw [i_mul (by rw [c]; omega) (by rw [c]; omega), c]
theorem P_line {M : gSm} {S : gSc} (h : inv M S) (p hr w : Int32) : (q_X10_line S p hr w).1 = (q_X11_line M p hr w).1 ∧ inv (q_X11_line M p hr w).2 (q_X10_line S p hr w).2 := by
  unfold q_X10_line q_X11_line
  dsimp only
  rw [pl_eq, show q_X10_isHour hr = q_X11_isIn (hr.toInt64) 0 23 from rfl, wi_eq]
  by_cases c1 : q_X11_isPlace p = 0
  · rw [if_pos c1, if_pos c1]; exact ⟨rfl, h⟩
  · rw [if_neg c1, if_neg c1]
    by_cases c2 : q_X11_isIn (hr.toInt64) 0 23 = 0
    · rw [if_pos c2, if_pos c2]; exact ⟨rfl, h⟩
    · rw [if_neg c2, if_neg c2]
      by_cases c3 : q_X11_isIn (w.toInt64) 0 6 = 0
      · rw [if_pos c3, if_pos c3]; exact ⟨rfl, h⟩
      · rw [if_neg c3, if_neg c3]
        have hh := isIn_of rfl c2
        have hw := isIn_of rfl c3
        rw [t64, l_0, show (23 : Int64).toInt = 23 by decide] at hh
        rw [t64, l_0, show (6 : Int64).toInt = 6 by decide] at hw
        have e60 := h60 hh.1 hh.2
        rcases da0_eq h.2.1 (isPm_of rfl c1) with ⟨e1, e2⟩ | ⟨a, e1, e2, e3, e4, e5⟩
        · rw [e1, e2, if_pos rfl]; exact ⟨rfl, h⟩
        · rw [e1, e5, if_neg (by decide)]
          dsimp only
          have ky : kQ (q_X4_clear_25 (q_X4_clear_24 (q_X4_clear_23 S))) S := kQ_tr kQ_clr.2.2.1 (kQ_tr kQ_clr.2.1 kQ_clr.1)
          have r := rdy_0 (Y := q_X4_clear_25 (q_X4_clear_24 (q_X4_clear_23 S))) h e4 ky.cE ky.tE ky.1
          have u23 : (q_X6_setUp (q_X4_clear_25 (q_X4_clear_24 (q_X4_clear_23 S))) a).1 23 0 = 0 := by rw [kc_setUp (by decide) (by decide) (by decide) (by decide) (by decide)]; rfl
          have u24 : (q_X6_setUp (q_X4_clear_25 (q_X4_clear_24 (q_X4_clear_23 S))) a).1 24 0 = 0 := by rw [kc_setUp (by decide) (by decide) (by decide) (by decide) (by decide)]; rfl
          have u25 : (q_X6_setUp (q_X4_clear_25 (q_X4_clear_24 (q_X4_clear_23 S))) a).1 25 0 = 0 := by rw [kc_setUp (by decide) (by decide) (by decide) (by decide) (by decide)]; rfl
          have z := ln_z (M0 := M) (S1 := S) (hr := hr) hw.1 hw.2 (by omega) 367 0 M (q_X6_setUp (q_X4_clear_25 (q_X4_clear_24 (q_X4_clear_23 S))) a) 0 (by decide) (by decide) r ⟨⟨u23, u24, u25, by decide, by decide⟩, fun q => absurd rfl q⟩
          rw [nI_0] at z
          unfold q_X10_followLine
          dsimp only
          generalize q_X11_line_b57 M p hr w 367 0 0 M = T at z ⊢
          generalize q_X10_followLine_b35 S a hr 367 0 (q_X6_setUp (q_X4_clear_25 (q_X4_clear_24 (q_X4_clear_23 S))) a) = R at z ⊢
          rw [z.1]
          unfold lnA
          rcases i_06 hw.1 hw.2 with e | e | e | e | e | e | e <;> subst e <;> exact ⟨rfl, z.2⟩
