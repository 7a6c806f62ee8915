/-! PURE 4: dials, rows, the sun by a row -/
theorem gt_w {M : gSm} {p w : Int32} (hp : isP p) (k : Nat) (hw : w.toInt = k) (hk : k < 7) : q_X11_get M p w = M.1 1 (7 * p.toNatClampNeg + k) := by
  unfold q_X11_get
  have h1 := hp.1
  have h2 := hp.2
  have e := i_7w (k := p) (w := w) ⟨h1, by omega⟩ ⟨by omega, by omega⟩
  have q : (7 * p + w).toNatClampNeg = 7 * p.toNatClampNeg + k := by
    show (7 * p + w).toInt.toNat = 7 * p.toInt.toNat + k
    omega
  rw [q]
/-- what the reference has of the dial at a place -/
def dF (M : gSm) (p : Int32) (F : Nat → Int32) : Prop := q_X11_get M p 0 = 2 + F 0 ∧ q_X11_get M p 1 = F 1 ∧ q_X11_get M p 2 = F 2 ∧ q_X11_get M p 3 = F 3 ∧ q_X11_get M p 4 = F 4 ∧ q_X11_get M p 5 = F 5 ∧ q_X11_get M p 6 = F 6 ∧ dOk F
def hF (M : gSm) (p : Int32) (F : Nat → Int32) : Prop := q_X11_get M p 0 = 1 ∧ q_X11_get M p 1 = F 0 ∧ q_X11_get M p 2 = F 1 ∧ q_X11_get M p 3 = F 2 ∧ q_X11_get M p 4 = F 3 ∧ q_X11_get M p 5 = F 4
theorem get_fr {M N : gSm} (e : N.1 1 = M.1 1) (p w : Int32) : q_X11_get N p w = q_X11_get M p w := by
  unfold q_X11_get
  rw [e]
theorem dF_fr {M N : gSm} {p : Int32} {F : Nat → Int32} (h : dF M p F) (e : N.1 1 = M.1 1) : dF N p F := by
  unfold dF
  simp only [get_fr e]
  exact h
theorem hF_fr {M N : gSm} {p : Int32} {F : Nat → Int32} (h : hF M p F) (e : N.1 1 = M.1 1) : hF N p F := by
  unfold hF
  simp only [get_fr e]
  exact h
theorem tR_of {M : gSm} {S : gSc} {p : Int32} (h : iG M S) (hp : isP p) : tR S.2.2 (fun i => M.1 1 (7 * p.toNatClampNeg + i)) (S.2.1 3 p.toNatClampNeg) := h _ (isP_lt hp)
theorem nF_of {M : gSm} {S : gSc} {p : Int32} (h : iG M S) (hp : isP p) (ho : S.2.1 3 p.toNatClampNeg = none) : q_X11_get M p 0 = 0 := by
  rw [gt_w hp 0 (by decide) (by decide)]
  exact (tR_of h hp).1 ho
theorem dF_of {M : gSm} {S : gSc} {p : Int32} {a : Nat} (h : iG M S) (hp : isP p) (ho : S.2.1 3 p.toNatClampNeg = some a) (hk : S.2.2.2.1 a = 1) : dF M p (S.2.2.2.2 a) := by
  have t := ((tR_of h hp).2 a ho).2.1 hk
  refine ⟨?_, ?_, ?_, ?_, ?_, ?_, ?_, t.2.2⟩
  · rw [gt_w hp 0 (by decide) (by decide)]; exact t.1
  · rw [gt_w hp 1 (by decide) (by decide)]; exact t.2.1 0 (by decide)
  · rw [gt_w hp 2 (by decide) (by decide)]; exact t.2.1 1 (by decide)
  · rw [gt_w hp 3 (by decide) (by decide)]; exact t.2.1 2 (by decide)
  · rw [gt_w hp 4 (by decide) (by decide)]; exact t.2.1 3 (by decide)
  · rw [gt_w hp 5 (by decide) (by decide)]; exact t.2.1 4 (by decide)
  · rw [gt_w hp 6 (by decide) (by decide)]; exact t.2.1 5 (by decide)
theorem hF_of {M : gSm} {S : gSc} {p : Int32} {a : Nat} (h : iG M S) (hp : isP p) (ho : S.2.1 3 p.toNatClampNeg = some a) (hk : ¬ S.2.2.2.1 a = 1) : hF M p (S.2.2.2.2 a) := by
  have t := ((tR_of h hp).2 a ho).2.2 hk
  refine ⟨?_, ?_, ?_, ?_, ?_, ?_⟩
  · rw [gt_w hp 0 (by decide) (by decide)]; exact t.1
  · rw [gt_w hp 1 (by decide) (by decide)]; exact t.2 0 (by decide)
  · rw [gt_w hp 2 (by decide) (by decide)]; exact t.2 1 (by decide)
  · rw [gt_w hp 3 (by decide) (by decide)]; exact t.2 2 (by decide)
  · rw [gt_w hp 4 (by decide) (by decide)]; exact t.2 3 (by decide)
  · rw [gt_w hp 5 (by decide) (by decide)]; exact t.2 4 (by decide)
theorem okR_of_iG {M : gSm} {S : gSc} (h : iG M S) : okR S 3 40 := fun j a hj e => ((h j hj).2 a e).1
theorem i_04 {x : Int32} (h0 : 0 ≤ x.toInt) (h4 : x.toInt ≤ 4) : x = 0 ∨ x = 1 ∨ x = 2 ∨ x = 3 ∨ x = 4 := by
  have h : x.toInt = 0 ∨ x.toInt = 1 ∨ x.toInt = 2 ∨ x.toInt = 3 ∨ x.toInt = 4 := by omega
  rcases h with h | h | h | h | h
  · exact Or.inl (y_inj (h.trans (by decide)))
  · exact Or.inr (Or.inl (y_inj (h.trans (by decide))))
  · exact Or.inr (Or.inr (Or.inl (y_inj (h.trans (by decide)))))
  · exact Or.inr (Or.inr (Or.inr (Or.inl (y_inj (h.trans (by decide))))))
  · exact Or.inr (Or.inr (Or.inr (Or.inr (y_inj (h.trans (by decide))))))
/-- the reference's isOfKind by the number in its row -/
def mK (r k : Int32) : Int32 := (let r3 := r; (let x8 := r3 - 2; (if x8 < 0 then 0 else (if x8 = k then 1 else (if k = 0 then 1 else (if k = 1 then (if x8 = 2 then 1 else (if x8 = 4 then 1 else (if k = 2 then (if x8 = 4 then 1 else 0) else 0))) else (if k = 2 then (if x8 = 4 then 1 else 0) else 0)))))))
theorem ok_mK (M : gSm) (p k : Int32) : q_X11_isOfKind M p k = mK (q_X11_get M p 0) k := rfl
theorem mK_isK : ∀ x : Fin 5, ∀ k : Fin 5, mK (2 + nI x.val) (nI k.val) = isK (nI x.val) (nI k.val) := by decide +kernel
theorem i_fin {x : Int32} (h0 : 0 ≤ x.toInt) (h4 : x.toInt ≤ 4) : ∃ j : Fin 5, x = nI j.val := by
  refine ⟨⟨x.toInt.toNat, by omega⟩, y_inj ?_⟩
  rw [nI_toInt (by show x.toInt.toNat < 2 ^ 31; omega)]
  show x.toInt = ((x.toInt.toNat : Nat) : Int)
  omega
theorem ok_eq {M : gSm} {p : Int32} {F : Nat → Int32} (h : dF M p F) {k : Int32} (h0 : 0 ≤ k.toInt) (h4 : k.toInt ≤ 4) : q_X11_isOfKind M p k = isK (F 0) k := by
  obtain ⟨j, hj⟩ := i_fin (x := F 0) h.2.2.2.2.2.2.2.1.1 h.2.2.2.2.2.2.2.1.2
  obtain ⟨i, hi⟩ := i_fin h0 h4
  rw [ok_mK, h.1, hj, hi]
  exact mK_isK j i
theorem kd_all : ∀ x : Fin 5, ((isK (nI x.val) 1 = 0 ∧ isK (nI x.val) 2 = 0) ∨ (isK (nI x.val) 1 = 1 ∧ isK (nI x.val) 2 = 0) ∨ (isK (nI x.val) 1 = 1 ∧ isK (nI x.val) 2 = 1)) ∧ isK (nI x.val) 0 = 1 ∧ (isK (nI x.val) 3 = 0 ↔ ¬ (2 + nI x.val = 5)) ∧ ¬ (2 + nI x.val < 2) := by decide +kernel
theorem kd_of {F : Nat → Int32} (h : dOk F) : ((isK (F 0) 1 = 0 ∧ isK (F 0) 2 = 0) ∨ (isK (F 0) 1 = 1 ∧ isK (F 0) 2 = 0) ∨ (isK (F 0) 1 = 1 ∧ isK (F 0) 2 = 1)) ∧ isK (F 0) 0 = 1 ∧ (isK (F 0) 3 = 0 ↔ ¬ (2 + F 0 = 5)) ∧ ¬ (2 + F 0 < 2) := by
  obtain ⟨j, hj⟩ := i_fin h.1.1 h.1.2
  rw [hj]
  exact kd_all j
theorem dF_dial {M : gSm} {p : Int32} {F : Nat → Int32} (h : dF M p F) : q_X11_isDial M p = 1 := by
  unfold q_X11_isDial
  dsimp only
  rw [h.1, if_neg (kd_of h.2.2.2.2.2.2.2).2.2.2]
theorem hF_dial {M : gSm} {p : Int32} {F : Nat → Int32} (h : hF M p F) : q_X11_isDial M p = 0 := by
  unfold q_X11_isDial
  dsimp only
  rw [h.1]
  decide
theorem nF_dial {M : gSm} {p : Int32} (h : q_X11_get M p 0 = 0) : q_X11_isDial M p = 0 := by
  unfold q_X11_isDial
  dsimp only
  rw [h]
  decide
theorem mK_no : ∀ k : Fin 5, mK 0 (nI k.val) = 0 ∧ mK 1 (nI k.val) = 0 := by decide +kernel
theorem hF_kind {M : gSm} {p : Int32} {F : Nat → Int32} (h : hF M p F) {k : Int32} (h0 : 0 ≤ k.toInt) (h4 : k.toInt ≤ 4) : q_X11_isOfKind M p k = 0 := by
  obtain ⟨i, hi⟩ := i_fin h0 h4
  rw [ok_mK, h.1, hi]
  exact (mK_no i).2
theorem nF_kind {M : gSm} {p : Int32} (h : q_X11_get M p 0 = 0) {k : Int32} (h0 : 0 ≤ k.toInt) (h4 : k.toInt ≤ 4) : q_X11_isOfKind M p k = 0 := by
  obtain ⟨i, hi⟩ := i_fin h0 h4
  rw [ok_mK, h, hi]
  exact (mK_no i).1
/-! the rows -/
def row3 (S : gSc) (k : Nat) (x y z : Int32) : Prop := S.1 k 0 = x ∧ S.1 k 1 = y ∧ S.1 k 2 = z
def rwD (S : gSc) (F : Nat → Int32) (g : Int32) : Prop :=
  if isK (F 0) 2 = 0 then (if isK (F 0) 1 = 0 then row3 S 8 0 0 16384 ∧ row3 S 9 16384 0 0 ∧ row3 S 10 0 16384 0 else row3 S 8 (q_X10_sineOf g) (q_X10_cosineOf g) 0 ∧ row3 S 9 (q_X10_cosineOf g) (-(q_X10_sineOf g)) 0 ∧ row3 S 10 0 0 16384)
  else row3 S 8 (q_X10_dot (q_X10_sineOf (F 5)) (q_X10_sineOf g)) (q_X10_dot (q_X10_sineOf (F 5)) (q_X10_cosineOf g)) (q_X10_cosineOf (F 5)) ∧ row3 S 9 (q_X10_cosineOf g) (-(q_X10_sineOf g)) 0 ∧ row3 S 10 (-(q_X10_dot (q_X10_cosineOf (F 5)) (q_X10_sineOf g))) (-(q_X10_dot (q_X10_cosineOf (F 5)) (q_X10_cosineOf g))) (q_X10_sineOf (F 5))
theorem row3_st {S Y : gSc} {k : Nat} {x y z : Int32} (h : row3 S k x y z) (e : Y.1 k = S.1 k) : row3 Y k x y z := by
  unfold row3
  rw [e]
  exact h
theorem set8_r (S : gSc) (x y z : Int32) : row3 (q_X5_set_8 S x y z) 8 x y z := by
  unfold q_X5_set_8
  exact ⟨by rw [pI_s, pk_un (by decide), pI_s, pk_un (by decide), pI_s, pk_us], by rw [pI_s, pk_un (by decide), pI_s, pk_us], by rw [pI_s, pk_us]⟩
theorem set8_k (S : gSc) (x y z : Int32) {k : Nat} (h : k ≠ 8) : (q_X5_set_8 S x y z).1 k = S.1 k := by
  unfold q_X5_set_8
  rw [pI_n h, pI_n h, pI_n h]
theorem set9_r (S : gSc) (x y z : Int32) : row3 (q_X5_set_9 S x y z) 9 x y z := by
  unfold q_X5_set_9
  exact ⟨by rw [pI_s, pk_un (by decide), pI_s, pk_un (by decide), pI_s, pk_us], by rw [pI_s, pk_un (by decide), pI_s, pk_us], by rw [pI_s, pk_us]⟩
theorem set9_k (S : gSc) (x y z : Int32) {k : Nat} (h : k ≠ 9) : (q_X5_set_9 S x y z).1 k = S.1 k := by
  unfold q_X5_set_9
  rw [pI_n h, pI_n h, pI_n h]
theorem set10_r (S : gSc) (x y z : Int32) : row3 (q_X5_set_10 S x y z) 10 x y z := by
  unfold q_X5_set_10
  exact ⟨by rw [pI_s, pk_un (by decide), pI_s, pk_un (by decide), pI_s, pk_us], by rw [pI_s, pk_un (by decide), pI_s, pk_us], by rw [pI_s, pk_us]⟩
theorem set10_k (S : gSc) (x y z : Int32) {k : Nat} (h : k ≠ 10) : (q_X5_set_10 S x y z).1 k = S.1 k := by
  unfold q_X5_set_10
  rw [pI_n h, pI_n h, pI_n h]
theorem set_3 (S : gSc) (x y z x2 y2 z2 x3 y3 z3 : Int32) : row3 (q_X5_set_10 (q_X5_set_9 (q_X5_set_8 S x y z) x2 y2 z2) x3 y3 z3) 8 x y z ∧ row3 (q_X5_set_10 (q_X5_set_9 (q_X5_set_8 S x y z) x2 y2 z2) x3 y3 z3) 9 x2 y2 z2 ∧ row3 (q_X5_set_10 (q_X5_set_9 (q_X5_set_8 S x y z) x2 y2 z2) x3 y3 z3) 10 x3 y3 z3 :=
  ⟨row3_st (row3_st (set8_r S x y z) (set9_k _ _ _ _ (by decide))) (set10_k _ _ _ _ (by decide)), row3_st (set9_r _ x2 y2 z2) (set10_k _ _ _ _ (by decide)), set10_r _ x3 y3 z3⟩
theorem rwD_set (S : gSc) (a : Nat) (g : Int32) : rwD (q_X6_setRows S a g) (S.2.2.2.2 a) g := by
  have k2 : q_X1_isA S a 2 = isK (S.2.2.2.2 a 0) 2 := isA_K S a 2
  have k1 : q_X1_isA S a 1 = isK (S.2.2.2.2 a 0) 1 := isA_K S a 1
  by_cases h2 : isK (S.2.2.2.2 a 0) 2 = 0
  · by_cases h1 : isK (S.2.2.2.2 a 0) 1 = 0
    · have e : q_X6_setRows S a g = q_X5_set_10 (q_X5_set_9 (q_X5_set_8 S 0 0 16384) 16384 0 0) 0 16384 0 := by
        unfold q_X6_setRows
        dsimp only
        rw [k2, if_pos h2, k1, if_pos h1]
      rw [e]
      unfold rwD
      rw [if_pos h2, if_pos h1]
      exact set_3 _ _ _ _ _ _ _ _ _ _
    · have e : q_X6_setRows S a g = q_X5_set_10 (q_X5_set_9 (q_X5_set_8 S (q_X10_sineOf g) (q_X10_cosineOf g) 0) (q_X10_cosineOf g) (-(q_X10_sineOf g)) 0) 0 0 16384 := by
        unfold q_X6_setRows
        dsimp only
        rw [k2, if_pos h2, k1, if_neg h1]
      rw [e]
      unfold rwD
      rw [if_pos h2, if_neg h1]
      exact set_3 _ _ _ _ _ _ _ _ _ _
  · have e : q_X6_setRows S a g = q_X5_set_10 (q_X5_set_9 (q_X5_set_8 S (q_X10_dot (q_X10_sineOf (S.2.2.2.2 a 5)) (q_X10_sineOf g)) (q_X10_dot (q_X10_sineOf (S.2.2.2.2 a 5)) (q_X10_cosineOf g)) (q_X10_cosineOf (S.2.2.2.2 a 5))) (q_X10_cosineOf g) (-(q_X10_sineOf g)) 0) (-(q_X10_dot (q_X10_cosineOf (S.2.2.2.2 a 5)) (q_X10_sineOf g))) (-(q_X10_dot (q_X10_cosineOf (S.2.2.2.2 a 5)) (q_X10_cosineOf g))) (q_X10_sineOf (S.2.2.2.2 a 5)) := by
      unfold q_X6_setRows
      dsimp only
      rw [k2, if_neg h2]
    rw [e]
    unfold rwD
    rw [if_neg h2]
    exact set_3 _ _ _ _ _ _ _ _ _ _
theorem rwD_st {S Y : gSc} {F : Nat → Int32} {g : Int32} (h : rwD S F g) (e8 : Y.1 8 = S.1 8) (e9 : Y.1 9 = S.1 9) (e10 : Y.1 10 = S.1 10) : rwD Y F g := by
  unfold rwD row3 at h ⊢
  rw [e8, e9, e10]
  exact h
theorem by_eq {M : gSm} {S : gSc} (k : skd M S) (x y z : Int32) : q_X11_by M x.toInt64 y.toInt64 z.toInt64 = (((S.1 1 13).toInt64 * x.toInt64) + ((S.1 1 14).toInt64 * y.toInt64)) + ((S.1 1 15).toInt64 * z.toInt64) := by
  unfold q_X11_by
  rw [k.1, k.2.1, k.2.2]
theorem by8 {M : gSm} {S : gSc} (k : skd M S) {x y z : Int32} (h : row3 S 8 x y z) : q_X11_by M x.toInt64 y.toInt64 z.toInt64 = q_X5_sunBy_8 S := by
  unfold q_X5_sunBy_8
  rw [by_eq k, h.1, h.2.1, h.2.2]
theorem by9 {M : gSm} {S : gSc} (k : skd M S) {x y z : Int32} (h : row3 S 9 x y z) : q_X11_by M x.toInt64 y.toInt64 z.toInt64 = q_X5_sunBy_9 S := by
  unfold q_X5_sunBy_9
  rw [by_eq k, h.1, h.2.1, h.2.2]
theorem by10 {M : gSm} {S : gSc} (k : skd M S) {x y z : Int32} (h : row3 S 10 x y z) : q_X11_by M x.toInt64 y.toInt64 z.toInt64 = q_X5_sunBy_10 S := by
  unfold q_X5_sunBy_10
  rw [by_eq k, h.1, h.2.1, h.2.2]
theorem sun_all {M : gSm} {S : gSc} {p : Int32} {F : Nat → Int32} {g : Int32} (k : skd M S) (hF : dF M p F) (hg : g.toInt < 2147467264) (hr : rwD S F g) : q_X11_sunBy M p g.toInt64 0 = q_X5_sunBy_8 S ∧ q_X11_sunBy M p g.toInt64 1 = q_X5_sunBy_9 S ∧ q_X11_sunBy M p g.toInt64 2 = q_X5_sunBy_10 S := by
  have o1 := ok_eq hF (k := 1) (by decide) (by decide)
  have o2 := ok_eq hF (k := 2) (by decide) (by decide)
  obtain ⟨-, -, -, -, -, f5, -, hok⟩ := hF
  have kd := (kd_of hok).1
  have b5 := hok.2.2.1
  have z0 : (0 : Int32).toInt64 = 0 := by decide
  have z16 : (16384 : Int32).toInt64 = 16384 := by decide
  have e10 : ((1 : Int32) = 0) = False := eq_false (by decide)
  have e01 : ((0 : Int32) = 1) = False := eq_false (by decide)
  have e20 : ((2 : Int32) = 0) = False := eq_false (by decide)
  have e21 : ((2 : Int32) = 1) = False := eq_false (by decide)
  have bg := sin_b g
  have bc := cos_b g
  have bt := sin_b (F 5)
  have bu := cos_b (F 5)
  have c5 := cos_eq (p := F 5) (by omega)
  unfold q_X11_sunBy
  dsimp only
  rw [o1, o2, f5, sin_eq, sin_eq, cos_eq hg, c5]
  unfold rwD at hr
  rcases kd with ⟨a, b⟩ | ⟨a, b⟩ | ⟨a, b⟩
  · rw [b, a] at hr ⊢
    simp only [e10, e01, e20, e21, if_true, if_false] at hr ⊢
    refine ⟨?_, ?_, ?_⟩
    · have q := by8 k hr.1; rwa [z0, z16] at q
    · have q := by9 k hr.2.1; rwa [z0, z16] at q
    · have q := by10 k hr.2.2; rwa [z0, z16] at q
  · rw [b, a] at hr ⊢
    simp only [e10, e01, e20, e21, if_true, if_false] at hr ⊢
    refine ⟨?_, ?_, ?_⟩
    · have q := by8 k hr.1; rwa [z0] at q
    · have q := by9 k hr.2.1; rwa [z0, n64 (by omega)] at q
    · have q := by10 k hr.2.2; rwa [z0, z16] at q
  · rw [b, a] at hr ⊢
    simp only [e10, e01, e20, e21, if_true, if_false] at hr ⊢
    have t1 := dot_b bu bg
    have t2 := dot_b bu bc
    refine ⟨?_, ?_, ?_⟩
    · rw [dot_e bt bg, dot_e bt bc]; exact by8 k hr.1
    · have q := by9 k hr.2.1; rwa [z0, n64 (by omega)] at q
    · rw [dot_e bu bg, dot_e bu bc]
      have q := by10 k hr.2.2
      rwa [n64 (by omega), n64 (by omega)] at q
