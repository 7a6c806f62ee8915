/-! PURE 12: readings, how late a dial is -/
def mF (Y Z : gSm) : Prop := mE Y Z ∧ Y.1 10 = Z.1 10 ∧ Y.2 8 = Z.2 8 ∧ Y.2 9 = Z.2 9
theorem mF_rf {Z : gSm} : mF Z Z := ⟨mE_rf, rfl, rfl, rfl⟩
theorem mF_tr {X Y Z : gSm} (h : mF X Y) (g : mF Y Z) : mF X Z := ⟨mE_tr h.1 g.1, h.2.1.trans g.2.1, h.2.2.1.trans g.2.2.1, h.2.2.2.trans g.2.2.2⟩
theorem mF_li (M : gSm) (h k : Int32) (x y : Int64) : mF (q_X11_lies M h k x y).2 M := by
  unfold q_X11_lies
  dsimp only
  (repeat' split) <;> first | exact mF_rf | exact ⟨⟨⟨⟨rfl, rfl, rfl, rfl, rfl⟩, rfl, rfl, rfl, rfl⟩, rfl, rfl⟩, rfl, rfl, rfl⟩
theorem mF_ir (M : gSm) (p d m : Int32) : ∀ (n : Nat) (v4 v6 : Int64) (v8 v9 : Int32) (Z : gSm), mF (q_X11_isRead_b30 M p d m n v4 v6 v8 v9 Z).2 Z
  | 0, _, _, _, _, _ => mF_rf
  | n + 1, v4, v6, v8, v9, Z => by
    rw [q_X11_isRead_b30]
    dsimp only
    have h := mF_li Z v8 v9 v4 v6
    generalize q_X11_lies Z v8 v9 v4 v6 = T at h ⊢
    (repeat' split) <;> first | exact mF_rf | exact mF_ir M p d m n _ _ _ _ _ | exact h | exact mF_tr (mF_ir M p d m n _ _ _ _ _) h
def cF (Y Z : gSc) : Prop := kQ Y Z ∧ Y.1 13 3 = Z.1 13 3 ∧ Y.1 14 = Z.1 14 ∧ Y.1 15 = Z.1 15 ∧ Y.1 16 = Z.1 16
theorem cF_rf {Z : gSc} : cF Z Z := ⟨kQ_rf, rfl, rfl, rfl, rfl⟩
theorem cF_tr {X Y Z : gSc} (h : cF X Y) (g : cF Y Z) : cF X Z := ⟨kQ_tr h.1 g.1, h.2.1.trans g.2.1, h.2.2.1.trans g.2.2.1, h.2.2.2.1.trans g.2.2.2.1, h.2.2.2.2.trans g.2.2.2.2⟩
theorem cF_sb (S : gSc) (a b : Int32) (x y : Int64) : cF (q_X3_showBetween S a b x y).2 S := by
  refine ⟨kQ_sb S a b x y, sb_c S a b x y, ?_, ?_, ?_⟩
  all_goals
    unfold q_X3_showBetween
    dsimp only
    (repeat' split) <;> rfl
theorem cF_sw (S : gSc) (p1 p2 p3 : Int32) : ∀ (n : Nat) (v4 v5 : Int32) (Z : gSc), cF (q_X3_show_b7 S p1 p2 p3 n v4 v5 Z).2 Z
  | 0, _, _, _ => cF_rf
  | n + 1, v4, v5, Z => by
    rw [q_X3_show_b7]
    dsimp only
    have h := cF_sb Z v4 v5 p1.toInt64 p2.toInt64
    generalize q_X3_showBetween Z v4 v5 p1.toInt64 p2.toInt64 = T at h ⊢
    (repeat' split) <;> first | exact cF_rf | exact cF_sw S p1 p2 p3 n _ _ _ | exact h | exact cF_tr (cF_sw S p1 p2 p3 n _ _ _) h
theorem mkI_F {h : Nat} {N N2 : gSm} {Y Y2 : gSc} (i : mkI h N Y) (m : mF N2 N) (c : cF Y2 Y) : mkI h N2 Y2 := mkI_k i m.2.1 m.2.2.1 m.2.2.2 c.2.1 c.2.2.1 c.2.2.2.1 c.2.2.2.2
/-- both answers of a look for a reading -/
def Rl (A : Int32 × gSm) (B : Int32 × gSc) : Prop := A.1 = B.1 ∧ (A.1 = 0 ∨ A.1 = 1) ∧ (¬ A.1 = 0 → rdO A.2 B.2)
theorem Rl_0 {N : gSm} {Y : gSc} : Rl (0, N) (0, Y) := ⟨rfl, Or.inl rfl, fun q => absurd rfl q⟩
def lst (f : Nat → Int32) (h : Nat) (v8 v4 : Int32) : Prop := (v8 = -1 ∧ v4 = -2000000005) ∨ ∃ h0, v8 = nI h0 ∧ v4 = nI (mct f h0) ∧ h0 < h ∧ ¬ f h0 = 0
theorem li_01 (M : gSm) (h k : Int32) (x y : Int64) : (q_X11_lies M h k x y).1 = 0 ∨ (q_X11_lies M h k x y).1 = 1 := by
  unfold q_X11_lies
  dsimp only
  (repeat' split) <;> first | exact Or.inl rfl | exact Or.inr rfl
theorem ir_z {M0 N : gSm} {S1 Y : gSc} {p d m x y rg : Int32} (mk : mkI 24 N Y) (hg : rg = 0 ↔ ¬ q_X11_get N p 0 = 5) : ∀ (n h : Nat), h + n = 25 → 0 < n → ∀ (n2 : Nat) (v8 v4 : Int32), mct (N.1 10) 24 < mct (N.1 10) h + n2 → lst (N.1 10) h v8 v4 → Rl (q_X11_isRead_b30 M0 p d m n x.toInt64 y.toInt64 v8 (nI h) N) (q_X3_show_b7 S1 x y rg n2 v4 (nI (mct (N.1 10) h)) Y)
  | 0, h => fun _ h2 => absurd h2 (Nat.lt_irrefl 0)
  | n + 1, h => by
    intro h1 _ n2 v8 v4 hn hl
    have l24 := mct_le (N.1 10) 24
    have lh := mct_le (N.1 10) h
    cases n2 with
    | zero => 
      have := mct_m (f := N.1 10) (show h ≤ 24 by omega)
      exact absurd hn (by omega)
    | succ n2 =>
    rw [q_X11_isRead_b30]
    dsimp only
    by_cases ch : h = 24
    · subst ch
      have cn : (24 : Int32) ≤ nI 24 := nI_le (Nat.le_refl _) (by decide)
      rw [if_pos cn, q_X3_show_b7]
      dsimp only
      rw [if_pos (show Y.1 13 3 ≤ nI (mct (N.1 10) 24) by rw [mk.1]; exact nI_le (Nat.le_refl _) (by omega))]
      exact Rl_0
    · have cn : ¬ (24 : Int32) ≤ nI h := nI_ge (a := h) (b := 24) (by omega) (by decide)
      have ec : (nI h).toNatClampNeg = h := nI_clamp (by omega)
      rw [if_neg cn, ec, nI_1]
      by_cases hb : N.1 10 h = 0
      · rw [if_pos hb]
        have ih := ir_z (M0 := M0) (S1 := S1) (d := d) (m := m) (x := x) (y := y) mk hg n (h + 1) (by omega) (by omega) (n2 + 1) v8 v4 (by rw [mct_n hb]; exact hn) (by
          rcases hl with hl | ⟨h0, e1, e2, e3, e4⟩
          · exact Or.inl hl
          · exact Or.inr ⟨h0, e1, e2, by omega, e4⟩)
        rwa [mct_n hb] at ih
      · rw [if_neg hb]
        have lt := mct_lt hb (show h < 24 by omega)
        have e2 : (nI (mct (N.1 10) h)).toNatClampNeg = mct (N.1 10) h := nI_clamp (by omega)
        have mm := mk.2 h (by omega) hb
        rw [q_X3_show_b7]
        dsimp only
        rw [if_neg (show ¬ Y.1 13 3 ≤ nI (mct (N.1 10) h) by rw [mk.1]; exact nI_ge lt (by omega)), e2, nI_1, ← mct_y hb]
        have skip : ∀ v8 v4, lst (N.1 10) h v8 v4 → Rl (q_X11_isRead_b30 M0 p d m n x.toInt64 y.toInt64 v8 (nI (h + 1)) N) (q_X3_show_b7 S1 x y rg n2 v4 (nI (mct (N.1 10) (h + 1))) Y) := fun v8 v4 hl =>
          ir_z (M0 := M0) (S1 := S1) (d := d) (m := m) (x := x) (y := y) mk hg n (h + 1) (by omega) (by omega) n2 v8 v4 (by rw [mct_y hb]; omega) (by
            rcases hl with hl | ⟨h0, e1, e2, e3, e4⟩
            · exact Or.inl hl
            · exact Or.inr ⟨h0, e1, e2, by omega, e4⟩)
        have go := ir_z (M0 := M0) (S1 := S1) (d := d) (m := m) (x := x) (y := y) mk hg n (h + 1) (by omega) (by omega) n2 (nI h) (nI (mct (N.1 10) h)) (by rw [mct_y hb]; omega) (Or.inr ⟨h, rfl, rfl, by omega, hb⟩)
        have body : Rl (if v8 < 0 then q_X11_isRead_b30 M0 p d m n x.toInt64 y.toInt64 (nI h) (nI (h + 1)) N else (if (q_X11_lies N v8 (nI h) x.toInt64 y.toInt64).1 = 0 then q_X11_isRead_b30 M0 p d m n x.toInt64 y.toInt64 (nI h) (nI (h + 1)) (q_X11_lies N v8 (nI h) x.toInt64 y.toInt64).2 else (1, (q_X11_lies N v8 (nI h) x.toInt64 y.toInt64).2))) (if v4 = (-2000000005) then q_X3_show_b7 S1 x y rg n2 (nI (mct (N.1 10) h)) (nI (mct (N.1 10) (h + 1))) Y else (if (q_X3_showBetween Y v4 (nI (mct (N.1 10) h)) x.toInt64 y.toInt64).1 = 0 then q_X3_show_b7 S1 x y rg n2 (nI (mct (N.1 10) h)) (nI (mct (N.1 10) (h + 1))) (q_X3_showBetween Y v4 (nI (mct (N.1 10) h)) x.toInt64 y.toInt64).2 else (1, (q_X3_showBetween Y v4 (nI (mct (N.1 10) h)) x.toInt64 y.toInt64).2))) := by
          rcases hl with ⟨a1, a2⟩ | ⟨h0, a1, a2, a3, a4⟩
          · rw [a1, a2, if_pos (show (-1 : Int32) < 0 by decide), if_pos rfl]
            exact go
          · have lh0 := mct_le (N.1 10) h0
            have li := li_z (x := x) (y := y) mk a4 hb a3 (by omega)
            rw [a1, a2, if_neg (nI_pos (by omega)), if_neg (nI_noneB (by omega)), ← li.1]
            generalize q_X11_lies N (nI h0) (nI h) x.toInt64 y.toInt64 = A at li ⊢
            generalize q_X3_showBetween Y (nI (mct (N.1 10) h0)) (nI (mct (N.1 10) h)) x.toInt64 y.toInt64 = B at li ⊢
            by_cases g : A.1 = 0
            · rw [if_pos g, if_pos g, (li.2.1 g).1, (li.2.1 g).2]
              exact go
            · rw [if_neg g, if_neg g]
              exact ⟨rfl, Or.inr rfl, fun _ => li.2.2 g⟩
        by_cases c5 : rg = 0
        · rw [if_neg (hg.mp c5), if_pos c5]
          exact body
        · have c5' : q_X11_get N p 0 = 5 := Decidable.byContradiction (fun q => c5 (hg.mpr q))
          rw [if_pos c5', if_neg c5, mm.2.1.2]
          by_cases c6 : Y.1 16 (mct (N.1 10) h) = y
          · rw [if_pos c6, if_pos ((eq64 _ _).mpr c6)]
            exact body
          · rw [if_neg c6, if_neg (fun q => c6 ((eq64 _ _).mp q))]
            exact skip v8 v4 hl
/-- one try for a reading: both alike, ready again -/
theorem has_eq {N : gSm} {S0 Y : gSc} {p d m : Int32} {a : Nat} (r : rdy N S0 Y p a (S0.2.2.2.2 a 4)) (hy : dyd Y d) (hd : 0 ≤ d.toInt ∧ d.toInt ≤ 365) (hm : 0 ≤ m.toInt ∧ m.toInt ≤ 1439) (mk : mkI 24 N Y) : Rl (q_X11_isRead N p d m) (q_X10_hasReading Y a m) ∧ rdy (q_X11_isRead N p d m).2 S0 (q_X10_hasReading Y a m).2 p a (S0.2.2.2.2 a 4) ∧ dyd (q_X10_hasReading Y a m).2 d ∧ mkI 24 (q_X11_isRead N p d m).2 (q_X10_hasReading Y a m).2 := by
  unfold q_X11_isRead q_X10_hasReading
  dsimp only
  have q := r.now (d := d) (m := m) hy hd hm
  have k14 : (q_X6_cast (q_X8_setMinute Y m)).2.1 14 = Y.1 14 := sx_c (by decide) (by decide)
  have k15 : (q_X6_cast (q_X8_setMinute Y m)).2.1 15 = Y.1 15 := sx_c (by decide) (by decide)
  have k16 : (q_X6_cast (q_X8_setMinute Y m)).2.1 16 = Y.1 16 := sx_c (by decide) (by decide)
  have k13 : (q_X6_cast (q_X8_setMinute Y m)).2.1 13 = Y.1 13 := sx_c (by decide) (by decide)
  have m10 := now_10 N p d m
  have m8 := now_7 N p d m (k := 8) (by decide)
  have m9 := now_7 N p d m (k := 9) (by decide)
  generalize q_X6_cast (q_X8_setMinute Y m) = R at q k13 k14 k15 k16 ⊢
  generalize q_X11_stateNow N p d m = T at q m10 m8 m9 ⊢
  have hk : mkI 24 T.2 R.2 := mkI_k mk m10 m8 m9 (by rw [k13]) k14 k15 k16
  rw [← q.1.1]
  by_cases g : R.1 = 0
  · rw [if_pos g, if_pos g]
    have l := (q.1.2 g).1
    have rr := q.2.2.1
    have kd := (kd_of rr.2.1.2.2.2.2.2.2.2).2.2.1
    have eA : q_X1_isA R.2 a 3 = isK (S0.2.2.2.2 a 0) 3 := by rw [isA_K, rr.pool]
    have hg : q_X1_isA R.2 a 3 = 0 ↔ ¬ q_X11_get T.2 p 0 = 5 := by rw [eA, rr.2.1.1]; exact kd
    have z := ir_z (M0 := N) (S1 := R.2) (d := d) (m := m) (x := R.2.1 7 12) (y := R.2.1 7 13) hk hg 25 0 (by decide) (by decide) 25 (-1) (-2000000005) (by have := mct_le (T.2.1 10) 24; show _ < 0 + 25; omega) (Or.inl ⟨rfl, rfl⟩)
    rw [show mct (T.2.1 10) 0 = 0 from rfl, nI_0, ← l.1, ← l.2] at z
    unfold q_X3_show
    have f1 := mF_ir N p d m 25 (T.2.2 0 14) (T.2.2 0 15) (-1) 0 T.2
    have f2 := cF_sw R.2 (R.2.1 7 12) (R.2.1 7 13) (q_X1_isA R.2 a 3) 25 (-2000000005) 0 R.2
    generalize q_X11_isRead_b30 N p d m 25 (T.2.2 0 14) (T.2.2 0 15) (-1) 0 T.2 = A at z f1 ⊢
    generalize q_X3_show_b7 R.2 (R.2.1 7 12) (R.2.1 7 13) (q_X1_isA R.2 a 3) 25 (-2000000005) 0 R.2 = B at z f2 ⊢
    have e : (if B.1 = 0 then ((0 : Int32), B.2) else (1, B.2)) = (A.1, B.2) := by
      rw [← z.1]
      rcases z.2.1 with w | w
      · rw [w, if_pos rfl]
      · rw [w, if_neg (by decide)]
    rw [e]
    exact ⟨⟨rfl, z.2.1, z.2.2⟩, (rr.m f1.1).k f2.1, dyd_st q.2.2.2 f2.1, mkI_F hk f1 f2⟩
  · rw [if_neg g, if_neg g]
    exact ⟨Rl_0, q.2.2.1, q.2.2.2, hk⟩
theorem sm_0q (S : gSc) (a : Nat) (d : Int32) : q_X10_setMarks S a d = q_X10_setMarks_b18 S a d 25 0 (q_X8_setDay (pI S 13 3 0) d) := by
  unfold q_X10_setMarks
  dsimp only
theorem mk_0 {M : gSm} {S : gSc} {p d : Int32} {a : Nat} (h : inv M S) (e4 : dF M p (S.2.2.2.2 a)) (hd : 0 ≤ d.toInt ∧ d.toInt ≤ 365) : rdy (q_X11_findMarks M p d) S (q_X10_setMarks (q_X6_setUp S a) a d) p a (S.2.2.2.2 a 4) ∧ dyd (q_X10_setMarks (q_X6_setUp S a) a d) d ∧ mkI 24 (q_X11_findMarks M p d) (q_X10_setMarks (q_X6_setUp S a) a d) := by
  have r0 := rdy_0 (Y := S) h e4 cE_rf tE_rf rfl
  have k13 : kQ (pI (q_X6_setUp S a) 13 3 0) (q_X6_setUp S a) := kQ_pI (by decide)
  have r := (r0.k k13).day d
  have i0 : mkI 0 M (q_X8_setDay (pI (q_X6_setUp S a) 13 3 0) d) := ⟨by rw [kc_setDay (by decide), pI_s, pk_us]; rfl, fun j hj => absurd hj (Nat.not_lt_zero j)⟩
  have z := fm_z (M0 := M) (S1 := q_X6_setUp S a) hd 25 0 M _ (by decide) (by decide) r.1 r.2 i0
  rw [nI_0] at z
  rw [sm_0q]
  exact z
theorem P_read {M : gSm} {S : gSc} (h : inv M S) (p d m w : Int32) : (q_X10_read S p d m w).1 = (q_X11_read M p d m w).1 ∧ inv (q_X11_read M p d m w).2 (q_X10_read S p d m w).2 := by
  unfold q_X10_read q_X11_read
  dsimp only
  rw [pl_eq, tm_eq, wi_eq]
  by_cases cw : q_X11_isIn (w.toInt64) 0 2 = 0
  · rw [if_pos cw, if_pos cw]
    by_cases c1 : q_X11_isPlace p = 0
    · rw [if_pos c1]; exact ⟨rfl, h⟩
    · rw [if_neg c1]
      by_cases c2 : q_X11_isTime d m = 0
      · rw [if_pos c2]; exact ⟨rfl, h⟩
      · rw [if_neg c2]; exact ⟨rfl, h⟩
  · rw [if_neg cw, if_neg cw]
    rcases ask_3 h.2.1 p d m with ⟨e, c | ⟨c1, c2⟩⟩ | ⟨c1, c2, ⟨e, e1⟩ | ⟨e, a, e1, e4⟩⟩
    · rw [e, if_pos c, if_neg nBAD]
      exact ⟨rfl, h⟩
    · rw [e, if_neg c1, if_pos c2, if_neg nBAD]
      exact ⟨rfl, h⟩
    · rw [e, if_neg c1, if_neg c2, if_neg nNO, e1]
      exact ⟨rfl, h⟩
    · rw [e, if_neg c1, if_neg c2, if_pos y00, e1]
      dsimp only
      have ht := isTm_of rfl c2
      have k := mk_0 h e4 ht.1
      generalize q_X10_setMarks (q_X6_setUp S a) a d = Y at k ⊢
      generalize q_X11_findMarks M p d = N at k ⊢
      have z := has_eq k.1 k.2.1 ht.1 ht.2 k.2.2
      generalize q_X11_isRead N p d m = A at z ⊢
      generalize q_X10_hasReading Y a m = B at z ⊢
      have iv := z.2.1.inv
      rw [← z.1.1]
      by_cases g : A.1 = 0
      · rw [if_pos g, if_pos g]; exact ⟨rfl, iv⟩
      · rw [if_neg g, if_neg g]
        obtain ⟨o1, o2, o3, -, -⟩ := z.1.2.2 g
        by_cases w0 : w = 0
        · rw [if_pos w0, if_pos w0]; exact ⟨o1.symm, iv⟩
        · rw [if_neg w0, if_neg w0]
          by_cases w1 : w = 1
          · rw [if_pos w1, if_pos w1]; exact ⟨o2.symm, iv⟩
          · rw [if_neg w1, if_neg w1]
            exact ⟨by show B.2.1 13 6 = (A.2.2 0 22).toInt32; rw [o3, t6432], iv⟩
/-- the difference of the shown minute and the minute, in both sizes -/
theorem df_z {s m : Int32} (s0 : 0 ≤ s.toInt) (s1 : s.toInt ≤ 3000) (m0 : 0 ≤ m.toInt) (m1 : m.toInt ≤ 1439) : (if m.toInt64 ≤ s.toInt64 then s.toInt64 - m.toInt64 else m.toInt64 - s.toInt64) = (if 0 ≤ (s - m) then (s - m) else 0 - (s - m)).toInt64 ∧ 0 ≤ (if 0 ≤ (s - m) then (s - m) else 0 - (s - m)).toInt := by
  have e := i_sub (a := s) (b := m) (by omega) (by omega)
  have e1 := s64 (a := s) (b := m) (by omega) (by omega)
  have e2 := i_sub (a := 0) (b := s - m) (by rw [i_0]; omega) (by rw [i_0]; omega)
  rw [i_0, e] at e2
  have key : (m.toInt64 ≤ s.toInt64) ↔ 0 ≤ (s - m) := by
    rw [le64, Int32.le_iff_toInt_le, Int32.le_iff_toInt_le, i_0, e]
    omega
  by_cases c : 0 ≤ (s - m)
  · have c' := i_le c
    rw [i_0, e] at c'
    rw [if_pos c, if_pos (key.mpr c)]
    exact ⟨e1.symm, by omega⟩
  · have c' := i_nle c
    rw [i_0, e] at c'
    rw [if_neg c, if_neg (fun q => c (key.mp q))]
    refine ⟨x_inj ?_, by omega⟩
    rw [l_sub (by rw [t64, t64]; omega) (by rw [t64, t64]; omega), t64, t64, t64, e2]
    omega
def ltI (c : Int32) (most : Int64) (fst gr mg : Int32) : Prop := (c = 0 → most = -1 ∧ gr = -2000000005 ∧ mg = -2000000005) ∧ (¬ c = 0 → most = gr.toInt64 ∧ fst = mg ∧ 0 ≤ gr.toInt)
theorem lt_z {M0 : gSm} {S0 S1 : gSc} {P p d w : Int32} {a : Nat} (hd : 0 ≤ d.toInt ∧ d.toInt ≤ 365) (hw0 : 0 ≤ w.toInt) (hw2 : w.toInt ≤ 2) : ∀ (n i : Nat) (N : gSm) (Y : gSc) (c : Nat) (most : Int64) (fst gr mg : Int32), i + n = 1441 → 0 < n → c ≤ i → rdy N S0 Y p a (S0.2.2.2.2 a 4) → dyd Y d → mkI 24 N Y → ltI (nI c) most fst gr mg → (q_X10_late_b79 S1 P d w n a gr mg (nI c) (nI i) Y).1 = (q_X11_late_b55 M0 p d w n (nI c) most fst (nI i) N).1 ∧ inv (q_X11_late_b55 M0 p d w n (nI c) most fst (nI i) N).2 (q_X10_late_b79 S1 P d w n a gr mg (nI c) (nI i) Y).2
  | 0, i, N, Y, c, most, fst, gr, mg => fun _ h => absurd h (Nat.lt_irrefl 0)
  | n + 1, i, N, Y, c, most, fst, gr, mg => by
    intro h1 _ hc r hy mk hI
    rw [q_X11_late_b55, q_X10_late_b79]
    dsimp only
    have ti : (nI i).toInt = (i : Int) := nI_toInt (by omega)
    by_cases ci : i = 1440
    · subst ci
      have g2 : (1440 : Int32) ≤ nI 1440 := nI_le (Nat.le_refl _) (by decide)
      rw [if_pos g2, if_pos g2]
      have iv := r.inv
      have cs : w = 0 ∨ w = 1 ∨ w = 2 := by
        have h : w.toInt = 0 ∨ w.toInt = 1 ∨ w.toInt = 2 := by omega
        rcases h with h | h | h
        · exact Or.inl (y_inj (h.trans (by decide)))
        · exact Or.inr (Or.inl (y_inj (h.trans (by decide))))
        · exact Or.inr (Or.inr (y_inj (h.trans (by decide))))
      rcases cs with e | e | e
      · rw [e, if_pos rfl, if_neg (show ¬ (0 : Int32) = 2 by decide), if_pos rfl]
        by_cases c0 : nI c = 0
        · rw [if_pos c0]; exact ⟨(hI.1 c0).2.1, iv⟩
        · rw [if_neg c0]
          exact ⟨by show gr = most.toInt32; rw [(hI.2 c0).1, t6432], iv⟩
      · rw [e, if_neg (show ¬ (1 : Int32) = 0 by decide), if_pos rfl, if_neg (show ¬ (1 : Int32) = 2 by decide), if_neg (show ¬ (1 : Int32) = 0 by decide)]
        by_cases c0 : nI c = 0
        · rw [if_pos c0]; exact ⟨(hI.1 c0).2.2, iv⟩
        · rw [if_neg c0]; exact ⟨(hI.2 c0).2.1.symm, iv⟩
      · rw [e, if_neg (show ¬ (2 : Int32) = 0 by decide), if_neg (show ¬ (2 : Int32) = 1 by decide), if_pos rfl]
        exact ⟨rfl, iv⟩
    · have g2 : ¬ (1440 : Int32) ≤ nI i := nI_ge (a := i) (b := 1440) (by omega) (by decide)
      rw [if_neg g2, if_neg g2, nI_1, nI_1]
      have z := has_eq (m := nI i) r hy hd (by rw [ti]; omega) mk
      generalize q_X11_isRead N p d (nI i) = A at z ⊢
      generalize q_X10_hasReading Y a (nI i) = B at z ⊢
      rw [← z.1.1]
      by_cases g : A.1 = 0
      · rw [if_pos g, if_pos g]
        exact lt_z hd hw0 hw2 n (i + 1) _ _ c most fst gr mg (by omega) (by omega) (by omega) z.2.1 z.2.2.1 z.2.2.2 hI
      · rw [if_neg g, if_neg g]
        obtain ⟨o1, o2, o3, o4, o5⟩ := z.1.2.2 g
        have df := df_z (s := B.2.1 13 6) (m := nI i) o4 o5 (by omega) (by omega)
        rw [o3]
        generalize hX : (if 0 ≤ (B.2.1 13 6 - nI i) then (B.2.1 13 6 - nI i) else 0 - (B.2.1 13 6 - nI i)) = X at df ⊢
        have nz : ¬ nI (c + 1) = 0 := nI_ne0 (by omega) (by omega)
        have cmp : (X.toInt64 ≤ most) ↔ X ≤ gr := by
          by_cases c0 : nI c = 0
          · obtain ⟨a1, a2, a3⟩ := hI.1 c0
            rw [a1, a2]
            constructor
            · intro q
              have := l_le q
              rw [t64, show (-1 : Int64).toInt = -1 by decide] at this
              omega
            · intro q
              have := i_le q
              rw [show (-2000000005 : Int32).toInt = -2000000005 by decide] at this
              omega
          · rw [(hI.2 c0).1]
            exact le64 _ _
        have up : X ≤ gr → ltI (nI (c + 1)) most fst gr mg := by
          intro q
          by_cases c0 : nI c = 0
          · rw [(hI.1 c0).2.1] at q
            have := i_le q
            rw [show (-2000000005 : Int32).toInt = -2000000005 by decide] at this
            omega
          · exact ⟨fun z => absurd z nz, fun _ => hI.2 c0⟩
        have nw : ltI (nI (c + 1)) X.toInt64 (nI i) X (nI i) := ⟨fun z => absurd z nz, fun _ => ⟨rfl, rfl, df.2⟩⟩
        have gX : ∀ U : Int64, U = X.toInt64 → (q_X10_late_b79 S1 P d w n a (if X ≤ gr then gr else X) (if X ≤ gr then mg else nI i) (nI (c + 1)) (nI (i + 1)) B.2).1 = (if U ≤ most then q_X11_late_b55 M0 p d w n (nI (c + 1)) most fst (nI (i + 1)) A.2 else q_X11_late_b55 M0 p d w n (nI (c + 1)) U (nI i) (nI (i + 1)) A.2).1 ∧ inv (if U ≤ most then q_X11_late_b55 M0 p d w n (nI (c + 1)) most fst (nI (i + 1)) A.2 else q_X11_late_b55 M0 p d w n (nI (c + 1)) U (nI i) (nI (i + 1)) A.2).2 (q_X10_late_b79 S1 P d w n a (if X ≤ gr then gr else X) (if X ≤ gr then mg else nI i) (nI (c + 1)) (nI (i + 1)) B.2).2 := by
          intro U eU
          rw [eU]
          by_cases q : X ≤ gr
          · rw [if_pos q, if_pos q, if_pos (cmp.mpr q)]
            exact lt_z hd hw0 hw2 n (i + 1) _ _ (c + 1) most fst gr mg (by omega) (by omega) (by omega) z.2.1 z.2.2.1 z.2.2.2 (up q)
          · rw [if_neg q, if_neg q, if_neg (fun z => q (cmp.mp z))]
            exact lt_z hd hw0 hw2 n (i + 1) _ _ (c + 1) X.toInt64 (nI i) X (nI i) (by omega) (by omega) (by omega) z.2.1 z.2.2.1 z.2.2.2 nw
        have cl : (if X ≤ gr then q_X10_late_b79 S1 P d w n a gr mg (nI (c + 1)) (nI (i + 1)) B.2 else q_X10_late_b79 S1 P d w n a X (nI i) (nI (c + 1)) (nI (i + 1)) B.2) = q_X10_late_b79 S1 P d w n a (if X ≤ gr then gr else X) (if X ≤ gr then mg else nI i) (nI (c + 1)) (nI (i + 1)) B.2 := by
          by_cases q : X ≤ gr
          · rw [if_pos q, if_pos q, if_pos q]
          · rw [if_neg q, if_neg q, if_neg q]
        rw [cl]
        by_cases sg : (nI i).toInt64 ≤ (B.2.1 13 6).toInt64
        · rw [if_pos sg]
          rw [if_pos sg] at df
          exact gX _ df.1
        · rw [if_neg sg]
          rw [if_neg sg] at df
          exact gX _ df.1
theorem P_late {M : gSm} {S : gSc} (h : inv M S) (p d w : Int32) : (q_X10_late S p d w).1 = (q_X11_late M p d w).1 ∧ inv (q_X11_late M p d w).2 (q_X10_late S p d w).2 := by
  unfold q_X10_late q_X11_late
  dsimp only
  rw [pl_eq, ← dy_eq, wi_eq]
  by_cases cw : q_X11_isIn (w.toInt64) 0 2 = 0
  · rw [if_pos cw, if_pos cw]
    by_cases c1 : q_X11_isPlace p = 0
    · rw [if_pos c1]; exact ⟨rfl, h⟩
    · rw [if_neg c1]
      by_cases c2 : q_X11_isTime d 0 = 0
      · rw [if_pos c2]; exact ⟨rfl, h⟩
      · rw [if_neg c2]; exact ⟨rfl, h⟩
  · rw [if_neg cw, if_neg cw]
    rcases ask_3 h.2.1 p d 0 with ⟨e, c | ⟨c1, c2⟩⟩ | ⟨c1, c2, ⟨e, e1⟩ | ⟨e, a, e1, e4⟩⟩
    · rw [e, if_pos c, if_neg nBAD]
      exact ⟨rfl, h⟩
    · rw [e, if_neg c1, if_pos c2, if_neg nBAD]
      exact ⟨rfl, h⟩
    · rw [e, if_neg c1, if_neg c2, if_neg nNO, e1]
      exact ⟨rfl, h⟩
    · rw [e, if_neg c1, if_neg c2, if_pos y00, e1]
      dsimp only
      have ht := isTm_of rfl c2
      have hw := isIn_of rfl cw
      rw [t64, l_0, show (2 : Int64).toInt = 2 by decide] at hw
      have k := mk_0 h e4 ht.1
      generalize q_X10_setMarks (q_X6_setUp S a) a d = Y at k ⊢
      generalize q_X11_findMarks M p d = N at k ⊢
      have z := lt_z (M0 := M) (S1 := S) (P := p) ht.1 hw.1 hw.2 1441 0 N Y 0 (-1) (-2000000005) (-2000000005) (-2000000005) (by decide) (by decide) (by decide) k.1 k.2.1 k.2.2 ⟨fun _ => ⟨rfl, rfl, rfl⟩, fun q => absurd rfl q⟩
      rw [nI_0] at z
      exact z
