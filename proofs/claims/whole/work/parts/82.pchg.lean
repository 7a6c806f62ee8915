/-! PURE 21: dials that are changed; undo -/
theorem sN_o {S : gSc} {q a : Nat} (k : Nat) (f : Nat → Int32) (h : a ≠ q) : (sN S q k f).2.2.2.2 a = S.2.2.2.2 a := va_up_ne _ _ h
theorem row_d {M : gSm} {p : Int32} {F : Nat → Int32} (hp : isP p) (f : dF M p F) : M.1 1 (7 * p.toNatClampNeg) = 2 + F 0 ∧ M.1 1 (7 * p.toNatClampNeg + 1) = F 1 ∧ M.1 1 (7 * p.toNatClampNeg + 2) = F 2 ∧ M.1 1 (7 * p.toNatClampNeg + 3) = F 3 ∧ M.1 1 (7 * p.toNatClampNeg + 4) = F 4 ∧ M.1 1 (7 * p.toNatClampNeg + 5) = F 5 ∧ M.1 1 (7 * p.toNatClampNeg + 6) = F 6 := by
  obtain ⟨f0, f1, f2, f3, f4, f5, f6, -⟩ := f
  rw [gt_w hp 0 (by decide) (by decide), Nat.add_zero] at f0
  rw [gt_w hp 1 (by decide) (by decide)] at f1
  rw [gt_w hp 2 (by decide) (by decide)] at f2
  rw [gt_w hp 3 (by decide) (by decide)] at f3
  rw [gt_w hp 4 (by decide) (by decide)] at f4
  rw [gt_w hp 5 (by decide) (by decide)] at f5
  rw [gt_w hp 6 (by decide) (by decide)] at f6
  exact ⟨f0, f1, f2, f3, f4, f5, f6⟩
theorem pool_put (S : gSc) (p : Int32) (o : Option Nat) : (q_X10_put S p o).2.2 = S.2.2 := qp_X10_put S p o
theorem P_move {M : gSm} {S : gSc} (h : inv M S) (p x y : Int32) (q : Nat) (hq : q ∉ S.2.2.1) : (q_X10_move S p x y q).1 = (q_X11_move M p x y).1 ∧ inv (q_X11_move M p x y).2 (q_X10_move S p x y q).2 := by
  unfold q_X10_move q_X11_move
  dsimp only
  rw [pl_eq, show q_X10_isSpot x y = q_X11_isSpot x y from rfl]
  by_cases c1 : q_X11_isPlace p = 0
  · rw [if_pos c1, if_pos c1]; exact ⟨rfl, h⟩
  · rw [if_neg c1, if_neg c1]
    by_cases c2 : q_X11_isSpot x y = 0
    · rw [if_pos c2, if_pos c2]; exact ⟨rfl, h⟩
    · rw [if_neg c2, if_neg c2]
      have hp := isPm_of rfl c1
      rcases da0_eq h.2.1 hp with ⟨e1, e2⟩ | ⟨a, e1, e2, e3, e4, e5⟩
      · rw [e1, e2, if_pos rfl]; exact ⟨rfl, h⟩
      · rw [e1, e5, if_neg (show ¬ (1 : Int32) = 0 by decide)]
        dsimp only
        have k1 := kp1 h hp
        have ne : a ≠ q := in_ne ((h.2.1 _ (isP_lt hp)).2 a e2).1 hq
        obtain ⟨r0, r1, r2, r3, r4, r5, r6⟩ := row_d hp e4
        have ok := e4.2.2.2.2.2.2.2
        unfold q_X1_withSpot
        dsimp only
        rw [sN_o 1 _ ne, pw (w := (1 : Int32)) hp 1 rfl (by decide), pw (w := (2 : Int32)) hp 2 rfl (by decide)]
        refine ⟨rfl, chg_d h hp hq _ x y _ _ _ _ (fun c hc => ?_) (fun j hj => ?_) ?_ ?_ ?_ ?_ ?_ ?_ ?_ ok.1 ok.2.1 ok.2.2.1 ok.2.2.2⟩
        · rw [pM_n hc, pM_n hc]
        · rw [pM_s, pk_un (by omega), pM_s, pk_un (by omega), k1]
        · rw [pM_s, pk_un (by omega), pM_s, pk_un (by omega), k1]; exact r0
        · rw [pM_s, pk_un (by omega), pM_s, pk_us]
        · rw [pM_s, pk_us]
        · rw [pM_s, pk_un (by omega), pM_s, pk_un (by omega), k1]; exact r3
        · rw [pM_s, pk_un (by omega), pM_s, pk_un (by omega), k1]; exact r4
        · rw [pM_s, pk_un (by omega), pM_s, pk_un (by omega), k1]; exact r5
        · rw [pM_s, pk_un (by omega), pM_s, pk_un (by omega), k1]; exact r6
theorem P_face {M : gSm} {S : gSc} (h : inv M S) (p g : Int32) (q : Nat) (hq : q ∉ S.2.2.1) : (q_X10_face S p g q).1 = (q_X11_face M p g).1 ∧ inv (q_X11_face M p g).2 (q_X10_face S p g q).2 := by
  unfold q_X10_face q_X11_face
  dsimp only
  rw [pl_eq, wi_eq]
  by_cases c1 : q_X11_isPlace p = 0
  · rw [if_pos c1, if_pos c1]; exact ⟨rfl, h⟩
  · rw [if_neg c1, if_neg c1]
    by_cases c2 : q_X11_isIn (g.toInt64) 0 65535 = 0
    · rw [if_pos c2, if_pos c2]; exact ⟨rfl, h⟩
    · rw [if_neg c2, if_neg c2]
      have hp := isPm_of rfl c1
      have b := isIn_of rfl c2
      rw [t64, l_0, show (65535 : Int64).toInt = 65535 by decide] at b
      rcases da_eq (k := 1) h.2.1 hp (by decide) (by decide) with ⟨e1, e2⟩ | ⟨a, e1, e2, e3, e4, e5⟩
      · rw [e1, if_pos e2]; exact ⟨rfl, h⟩
      · rw [e1, if_neg e5]
        dsimp only
        have k1 := kp1 h hp
        have ne : a ≠ q := in_ne ((h.2.1 _ (isP_lt hp)).2 a e2).1 hq
        obtain ⟨r0, r1, r2, r3, r4, r5, r6⟩ := row_d hp e4
        have ok := e4.2.2.2.2.2.2.2
        unfold q_X1_withFacing
        dsimp only
        rw [sN_o 1 _ ne, pw (w := (4 : Int32)) hp 4 rfl (by decide), pool_put, e4.2.2.2.2.1]
        refine ⟨?_, chg_d h hp hq _ _ _ _ g _ _ (fun c hc => ?_) (fun j hj => ?_) ?_ ?_ ?_ ?_ ?_ ?_ ?_ ok.1 b ok.2.2.1 ok.2.2.2⟩
        · obtain ⟨-, nx, -⟩ := new_d hq (S.2.2.2.2 a 0) (S.2.2.2.2 a 1) (S.2.2.2.2 a 2) (S.2.2.2.2 a 3) g (S.2.2.2.2 a 5) (S.2.2.2.2 a 6)
          rw [(nx a ((h.2.1 _ (isP_lt hp)).2 a e2).1).2.2]
        · rw [pM_n hc]
        · rw [pM_s, pk_un (by omega), k1]
        · rw [pM_s, pk_un (by omega), k1]; exact r0
        · rw [pM_s, pk_un (by omega), k1]; exact r1
        · rw [pM_s, pk_un (by omega), k1]; exact r2
        · rw [pM_s, pk_un (by omega), k1]; exact r3
        · rw [pM_s, pk_us]
        · rw [pM_s, pk_un (by omega), k1]; exact r5
        · rw [pM_s, pk_un (by omega), k1]; exact r6
theorem P_tilt {M : gSm} {S : gSc} (h : inv M S) (p g : Int32) (q : Nat) (hq : q ∉ S.2.2.1) : (q_X10_tilt S p g q).1 = (q_X11_tilt M p g).1 ∧ inv (q_X11_tilt M p g).2 (q_X10_tilt S p g q).2 := by
  unfold q_X10_tilt q_X11_tilt
  dsimp only
  rw [pl_eq, wi_eq]
  by_cases c1 : q_X11_isPlace p = 0
  · rw [if_pos c1, if_pos c1]; exact ⟨rfl, h⟩
  · rw [if_neg c1, if_neg c1]
    by_cases c2 : q_X11_isIn (g.toInt64) 0 16384 = 0
    · rw [if_pos c2, if_pos c2]; exact ⟨rfl, h⟩
    · rw [if_neg c2, if_neg c2]
      have hp := isPm_of rfl c1
      have b := isIn_of rfl c2
      rw [t64, l_0, show (16384 : Int64).toInt = 16384 by decide] at b
      rcases da_eq (k := 2) h.2.1 hp (by decide) (by decide) with ⟨e1, e2⟩ | ⟨a, e1, e2, e3, e4, e5⟩
      · rw [e1, if_pos e2]; exact ⟨rfl, h⟩
      · rw [e1, if_neg e5]
        dsimp only
        have k1 := kp1 h hp
        have ne : a ≠ q := in_ne ((h.2.1 _ (isP_lt hp)).2 a e2).1 hq
        obtain ⟨r0, r1, r2, r3, r4, r5, r6⟩ := row_d hp e4
        have ok := e4.2.2.2.2.2.2.2
        unfold q_X1_withSlant
        dsimp only
        rw [sN_o 1 _ ne, pw (w := (5 : Int32)) hp 5 rfl (by decide), pool_put, e4.2.2.2.2.2.1]
        refine ⟨?_, chg_d h hp hq _ _ _ _ _ g _ (fun c hc => ?_) (fun j hj => ?_) ?_ ?_ ?_ ?_ ?_ ?_ ?_ ok.1 ok.2.1 b ok.2.2.2⟩
        · obtain ⟨-, nx, -⟩ := new_d hq (S.2.2.2.2 a 0) (S.2.2.2.2 a 1) (S.2.2.2.2 a 2) (S.2.2.2.2 a 3) (S.2.2.2.2 a 4) g (S.2.2.2.2 a 6)
          rw [(nx a ((h.2.1 _ (isP_lt hp)).2 a e2).1).2.2]
        · rw [pM_n hc]
        · rw [pM_s, pk_un (by omega), k1]
        · rw [pM_s, pk_un (by omega), k1]; exact r0
        · rw [pM_s, pk_un (by omega), k1]; exact r1
        · rw [pM_s, pk_un (by omega), k1]; exact r2
        · rw [pM_s, pk_un (by omega), k1]; exact r3
        · rw [pM_s, pk_un (by omega), k1]; exact r4
        · rw [pM_s, pk_us]
        · rw [pM_s, pk_un (by omega), k1]; exact r6
theorem hr_b {x y z : Int32} (hx : 0 ≤ x.toInt ∧ x.toInt < 16777216) (hz : 0 ≤ z.toInt ∧ z.toInt < 16777216) : 0 ≤ ((x &&& y) ||| z).toInt ∧ ((x &&& y) ||| z).toInt < 16777216 := by
  have t : ∀ w : Int32, 0 ≤ w.toInt → w.toInt < 16777216 → w.toBitVec.toNat < 16777216 := by
    intro w h0 h1
    have b := i_bv w
    have l := w.toBitVec.isLt
    split at b <;> omega
  have hx' := t x hx.1 hx.2
  have hz' := t z hz.1 hz.2
  have e : ((x &&& y) ||| z).toBitVec.toNat = (x.toBitVec.toNat &&& y.toBitVec.toNat) ||| z.toBitVec.toNat := by rw [Int32.toBitVec_or, BitVec.toNat_or, Int32.toBitVec_and, BitVec.toNat_and]
  have l1 : x.toBitVec.toNat &&& y.toBitVec.toNat < 2 ^ 24 := Nat.lt_of_le_of_lt Nat.and_le_left hx'
  have l2 : ((x &&& y) ||| z).toBitVec.toNat < 2 ^ 24 := by rw [e]; exact Nat.or_lt_two_pow l1 hz'
  rw [i_bv]
  split <;> omega
theorem sh_b : ∀ h : Fin 24, ∀ b : Fin 2, 0 ≤ (nI b.val <<< (nI h.val &&& 31)).toInt ∧ (nI b.val <<< (nI h.val &&& 31)).toInt < 16777216 := by decide +kernel
theorem P_left {M : gSm} {S : gSc} (h : inv M S) (p hr is : Int32) (q : Nat) (hq : q ∉ S.2.2.1) : (q_X10_left S p hr is q).1 = (q_X11_left M p hr is).1 ∧ inv (q_X11_left M p hr is).2 (q_X10_left S p hr is q).2 := by
  unfold q_X10_left q_X11_left
  dsimp only
  rw [pl_eq, show q_X10_isHour hr = q_X11_isIn (hr.toInt64) 0 23 from rfl, wi_eq]
  by_cases c1 : q_X11_isPlace p = 0
  · rw [if_pos c1, if_pos c1]; exact ⟨rfl, h⟩
  · rw [if_neg c1, if_neg c1]
    by_cases c2 : q_X11_isIn (hr.toInt64) 0 23 = 0
    · rw [if_pos c2, if_pos c2]; exact ⟨rfl, h⟩
    · rw [if_neg c2, if_neg c2]
      by_cases c3 : q_X11_isIn (is.toInt64) 0 1 = 0
      · rw [if_pos c3, if_pos c3]; exact ⟨rfl, h⟩
      · rw [if_neg c3, if_neg c3]
        have hp := isPm_of rfl c1
        have b := isIn_of rfl c2
        have d := isIn_of rfl c3
        rw [t64, l_0, show (23 : Int64).toInt = 23 by decide] at b
        rw [t64, l_0, l_1] at d
        rcases da_eq (k := 4) h.2.1 hp (by decide) (by decide) with ⟨e1, e2⟩ | ⟨a, e1, e2, e3, e4, e5⟩
        · rw [e1, if_pos e2]; exact ⟨rfl, h⟩
        · rw [e1, if_neg e5]
          dsimp only
          have k1 := kp1 h hp
          have ne : a ≠ q := in_ne ((h.2.1 _ (isP_lt hp)).2 a e2).1 hq
          obtain ⟨r0, r1, r2, r3, r4, r5, r6⟩ := row_d hp e4
          have ok := e4.2.2.2.2.2.2.2
          have g6 : q_X11_get (q_X11_keep M p) p 6 = S.2.2.2.2 a 6 := by rw [get_fr k1]; exact e4.2.2.2.2.2.2.1
          unfold q_X1_withHour q_X1_hourLeft
          dsimp only
          rw [sN_o 1 _ ne, g6, pw (w := (6 : Int32)) hp 6 rfl (by decide), pool_put, e4.2.2.2.2.2.2.1]
          have ob : 0 ≤ (is <<< (hr &&& 31)).toInt ∧ (is <<< (hr &&& 31)).toInt < 16777216 := by
            have xh := nI_x b.1
            have xi := nI_x d.1
            have z := sh_b ⟨hr.toNatClampNeg, by show hr.toInt.toNat < 24; omega⟩ ⟨is.toNatClampNeg, by show is.toInt.toNat < 2; omega⟩
            dsimp only at z
            rwa [← xh, ← xi] at z
          refine ⟨?_, chg_d h hp hq _ _ _ _ _ _ _ (fun c hc => ?_) (fun j hj => ?_) ?_ ?_ ?_ ?_ ?_ ?_ ?_ ok.1 ok.2.1 ok.2.2.1 (hr_b ok.2.2.2 ob)⟩
          · obtain ⟨-, nx, -⟩ := new_d hq (S.2.2.2.2 a 0) (S.2.2.2.2 a 1) (S.2.2.2.2 a 2) (S.2.2.2.2 a 3) (S.2.2.2.2 a 4) (S.2.2.2.2 a 5) ((S.2.2.2.2 a 6 &&& ((1 <<< (hr &&& 31)) ^^^ (-1))) ||| (is <<< (hr &&& 31)))
            rw [(nx a ((h.2.1 _ (isP_lt hp)).2 a e2).1).2.2]
          · rw [pM_n hc]
          · rw [pM_s, pk_un (by omega), k1]
          · rw [pM_s, pk_un (by omega), k1]; exact r0
          · rw [pM_s, pk_un (by omega), k1]; exact r1
          · rw [pM_s, pk_un (by omega), k1]; exact r2
          · rw [pM_s, pk_un (by omega), k1]; exact r3
          · rw [pM_s, pk_un (by omega), k1]; exact r4
          · rw [pM_s, pk_un (by omega), k1]; exact r5
          · rw [pM_s, pk_us]
/-! undo -/
theorem ub22 (M : gSm) {k q : Nat} (hk : k < 16) (hq : q < 40) : ∀ (n i : Nat) (Z : gSm), i ≤ 7 → 7 < i + n → Z.1 0 3 = nI k → Z.1 2 k = nI q → (q_X11_undo_b22 M n (nI i) Z).1 = nI q ∧ (∀ c, c ≠ 1 → (q_X11_undo_b22 M n (nI i) Z).2.1 c = Z.1 c) ∧ (∀ r, i ≤ r → r < 7 → (q_X11_undo_b22 M n (nI i) Z).2.1 1 (7 * q + r) = Z.1 3 (7 * k + r)) ∧ ∀ j, (j < 7 * q + i ∨ 7 * q + 7 ≤ j) → (q_X11_undo_b22 M n (nI i) Z).2.1 1 j = Z.1 1 j
  | 0, i, Z => fun h1 h2 => absurd h2 (by omega)
  | n + 1, i, Z => by
    intro h1 h2 h3 h4
    rw [q_X11_undo_b22]
    dsimp only
    have ek : (Z.1 0 3).toNatClampNeg = k := by rw [h3]; exact nI_clamp (by omega)
    by_cases c : i = 7
    · subst c
      rw [if_pos (show (7 : Int32) ≤ nI 7 from nI_le (Nat.le_refl _) (by decide)), ek]
      exact ⟨h4, fun _ _ => rfl, fun r a b => absurd b (by omega), fun _ _ => rfl⟩
    · rw [if_neg (show ¬ (7 : Int32) ≤ nI i from nI_ge (a := i) (b := 7) (by omega) (by decide)), nI_1, ek, h4, h3, i7 (by omega) (by omega), i7 (by omega) (by omega)]
      have z := ub22 M hk hq n (i + 1) (pM Z 1 (7 * q + i) (Z.1 3 (7 * k + i))) (by omega) (by omega) (by rw [pM_n (by decide)]; exact h3) (by rw [pM_n (by decide)]; exact h4)
      refine ⟨z.1, fun c hc => by rw [z.2.1 c hc, pM_n hc], fun r a b => ?_, fun j hj => ?_⟩
      · by_cases e : r = i
        · subst e
          rw [z.2.2.2 _ (Or.inl (by omega)), pM_s, pk_us]
        · rw [z.2.2.1 r (by omega) b, pM_n (by decide)]
      · rw [z.2.2.2 j (by omega), pM_s, pk_un (by omega)]
theorem undoC_eq (S : gSc) : q_X10_undo S = if S.1 4 3 = 0 then ((-2000000002), S) else (S.1 5 ((S.1 4 2).toNatClampNeg), q_X0_takeBack (sR S 3 (va_up (S.2.1 3) ((S.1 5 ((S.1 4 2).toNatClampNeg)).toNatClampNeg) (S.2.1 6 ((S.1 4 2).toNatClampNeg))))) := by
  unfold q_X10_undo q_X0_latestPlace q_X0_latestThing
  by_cases c : S.1 4 3 = 0
  · rw [if_pos c, if_pos c]
  · rw [if_neg c, if_neg c]
    cases S.2.1 6 ((S.1 4 2).toNatClampNeg) <;> rfl
theorem P_undo {M : gSm} {S : gSc} (h : inv M S) : (q_X10_undo S).1 = (q_X11_undo M).1 ∧ inv (q_X11_undo M).2 (q_X10_undo S).2 := by
  obtain ⟨hS, hG, ⟨⟨k1, k2, k3⟩, ⟨k4, k5⟩, k6, k7, k8, k9⟩, hN, hT, hH⟩ := id h
  rw [undoC_eq]
  unfold q_X11_undo
  rw [k1]
  by_cases c : S.1 4 3 = 0
  · rw [if_pos c, if_pos c]; exact ⟨rfl, h⟩
  · rw [if_neg c, if_neg c]
    have c' : (S.1 4 3).toInt ≠ 0 := sw_ne (by decide) c
    have xK := nI_x k2
    have eK : (S.1 4 3).toNatClampNeg = (S.1 4 3).toInt.toNat := rfl
    rw [← eK] at k9
    have lK : 0 < (S.1 4 3).toNatClampNeg ∧ (S.1 4 3).toNatClampNeg ≤ 16 := by show 0 < (S.1 4 3).toInt.toNat ∧ (S.1 4 3).toInt.toNat ≤ 16; omega
    have lL : (S.1 4 2).toNatClampNeg < 16 := by show (S.1 4 2).toInt.toNat < 16; omega
    have xL := nI_x k4
    have sl : ∀ i, kSl S i = ((S.1 4 2).toNatClampNeg + 17 + i - (S.1 4 3).toNatClampNeg) % 16 := fun _ => rfl
    generalize (S.1 4 3).toNatClampNeg = K at xK k9 lK sl
    have z0 := k9 (K - 1) (by omega)
    rw [sl, show ((S.1 4 2).toNatClampNeg + 17 + (K - 1) - K) % 16 = (S.1 4 2).toNatClampNeg by omega] at z0
    have ip := k6 _ lL
    have hr : q_X0_takeBack (sR S 3 (va_up (S.2.1 3) ((S.1 5 ((S.1 4 2).toNatClampNeg)).toNatClampNeg) (S.2.1 6 ((S.1 4 2).toNatClampNeg)))) = pI (pI (sR (sR S 3 (va_up (S.2.1 3) ((S.1 5 ((S.1 4 2).toNatClampNeg)).toNatClampNeg) (S.2.1 6 ((S.1 4 2).toNatClampNeg)))) 6 (va_up (S.2.1 6) ((S.1 4 2).toNatClampNeg) none)) 4 2 (q_J9_floorMod_7cf53 ((S.1 4 2) - 1) 16)) 4 3 ((S.1 4 3) - 1) := rfl
    rw [hr]
    clear hr
    have im := i_m1 (v := S.1 4 2) (by omega)
    have fm : q_J9_floorMod_7cf53 ((S.1 4 2) - 1) 16 = nI (((S.1 4 2).toNatClampNeg + 15) % 16) := y_inj (by
      rw [fmod_z, nI_toInt (by omega), im]
      show ((S.1 4 2).toInt - 1) % 16 = ((((S.1 4 2).toInt.toNat + 15) % 16 : Nat) : Int)
      omega)
    rw [fm]
    have xP := nI_x ip.1
    have lP := isP_lt ip
    generalize (S.1 4 2).toNatClampNeg = L at xL lL sl z0 ip xP lP ⊢
    generalize (S.1 5 L).toNatClampNeg = q at xP lP ⊢
    have eK1 : (S.1 4 3) - 1 = nI (K - 1) := by
      rw [xK]
      have := nI_pred (K - 1)
      rwa [Nat.sub_add_cancel (by omega)] at this
    rw [eK1]
    have u := ub22 M (k := K - 1) (q := q) (by omega) lP 8 0 (pM M 0 3 (nI (K - 1))) (by decide) (by decide) (by rw [pM_s, pk_us]) (by rw [pM_n (by decide), z0.1, xP])
    rw [nI_0] at u
    generalize q_X11_undo_b22 M 8 0 (pM M 0 3 (nI (K - 1))) = A at u ⊢
    obtain ⟨u1, u2, u3, u4⟩ := u
    have u0 := u2 0 (by decide)
    have m0 : ∀ j, j ≠ 3 → A.2.1 0 j = M.1 0 j := fun j hj => by rw [u0, pM_s, pk_un hj]
    have mc : ∀ c, c ≠ 0 → c ≠ 1 → A.2.1 c = M.1 c := fun c a b => by rw [u2 c b, pM_n a]
    generalize hB : pI (pI (sR (sR S 3 (va_up (S.2.1 3) q (S.2.1 6 L))) 6 (va_up (S.2.1 6) L none)) 4 2 (nI ((L + 15) % 16))) 4 3 (nI (K - 1)) = B
    have b22 : B.2.2 = S.2.2 := by rw [← hB]; rfl
    have bk : ∀ c, c ≠ 4 → B.1 c = S.1 c := fun c h4 => by rw [← hB, pI_n h4, pI_n h4]; rfl
    have b42 : B.1 4 2 = nI ((L + 15) % 16) := by rw [← hB]; rfl
    have b43 : B.1 4 3 = nI (K - 1) := by rw [← hB]; rfl
    have bR3 : B.2.1 3 = va_up (S.2.1 3) q (S.2.1 6 L) := by rw [← hB]; rfl
    have bR6 : B.2.1 6 = va_up (S.2.1 6) L none := by rw [← hB]; rfl
    have bR11 : B.2.1 11 = S.2.1 11 := by rw [← hB]; rfl
    clear hB
    have t43 : (B.1 4 3).toInt.toNat = K - 1 := by rw [b43, nI_toInt (by omega)]; omega
    have t42 : (B.1 4 2).toInt.toNat = (L + 15) % 16 := by rw [b42, nI_toInt (by omega)]; omega
    have sB : ∀ i, kSl B i = ((L + 15) % 16 + 17 + i - (K - 1)) % 16 := fun i => by unfold kSl; rw [t43, t42]
    refine ⟨by rw [u1, xP], iS_g hS (mc 4 (by decide) (by decide)) (m0 4 (by decide)) (m0 6 (by decide)) (by rw [bk 1 (by decide)]) (by rw [bk 1 (by decide)]) (by rw [bk 1 (by decide)]) (by rw [bk 1 (by decide)]) (bk 2 (by decide)), fun r hr => ?_, ⟨⟨by rw [u0, pM_s, pk_us, b43], by rw [b43, nI_toInt (by omega)]; omega, by rw [b43, nI_toInt (by omega)]; omega⟩, ⟨by rw [b42, nI_toInt (by omega)]; omega, by rw [b42, nI_toInt (by omega)]; omega⟩, fun j hj => by rw [bk 5 (by decide)]; exact k6 j hj, fun j hj => by rw [mc 2 (by decide) (by decide)]; exact k7 j hj, fun j a hj e => ?_, fun i hi => ?_⟩, iN_g hN (mc 5 (by decide) (by decide)) (m0 8 (by decide)) (by rw [bk 17 (by decide)]) (bk 18 (by decide)) (bk 19 (by decide)) (bk 20 (by decide)) (bk 21 (by decide)), iT_g hT (mc 6 (by decide) (by decide)) (m0 10 (by decide)) (by rw [bk 0 (by decide)]) (bk 22 (by decide)), fun j a hj e => ?_⟩
    · rw [b22, bR3]
      by_cases er : r = q
      · subst er
        rw [va_up_self]
        exact tR_row z0.2 (fun i hi => by rw [u3 i (Nat.zero_le _) hi, pM_n (by decide)])
      · rw [va_up_ne _ _ er]
        exact tR_row (hG r hr) (fun i hi => by rw [u4 _ (by omega), pM_n (by decide)])
    · rw [b22]
      rw [bR6] at e
      by_cases ej : j = L
      · rw [ej, va_up_self] at e; cases e
      · rw [va_up_ne _ _ ej] at e
        exact k8 j a hj e
    · rw [t43] at hi
      have es : ((L + 15) % 16 + 17 + i - (K - 1)) % 16 = (L + 17 + i - K) % 16 := by omega
      have ne : (L + 17 + i - K) % 16 ≠ L := by omega
      rw [mc 2 (by decide) (by decide), mc 3 (by decide) (by decide), b22, bk 5 (by decide), bR6, sB, es, va_up_ne _ _ ne]
      have z := k9 i (by omega)
      rw [sl] at z
      exact z
    · rw [bR11] at e
      rw [b22]
      exact hH j a hj e
