/-! PURE 5: the house that hides the sun -/
def hdT (H U w k : Int64) : Int32 := (if k ≤ 0 then 0 else (if (H * w) ≤ (U * k) then 0 else 1))
theorem hd_core (c e W K H U : Int64) :
    (if c ≤ 0 then (if 0 ≤ c then (if W = 0 then (0 : Int32) else hdT H U W K) else (if 0 ≤ e then (if W = 0 then 0 else hdT H U W K) else 0)) else (if 0 < e then 0 else (if 0 ≤ c then (if W = 0 then 0 else hdT H U W K) else (if 0 ≤ e then (if W = 0 then 0 else hdT H U W K) else 0))))
    = (if W = 0 then 0 else (if c ≤ 0 then (if 0 ≤ c then hdT H U W K else (if e < 0 then 0 else hdT H U W K)) else (if 0 < e then 0 else (if 0 ≤ c then hdT H U W K else (if e < 0 then 0 else hdT H U W K))))) := by
  have he : (e < 0) = ¬ (0 ≤ e) := propext Int64.not_le.symm
  simp only [he]
  generalize hdT H U W K = t
  by_cases c5 : W = 0
  · simp only [if_pos c5, ite_self]
  · simp only [if_neg c5]
    by_cases c1 : c ≤ 0 <;> by_cases c2 : 0 ≤ c <;> by_cases c3 : 0 ≤ e <;> by_cases c4 : 0 < e <;> simp only [c1, c2, c3, c4, if_true, if_false, not_true_eq_false, not_false_eq_true]
theorem hd_eq {M : gSm} {S : gSc} {p : Int32} {a : Nat} {x y : Int32} (k : skd M S) (h : hF M p (S.2.2.2.2 a)) : q_X2_hidesFrom S a x y = q_X11_isHiding M p x y := by
  obtain ⟨-, h1, h2, h3, h4, h5⟩ := h
  obtain ⟨k1, k2, k3⟩ := k
  unfold q_X2_hidesFrom q_X11_isHiding
  dsimp only
  rw [h1, h2, h3, h4, k1, k2]
  generalize ((S.2.2.2.2 a 0) - x).toInt64 = px
  generalize ((S.2.2.2.2 a 1) - y).toInt64 = py
  generalize ((S.2.2.2.2 a 2) - x).toInt64 = qx
  generalize ((S.2.2.2.2 a 3) - y).toInt64 = qy
  generalize (((S.1 1 13).toInt64) * py) - (((S.1 1 14).toInt64) * px) = c
  generalize (((S.1 1 13).toInt64) * qy) - (((S.1 1 14).toInt64) * qx) = e
  unfold q_X2_hidesFrom_b104 q_X2_hidesFrom_b141 q_X11_isHiding_b115
  dsimp only
  rw [h5, k3]
  by_cases c0 : 0 ≤ e - c
  · simp only [if_pos c0]
    exact hd_core c e (e - c) (px * qy - py * qx) _ _
  · simp only [if_neg c0]
    exact hd_core c e (-(e - c)) (-(px * qy - py * qx)) _ _
/-- how many houses stand at places below n -/
def hsB (S : gSc) (p : Nat) : Bool := match S.2.1 3 p with | none => false | some a => !(decide (S.2.2.2.1 a = 1))
def hct (S : gSc) : Nat → Nat
  | 0 => 0
  | n + 1 => hct S n + (if hsB S n = true then 1 else 0)
theorem hct_le (S : gSc) : ∀ n, hct S n ≤ n
  | 0 => Nat.le_refl _
  | n + 1 => by
    have := hct_le S n
    show hct S n + (if hsB S n = true then 1 else 0) ≤ n + 1
    split <;> omega
theorem hct_mono (S : gSc) (i : Nat) : ∀ n, hct S i ≤ hct S (i + n)
  | 0 => Nat.le_refl _
  | n + 1 => by
    have := hct_mono S i n
    show hct S i ≤ hct S (i + n) + (if hsB S (i + n) = true then 1 else 0)
    omega
theorem hct_m {S : gSc} {i n : Nat} (h : i ≤ n) : hct S i ≤ hct S n := by
  have := hct_mono S i (n - i)
  rwa [Nat.add_sub_cancel' h] at this
theorem hct_y {S : gSc} {i : Nat} (h : hsB S i = true) : hct S (i + 1) = hct S i + 1 := by
  show hct S i + (if hsB S i = true then 1 else 0) = _
  rw [if_pos h]
theorem hct_n {S : gSc} {i : Nat} (h : hsB S i = false) : hct S (i + 1) = hct S i := by
  show hct S i + (if hsB S i = true then 1 else 0) = _
  rw [h]
  rfl
theorem hsB_none {S : gSc} {i : Nat} (h : S.2.1 3 i = none) : hsB S i = false := by
  unfold hsB
  rw [h]
theorem hsB_some {S : gSc} {i a : Nat} (h : S.2.1 3 i = some a) : hsB S i = !(decide (S.2.2.2.1 a = 1)) := by
  unfold hsB
  rw [h]
theorem hsB_d {S : gSc} {i a : Nat} (h : S.2.1 3 i = some a) (hk : S.2.2.2.1 a = 1) : hsB S i = false := by
  rw [hsB_some h, decide_eq_true hk]
  rfl
theorem hsB_h {S : gSc} {i a : Nat} (h : S.2.1 3 i = some a) (hk : ¬ S.2.2.2.1 a = 1) : hsB S i = true := by
  rw [hsB_some h, decide_eq_false hk]
  rfl
theorem hct_lt {S : gSc} {i : Nat} (h : hsB S i = true) {n : Nat} (hn : i < n) : hct S i < hct S n := by
  have := hct_m (S := S) (show i + 1 ≤ n by omega)
  rw [hct_y h] at this
  omega
/-- the houses are gathered, those of places below i -/
def gI (S : gSc) (i : Nat) (Z : gSc) : Prop := Z.2.2 = S.2.2 ∧ Z.2.1 3 = S.2.1 3 ∧ Z.1 7 6 = nI (hct S i) ∧ ∀ p a, p < i → S.2.1 3 p = some a → ¬ S.2.2.2.1 a = 1 → Z.2.1 11 (hct S p) = some a ∧ Z.1 12 (hct S p) = nI p
theorem gI_next {S Z : gSc} {i : Nat} (h : gI S i Z) (hb : hsB S i = false) : gI S (i + 1) Z := by
  obtain ⟨h1, h2, h3, h4⟩ := h
  refine ⟨h1, h2, by rw [hct_n hb]; exact h3, fun p a hp ho hk => ?_⟩
  by_cases e : p = i
  · subst e
    rw [hsB_h ho hk] at hb
    cases hb
  · exact h4 p a (by omega) ho hk
theorem gI_add {S Z : gSc} {i a : Nat} (h : gI S i Z) (hi : i < 40) (ho : S.2.1 3 i = some a) (hk : ¬ S.2.2.2.1 a = 1) : gI S (i + 1) (pI (pI (sR Z 11 (va_up (Z.2.1 11) ((Z.1 7 6).toNatClampNeg) (some a))) 12 ((Z.1 7 6).toNatClampNeg) (nI i)) 7 6 ((Z.1 7 6) + 1)) := by
  obtain ⟨h1, h2, h3, h4⟩ := h
  have hb := hsB_h ho hk
  have hl := hct_le S i
  have ec : (Z.1 7 6).toNatClampNeg = hct S i := by rw [h3]; exact nI_clamp (by omega)
  rw [ec]
  refine ⟨h1, h2, ?_, fun p b hp ho2 hk2 => ?_⟩
  · rw [pI_s, pk_us, h3, hct_y hb, nI_1]
  · have e11 : (pI (pI (sR Z 11 (va_up (Z.2.1 11) (hct S i) (some a))) 12 (hct S i) (nI i)) 7 6 ((Z.1 7 6) + 1)).2.1 11 = va_up (Z.2.1 11) (hct S i) (some a) := rfl
    have e12 : (pI (pI (sR Z 11 (va_up (Z.2.1 11) (hct S i) (some a))) 12 (hct S i) (nI i)) 7 6 ((Z.1 7 6) + 1)).1 12 = upd (Z.1 12) (hct S i) (nI i) := by
      rw [pI_n (by decide), pI_s]
      rfl
    rw [e11, e12]
    by_cases e : p = i
    · subst e
      rw [ho] at ho2
      cases ho2
      exact ⟨va_up_self _ _ _, pk_us⟩
    · have hne : hct S p ≠ hct S i := by
        have := hct_lt (hsB_h ho2 hk2) (show p < i by omega)
        omega
      rw [va_up_ne _ _ hne, pk_un hne]
      exact h4 p b (by omega) ho2 hk2
theorem gh_z (S0 S : gSc) : ∀ (n i : Nat) (Z : gSc), i ≤ 40 → 40 < i + n → gI S i Z → gI S 40 (q_X6_gatherHouses_b7 S0 n (nI i) Z)
  | 0, i, Z => fun h1 h2 _ => absurd h2 (by omega)
  | n + 1, i, Z => by
    intro h1 h2 hg
    rw [q_X6_gatherHouses_b7]
    dsimp only
    by_cases c : i = 40
    · subst c
      rw [if_pos (show (40 : Int32) ≤ nI 40 from nI_le (a := 40) (b := 40) (by decide) (by decide))]
      exact hg
    · have cn : ¬ (40 : Int32) ≤ nI i := nI_ge (a := i) (b := 40) (by omega) (by decide)
      rw [if_neg cn, if_neg cn, nI_1]
      have ec : (nI i).toNatClampNeg = i := nI_clamp (by omega)
      rw [ec]
      have e3 : Z.2.1 3 i = S.2.1 3 i := by rw [hg.2.1]
      cases ho : S.2.1 3 i with
      | none =>
        rw [ho] at e3
        rw [e3]
        exact gh_z S0 S n (i + 1) Z (by omega) (by omega) (gI_next hg (hsB_none ho))
      | some a =>
        rw [ho] at e3
        rw [e3]
        dsimp only
        by_cases hk : S.2.2.2.1 a = 1
        · rw [if_pos (by rw [hg.1]; exact hk)]
          exact gh_z S0 S n (i + 1) Z (by omega) (by omega) (gI_next hg (hsB_d ho hk))
        · rw [if_neg (by rw [hg.1]; exact hk)]
          exact gh_z S0 S n (i + 1) _ (by omega) (by omega) (gI_add hg (by omega) ho hk)
def hsG (S : gSc) : Prop := S.1 7 6 = nI (hct S 40) ∧ ∀ p a, p < 40 → S.2.1 3 p = some a → ¬ S.2.2.2.1 a = 1 → S.2.1 11 (hct S p) = some a ∧ S.1 12 (hct S p) = nI p
theorem hct_cg {S Y : gSc} (e3 : Y.2.1 3 = S.2.1 3) (e : Y.2.2 = S.2.2) : ∀ n, hct Y n = hct S n
  | 0 => rfl
  | n + 1 => by
    show hct Y n + (if hsB Y n = true then 1 else 0) = hct S n + (if hsB S n = true then 1 else 0)
    have : hsB Y n = hsB S n := by unfold hsB; rw [e3, e]
    rw [hct_cg e3 e n, this]
theorem hsG_set (S : gSc) : hsG (q_X6_gatherHouses S) := by
  unfold q_X6_gatherHouses
  have h := gh_z S S 41 0 (pI S 7 6 0) (by decide) (by decide) ⟨rfl, rfl, by rw [pI_s, pk_us]; rfl, fun p a hp => absurd hp (Nat.not_lt_zero p)⟩
  rw [nI_0] at h
  generalize q_X6_gatherHouses_b7 S 41 0 (pI S 7 6 0) = Z at h ⊢
  obtain ⟨h1, h2, h3, h4⟩ := h
  refine ⟨by rw [hct_cg h2 h1]; exact h3, fun p a hp ho hk => ?_⟩
  rw [hct_cg h2 h1]
  rw [h2] at ho
  rw [h1] at hk
  exact h4 p a hp ho hk
theorem hsG_st {S Y : gSc} (h : hsG S) (e : Y.2 = S.2) (e6 : Y.1 7 6 = S.1 7 6) (e12 : Y.1 12 = S.1 12) : hsG Y := by
  unfold hsG
  have c := hct_cg (S := S) (Y := Y) (by rw [e]) (by rw [e])
  refine ⟨by rw [e6, c]; exact h.1, fun p a hp ho hk => ?_⟩
  rw [e] at ho hk ⊢
  rw [c, e12]
  exact h.2 p a hp ho hk
/-- once it is found it stays -/
theorem fh_stop (S : gSc) : ∀ (n : Nat) (v : Int32) (Z : gSc), ¬ Z.1 7 11 = (-2000000005) → q_X6_findHider_b16 S n v Z = Z
  | 0, _, _, _ => rfl
  | n + 1, v, Z, h => by
    rw [q_X6_findHider_b16]
    dsimp only
    split
    · rfl
    · first | rfl | rw [if_neg h]
theorem nI_none {i : Nat} (h : i < 40) : ¬ nI i = (-2000000005) := by
  intro e
  have := congrArg Int32.toInt e
  rw [nI_toInt (by omega), show (-2000000005 : Int32).toInt = -2000000005 by decide] at this
  omega
theorem hi_z {M : gSm} {S : gSc} {p : Int32} {x y : Int32} (S0 : gSc) (k : skd M S) (hG : iG M S) (hh : hsG S) (hx : q_X11_get M p 1 = x) (hy : q_X11_get M p 2 = y) (sx : S.1 7 7 = x) (sy : S.1 7 8 = y) : ∀ (n i : Nat), i ≤ 40 → 40 < i + n → ∀ (n2 : Nat) (Z : gSc), hct S 40 < hct S i + n2 → kQ Z S → Z.1 1 = S.1 1 → Z.1 7 11 = (-2000000005) → (q_X6_findHider_b16 S0 n2 (nI (hct S i)) Z).1 7 11 = q_X11_hider_b2 M p n (nI i)
  | 0, i => fun h1 h2 => absurd h2 (by omega)
  | n + 1, i => by
    intro h1 h2 n2 Z h3 kz k1 hz
    have l40 := hct_le S 40
    have li := hct_le S i
    have z6 : Z.1 7 6 = nI (hct S 40) := by rw [kz.2.2.1 6 (by decide)]; exact hh.1
    rw [q_X11_hider_b2]
    dsimp only
    by_cases c : i = 40
    · subst c
      rw [if_pos (show (40 : Int32) ≤ nI 40 from nI_le (a := 40) (b := 40) (by decide) (by decide))]
      cases n2 with
      | zero => exact hz
      | succ n2 =>
        rw [q_X6_findHider_b16]
        dsimp only
        rw [if_pos (by rw [z6]; exact nI_le (Nat.le_refl _) (by omega))]
        exact hz
    · have cn : ¬ (40 : Int32) ≤ nI i := nI_ge (a := i) (b := 40) (by omega) (by decide)
      have ip : isP (nI i) := ⟨by rw [nI_toInt (by omega)]; omega, by rw [nI_toInt (by omega)]; omega⟩
      have ec : (nI i).toNatClampNeg = i := nI_clamp (by omega)
      rw [if_neg cn, nI_1, hx, hy]
      cases ho : S.2.1 3 i with
      | none =>
        have g0 := nF_of hG ip (by rw [ec]; exact ho)
        rw [g0, if_neg (show ¬ (0 : Int32) = 1 by decide)]
        have := hi_z S0 k hG hh hx hy sx sy n (i + 1) (by omega) (by omega) n2 Z (by rw [hct_n (hsB_none ho)]; exact h3) kz k1 hz
        rwa [hct_n (hsB_none ho)] at this
      | some a =>
        by_cases hk : S.2.2.2.1 a = 1
        · have g0 := dF_of hG ip (by rw [ec]; exact ho) hk
          have g1 : ¬ q_X11_get M (nI i) 0 = 1 := by
            rw [g0.1]
            intro e
            have q := (kd_of g0.2.2.2.2.2.2.2).2.2.2
            rw [e] at q
            exact q (by decide)
          rw [if_neg g1]
          have := hi_z S0 k hG hh hx hy sx sy n (i + 1) (by omega) (by omega) n2 Z (by rw [hct_n (hsB_d ho hk)]; exact h3) kz k1 hz
          rwa [hct_n (hsB_d ho hk)] at this
        · have g0 := hF_of hG ip (by rw [ec]; exact ho) hk
          have hb := hsB_h ho hk
          have lt := hct_lt hb (show i < 40 by omega)
          have hs := hh.2 i a (by omega) ho hk
          rw [g0.1, if_pos rfl]
          cases n2 with
          | zero => exact absurd h3 (by omega)
          | succ n2 =>
            have e2 : (nI (hct S i)).toNatClampNeg = hct S i := nI_clamp (by omega)
            have o11 : Z.2.1 11 (hct S i) = some a := by rw [kz.1]; exact hs.1
            rw [q_X6_findHider_b16]
            dsimp only
            rw [if_neg (by rw [z6]; exact nI_ge lt (by omega)), if_pos hz, e2, o11]
            dsimp only
            have hf : q_X2_hidesFrom Z a (Z.1 7 7) (Z.1 7 8) = q_X11_isHiding M (nI i) x y := by
              rw [kz.2.2.1 7 (by decide), kz.2.2.1 8 (by decide), sx, sy]
              exact hd_eq (skd_st k k1) (by rw [kz.1]; exact g0)
            rw [hf, nI_1, ← hct_y hb]
            by_cases cz : q_X11_isHiding M (nI i) x y = 0
            · rw [if_pos cz, if_pos cz]
              exact hi_z S0 k hG hh hx hy sx sy n (i + 1) (by omega) (by omega) n2 Z (by rw [hct_y hb]; omega) kz k1 hz
            · rw [if_neg cz, if_neg cz]
              have z12 : Z.1 12 (hct S i) = nI i := by rw [kz.2.2.2 12 rfl]; exact hs.2
              rw [z12, fh_stop _ _ _ _ (by rw [pI_s, pk_us]; exact nI_none (by omega)), pI_s, pk_us]
