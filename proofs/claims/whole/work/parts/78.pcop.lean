/-! PURE 17: copies, what a place holds, counts -/
theorem cpy_f {f : Nat → Int32} {a b i : Nat} (h : b ≤ a) : upd (va_cpy f f a b i) (b + i) (va_cpy f f a b i (a + i)) = va_cpy f f a b (i + 1) := by
  funext j
  rw [pk_cpy_out (show a + i < b ∨ b + i ≤ a + i by omega)]
  by_cases e : j = b + i
  · subst e
    rw [pk_us, pk_cpy_in (by omega) (by omega), show a + (b + i - b) = a + i by omega]
  · rw [pk_un e]
    by_cases c : b ≤ j ∧ j < b + i
    · rw [pk_cpy_in c.1 c.2, pk_cpy_in c.1 (by omega)]
    · rw [pk_cpy_out (by omega), pk_cpy_out (by omega)]
theorem cpy_b {f : Nat → Int32} {a b k i : Nat} (h : a < b) : upd (va_cpy f f (a + (k + 1)) (b + (k + 1)) i) (b + k) (va_cpy f f (a + (k + 1)) (b + (k + 1)) i (a + k)) = va_cpy f f (a + k) (b + k) (i + 1) := by
  funext j
  rw [pk_cpy_out (show a + k < b + (k + 1) ∨ b + (k + 1) + i ≤ a + k by omega)]
  by_cases e : j = b + k
  · subst e
    rw [pk_us, pk_cpy_in (by omega) (by omega), show a + k + (b + k - (b + k)) = a + k by omega]
  · rw [pk_un e]
    by_cases c : b + (k + 1) ≤ j ∧ j < b + (k + 1) + i
    · rw [pk_cpy_in c.1 c.2, pk_cpy_in (by omega) (by omega), show a + (k + 1) + (j - (b + (k + 1))) = a + k + (j - (b + k)) by omega]
    · rw [pk_cpy_out (by omega), pk_cpy_out (by omega)]
theorem cpF_z (M : gSm) (f : Nat → Int32) {a b n : Nat} (ha : a + n ≤ 366) (hb : b + n ≤ 366) (h : b ≤ a) : ∀ (k i : Nat) (Z : gSm), i ≤ n → n < i + k → Z.1 4 = va_cpy f f a b i → (q_X11_copy_b52 M (nI a) (nI b) (nI n) k (nI i) Z).1 = 0 ∧ (q_X11_copy_b52 M (nI a) (nI b) (nI n) k (nI i) Z).2.1 4 = va_cpy f f a b n ∧ ∀ c, c ≠ 4 → (q_X11_copy_b52 M (nI a) (nI b) (nI n) k (nI i) Z).2.1 c = Z.1 c
  | 0, i, Z => fun h1 h2 => absurd h2 (by omega)
  | k + 1, i, Z => by
    intro h1 h2 h3
    rw [q_X11_copy_b52]
    dsimp only
    by_cases c : i = n
    · subst c
      rw [if_pos (nI_le (Nat.le_refl _) (by omega))]
      exact ⟨rfl, h3, fun _ _ => rfl⟩
    · rw [if_neg (nI_ge (show i < n by omega) (by omega)), if_pos (nI_le h (by omega)), nI_1, nI_add, nI_add, nI_clamp (show b + i < 2 ^ 31 by omega), nI_clamp (show a + i < 2 ^ 31 by omega), h3]
      have z := cpF_z M f ha hb h k (i + 1) (pM Z 4 (b + i) (va_cpy f f a b i (a + i))) (by omega) (by omega) (by rw [pM_s, h3]; exact cpy_f h)
      exact ⟨z.1, z.2.1, fun c hc => by rw [z.2.2 c hc, pM_n hc]⟩
theorem cpB_z (M : gSm) (f : Nat → Int32) {a b n : Nat} (ha : a + n ≤ 366) (hb : b + n ≤ 366) (h : a < b) : ∀ (k i : Nat) (Z : gSm), i ≤ n → n < i + k → Z.1 4 = va_cpy f f (a + (n - i)) (b + (n - i)) i → (q_X11_copy_b52 M (nI a) (nI b) (nI n) k (nI i) Z).1 = 0 ∧ (q_X11_copy_b52 M (nI a) (nI b) (nI n) k (nI i) Z).2.1 4 = va_cpy f f a b n ∧ ∀ c, c ≠ 4 → (q_X11_copy_b52 M (nI a) (nI b) (nI n) k (nI i) Z).2.1 c = Z.1 c
  | 0, i, Z => fun h1 h2 => absurd h2 (by omega)
  | k + 1, i, Z => by
    intro h1 h2 h3
    rw [q_X11_copy_b52]
    dsimp only
    by_cases c : i = n
    · subst c
      rw [if_pos (nI_le (Nat.le_refl _) (by omega))]
      rw [Nat.sub_self, Nat.add_zero, Nat.add_zero] at h3
      exact ⟨rfl, h3, fun _ _ => rfl⟩
    · have e1 : nI n - 1 - nI i = nI (n - 1 - i) := by
        have := nI_pred (n - 1)
        rw [Nat.sub_add_cancel (by omega)] at this
        rw [this, pk_sub (by omega)]
      rw [if_neg (nI_ge (show i < n by omega) (by omega)), if_neg (nI_ge h (by omega)), e1, nI_1, nI_add, nI_add, nI_clamp (show b + (n - 1 - i) < 2 ^ 31 by omega), nI_clamp (show a + (n - 1 - i) < 2 ^ 31 by omega), h3]
      have e2 : n - i = n - 1 - i + 1 := by omega
      rw [e2]
      have z := cpB_z M f ha hb h k (i + 1) (pM Z 4 (b + (n - 1 - i)) (va_cpy f f (a + (n - 1 - i + 1)) (b + (n - 1 - i + 1)) i (a + (n - 1 - i)))) (by omega) (by omega) (by
        rw [pM_s, h3, e2, show n - (i + 1) = n - 1 - i by omega]
        exact cpy_b h)
      exact ⟨z.1, z.2.1, fun c hc => by rw [z.2.2 c hc, pM_n hc]⟩
theorem nI_x {x : Int32} (h : 0 ≤ x.toInt) : x = nI x.toNatClampNeg := by
  have r := i_rng x
  exact y_inj (by rw [nI_toInt (by show x.toInt.toNat < 2 ^ 31; omega)]; show x.toInt = ((x.toInt.toNat : Nat) : Int); omega)
theorem P_copy {M : gSm} {S : gSc} (h : inv M S) (a b n : Int32) : (q_X10_copy S a b n).1 = (q_X11_copy M a b n).1 ∧ inv (q_X11_copy M a b n).2 (q_X10_copy S a b n).2 := by
  obtain ⟨⟨⟨k1, k2, k3⟩, hl, l6⟩, hG, hK, hN, hT, hH⟩ := id h
  unfold q_X10_copy q_X11_copy
  dsimp only
  rw [wi_eq, wi_eq, k1]
  have rn := i_rng n
  by_cases c0 : n < 0
  · have c0' := i_lt c0
    rw [i_0] at c0'
    have e : q_X11_isIn (n.toInt64) 0 ((S.1 1 1).toInt64) = 0 := by
      unfold q_X11_isIn
      rw [if_pos (Int64.lt_iff_toInt_lt.mpr (by rw [t64, l_0]; exact c0'))]
    rw [if_pos c0, if_pos e]
    exact ⟨rfl, h⟩
  · have c0' := i_nlt c0
    rw [i_0] at c0'
    rw [if_neg c0]
    have es := i_sub (a := S.1 1 1) (b := n) (by omega) (by omega)
    by_cases c1 : q_X11_isIn (n.toInt64) 0 ((S.1 1 1).toInt64) = 0
    · have gt : (S.1 1 1).toInt < n.toInt := by
        unfold q_X11_isIn at c1
        rw [if_neg (fun q => by have := l_lt q; rw [t64, l_0] at this; omega)] at c1
        by_cases q : (S.1 1 1).toInt64 < n.toInt64
        · have := l_lt q; rwa [t64, t64] at this
        · rw [if_neg q] at c1; exact absurd c1 (by decide)
      have e : q_X11_isIn (a.toInt64) 0 ((S.1 1 1 - n).toInt64) = 0 := by
        unfold q_X11_isIn
        by_cases q : a.toInt64 < 0
        · rw [if_pos q]
        · have q' := l_nlt q
          rw [t64, l_0] at q'
          rw [if_neg q, if_pos (Int64.lt_iff_toInt_lt.mpr (by rw [t64, t64, es]; omega))]
      rw [if_pos c1, if_pos e]
      exact ⟨rfl, h⟩
    · rw [if_neg c1]
      by_cases c2 : q_X11_isIn (a.toInt64) 0 ((S.1 1 1 - n).toInt64) = 0
      · rw [if_pos c2, if_pos c2]; exact ⟨rfl, h⟩
      · rw [if_neg c2, if_neg c2]
        by_cases c3 : q_X11_isIn (b.toInt64) 0 ((S.1 1 1 - n).toInt64) = 0
        · rw [if_pos c3, if_pos c3]; exact ⟨rfl, h⟩
        · rw [if_neg c3, if_neg c3]
          have qa := isIn_of rfl c2
          have qb := isIn_of rfl c3
          rw [t64, t64, l_0, es] at qa qb
          have xa := nI_x qa.1
          have xb := nI_x qb.1
          have xn := nI_x c0'
          have la : a.toNatClampNeg + n.toNatClampNeg ≤ 366 := by show a.toInt.toNat + n.toInt.toNat ≤ 366; omega
          have lb : b.toNatClampNeg + n.toNatClampNeg ≤ 366 := by show b.toInt.toNat + n.toInt.toNat ≤ 366; omega
          have key : (q_X11_copy_b52 M a b n 367 0 M).1 = 0 ∧ (q_X11_copy_b52 M a b n 367 0 M).2.1 4 = va_cpy (M.1 4) (M.1 4) a.toNatClampNeg b.toNatClampNeg n.toNatClampNeg ∧ ∀ c, c ≠ 4 → (q_X11_copy_b52 M a b n 367 0 M).2.1 c = M.1 c := by
            generalize a.toNatClampNeg = a' at xa la ⊢
            generalize b.toNatClampNeg = b' at xb lb ⊢
            generalize n.toNatClampNeg = n' at xn la lb ⊢
            subst xa xb xn
            by_cases o : b' ≤ a'
            · have z := cpF_z M (M.1 4) la lb o 367 0 M (by omega) (by omega) (by funext j; rw [pk_cpy_out (by omega)])
              rwa [nI_0] at z
            · have z := cpB_z M (M.1 4) la lb (by omega) 367 0 M (by omega) (by omega) (by funext j; rw [pk_cpy_out (by omega)])
              rwa [nI_0] at z
          generalize q_X11_copy_b52 M a b n 367 0 M = A at key ⊢
          generalize a.toNatClampNeg = a' at la key ⊢
          generalize b.toNatClampNeg = b' at lb key ⊢
          generalize n.toNatClampNeg = n' at la lb key ⊢
          obtain ⟨m1, m2, m3⟩ := key
          have m0 := m3 0 (by decide)
          have e2 : (sI S 2 (va_cpy (S.1 2) (S.1 2) a' b' n')).1 2 = va_cpy (S.1 2) (S.1 2) a' b' n' := rfl
          refine ⟨m1.symm, ⟨⟨by rw [m0]; exact k1, k2, k3⟩, ⟨by rw [m0]; exact hl.1, hl.2⟩, fun j hj => ?_⟩, iG_g hG (m3 1 (by decide)) rfl rfl, iK_g hK (m3 2 (by decide)) (m3 3 (by decide)) (by rw [m0]) rfl rfl rfl rfl, iN_g hN (m3 5 (by decide)) (by rw [m0]) rfl rfl rfl rfl rfl, iT_g hT (m3 6 (by decide)) (by rw [m0]) rfl rfl, hH⟩
          rw [m2, e2]
          by_cases c : b' ≤ j ∧ j < b' + n'
          · rw [pk_cpy_in c.1 c.2, pk_cpy_in c.1 c.2]
            exact l6 _ (by omega)
          · rw [pk_cpy_out (by omega), pk_cpy_out (by omega)]
            exact l6 j hj
theorem P_holds {M : gSm} {S : gSc} (h : inv M S) (p : Int32) : q_X10_holds S p = q_X11_holds M p := by
  unfold q_X10_holds q_X11_holds
  dsimp only
  rw [pl_eq]
  by_cases c1 : q_X11_isPlace p = 0
  · rw [if_pos c1, if_pos c1]
  · rw [if_neg c1, if_neg c1]
    have hp := isPm_of rfl c1
    cases ho : S.2.1 3 p.toNatClampNeg with
    | none => exact (nF_of h.2.1 hp ho).symm
    | some a =>
      dsimp only
      by_cases hk : S.2.2.2.1 a = 1
      · rw [if_pos hk]; exact (dF_of h.2.1 hp ho hk).1.symm
      · rw [if_neg hk]; exact (hF_of h.2.1 hp ho hk).1.symm
theorem P_isOf {M : gSm} {S : gSc} (h : inv M S) (p k : Int32) : q_X10_isOf S p k = q_X11_isOf M p k := by
  unfold q_X10_isOf q_X11_isOf
  dsimp only
  rw [pl_eq, show q_X10_isKind k = q_X11_isIn (k.toInt64) 0 4 from rfl]
  by_cases c1 : q_X11_isPlace p = 0
  · rw [if_pos c1, if_pos c1]
  · rw [if_neg c1, if_neg c1]
    by_cases c2 : q_X11_isIn (k.toInt64) 0 4 = 0
    · rw [if_pos c2, if_pos c2]
    · rw [if_neg c2, if_neg c2]
      have b := isIn_of rfl c2
      rw [t64, l_0, show (4 : Int64).toInt = 4 by decide] at b
      rcases da_eq h.2.1 (isPm_of rfl c1) b.1 b.2 with ⟨e1, e2⟩ | ⟨a, e1, e2, e3, e4, e5⟩
      · rw [e1, if_pos e2]
      · rw [e1, if_neg e5]
/-! counts -/
theorem cd_z {S : gSc} {P : Nat → Bool} (hP : ∀ i, i < 40 → (P i = true ↔ ∃ a, S.2.1 3 i = some a ∧ S.2.2.2.1 a = 1)) : ∀ (n i : Nat), i ≤ 40 → 40 < i + n → q_X10_countDials_b13 S n (nI (kc P i)) 40 (nI i) = nI (kc P 40)
  | 0, i => fun h1 h2 => absurd h2 (by omega)
  | n + 1, i => by
    intro h1 h2
    rw [q_X10_countDials_b13]
    dsimp only
    by_cases c : i = 40
    · subst c
      rw [if_pos (show (40 : Int32) ≤ nI 40 from nI_le (Nat.le_refl _) (by decide))]
    · rw [if_neg (show ¬ (40 : Int32) ≤ nI i from nI_ge (a := i) (b := 40) (by omega) (by decide)), nI_clamp (show i < 2 ^ 31 by omega), nI_1, nI_1]
      have h3 : i + 1 ≤ 40 := by omega
      have h4 : 40 < i + 1 + n := by omega
      have q := hP i (by omega)
      cases ho : S.2.1 3 i with
      | none =>
        dsimp only
        have np : ¬ P i = true := fun z => by obtain ⟨a, e, -⟩ := q.mp z; rw [ho] at e; cases e
        have z := cd_z hP n (i + 1) h3 h4
        rwa [kc_n np] at z
      | some a =>
        dsimp only
        by_cases hk : S.2.2.2.1 a = 1
        · rw [if_pos hk]
          have z := cd_z hP n (i + 1) h3 h4
          rwa [kc_y (q.mpr ⟨a, ho, hk⟩)] at z
        · rw [if_neg hk]
          have np : ¬ P i = true := fun z => by obtain ⟨b, e, f⟩ := q.mp z; rw [ho] at e; cases e; exact hk f
          have z := cd_z hP n (i + 1) h3 h4
          rwa [kc_n np] at z
theorem ch_z {S : gSc} {P : Nat → Bool} (hP : ∀ i, i < 40 → (P i = true ↔ ∃ a, S.2.1 3 i = some a ∧ ¬ S.2.2.2.1 a = 1)) : ∀ (n i : Nat), i ≤ 40 → 40 < i + n → q_X10_countHouses_b13 S n (nI (kc P i)) 40 (nI i) = nI (kc P 40)
  | 0, i => fun h1 h2 => absurd h2 (by omega)
  | n + 1, i => by
    intro h1 h2
    rw [q_X10_countHouses_b13]
    dsimp only
    by_cases c : i = 40
    · subst c
      rw [if_pos (show (40 : Int32) ≤ nI 40 from nI_le (Nat.le_refl _) (by decide))]
    · rw [if_neg (show ¬ (40 : Int32) ≤ nI i from nI_ge (a := i) (b := 40) (by omega) (by decide)), nI_clamp (show i < 2 ^ 31 by omega), nI_1, nI_1]
      have h3 : i + 1 ≤ 40 := by omega
      have h4 : 40 < i + 1 + n := by omega
      have q := hP i (by omega)
      cases ho : S.2.1 3 i with
      | none =>
        dsimp only
        have np : ¬ P i = true := fun z => by obtain ⟨a, e, -⟩ := q.mp z; rw [ho] at e; cases e
        have z := ch_z hP n (i + 1) h3 h4
        rwa [kc_n np] at z
      | some a =>
        dsimp only
        by_cases hk : S.2.2.2.1 a = 1
        · rw [if_pos hk]
          have np : ¬ P i = true := fun z => by obtain ⟨b, e, f⟩ := q.mp z; rw [ho] at e; cases e; exact f hk
          have z := ch_z hP n (i + 1) h3 h4
          rwa [kc_n np] at z
        · rw [if_neg hk]
          have z := ch_z hP n (i + 1) h3 h4
          rwa [kc_y (q.mpr ⟨a, ho, hk⟩)] at z
theorem mn_z {M : gSm} {lo hi : Int32} {P : Nat → Bool} (hP : ∀ i, i < 40 → (P i = true ↔ ¬ q_X11_isIn ((q_X11_get M (nI i) 0).toInt64) (lo.toInt64) (hi.toInt64) = 0)) : ∀ (n i : Nat), i ≤ 40 → 40 < i + n → q_X11_manyOf_b5 M lo hi n (nI (kc P i)) (nI i) = nI (kc P 40)
  | 0, i => fun h1 h2 => absurd h2 (by omega)
  | n + 1, i => by
    intro h1 h2
    rw [q_X11_manyOf_b5]
    dsimp only
    by_cases c : i = 40
    · subst c
      rw [if_pos (show (40 : Int32) ≤ nI 40 from nI_le (Nat.le_refl _) (by decide))]
    · rw [if_neg (show ¬ (40 : Int32) ≤ nI i from nI_ge (a := i) (b := 40) (by omega) (by decide)), nI_1, nI_1, show nI (kc P i) + 0 = nI (kc P i) from nI_add (kc P i) 0]
      have q := hP i (by omega)
      have z := mn_z hP n (i + 1) (by omega) (by omega)
      by_cases g : q_X11_isIn ((q_X11_get M (nI i) 0).toInt64) (lo.toInt64) (hi.toInt64) = 0
      · rw [if_pos g]
        rwa [kc_n (fun w => q.mp w g)] at z
      · rw [if_neg g]
        rwa [kc_y (q.mpr g)] at z
theorem kc_or {P Q R : Nat → Bool} : ∀ {n : Nat}, (∀ i, i < n → R i = (P i || Q i)) → (∀ i, i < n → ¬ (P i = true ∧ Q i = true)) → kc R n = kc P n + kc Q n
  | 0, _, _ => rfl
  | n + 1, h, d => by
    have ih := kc_or (n := n) (fun i hi => h i (by omega)) (fun i hi => d i (by omega))
    have e := h n (by omega)
    have f := d n (by omega)
    by_cases p : P n = true
    · have q : ¬ Q n = true := fun q => f ⟨p, q⟩
      rw [kc_y p, kc_n q, kc_y (by rw [e, p]; rfl), ih]; omega
    · by_cases q : Q n = true
      · rw [kc_n p, kc_y q, kc_y (by rw [e, q, Bool.or_true]), ih]; omega
      · rw [kc_n p, kc_n q, kc_n (by rw [e, Bool.or_eq_true]; intro z; rcases z with z | z; exact p z; exact q z), ih]
def dlB (S : gSc) (p : Nat) : Bool := match S.2.1 3 p with | none => false | some a => decide (S.2.2.2.1 a = 1)
theorem dlB_iff (S : gSc) (i : Nat) : dlB S i = true ↔ ∃ a, S.2.1 3 i = some a ∧ S.2.2.2.1 a = 1 := by
  unfold dlB
  cases ho : S.2.1 3 i with
  | none => exact ⟨fun q => (by cases q), fun ⟨a, e, _⟩ => by cases e⟩
  | some a => exact ⟨fun q => ⟨a, rfl, of_decide_eq_true q⟩, fun ⟨b, e, f⟩ => by cases e; exact decide_eq_true f⟩
theorem hsB_iff (S : gSc) (i : Nat) : hsB S i = true ↔ ∃ a, S.2.1 3 i = some a ∧ ¬ S.2.2.2.1 a = 1 := by
  cases ho : S.2.1 3 i with
  | none => exact ⟨fun q => (by rw [hsB_none ho] at q; cases q), fun ⟨a, e, _⟩ => by cases e⟩
  | some a =>
    by_cases hk : S.2.2.2.1 a = 1
    · exact ⟨fun q => (by rw [hsB_d ho hk] at q; cases q), fun ⟨b, e, f⟩ => by cases e; exact absurd hk f⟩
    · exact ⟨fun _ => ⟨a, rfl, hk⟩, fun _ => hsB_h ho hk⟩
theorem mn_k : ∀ x : Fin 5, ¬ q_X11_isIn ((2 + nI x.val).toInt64) ((2 : Int32).toInt64) ((6 : Int32).toInt64) = 0 ∧ ¬ q_X11_isIn ((2 + nI x.val).toInt64) ((1 : Int32).toInt64) ((6 : Int32).toInt64) = 0 ∧ q_X11_isIn ((2 + nI x.val).toInt64) ((1 : Int32).toInt64) ((1 : Int32).toInt64) = 0 := by decide +kernel
/-- what stands at a place, by the reference's number -/
theorem pl_3 {M : gSm} {S : gSc} (h : iG M S) {i : Nat} (hi : i < 40) : (q_X11_get M (nI i) 0 = 0 ∧ dlB S i = false ∧ hsB S i = false) ∨ (q_X11_get M (nI i) 0 = 1 ∧ dlB S i = false ∧ hsB S i = true) ∨ (∃ x : Fin 5, q_X11_get M (nI i) 0 = 2 + nI x.val ∧ dlB S i = true ∧ hsB S i = false) := by
  have ip : isP (nI i) := ⟨by rw [nI_toInt (by omega)]; omega, by rw [nI_toInt (by omega)]; omega⟩
  have ec : (nI i).toNatClampNeg = i := nI_clamp (by omega)
  cases ho : S.2.1 3 i with
  | none => exact Or.inl ⟨nF_of h ip (by rw [ec]; exact ho), by unfold dlB; rw [ho], hsB_none ho⟩
  | some a =>
    by_cases hk : S.2.2.2.1 a = 1
    · have f := dF_of h ip (by rw [ec]; exact ho) hk
      obtain ⟨x, hx⟩ := i_fin f.2.2.2.2.2.2.2.1.1 f.2.2.2.2.2.2.2.1.2
      exact Or.inr (Or.inr ⟨x, by rw [f.1, hx], by unfold dlB; rw [ho]; exact decide_eq_true hk, hsB_d ho hk⟩)
    · have f := hF_of h ip (by rw [ec]; exact ho) hk
      exact Or.inr (Or.inl ⟨f.1, by unfold dlB; rw [ho]; exact decide_eq_false hk, hsB_h ho hk⟩)
theorem P_count {M : gSm} {S : gSc} (h : inv M S) (w : Int32) : q_X10_count S w = q_X11_count M w := by
  have hD : q_X10_countDials S = nI (kc (dlB S) 40) := by
    have z := cd_z (P := dlB S) (fun i _ => dlB_iff S i) 41 0 (by decide) (by decide)
    rw [show kc (dlB S) 0 = 0 from rfl, nI_0] at z
    rw [q_X10_countDials]
    exact z
  have hH : q_X10_countHouses S = nI (kc (hsB S) 40) := by
    have z := ch_z (P := hsB S) (fun i _ => hsB_iff S i) 41 0 (by decide) (by decide)
    rw [show kc (hsB S) 0 = 0 from rfl, nI_0] at z
    rw [q_X10_countHouses]
    exact z
  have m2 : q_X11_manyOf M 2 6 = nI (kc (dlB S) 40) := by
    have z := mn_z (M := M) (lo := 2) (hi := 6) (P := dlB S) (fun i hi => by
      rcases pl_3 h.2.1 hi with ⟨a, b, c⟩ | ⟨a, b, c⟩ | ⟨x, a, b, c⟩
      · rw [a, b]; decide
      · rw [a, b]; decide
      · rw [a, b]; exact ⟨fun _ => (mn_k x).1, fun _ => rfl⟩) 41 0 (by decide) (by decide)
    rw [show kc (dlB S) 0 = 0 from rfl, nI_0] at z
    rw [q_X11_manyOf]
    exact z
  have m1 : q_X11_manyOf M 1 1 = nI (kc (hsB S) 40) := by
    have z := mn_z (M := M) (lo := 1) (hi := 1) (P := hsB S) (fun i hi => by
      rcases pl_3 h.2.1 hi with ⟨a, b, c⟩ | ⟨a, b, c⟩ | ⟨x, a, b, c⟩
      · rw [a, c]; decide
      · rw [a, c]; decide
      · rw [a, c]; exact ⟨fun q => (by cases q), fun q => absurd (mn_k x).2.2 q⟩) 41 0 (by decide) (by decide)
    rw [show kc (hsB S) 0 = 0 from rfl, nI_0] at z
    rw [q_X11_manyOf]
    exact z
  have m0 : q_X11_manyOf M 1 6 = nI (kc (fun i => dlB S i || hsB S i) 40) := by
    have z := mn_z (M := M) (lo := 1) (hi := 6) (P := fun i => dlB S i || hsB S i) (fun i hi => by
      try dsimp only
      rcases pl_3 h.2.1 hi with ⟨a, b, c⟩ | ⟨a, b, c⟩ | ⟨x, a, b, c⟩
      · rw [a, b, c]; decide
      · rw [a, b, c]; decide
      · rw [a, b, c]; exact ⟨fun _ => (mn_k x).2.1, fun _ => rfl⟩) 41 0 (by decide) (by decide)
    rw [show kc (fun i => dlB S i || hsB S i) 0 = 0 from rfl, nI_0] at z
    rw [q_X11_manyOf]
    exact z
  have k0 : kc (fun i => dlB S i || hsB S i) 40 = kc (dlB S) 40 + kc (hsB S) 40 := kc_or (fun i _ => rfl) (fun i hi => by
    rcases pl_3 h.2.1 hi with ⟨a, b, c⟩ | ⟨a, b, c⟩ | ⟨x, a, b, c⟩
    · rw [b, c]; decide
    · rw [b, c]; decide
    · rw [b, c]; decide)
  unfold q_X10_count q_X11_count
  dsimp only
  rw [hD, hH, m0, m1, m2, k0, nI_add, h.1.1.1, h.2.2.2.1.1.1, h.2.2.1.1.1, h.2.2.2.2.1.1.1]
