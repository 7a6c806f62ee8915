/-! PURE 19: changes that are kept -/
theorem i7 {k r : Nat} (hk : k < 1000) (hr : r < 7) : (7 * nI k + nI r).toNatClampNeg = 7 * k + r := by
  rw [show (7 : Int32) = nI 7 from rfl, pk_mul, nI_add, nI_clamp (by omega)]
/-- rows of the reference: the comps but 0, 3, and 0's fields but 3 -/
theorem kb97 (M : gSm) {k q : Nat} (hk : k < 16) (hq : q < 40) : ∀ (n i : Nat) (Z : gSm), i ≤ 7 → 7 < i + n → Z.1 0 3 = nI k → ((q_X11_keep_b97 M (nI q) n (nI i) Z).1 0 3 = nI (k + 1) ∧ (∀ j, j ≠ 3 → (q_X11_keep_b97 M (nI q) n (nI i) Z).1 0 j = Z.1 0 j)) ∧ (∀ c, c ≠ 0 → c ≠ 3 → (q_X11_keep_b97 M (nI q) n (nI i) Z).1 c = Z.1 c) ∧ (∀ r, i ≤ r → r < 7 → (q_X11_keep_b97 M (nI q) n (nI i) Z).1 3 (7 * k + r) = Z.1 1 (7 * q + r)) ∧ ∀ j, (j < 7 * k + i ∨ 7 * k + 7 ≤ j) → (q_X11_keep_b97 M (nI q) n (nI i) Z).1 3 j = Z.1 3 j
  | 0, i, Z => fun h1 h2 => absurd h2 (by omega)
  | n + 1, i, Z => by
    intro h1 h2 h3
    rw [q_X11_keep_b97]
    dsimp only
    by_cases c : i = 7
    · subst c
      rw [if_pos (show (7 : Int32) ≤ nI 7 from nI_le (Nat.le_refl _) (by decide))]
      refine ⟨⟨by rw [pM_s, pk_us, h3, nI_1], fun j hj => by rw [pM_s, pk_un hj]⟩, fun c h0 _ => pM_n h0, fun r a b => absurd b (by omega), fun j _ => by rw [pM_n (by decide)]⟩
    · rw [if_neg (show ¬ (7 : Int32) ≤ nI i from nI_ge (a := i) (b := 7) (by omega) (by decide)), nI_1, h3, i7 (by omega) (by omega), i7 (by omega) (by omega)]
      have z := kb97 M hk hq n (i + 1) (pM Z 3 (7 * k + i) (Z.1 1 (7 * q + i))) (by omega) (by omega) (by rw [pM_n (by decide)]; exact h3)
      refine ⟨⟨z.1.1, fun j hj => by rw [z.1.2 j hj, pM_n (by decide)]⟩, fun c h0 h4 => by rw [z.2.1 c h0 h4, pM_n h4], fun r a b => ?_, fun j hj => ?_⟩
      · by_cases e : r = i
        · subst e
          rw [z.2.2.2 _ (Or.inl (by omega)), pM_s, pk_us]
        · rw [z.2.2.1 r (by omega) b, pM_n (by decide)]
      · rw [z.2.2.2 j (by omega), pM_s, pk_un (by omega)]
theorem kb33 (M : gSm) (p : Int32) {k : Nat} (hk0 : 0 < k) (hk : k < 16) : ∀ (n i : Nat) (Z : gSm), i ≤ 7 → 7 < i + n → (∀ c, c ≠ 3 → (q_X11_keep_b33 M p (nI k) n (nI i) Z).1 c = Z.1 c) ∧ (∀ r, i ≤ r → r < 7 → (q_X11_keep_b33 M p (nI k) n (nI i) Z).1 3 (7 * (k - 1) + r) = Z.1 3 (7 * k + r)) ∧ ∀ j, (j < 7 * (k - 1) + i ∨ 7 * (k - 1) + 7 ≤ j) → (q_X11_keep_b33 M p (nI k) n (nI i) Z).1 3 j = Z.1 3 j
  | 0, i, Z => fun h1 h2 => absurd h2 (by omega)
  | n + 1, i, Z => by
    intro h1 h2
    rw [q_X11_keep_b33]
    dsimp only
    have e1 : nI k - 1 = nI (k - 1) := by
      have := nI_pred (k - 1)
      rwa [Nat.sub_add_cancel (by omega)] at this
    by_cases c : i = 7
    · subst c
      rw [if_pos (show (7 : Int32) ≤ nI 7 from nI_le (Nat.le_refl _) (by decide))]
      exact ⟨fun _ _ => rfl, fun r a b => absurd b (by omega), fun _ _ => rfl⟩
    · rw [if_neg (show ¬ (7 : Int32) ≤ nI i from nI_ge (a := i) (b := 7) (by omega) (by decide)), nI_1, e1, i7 (by omega) (by omega), i7 (by omega) (by omega)]
      have z := kb33 M p hk0 hk n (i + 1) (pM Z 3 (7 * (k - 1) + i) (Z.1 3 (7 * k + i))) (by omega) (by omega)
      refine ⟨fun c h4 => by rw [z.1 c h4, pM_n h4], fun r a b => ?_, fun j hj => ?_⟩
      · by_cases e : r = i
        · subst e
          rw [z.2.2 _ (Or.inl (by omega)), pM_s, pk_us]
        · rw [z.2.1 r (by omega) b, pM_s, pk_un (by omega)]
      · rw [z.2.2 j (by omega), pM_s, pk_un (by omega)]
/-- the kept rows behind the keeping: o of the eldest went -/
def kpR (M : gSm) (q o k : Nat) (Y : gSm) : Prop := (Y.1 0 3 = nI (k + 1) ∧ ∀ j, j ≠ 3 → Y.1 0 j = M.1 0 j) ∧ (∀ c, c ≠ 0 → c ≠ 2 → c ≠ 3 → Y.1 c = M.1 c) ∧ (∀ i, i < k → Y.1 2 i = M.1 2 (i + o) ∧ ∀ r, r < 7 → Y.1 3 (7 * i + r) = M.1 3 (7 * (i + o) + r)) ∧ (Y.1 2 k = nI q ∧ ∀ r, r < 7 → Y.1 3 (7 * k + r) = M.1 1 (7 * q + r)) ∧ ∀ j, j < 16 → (∀ i, i < 16 → isP (M.1 2 i)) → isP (nI q) → isP (Y.1 2 j)
theorem kb85 (M0 M Z : gSm) {k q o : Nat} (hk : k < 16) (hq : q < 40) (h3 : Z.1 0 3 = nI k) (hz : ∀ j, j ≠ 3 → Z.1 0 j = M.1 0 j) (hc : ∀ c, c ≠ 0 → c ≠ 2 → c ≠ 3 → Z.1 c = M.1 c) (he : ∀ i, i < k → Z.1 2 i = M.1 2 (i + o) ∧ ∀ r, r < 7 → Z.1 3 (7 * i + r) = M.1 3 (7 * (i + o) + r)) (hp : ∀ j, j < 16 → (∀ i, i < 16 → isP (M.1 2 i)) → isP (Z.1 2 j)) : kpR M q o k (q_X11_keep_b85 M0 (nI q) Z) := by
  unfold q_X11_keep_b85
  rw [h3, nI_clamp (show k < 2 ^ 31 by omega)]
  have z := kb97 M0 hk hq 8 0 (pM Z 2 k (nI q)) (by decide) (by decide) (by rw [pM_n (by decide)]; exact h3)
  rw [nI_0] at z
  generalize q_X11_keep_b97 M0 (nI q) 8 0 (pM Z 2 k (nI q)) = Y at z ⊢
  obtain ⟨⟨z1, z2⟩, z3, z4, z5⟩ := z
  have y2 : Y.1 2 = upd (Z.1 2) k (nI q) := by rw [z3 2 (by decide) (by decide), pM_s]
  refine ⟨⟨z1, fun j hj => by rw [z2 j hj, pM_n (by decide), hz j hj]⟩, fun c a b d => by rw [z3 c a d, pM_n b, hc c a b d], fun i hi => ⟨by rw [y2, pk_un (by omega)]; exact (he i hi).1, fun r hr => ?_⟩, ⟨by rw [y2, pk_us], fun r hr => ?_⟩, fun j hj a b => ?_⟩
  · rw [z5 _ (Or.inl (by omega)), pM_n (by decide)]; exact (he i hi).2 r hr
  · rw [z4 r (Nat.zero_le _) hr, pM_n (by decide), hc 1 (by decide) (by decide) (by decide)]
  · rw [y2]
    by_cases e : j = k
    · rw [e, pk_us]; exact b
    · rw [pk_un e]; exact hp j hj a
theorem kb11 (M0 M : gSm) {q : Nat} (hq : q < 40) (h16 : M.1 0 3 = nI 16) : ∀ (n k : Nat) (Z : gSm), 1 ≤ k → k ≤ 16 → 16 < k + n → Z.1 0 = M.1 0 → (∀ c, c ≠ 2 → c ≠ 3 → Z.1 c = M.1 c) → (∀ i, i < k - 1 → Z.1 2 i = M.1 2 (i + 1) ∧ ∀ r, r < 7 → Z.1 3 (7 * i + r) = M.1 3 (7 * (i + 1) + r)) → (∀ i, k - 1 ≤ i → Z.1 2 i = M.1 2 i) → (∀ j, 7 * (k - 1) ≤ j → Z.1 3 j = M.1 3 j) → kpR M q 1 15 (q_X11_keep_b11 M0 (nI q) n (nI k) Z)
  | 0, k, Z => fun _ h1 h2 => absurd h2 (by omega)
  | n + 1, k, Z => by
    intro h0 h1 h2 e0 ec e2 e3 e4
    rw [q_X11_keep_b11]
    dsimp only
    by_cases c : k = 16
    · subst c
      rw [if_pos (show (16 : Int32) ≤ nI 16 from nI_le (Nat.le_refl _) (by decide))]
      refine kb85 M0 M _ (k := 15) (o := 1) (by decide) hq (by rw [pM_s, pk_us, e0, h16]; rfl) (fun j hj => by rw [pM_s, pk_un hj, e0]) (fun c a b d => by rw [pM_n a]; exact ec c b d) (fun i hi => ?_) (fun j hj a => ?_)
      · rw [pM_n (by decide), pM_n (by decide)]; exact e2 i hi
      · rw [pM_n (by decide)]
        by_cases e : j < 15
        · rw [(e2 j (by omega)).1]; exact a (j + 1) (by omega)
        · rw [e3 j (by omega)]; exact a j hj
    · have ev : nI k - 1 = nI (k - 1) := by
        have := nI_pred (k - 1)
        rwa [Nat.sub_add_cancel (by omega)] at this
      rw [if_neg (show ¬ (16 : Int32) ≤ nI k from nI_ge (a := k) (b := 16) (by omega) (by decide)), nI_1, ev, nI_clamp (show k - 1 < 2 ^ 31 by omega), nI_clamp (show k < 2 ^ 31 by omega)]
      have z := kb33 M0 (nI q) (k := k) (by omega) (by omega) 8 0 (pM Z 2 (k - 1) (Z.1 2 k)) (by decide) (by decide)
      rw [nI_0] at z
      generalize q_X11_keep_b33 M0 (nI q) (nI k) 8 0 (pM Z 2 (k - 1) (Z.1 2 k)) = Y at z ⊢
      obtain ⟨z1, z2, z3⟩ := z
      have y2 : Y.1 2 = upd (Z.1 2) (k - 1) (Z.1 2 k) := by rw [z1 2 (by decide), pM_s]
      refine kb11 M0 M hq h16 n (k + 1) Y (by omega) (by omega) (by omega) (by rw [z1 0 (by decide), pM_n (by decide)]; exact e0) (fun c a b => by rw [z1 c b, pM_n a]; exact ec c a b) (fun i hi => ?_) (fun i hi => ?_) (fun j hj => ?_)
      · by_cases e : i = k - 1
        · subst e
          refine ⟨by rw [y2, pk_us, e3 k (by omega), Nat.sub_add_cancel (by omega)], fun r hr => ?_⟩
          rw [z2 r (Nat.zero_le _) hr, pM_n (by decide), e4 _ (by omega), Nat.sub_add_cancel (by omega)]
        · refine ⟨by rw [y2, pk_un e]; exact (e2 i (by omega)).1, fun r hr => ?_⟩
          rw [z3 _ (Or.inl (by omega)), pM_n (by decide)]; exact (e2 i (by omega)).2 r hr
      · rw [y2, pk_un (by omega)]; exact e3 i (by omega)
      · rw [z3 j (Or.inr (by omega)), pM_n (by decide)]; exact e4 j (by omega)
theorem keep_z {M : gSm} {q K : Nat} (hq : q < 40) (hK : K ≤ 16) (h3 : M.1 0 3 = nI K) : kpR M q (if K = 16 then 1 else 0) (if K = 16 then 15 else K) (q_X11_keep M (nI q)) := by
  unfold q_X11_keep
  by_cases c : K = 16
  · subst c
    rw [if_pos rfl, if_pos rfl, if_pos (show M.1 0 3 = 16 from h3)]
    have z := kb11 M M hq h3 16 1 M (by decide) (by decide) (by decide) rfl (fun _ _ _ => rfl) (fun i hi => absurd hi (Nat.not_lt_zero i)) (fun _ _ => rfl) (fun _ _ => rfl)
    exact z
  · rw [if_neg c, if_neg c, if_neg (show ¬ M.1 0 3 = 16 from fun e => c (by rw [h3] at e; exact (nI_eq (b := 16) (by omega) (by decide)).mp e))]
    exact kb85 M M M (by omega) hq h3 (fun _ _ => rfl) (fun _ _ _ _ => rfl) (fun i _ => ⟨rfl, fun _ _ => rfl⟩) (fun j hj a => a j hj)
/-! the class's ring -/
def kpC (S : gSc) (p : Int32) (o : Option Nat) (l : Int32) : gSc := pI (sR (pI (pI S 4 2 l) 5 (l.toNatClampNeg) p) 6 (va_up (S.2.1 6) (l.toNatClampNeg) o)) 4 3 (if 16 < ((S.1 4 3) + 1) then 16 else ((S.1 4 3) + 1))
theorem keepC_eq (S : gSc) (p : Int32) (o : Option Nat) : q_X0_keep S p o = kpC S p o (q_J9_floorMod_7cf53 ((S.1 4 2) + 1) 16) := by
  unfold q_X0_keep kpC
  cases o <;> rfl
theorem putC_eq (S : gSc) (p : Int32) (o : Option Nat) : q_X10_put S p o = sR (q_X0_keep S p (S.2.1 3 (p.toNatClampNeg))) 3 (va_up ((q_X0_keep S p (S.2.1 3 (p.toNatClampNeg))).2.1 3) (p.toNatClampNeg) o) := by
  unfold q_X10_put
  cases o <;> cases S.2.1 3 (p.toNatClampNeg) <;> rfl
theorem fm_nI {x : Int32} {k : Nat} (h : x.toInt = k) (hk : k < 1000) : q_J9_floorMod_7cf53 x 16 = nI (k % 16) := y_inj (by rw [fmod_z, nI_toInt (by omega), h]; omega)
/-- the things agree on what was there -/
def extT (T T1 : gTh) : Prop := ∀ a, a ∈ T.1 → a ∈ T1.1 ∧ T1.2.1 a = T.2.1 a ∧ T1.2.2 a = T.2.2 a
theorem tR_ext {T T1 : gTh} (e : extT T T1) {row : Nat → Int32} {o : Option Nat} (h : tR T row o) : tR T1 row o := by
  refine ⟨h.1, fun a ha => ?_⟩
  obtain ⟨h1, h2, h3⟩ := h.2 a ha
  obtain ⟨e1, e2, e3⟩ := e a h1
  rw [e2, e3]
  exact ⟨e1, h2, h3⟩
theorem tR_row {T : gTh} {row row2 : Nat → Int32} {o : Option Nat} (h : tR T row o) (e : ∀ r, r < 7 → row2 r = row r) : tR T row2 o := by
  refine ⟨fun q => by rw [e 0 (by decide)]; exact h.1 q, fun a ha => ?_⟩
  obtain ⟨h1, h2, h3⟩ := h.2 a ha
  refine ⟨h1, fun q => ?_, fun q => ?_⟩
  · obtain ⟨a1, a2, a3⟩ := h2 q
    exact ⟨by rw [e 0 (by decide)]; exact a1, fun i hi => by rw [e (1 + i) (by omega)]; exact a2 i hi, a3⟩
  · obtain ⟨a1, a2⟩ := h3 q
    exact ⟨by rw [e 0 (by decide)]; exact a1, fun i hi => by rw [e (1 + i) (by omega)]; exact a2 i hi⟩
theorem inv_ext {M : gSm} {S Y : gSc} (h : inv M S) (e1 : Y.1 = S.1) (e2 : Y.2.1 = S.2.1) (e : extT S.2.2 Y.2.2) : inv M Y := by
  obtain ⟨hS, hG, hK, hN, hT, hH⟩ := h
  refine ⟨?_, fun p hp => ?_, ?_, ?_, ?_, fun j a hj q => ?_⟩
  · unfold iS; rw [e1]; exact hS
  · rw [e2]; exact tR_ext e (hG p hp)
  · obtain ⟨k1, k2, k3, k4, k5, k6⟩ := hK
    unfold iK kSl
    rw [e1]
    refine ⟨k1, k2, k3, k4, fun j a hj q => ?_, fun i hi => ⟨(k6 i hi).1, ?_⟩⟩
    · rw [e2] at q; exact (e a (k5 j a hj q)).1
    · rw [e2]; exact tR_ext e (k6 i hi).2
  · unfold iN; rw [e1]; exact hN
  · unfold iT; rw [e1]; exact hT
  · rw [e2] at q
    obtain ⟨a1, a2⟩ := hH j a hj q
    obtain ⟨b1, b2, -⟩ := e a a1
    exact ⟨b1, by rw [b2]; exact a2⟩
/-- the change: the reference keeps a row and writes it anew, the class puts another thing -/
theorem chg {M N : gSm} {S : gSc} {p : Int32} {o : Option Nat} (h : inv M S) (hp : isP p) (n1 : ∀ c, c ≠ 1 → N.1 c = (q_X11_keep M p).1 c) (n2 : ∀ j, (j < 7 * p.toNatClampNeg ∨ 7 * p.toNatClampNeg + 7 ≤ j) → N.1 1 j = M.1 1 j) (ho : tR S.2.2 (fun i => N.1 1 (7 * p.toNatClampNeg + i)) o) : inv N (q_X10_put S p o) := by
  have xp := nI_x hp.1
  have lp := isP_lt hp
  have ip := hp
  rw [putC_eq, keepC_eq]
  generalize p.toNatClampNeg = q at xp lp n2 ho ⊢
  subst xp
  obtain ⟨hS, hG, ⟨⟨k1, k2, k3⟩, ⟨k4, k5⟩, k6, k7, k8, k9⟩, hN, hT, hH⟩ := h
  have xK := nI_x k2
  have eK : (S.1 4 3).toNatClampNeg = (S.1 4 3).toInt.toNat := rfl
  rw [← eK] at k9
  have lK : (S.1 4 3).toNatClampNeg ≤ 16 := by show (S.1 4 3).toInt.toNat ≤ 16; omega
  have xL := nI_x k4
  have lL : (S.1 4 2).toNatClampNeg < 16 := by show (S.1 4 2).toInt.toNat < 16; omega
  have i1 := i_1 (v := S.1 4 2) (by omega)
  have sl : ∀ i, kSl S i = ((S.1 4 2).toNatClampNeg + 17 + i - (S.1 4 3).toNatClampNeg) % 16 := fun _ => rfl
  generalize (S.1 4 3).toNatClampNeg = K at xK k9 lK sl
  have fm : q_J9_floorMod_7cf53 ((S.1 4 2) + 1) 16 = nI (((S.1 4 2).toNatClampNeg + 1) % 16) := fm_nI (k := (S.1 4 2).toNatClampNeg + 1) (by rw [i1]; show (S.1 4 2).toInt + 1 = (((S.1 4 2).toInt.toNat + 1 : Nat) : Int); omega) (by omega)
  rw [fm]
  generalize (S.1 4 2).toNatClampNeg = L at xL lL sl ⊢
  have kz := keep_z (M := M) (q := q) lp lK (k1.trans xK)
  generalize q_X11_keep M (nI q) = Y at kz n1
  generalize hk' : (if K = 16 then 15 else K) = k' at kz
  generalize hof : (if K = 16 then 1 else 0) = of at kz
  have hk : k' < 16 ∧ k' + of = K ∧ (of = 0 ∨ K = 16) := by
    by_cases c : K = 16
    · rw [if_pos c] at hk' hof; omega
    · rw [if_neg c] at hk' hof; omega
  obtain ⟨⟨a1, a2⟩, a3, a4, ⟨a5, a6⟩, a7⟩ := kz
  have n0 := n1 0 (by decide)
  have y1 : Y.1 1 = M.1 1 := a3 1 (by decide) (by decide) (by decide)
  have ecl : (nI ((L + 1) % 16)).toNatClampNeg = (L + 1) % 16 := nI_clamp (by omega)
  -- the class's cells
  have v43 : (if 16 < (S.1 4 3) + 1 then (16 : Int32) else (S.1 4 3) + 1) = nI (k' + 1) := by
    rw [xK, nI_1]
    by_cases c : K = 16
    · rw [if_pos (show (16 : Int32) < nI (K + 1) from nI_lt (a := 16) (by omega) (by omega))]
      rw [if_pos c] at hk'
      rw [← hk']; rfl
    · rw [if_neg (show ¬ (16 : Int32) < nI (K + 1) from nI_nlt (a := 16) (by omega) (by decide))]
      rw [if_neg c] at hk'
      rw [hk']
  unfold kpC
  rw [ecl, v43]
  generalize hB : sR (pI (sR (pI (pI S 4 2 (nI ((L + 1) % 16))) 5 ((L + 1) % 16) (nI q)) 6 (va_up (S.2.1 6) ((L + 1) % 16) (S.2.1 3 q))) 4 3 (nI (k' + 1))) 3 (va_up ((pI (sR (pI (pI S 4 2 (nI ((L + 1) % 16))) 5 ((L + 1) % 16) (nI q)) 6 (va_up (S.2.1 6) ((L + 1) % 16) (S.2.1 3 q))) 4 3 (nI (k' + 1))).2.1 3) q o) = B
  have b22 : B.2.2 = S.2.2 := by rw [← hB]; rfl
  have bk : ∀ c, c ≠ 4 → c ≠ 5 → B.1 c = S.1 c := fun c h4 h5 => by
    rw [← hB]
    show (pI (sR (pI (pI S 4 2 (nI ((L + 1) % 16))) 5 ((L + 1) % 16) (nI q)) 6 (va_up (S.2.1 6) ((L + 1) % 16) (S.2.1 3 q))) 4 3 (nI (k' + 1))).1 c = S.1 c
    rw [pI_n h4]
    show (pI (pI S 4 2 (nI ((L + 1) % 16))) 5 ((L + 1) % 16) (nI q)).1 c = S.1 c
    rw [pI_n h5, pI_n h4]
  have b42 : B.1 4 2 = nI ((L + 1) % 16) := by rw [← hB]; rfl
  have b43 : B.1 4 3 = nI (k' + 1) := by rw [← hB]; rfl
  have b5 : B.1 5 = upd (S.1 5) ((L + 1) % 16) (nI q) := by rw [← hB]; rfl
  have bR3 : B.2.1 3 = va_up (S.2.1 3) q o := by rw [← hB]; rfl
  have bR6 : B.2.1 6 = va_up (S.2.1 6) ((L + 1) % 16) (S.2.1 3 q) := by rw [← hB]; rfl
  have bR11 : B.2.1 11 = S.2.1 11 := by rw [← hB]; rfl
  clear hB
  have t43 : (B.1 4 3).toInt.toNat = k' + 1 := by rw [b43, nI_toInt (by omega)]; omega
  have t42 : (B.1 4 2).toInt.toNat = (L + 1) % 16 := by rw [b42, nI_toInt (by omega)]; omega
  have sB : ∀ i, kSl B i = ((L + 1) % 16 + 17 + i - (k' + 1)) % 16 := fun i => by unfold kSl; rw [t43, t42]
  refine ⟨iS_g hS (by rw [n1 4 (by decide), a3 4 (by decide) (by decide) (by decide)]) (by rw [n0]; exact a2 4 (by decide)) (by rw [n0]; exact a2 6 (by decide)) (by rw [bk 1 (by decide) (by decide)]) (by rw [bk 1 (by decide) (by decide)]) (by rw [bk 1 (by decide) (by decide)]) (by rw [bk 1 (by decide) (by decide)]) (bk 2 (by decide) (by decide)), fun r hr => ?_, ⟨⟨by rw [n0, a1, b43], by rw [b43, nI_toInt (by omega)]; omega, by rw [b43, nI_toInt (by omega)]; omega⟩, ⟨by rw [b42, nI_toInt (by omega)]; omega, by rw [b42, nI_toInt (by omega)]; omega⟩, fun j hj => ?_, fun j hj => by rw [n1 2 (by decide)]; exact a7 j hj k7 ip, fun j a hj e => ?_, fun i hi => ?_⟩, iN_g hN (by rw [n1 5 (by decide), a3 5 (by decide) (by decide) (by decide)]) (by rw [n0]; exact a2 8 (by decide)) (by rw [bk 17 (by decide) (by decide)]) (bk 18 (by decide) (by decide)) (bk 19 (by decide) (by decide)) (bk 20 (by decide) (by decide)) (bk 21 (by decide) (by decide)), iT_g hT (by rw [n1 6 (by decide), a3 6 (by decide) (by decide) (by decide)]) (by rw [n0]; exact a2 10 (by decide)) (by rw [bk 0 (by decide) (by decide)]) (bk 22 (by decide) (by decide)), fun j a hj e => ?_⟩
  · rw [b22, bR3]
    by_cases er : r = q
    · subst er
      rw [va_up_self]; exact ho
    · rw [va_up_ne _ _ er]
      exact tR_row (hG r hr) (fun i hi => n2 _ (by omega))
  · rw [b5]
    by_cases e : j = (L + 1) % 16
    · rw [e, pk_us]; exact ip
    · rw [pk_un e]; exact k6 j hj
  · rw [b22]
    rw [bR6] at e
    by_cases ej : j = (L + 1) % 16
    · rw [ej, va_up_self] at e
      exact ((hG q lp).2 a e).1
    · rw [va_up_ne _ _ ej] at e
      exact k8 j a hj e
  · rw [t43] at hi
    rw [n1 2 (by decide), n1 3 (by decide), b22, b5, bR6, sB]
    by_cases e : i = k'
    · subst e
      have es : ((L + 1) % 16 + 17 + i - (i + 1)) % 16 = (L + 1) % 16 := by omega
      rw [es, pk_us, va_up_self]
      exact ⟨a5, tR_row (hG q lp) (fun r hr => a6 r hr)⟩
    · have es : ((L + 1) % 16 + 17 + i - (k' + 1)) % 16 = (L + 17 + (i + of) - K) % 16 := by omega
      have ne : ((L + 1) % 16 + 17 + i - (k' + 1)) % 16 ≠ (L + 1) % 16 := by omega
      rw [pk_un ne, va_up_ne _ _ ne, es]
      have z := k9 (i + of) (by omega)
      rw [sl] at z
      have w := a4 i (by omega)
      exact ⟨by rw [w.1]; exact z.1, tR_row z.2 (fun r hr => w.2 r hr)⟩
  · rw [bR11] at e
    rw [b22]
    exact hH j a hj e
