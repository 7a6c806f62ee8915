/-! PURE 13: by how much a stone was turned -/
/-- the reference's look depends on what lasts alone -/
def mS (N M : gSm) : Prop := N.1 1 = M.1 1 ∧ N.2 0 11 = M.2 0 11 ∧ N.2 0 12 = M.2 0 12 ∧ N.2 0 13 = M.2 0 13
theorem pJ3 (Z : gSm) (x y z : Int64) : (pJ (pJ (pJ Z 0 11 x) 0 12 y) 0 13 z).2 0 11 = x ∧ (pJ (pJ (pJ Z 0 11 x) 0 12 y) 0 13 z).2 0 12 = y ∧ (pJ (pJ (pJ Z 0 11 x) 0 12 y) 0 13 z).2 0 13 = z := ⟨rfl, rfl, rfl⟩
theorem pJ2 (Z : gSm) (x y : Int64) : (pJ (pJ Z 0 14 x) 0 15 y).2 0 14 = x ∧ (pJ (pJ Z 0 14 x) 0 15 y).2 0 15 = y := ⟨rfl, rfl⟩
theorem cg_look {N M : gSm} (e : mE0 N M) (d m : Int32) : mS (q_X11_look N d m) (q_X11_look M d m) := by
  obtain ⟨⟨e1, -, -, e4, -⟩, -, f4, f6, -⟩ := e
  have et : q_X11_turnOf N d m = q_X11_turnOf M d m := by
    unfold q_X11_turnOf q_X11_correctionOf
    rw [e4, f6]
  refine ⟨?_, ?_, ?_, ?_⟩
  · rw [lk_I, lk_I]; exact e1
  · unfold q_X11_look
    dsimp only
    rw [et, (pJ3 _ _ _ _).1, (pJ3 _ _ _ _).1]
  · unfold q_X11_look
    dsimp only
    rw [et, f4, (pJ3 _ _ _ _).2.1, (pJ3 _ _ _ _).2.1]
  · unfold q_X11_look
    dsimp only
    rw [et, f4, (pJ3 _ _ _ _).2.2, (pJ3 _ _ _ _).2.2]
theorem cg_kind {N M : gSm} (h : mS N M) (p k : Int32) : q_X11_isOfKind N p k = q_X11_isOfKind M p k := by rw [ok_mK, ok_mK, get_fr h.1]
theorem cg_by {N M : gSm} (h : mS N M) (a b c : Int64) : q_X11_by N a b c = q_X11_by M a b c := by
  unfold q_X11_by
  rw [h.2.1, h.2.2.1, h.2.2.2]
theorem cg_sun {N M : gSm} (h : mS N M) (p : Int32) (g : Int64) (w : Int32) : q_X11_sunBy N p g w = q_X11_sunBy M p g w := by
  unfold q_X11_sunBy
  simp only [cg_kind h, cg_by h, get_fr h.1]
theorem cg_hid {N M : gSm} (h : mS N M) (p x y : Int32) : q_X11_isHiding N p x y = q_X11_isHiding M p x y := by
  unfold q_X11_isHiding q_X11_isHiding_b115
  simp only [get_fr h.1, h.2.1, h.2.2.1, h.2.2.2]
theorem cg_hb {N M : gSm} (h : mS N M) (p : Int32) : ∀ (n : Nat) (v : Int32), q_X11_hider_b2 N p n v = q_X11_hider_b2 M p n v
  | 0, _ => rfl
  | n + 1, v => by
    rw [q_X11_hider_b2, q_X11_hider_b2]
    simp only [get_fr h.1, cg_hid h, cg_hb h p n]
theorem cg_hider {N M : gSm} (h : mS N M) (p : Int32) : q_X11_hider N p = q_X11_hider M p := cg_hb h p 41 0
theorem cg_end {N M : gSm} (h : mS N M) (p : Int32) (g : Int64) : (q_X11_findEnd N p g).2 0 14 = (q_X11_findEnd M p g).2 0 14 ∧ (q_X11_findEnd N p g).2 0 15 = (q_X11_findEnd M p g).2 0 15 := by
  unfold q_X11_findEnd
  dsimp only
  rw [get_fr h.1, h.2.2.2, h.2.1, cg_sun h, cg_sun h, get_fr h.1]
  by_cases c : q_X11_get M p 0 = 5
  · rw [if_pos c, if_pos c]
    by_cases c2 : M.2 0 11 < 0
    · rw [if_pos c2, if_pos c2, (pJ2 _ _ _).1, (pJ2 _ _ _).1, (pJ2 _ _ _).2, (pJ2 _ _ _).2]; exact ⟨rfl, rfl⟩
    · rw [if_neg c2, if_neg c2, (pJ2 _ _ _).1, (pJ2 _ _ _).1, (pJ2 _ _ _).2, (pJ2 _ _ _).2]; exact ⟨rfl, rfl⟩
  · rw [if_neg c, if_neg c, (pJ2 _ _ _).1, (pJ2 _ _ _).1, (pJ2 _ _ _).2, (pJ2 _ _ _).2]
    refine ⟨rfl, ?_⟩
    generalize q_X11_down (((-q_X11_get M p 3).toInt64) * (q_X11_sunBy M p g 1)) (q_X11_sunBy M p g 0) = A
    have h2 : mS (pJ N 0 14 A) (pJ M 0 14 A) := h
    rw [cg_sun h2, get_fr h2.1]
theorem cg_T {N M : gSm} (h : mS N M) (p : Int32) (g : Int64) : (stT N p g).1 = (stT M p g).1 ∧ ((stT M p g).1 = 0 → (stT N p g).2.2 0 14 = (stT M p g).2.2 0 14 ∧ (stT N p g).2.2 0 15 = (stT M p g).2.2 0 15) := by
  have fe := cg_end h p g
  unfold stT
  dsimp only
  rw [h.2.2.2, cg_sun h, cg_hider h, fe.1, fe.2]
  by_cases c1 : 0 < M.2 0 13
  · rw [if_pos c1, if_pos c1]
    by_cases c2 : 0 < q_X11_sunBy M p g 0
    · rw [if_pos c2, if_pos c2]
      by_cases c3 : q_X11_hider M p = (-2000000005)
      · rw [if_pos c3, if_pos c3]
        by_cases c4 : q_X11_isIn ((q_X11_findEnd M p g).2 0 14) (-1000000) 1000000 = 0
        · rw [if_pos c4, if_pos c4]; exact ⟨rfl, fun q => xd q rfl⟩
        · rw [if_neg c4, if_neg c4]
          by_cases c5 : q_X11_isIn ((q_X11_findEnd M p g).2 0 15) (-1000000) 1000000 = 0
          · rw [if_pos c5, if_pos c5]; exact ⟨rfl, fun q => xd q rfl⟩
          · rw [if_neg c5, if_neg c5]; exact ⟨rfl, fun _ => fe⟩
      · rw [if_neg c3, if_neg c3]; exact ⟨rfl, fun q => xd q rfl⟩
    · rw [if_neg c2, if_neg c2]; exact ⟨rfl, fun q => xd q rfl⟩
  · rw [if_neg c1, if_neg c1]; exact ⟨rfl, fun q => xd q rfl⟩
theorem cg_st {N M : gSm} (e : mE0 N M) (p : Int32) (g : Int64) (d m : Int32) : (q_X11_stateOf N p g d m).1 = (q_X11_stateOf M p g d m).1 ∧ ((q_X11_stateOf M p g d m).1 = 0 → (q_X11_stateOf N p g d m).2.2 0 14 = (q_X11_stateOf M p g d m).2.2 0 14 ∧ (q_X11_stateOf N p g d m).2.2 0 15 = (q_X11_stateOf M p g d m).2.2 0 15) := by
  rw [st_T, st_T]
  exact cg_T (cg_look e d m) p g
/-- whether a turn agrees with a sight -/
def agB (M : gSm) (p g u : Int32) (i : Nat) : Bool := decide ((q_X11_stateOf M p ((g + u).toInt64) (M.1 5 (4 * i)) (M.1 5 (4 * i + 1))).1 = 0) && (!(decide (q_X11_isIn ((q_X11_stateOf M p ((g + u).toInt64) (M.1 5 (4 * i)) (M.1 5 (4 * i + 1))).2.2 0 14 - (M.1 5 (4 * i + 2)).toInt64) (-1) 1 = 0)) && !(decide (q_X11_isIn ((q_X11_stateOf M p ((g + u).toInt64) (M.1 5 (4 * i)) (M.1 5 (4 * i + 1))).2.2 0 15 - (M.1 5 (4 * i + 3)).toInt64) (-1) 1 = 0)))
theorem n4 {i : Nat} (h : i < 20) : (4 * nI i).toNatClampNeg = 4 * i ∧ (4 * nI i + 1).toNatClampNeg = 4 * i + 1 ∧ (4 * nI i + 2).toNatClampNeg = 4 * i + 2 ∧ (4 * nI i + 3).toNatClampNeg = 4 * i + 3 := by
  have e : (4 : Int32) * nI i = nI (4 * i) := pk_mul 4 i
  have e1 : nI (4 * i) + 1 = nI (4 * i + 1) := nI_1 _
  have e2 : nI (4 * i) + 2 = nI (4 * i + 2) := nI_add (4 * i) 2
  have e3 : nI (4 * i) + 3 = nI (4 * i + 3) := nI_add (4 * i) 3
  rw [e, e1, e2, e3]
  exact ⟨nI_clamp (by omega), nI_clamp (by omega), nI_clamp (by omega), nI_clamp (by omega)⟩
theorem ag_stop (M : gSm) (p u : Int32) (n : Nat) (v : Int32) (Z : gSm) : (q_X11_agrees_b5 M p u n 0 v Z).1 = 0 := by
  cases n with
  | zero => rfl
  | succ n =>
    rw [q_X11_agrees_b5]
    dsimp only
    split
    · rfl
    · rw [if_pos rfl]
theorem ag_z {M0 M : gSm} {p g u : Int32} {k : Nat} (hk : k ≤ 20) (h8 : M.1 0 8 = nI k) (hg : q_X11_get M p 4 = g) : ∀ (n i : Nat) (Z : gSm), i ≤ k → k < i + n → mE0 Z M → ((q_X11_agrees_b5 M0 p u n 1 (nI i) Z).1 = 0 ∨ (q_X11_agrees_b5 M0 p u n 1 (nI i) Z).1 = 1) ∧ ((q_X11_agrees_b5 M0 p u n 1 (nI i) Z).1 = 1 ↔ ∀ j, i ≤ j → j < k → agB M p g u j = true)
  | 0, i, Z => fun h1 h2 => absurd h2 (by omega)
  | n + 1, i, Z => by
    intro h1 h2 e
    rw [q_X11_agrees_b5]
    dsimp only
    have z8 : Z.1 0 8 = nI k := by rw [e.2.2.2.2]; exact h8
    by_cases c : i = k
    · subst c
      rw [z8, if_pos (nI_le (Nat.le_refl _) (by omega))]
      exact ⟨Or.inr rfl, fun _ j a b => absurd a (by omega), fun _ => rfl⟩
    · rw [z8, if_neg (nI_ge (show i < k by omega) (by omega)), if_neg (show ¬ (1 : Int32) = 0 by decide)]
      obtain ⟨q0, q1, q2, q3⟩ := n4 (i := i) (by omega)
      have z5 : Z.1 5 = M.1 5 := e.1.2.2.2.2
      have z1 : Z.1 1 = M.1 1 := e.1.1
      rw [get_fr z1, hg, z5, q0, q1, q2, q3, nI_1]
      have sI := sto_I Z p ((g + u).toInt64) (M.1 5 (4 * i)) (M.1 5 (4 * i + 1))
      have s5 : (q_X11_stateOf Z p ((g + u).toInt64) (M.1 5 (4 * i)) (M.1 5 (4 * i + 1))).2.1 5 = M.1 5 := by rw [sI, z5]
      have cg := cg_st e p ((g + u).toInt64) (M.1 5 (4 * i)) (M.1 5 (4 * i + 1))
      have eN : mE0 (q_X11_stateOf Z p ((g + u).toInt64) (M.1 5 (4 * i)) (M.1 5 (4 * i + 1))).2 M := mE0_tr (mE_1 sI).1 e
      rw [s5]
      have hB : agB M p g u i = (decide ((q_X11_stateOf M p ((g + u).toInt64) (M.1 5 (4 * i)) (M.1 5 (4 * i + 1))).1 = 0) && (!(decide (q_X11_isIn ((q_X11_stateOf M p ((g + u).toInt64) (M.1 5 (4 * i)) (M.1 5 (4 * i + 1))).2.2 0 14 - (M.1 5 (4 * i + 2)).toInt64) (-1) 1 = 0)) && !(decide (q_X11_isIn ((q_X11_stateOf M p ((g + u).toInt64) (M.1 5 (4 * i)) (M.1 5 (4 * i + 1))).2.2 0 15 - (M.1 5 (4 * i + 3)).toInt64) (-1) 1 = 0)))) := rfl
      generalize q_X11_stateOf Z p ((g + u).toInt64) (M.1 5 (4 * i)) (M.1 5 (4 * i + 1)) = T at cg eN ⊢
      generalize q_X11_stateOf M p ((g + u).toInt64) (M.1 5 (4 * i)) (M.1 5 (4 * i + 1)) = R at cg hB
      have bad : ∀ (Y : gSm), agB M p g u i = false → ((q_X11_agrees_b5 M0 p u n 0 (nI (i + 1)) Y).1 = 0 ∨ (q_X11_agrees_b5 M0 p u n 0 (nI (i + 1)) Y).1 = 1) ∧ ((q_X11_agrees_b5 M0 p u n 0 (nI (i + 1)) Y).1 = 1 ↔ ∀ j, i ≤ j → j < k → agB M p g u j = true) := by
        intro Y hf
        rw [ag_stop]
        refine ⟨Or.inl rfl, fun q => absurd q (by decide), fun q => ?_⟩
        have := q i (Nat.le_refl _) (by omega)
        rw [hf] at this
        cases this
      rw [cg.1]
      by_cases c1 : R.1 = 0
      · rw [if_pos c1, (cg.2 c1).1, (cg.2 c1).2]
        by_cases c2 : q_X11_isIn (R.2.2 0 14 - (M.1 5 (4 * i + 2)).toInt64) (-1) 1 = 0
        · rw [if_pos c2]
          exact bad _ (by rw [hB, decide_eq_true c2]; simp)
        · rw [if_neg c2]
          by_cases c3 : q_X11_isIn (R.2.2 0 15 - (M.1 5 (4 * i + 3)).toInt64) (-1) 1 = 0
          · rw [if_pos c3]
            exact bad _ (by rw [hB, decide_eq_true c3]; simp)
          · rw [if_neg c3]
            have ih := ag_z (M0 := M0) (u := u) hk h8 hg n (i + 1) T.2 (by omega) (by omega) eN
            have yes : agB M p g u i = true := by rw [hB, decide_eq_true c1, decide_eq_false c2, decide_eq_false c3]; rfl
            refine ⟨ih.1, ih.2.trans ⟨fun q j a b => ?_, fun q j a b => q j (by omega) b⟩⟩
            by_cases ej : j = i
            · rw [ej]; exact yes
            · exact q j (by omega) b
      · rw [if_neg c1]
        exact bad _ (by rw [hB, decide_eq_false c1]; rfl)
/-! the turns that are kept, by a test of the number of a turn -/
def uu (j : Nat) : Int32 := nI j - 300
theorem uu_z {j : Nat} (h : j ≤ 601) : (uu j).toInt = (j : Int) - 300 := by
  unfold uu
  have c : (300 : Int32).toInt = 300 := by decide
  have t : (nI j).toInt = (j : Int) := nI_toInt (by omega)
  rw [i_sub (by rw [c, t]; omega) (by rw [c, t]; omega), c, t]
theorem uu_1 {j : Nat} (h : j ≤ 600) : uu j + 1 = uu (j + 1) := by
  have a := uu_z (j := j) (by omega)
  have b := uu_z (j := j + 1) (by omega)
  exact y_inj (by rw [i_1 (by omega), a, b]; omega)
def kc (P : Nat → Bool) : Nat → Nat
  | 0 => 0
  | n + 1 => kc P n + (if P n = true then 1 else 0)
theorem kc_le (P : Nat → Bool) : ∀ n, kc P n ≤ n
  | 0 => Nat.le_refl _
  | n + 1 => by
    have := kc_le P n
    show kc P n + (if P n = true then 1 else 0) ≤ n + 1
    split <;> omega
theorem kc_mono (P : Nat → Bool) (i : Nat) : ∀ n, kc P i ≤ kc P (i + n)
  | 0 => Nat.le_refl _
  | n + 1 => by
    have := kc_mono P i n
    show kc P i ≤ kc P (i + n) + (if P (i + n) = true then 1 else 0)
    omega
theorem kc_m {P : Nat → Bool} {i n : Nat} (h : i ≤ n) : kc P i ≤ kc P n := by
  have := kc_mono P i (n - i)
  rwa [Nat.add_sub_cancel' h] at this
theorem kc_y {P : Nat → Bool} {i : Nat} (h : P i = true) : kc P (i + 1) = kc P i + 1 := by
  show kc P i + (if P i = true then 1 else 0) = _
  rw [if_pos h]
theorem kc_n {P : Nat → Bool} {i : Nat} (h : ¬ P i = true) : kc P (i + 1) = kc P i := by
  show kc P i + (if P i = true then 1 else 0) = _
  rw [if_neg h]
  rfl
theorem kc_lt {P : Nat → Bool} {i n : Nat} (h : P i = true) (hn : i < n) : kc P i < kc P n := by
  have := kc_m (P := P) (show i + 1 ≤ n by omega)
  rw [kc_y h] at this
  omega
theorem kc_cg {P Q : Nat → Bool} : ∀ {n : Nat}, (∀ j, j < n → P j = Q j) → kc P n = kc Q n
  | 0, _ => rfl
  | n + 1, h => by
    show kc P n + (if P n = true then 1 else 0) = kc Q n + (if Q n = true then 1 else 0)
    rw [kc_cg (fun j hj => h j (by omega)), h n (by omega)]
theorem kc_sub {P Q : Nat → Bool} (h : ∀ j, Q j = true → P j = true) : ∀ n, kc Q n ≤ kc P n
  | 0 => Nat.le_refl _
  | n + 1 => by
    have ih := kc_sub h n
    by_cases c : Q n = true
    · rw [kc_y c, kc_y (h n c)]; omega
    · rw [kc_n c]
      have := kc_m (P := P) (show n ≤ n + 1 by omega)
      omega
theorem kc_kth {P : Nat → Bool} {i : Nat} : ∀ {n : Nat}, i < kc P n → ∃ j, j < n ∧ P j = true ∧ kc P j = i
  | 0, h => absurd h (Nat.not_lt_zero i)
  | n + 1, h => by
    by_cases c : i < kc P n
    · obtain ⟨j, a, b, d⟩ := kc_kth c
      exact ⟨j, by omega, b, d⟩
    · by_cases q : P n = true
      · rw [kc_y q] at h
        exact ⟨n, by omega, q, by omega⟩
      · rw [kc_n q] at h
        exact absurd h c
def tI (P : Nat → Bool) (j : Nat) (f : Nat → Int32) (c : Int32) : Prop := c = nI (kc P j) ∧ ∀ i, i < j → P i = true → f (kc P i) = uu i
theorem tI_cg {P Q : Nat → Bool} {j : Nat} {f : Nat → Int32} {c : Int32} (h : tI P j f c) (e : ∀ i, i < j → P i = Q i) : tI Q j f c := by
  refine ⟨by rw [← kc_cg e]; exact h.1, fun i hi q => ?_⟩
  rw [← kc_cg (fun k hk => e k (by omega))]
  exact h.2 i hi (by rw [e i hi]; exact q)
/-- two that keep the same turns -/
theorem tI_eq {P : Nat → Bool} {f g : Nat → Int32} {c d : Int32} (h : tI P 601 f c) (k : tI P 601 g d) : c = d ∧ (0 ≤ d.toInt ∧ d.toInt ≤ 601) ∧ ∀ i, i < d.toInt.toNat → f i = g i := by
  have l := kc_le P 601
  have e : d.toInt = (kc P 601 : Int) := by rw [k.1]; exact nI_toInt (by omega)
  refine ⟨h.1.trans k.1.symm, by omega, fun i hi => ?_⟩
  obtain ⟨j, a, b, q⟩ := kc_kth (P := P) (i := i) (n := 601) (by omega)
  rw [← q, h.2 j a b, k.2 j a b]
/-- the reference's loop over the turns -/
theorem fd_z {M0 M : gSm} {p g : Int32} {k : Nat} (hk : k ≤ 20) (h8 : M.1 0 8 = nI k) (hg : q_X11_get M p 4 = g) (P : Nat → Bool) (hP : ∀ j, P j = true ↔ ∀ i, i < k → agB M p g (uu j) i = true) : ∀ (n j : Nat) (Z : gSm), j ≤ 601 → 601 < j + n → mE0 Z M → tI P j (Z.1 6) (Z.1 0 10) → (q_X11_found_b39 M0 p n (uu j) Z).1 = (q_X11_found_b39 M0 p n (uu j) Z).2.1 0 10 ∧ mE0 (q_X11_found_b39 M0 p n (uu j) Z).2 M ∧ tI P 601 ((q_X11_found_b39 M0 p n (uu j) Z).2.1 6) ((q_X11_found_b39 M0 p n (uu j) Z).2.1 0 10)
  | 0, j, Z => fun h1 h2 => absurd h2 (by omega)
  | n + 1, j, Z => by
    intro h1 h2 e t
    rw [q_X11_found_b39]
    dsimp only
    have uz := uu_z (j := j) h1
    have c300 : (300 : Int32).toInt = 300 := by decide
    by_cases c : j = 601
    · subst c
      rw [if_pos (Int32.lt_iff_toInt_lt.mpr (by rw [c300, uz]; omega))]
      exact ⟨rfl, e, t⟩
    · rw [if_neg (fun q => by have := i_lt q; rw [c300, uz] at this; omega), uu_1 (by omega)]
      have ag := ag_z (M0 := Z) (u := uu j) hk h8 hg 22 0 Z (by omega) (by omega) e
      rw [nI_0] at ag
      have ag2 : ((q_X11_agrees Z p (uu j)).1 = 0 ∨ (q_X11_agrees Z p (uu j)).1 = 1) ∧ ((q_X11_agrees Z p (uu j)).1 = 1 ↔ ∀ i, 0 ≤ i → i < k → agB M p g (uu j) i = true) := ag
      have aI := ag_I Z p (uu j)
      generalize q_X11_agrees Z p (uu j) = T at ag2 aI ⊢
      have e2 : mE0 T.2 M := mE0_tr (mE_1 aI).1 e
      have t2 : tI P j (T.2.1 6) (T.2.1 0 10) := by rw [aI]; exact t
      by_cases g0 : T.1 = 0
      · have np : ¬ P j = true := fun q => by
          have := ag2.2.mpr (fun i _ hi => (hP j).mp q i hi)
          rw [g0] at this
          exact absurd this (by decide)
        rw [if_pos g0]
        refine fd_z hk h8 hg P hP n (j + 1) T.2 (by omega) (by omega) e2 ⟨by rw [kc_n np]; exact t2.1, fun i hi q => ?_⟩
        by_cases ei : i = j
        · rw [ei] at q; exact absurd q np
        · exact t2.2 i (by omega) q
      · have yp : P j = true := (hP j).mpr (fun i hi => ag2.2.mp (ag2.1.resolve_left g0) i (Nat.zero_le _) hi)
        have l := kc_le P j
        have ec : (T.2.1 0 10).toNatClampNeg = kc P j := by rw [t2.1]; exact nI_clamp (by omega)
        rw [if_neg g0, ec]
        have a6 : (pM (pM T.2 6 (kc P j) (uu j)) 0 10 ((T.2.1 0 10) + 1)).1 6 = upd (T.2.1 6) (kc P j) (uu j) := rfl
        have a10 : (pM (pM T.2 6 (kc P j) (uu j)) 0 10 ((T.2.1 0 10) + 1)).1 0 10 = (T.2.1 0 10) + 1 := rfl
        have e3 : mE0 (pM (pM T.2 6 (kc P j) (uu j)) 0 10 ((T.2.1 0 10) + 1)) T.2 := ⟨⟨rfl, rfl, rfl, rfl, rfl⟩, rfl, rfl, rfl, rfl⟩
        refine fd_z hk h8 hg P hP n (j + 1) _ (by omega) (by omega) (mE0_tr e3 e2) ?_
        rw [a6, a10]
        refine ⟨by rw [t2.1, nI_1, kc_y yp], fun i hi q => ?_⟩
        by_cases ei : i = j
        · rw [ei, pk_us]
        · have lt := kc_lt q (show i < j by omega)
          rw [pk_un (by omega)]
          exact t2.2 i (by omega) q
