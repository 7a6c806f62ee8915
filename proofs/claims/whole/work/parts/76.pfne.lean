/-! PURE 15: found -/
def PS (M : gSm) (p g : Int32) : Nat → Nat → Bool
  | 0, _ => true
  | s + 1, j => PS M p g s j && agB M p g (uu j) s
theorem PS_iff (M : gSm) (p g : Int32) (j : Nat) : ∀ s, PS M p g s j = true ↔ ∀ i, i < s → agB M p g (uu j) i = true
  | 0 => ⟨fun _ i hi => absurd hi (Nat.not_lt_zero i), fun _ => rfl⟩
  | s + 1 => by
    show (PS M p g s j && agB M p g (uu j) s) = true ↔ _
    rw [Bool.and_eq_true, PS_iff M p g j s]
    constructor
    · intro h i hi
      by_cases e : i = s
      · rw [e]; exact h.2
      · exact h.1 i (by omega)
    · intro h
      exact ⟨fun i hi => h i (by omega), h s (by omega)⟩
theorem kc_true : ∀ n, kc (fun _ => true) n = n
  | 0 => rfl
  | n + 1 => by rw [kc_y rfl, kc_true n]
theorem kal_b (S : gSc) : ∀ (n i : Nat) (Z : gSc), i ≤ 601 → 601 < i + n → (∀ t, t < i → Z.1 22 t = uu t) → ∀ t, t < 601 → (q_X10_keepAllTurns_b2 S n (nI i) Z).1 22 t = uu t
  | 0, i, Z => fun h1 h2 => absurd h2 (by omega)
  | n + 1, i, Z => by
    intro h1 h2 h3 t ht
    rw [q_X10_keepAllTurns_b2]
    dsimp only
    by_cases c : i = 601
    · subst c
      rw [if_pos (show (601 : Int32) ≤ nI 601 from nI_le (Nat.le_refl _) (by decide)), pI_n (by decide)]
      exact h3 t ht
    · rw [if_neg (show ¬ (601 : Int32) ≤ nI i from nI_ge (a := i) (b := 601) (by omega) (by decide)), nI_1]
      have ec : (nI i).toNatClampNeg = i := nI_clamp (by omega)
      rw [ec]
      refine kal_b S n (i + 1) _ (by omega) (by omega) (fun t ht => ?_) t ht
      rw [pI_s]
      by_cases e : t = i
      · rw [e, pk_us]; rfl
      · rw [pk_un e]; exact h3 t (by omega)
theorem kal_z (S : gSc) : tI (fun _ => true) 601 ((q_X10_keepAllTurns S).1 22) ((q_X10_keepAllTurns S).1 0 7) := by
  have h := kal_b S 602 0 S (by decide) (by decide) (fun t ht => absurd ht (Nat.not_lt_zero t))
  rw [nI_0] at h
  refine ⟨by rw [(kl_all S).1, kc_true]; rfl, fun i hi _ => ?_⟩
  rw [kc_true]
  unfold q_X10_keepAllTurns
  exact h i hi
theorem cE_kal (S : gSc) : cE (q_X10_keepAllTurns S) S := by
  have k := (kl_all S).2
  have e := ka_2 S
  generalize q_X10_keepAllTurns S = Y at k e ⊢
  have k1 := k 1 (by decide) (by decide)
  exact ⟨⟨by rw [e], by rw [e], by rw [e]⟩, ⟨by rw [k1], by rw [k1], by rw [k1], by rw [k1]⟩, k 2 (by decide) (by decide), k 4 (by decide) (by decide), k 5 (by decide) (by decide), k 17 (by decide) (by decide), k 18 (by decide) (by decide), k 19 (by decide) (by decide), k 20 (by decide) (by decide), k 21 (by decide) (by decide)⟩
/-- ready for turns -/
def rdT (M : gSm) (S0 S : gSc) (p : Int32) (a : Nat) : Prop := inv M S0 ∧ dF M p (S0.2.2.2.2 a) ∧ suD S a ∧ cE S S0 ∧ okH S
theorem kq_z {M : gSm} {S0 S : gSc} {p : Int32} {a i k : Nat} (r : rdT M S0 S p a) (h17 : S0.1 17 4 = nI k) (hi : i < k) (h20 : k ≤ 20) (P Q : Nat → Bool) (hP : tI P 601 (S.1 22) (S.1 0 7)) (hQ : ∀ j, Q j = (P j && agB M p (S0.2.2.2.2 a 4) (uu j) i)) : rdT M S0 (q_X10_keepAgreeingTurns S a (nI i)) p a ∧ tI Q 601 ((q_X10_keepAgreeingTurns S a (nI i)).1 22) ((q_X10_keepAgreeingTurns S a (nI i)).1 0 7) := by
  obtain ⟨h1, h2, h3, h4, h5⟩ := r
  have ec : (nI i).toNatClampNeg = i := nI_clamp (by omega)
  have c17 : S.1 17 = S0.1 17 := h4.2.2.2.2.2.1
  have c18 : S.1 18 = S0.1 18 := h4.2.2.2.2.2.2.1
  have c19 : S.1 19 = S0.1 19 := h4.2.2.2.2.2.2.2.1
  have c20 : S.1 20 = S0.1 20 := h4.2.2.2.2.2.2.2.2.1
  have c21 : S.1 21 = S0.1 21 := h4.2.2.2.2.2.2.2.2.2
  obtain ⟨⟨s1, s2, s3, s4⟩, sd, sm, sx, sy⟩ := h1.2.2.2.1.2 i (by omega)
  unfold q_X10_keepAgreeingTurns
  dsimp only
  rw [ec, show q_X8_setTime S (S.1 18 i) (S.1 19 i) = q_X8_setMinute (q_X8_setDay S (S.1 18 i)) (S.1 19 i) from rfl, c18, c19]
  -- the day
  have yd := dyd_setDay S (S0.1 18 i)
  have e1 := (kw_setDay S (S0.1 18 i)).1
  have c1 := cE_setDay S (S0.1 18 i)
  have k1 : ∀ k, k ≠ 1 → (q_X8_setDay S (S0.1 18 i)).1 k = S.1 k := fun k hk => kc_setDay hk
  generalize q_X8_setDay S (S0.1 18 i) = S2 at yd e1 c1 k1 ⊢
  have su2 : suD S2 a := by
    obtain ⟨g1, g2, g3, g4, g5⟩ := h3
    refine ⟨?_, ?_, ?_, ?_, hsG_st g5 e1 (by rw [k1 7 (by decide)]) (k1 12 (by decide))⟩
    · rw [k1 7 (by decide), e1]; exact g1
    · rw [k1 7 (by decide), e1]; exact g2
    · rw [k1 7 (by decide), e1]; exact g3
    · rw [k1 7 (by decide), e1]; exact g4
  have cE2 := cE_tr c1.1 h4
  have iS2 := iS_fr h1.1 (mE_1 (rfl : M.1 = M.1)).1 cE2
  -- the minute
  have k3 := kQ_setMinute S2 (S0.1 19 i)
  have sk := (look_eq (m := S0.1 19 i) iS2 sd sm yd).1
  have m1 : (q_X11_look M (S0.1 18 i) (S0.1 19 i)).1 = M.1 := lk_I M _ _
  have hst : ∀ g : Int64, q_X11_stateOf M p g (S0.1 18 i) (S0.1 19 i) = stT (q_X11_look M (S0.1 18 i) (S0.1 19 i)) p g := fun g => st_T M p g _ _
  generalize q_X8_setMinute S2 (S0.1 19 i) = S3 at k3 sk ⊢
  generalize q_X11_look M (S0.1 18 i) (S0.1 19 i) = M5 at sk m1 hst
  have su3 := suD_st su2 k3
  have cE3 := cE_tr k3.cE cE2
  have iG3 : iG M5 S3 := iG_fr h1.2.1 (mE_1 m1).1 cE3
  have dF3 : dF M5 p (S3.2.2.2.2 a) := by rw [cE3.1.1]; exact dF_fr h2 (by rw [m1])
  -- the hider
  have k4 := kQ_findHider S3
  have e41 : (q_X6_findHider S3).1 1 = S3.1 1 := kc_findHider (by decide)
  have hh : 0 < S3.1 1 15 → (q_X6_findHider S3).1 7 11 = q_X11_hider M5 p := fun c => hider_eq sk iG3 su3 dF3 c
  generalize q_X6_findHider S3 = S4 at k4 e41 hh ⊢
  have su4 := suD_st su3 k4
  have cE4 := cE_tr k4.cE cE3
  have o4 : okH S4 := okH_of h5 (by rw [k4.1, k3.1, e1])
  have t22 : S4.1 22 = S.1 22 := by rw [k4.2.2.2 22 rfl, k3.2.2.2 22 rfl, k1 22 (by decide)]
  have t0 : S4.1 0 = S.1 0 := by rw [k4.2.2.2 0 rfl, k3.2.2.2 0 rfl, k1 0 (by decide)]
  have f17 : S4.1 17 4 = nI k := by rw [cE4.2.2.2.2.2.1]; exact h17
  have f20 : S4.1 20 i = S0.1 20 i := by rw [cE4.2.2.2.2.2.2.2.2.1]
  have f21 : S4.1 21 i = S0.1 21 i := by rw [cE4.2.2.2.2.2.2.2.2.2]
  have z := ka_z (M := M) (M5 := M5) (S1 := S) (Y0 := S4) (p := p) (g := S0.2.2.2.2 a 4) (a := a) (i := i) (k := k) (P := P) (Q := Q) (skd_st sk e41) (by rw [k4.1]; exact dF3) (by rw [cE4.1.1]) h2.2.2.2.2.2.2.2.2.1 su4 (by rw [e41]; exact hh) f17 hi h20 (by rw [f20]; exact sx) (by rw [f21]; exact sy) hQ (fun u => by
    unfold agB
    rw [s1, s2, s3, s4, hst, f20, f21]) 601 0 (by decide) 602 S4 (by have := kc_le P 601; show _ < 0 + 602; omega) kT_rf ⟨by rw [t0]; exact hP.1, fun t ht => absurd ht (Nat.not_lt_zero t), fun t _ ht q => by rw [t22]; exact hP.2 t ht q⟩
  rw [show kc Q 0 = 0 from rfl, show kc P 0 = 0 from rfl, nI_0] at z
  generalize q_X10_keepAgreeingTurns_b41 S a (nI i) 602 0 0 S4 = Z at z ⊢
  exact ⟨⟨h1, h2, suD_T su4 z.1, cE_tr z.1.cE cE4, okH_of o4 z.1.1⟩, z.2⟩
theorem fo_z {M : gSm} {S0 S1 : gSc} {p q : Int32} {a k : Nat} (h17 : S0.1 17 4 = nI k) (h20 : k ≤ 20) : ∀ (n s : Nat) (Z : gSc), s ≤ k → k < s + n → rdT M S0 Z p a → tI (PS M p (S0.2.2.2.2 a 4) s) 601 (Z.1 22) (Z.1 0 7) → (q_X10_found_b53 S1 q n a (nI s) Z).1 = (q_X10_found_b53 S1 q n a (nI s) Z).2.1 0 7 ∧ rdT M S0 (q_X10_found_b53 S1 q n a (nI s) Z).2 p a ∧ tI (PS M p (S0.2.2.2.2 a 4) k) 601 ((q_X10_found_b53 S1 q n a (nI s) Z).2.1 22) ((q_X10_found_b53 S1 q n a (nI s) Z).2.1 0 7)
  | 0, s, Z => fun h1 h2 => absurd h2 (by omega)
  | n + 1, s, Z => by
    intro h1 h2 r t
    rw [q_X10_found_b53]
    dsimp only
    have z17 : Z.1 17 4 = nI k := by rw [r.2.2.2.1.2.2.2.2.2.1]; exact h17
    by_cases c : s = k
    · subst c
      rw [if_pos (show Z.1 17 4 ≤ nI s by rw [z17]; exact nI_le (Nat.le_refl _) (by omega))]
      exact ⟨rfl, r, t⟩
    · rw [if_neg (show ¬ Z.1 17 4 ≤ nI s by rw [z17]; exact nI_ge (by omega) (by omega)), nI_1]
      have z := kq_z r h17 (show s < k by omega) h20 (PS M p (S0.2.2.2.2 a 4) s) (PS M p (S0.2.2.2.2 a 4) (s + 1)) t (fun j => rfl)
      generalize q_X10_keepAgreeingTurns Z a (nI s) = Y at z ⊢
      exact fo_z h17 h20 n (s + 1) Y (by omega) (by omega) z.1 z.2
theorem P_found {M : gSm} {S : gSc} (h : inv M S) (p : Int32) : (q_X10_found S p).1 = (q_X11_found M p).1 ∧ inv (q_X11_found M p).2 (q_X10_found S p).2 := by
  unfold q_X10_found q_X11_found
  dsimp only
  rw [pl_eq]
  by_cases c1 : q_X11_isPlace p = 0
  · rw [if_pos c1, if_pos c1]; exact ⟨rfl, h⟩
  · rw [if_neg c1, if_neg c1]
    rcases da_eq (k := 1) h.2.1 (isPm_of rfl c1) (by decide) (by decide) with ⟨e1, e2⟩ | ⟨a, e1, e2, e3, e4, e5⟩
    · rw [e1, if_pos e2]; exact ⟨rfl, h⟩
    · rw [e1, if_neg e5]
      dsimp only
      obtain ⟨⟨n1, n2, n3⟩, -⟩ := h.2.2.2.1
      rw [n1]
      by_cases c3 : 3 ≤ S.1 17 4
      · rw [if_pos c3, if_pos c3]
        -- the reference
        have hk : (S.1 17 4).toInt.toNat ≤ 20 := by omega
        have h17 : S.1 17 4 = nI (S.1 17 4).toInt.toNat := y_inj (by rw [nI_toInt (by omega)]; omega)
        generalize (S.1 17 4).toInt.toNat = k at hk h17
        have g4 : q_X11_get M p 4 = S.2.2.2.2 a 4 := e4.2.2.2.2.1
        have m0 : mE0 (pM M 0 10 0) M := ⟨⟨rfl, rfl, rfl, rfl, rfl⟩, rfl, rfl, rfl, rfl⟩
        have zr := fd_z (M0 := M) (M := M) (p := p) (g := S.2.2.2.2 a 4) hk (n1.trans h17) g4 (fun j => PS M p (S.2.2.2.2 a 4) k j) (fun j => PS_iff M p _ j k) 602 0 (pM M 0 10 0) (by decide) (by decide) m0 ⟨rfl, fun i hi => absurd hi (Nat.not_lt_zero i)⟩
        rw [show uu 0 = -300 by decide] at zr
        -- the class
        have su := su_all (q_X10_keepAllTurns S) a
        have ck := cE_kal S
        have e := ka_2 S
        have tk := kal_z S
        have z0 := su_kZ (S := S) (Y := q_X10_keepAllTurns S) (a := a) (okR_of_iG h.2.1) h.2.2.2.2.2 h.1.1.2.1 h.1.1.2.2 e ck.2.1.1
        have o : okH (q_X6_setUp (q_X10_keepAllTurns S) a) := z0.1.2.2
        clear z0
        generalize q_X10_keepAllTurns S = Y at su ck e tk o ⊢
        generalize q_X6_setUp Y a = X at su o ⊢
        have zc := fo_z (M := M) (S0 := S) (S1 := S) (p := p) (q := p) (a := a) h17 hk 21 0 X (by omega) (by omega) ⟨h, e4, su.1, cE_tr su.2.2.1 ck, o⟩ (by
          rw [su.2.2.2.1, su.2.2.2.2]
          exact tI_cg tk (fun i _ => rfl))
        rw [nI_0] at zc
        generalize q_X10_found_b53 S p 21 a 0 X = B at zc ⊢
        generalize q_X11_found_b39 M p 602 (-300) (pM M 0 10 0) = A at zr ⊢
        obtain ⟨r1, r2, r3⟩ := zr
        obtain ⟨w1, w2, w3⟩ := zc
        have te := tI_eq r3 w3
        refine ⟨by rw [r1, w1, te.1], iS_fr h.1 r2 w2.2.2.2.1, iG_fr h.2.1 r2 w2.2.2.2.1, iK_fr h.2.2.1 r2 w2.2.2.2.1, iN_fr h.2.2.2.1 r2 w2.2.2.2.1, ⟨⟨te.1, te.2.1⟩, te.2.2⟩, w2.2.2.2.2⟩
      · rw [if_neg c3, if_neg c3]; exact ⟨rfl, h⟩
