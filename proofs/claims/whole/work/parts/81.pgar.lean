/-! PURE 20: the garden's calls -/
theorem sD_s (X : gSc) (a j : Nat) (v : Int32) : (sD X a j v).2.2.2.2 a = upd (X.2.2.2.2 a) j v := va_up_self _ _ _
theorem sD_n (X : gSc) {a b : Nat} (j : Nat) (v : Int32) (h : b ≠ a) : (sD X a j v).2.2.2.2 b = X.2.2.2.2 b := va_up_ne _ _ h
theorem sN_s (S : gSc) (q k : Nat) (f : Nat → Int32) : (sN S q k f).2.2.2.1 q = k := va_up_self _ _ _
theorem new_ext {S : gSc} {q k : Nat} {f : Nat → Int32} (hq : q ∉ S.2.2.1) {Y : gSc} (e1 : Y.2.2.1 = S.2.2.1 ++ [q]) (e2 : Y.2.2.2.1 = (sN S q k f).2.2.2.1) (e3 : ∀ b, b ≠ q → Y.2.2.2.2 b = S.2.2.2.2 b) : extT S.2.2 Y.2.2 := by
  intro a ha
  have ne : a ≠ q := in_ne ha hq
  refine ⟨by rw [e1]; exact List.mem_append_left _ ha, ?_, e3 a ne⟩
  rw [e2]
  exact va_up_ne _ _ ne
theorem new_d {S : gSc} {q : Nat} (hq : q ∉ S.2.2.1) (v0 v1 v2 v3 v4 v5 v6 : Int32) : ((q_X1_init (sN S q 1 (fun _ => 0)) q v0 v1 v2 v3 v4 v5 v6).1 = S.1 ∧ (q_X1_init (sN S q 1 (fun _ => 0)) q v0 v1 v2 v3 v4 v5 v6).2.1 = S.2.1) ∧ extT S.2.2 (q_X1_init (sN S q 1 (fun _ => 0)) q v0 v1 v2 v3 v4 v5 v6).2.2 ∧ (q ∈ (q_X1_init (sN S q 1 (fun _ => 0)) q v0 v1 v2 v3 v4 v5 v6).2.2.1 ∧ (q_X1_init (sN S q 1 (fun _ => 0)) q v0 v1 v2 v3 v4 v5 v6).2.2.2.1 q = 1) ∧ ((q_X1_init (sN S q 1 (fun _ => 0)) q v0 v1 v2 v3 v4 v5 v6).2.2.2.2 q 0 = v0 ∧ (q_X1_init (sN S q 1 (fun _ => 0)) q v0 v1 v2 v3 v4 v5 v6).2.2.2.2 q 1 = v1 ∧ (q_X1_init (sN S q 1 (fun _ => 0)) q v0 v1 v2 v3 v4 v5 v6).2.2.2.2 q 2 = v2 ∧ (q_X1_init (sN S q 1 (fun _ => 0)) q v0 v1 v2 v3 v4 v5 v6).2.2.2.2 q 3 = v3 ∧ (q_X1_init (sN S q 1 (fun _ => 0)) q v0 v1 v2 v3 v4 v5 v6).2.2.2.2 q 4 = v4 ∧ (q_X1_init (sN S q 1 (fun _ => 0)) q v0 v1 v2 v3 v4 v5 v6).2.2.2.2 q 5 = v5 ∧ (q_X1_init (sN S q 1 (fun _ => 0)) q v0 v1 v2 v3 v4 v5 v6).2.2.2.2 q 6 = v6) := by
  unfold q_X1_init
  refine ⟨⟨rfl, rfl⟩, new_ext (k := 1) (f := fun _ => 0) hq rfl rfl (fun b hb => ?_), ⟨List.mem_append_right _ (List.mem_singleton.mpr rfl), sN_s S q 1 (fun _ => 0)⟩, ?_, ?_, ?_, ?_, ?_, ?_, ?_⟩
  · rw [sD_n _ _ _ hb, sD_n _ _ _ hb, sD_n _ _ _ hb, sD_n _ _ _ hb, sD_n _ _ _ hb, sD_n _ _ _ hb, sD_n _ _ _ hb]
    exact va_up_ne _ _ hb
  · rw [sD_s, pk_un (by decide), sD_s, pk_un (by decide), sD_s, pk_un (by decide), sD_s, pk_un (by decide), sD_s, pk_un (by decide), sD_s, pk_un (by decide), sD_s, pk_us]
  · rw [sD_s, pk_un (by decide), sD_s, pk_un (by decide), sD_s, pk_un (by decide), sD_s, pk_un (by decide), sD_s, pk_un (by decide), sD_s, pk_us]
  · rw [sD_s, pk_un (by decide), sD_s, pk_un (by decide), sD_s, pk_un (by decide), sD_s, pk_un (by decide), sD_s, pk_us]
  · rw [sD_s, pk_un (by decide), sD_s, pk_un (by decide), sD_s, pk_un (by decide), sD_s, pk_us]
  · rw [sD_s, pk_un (by decide), sD_s, pk_un (by decide), sD_s, pk_us]
  · rw [sD_s, pk_un (by decide), sD_s, pk_us]
  · rw [sD_s, pk_us]
theorem new_h {S : gSc} {q : Nat} (hq : q ∉ S.2.2.1) (v0 v1 v2 v3 v4 : Int32) : ((q_X2_init (sN S q 2 (fun _ => 0)) q v0 v1 v2 v3 v4).1 = S.1 ∧ (q_X2_init (sN S q 2 (fun _ => 0)) q v0 v1 v2 v3 v4).2.1 = S.2.1) ∧ extT S.2.2 (q_X2_init (sN S q 2 (fun _ => 0)) q v0 v1 v2 v3 v4).2.2 ∧ (q ∈ (q_X2_init (sN S q 2 (fun _ => 0)) q v0 v1 v2 v3 v4).2.2.1 ∧ (q_X2_init (sN S q 2 (fun _ => 0)) q v0 v1 v2 v3 v4).2.2.2.1 q = 2) ∧ ((q_X2_init (sN S q 2 (fun _ => 0)) q v0 v1 v2 v3 v4).2.2.2.2 q 0 = v0 ∧ (q_X2_init (sN S q 2 (fun _ => 0)) q v0 v1 v2 v3 v4).2.2.2.2 q 1 = v1 ∧ (q_X2_init (sN S q 2 (fun _ => 0)) q v0 v1 v2 v3 v4).2.2.2.2 q 2 = v2 ∧ (q_X2_init (sN S q 2 (fun _ => 0)) q v0 v1 v2 v3 v4).2.2.2.2 q 3 = v3 ∧ (q_X2_init (sN S q 2 (fun _ => 0)) q v0 v1 v2 v3 v4).2.2.2.2 q 4 = v4) := by
  unfold q_X2_init
  refine ⟨⟨rfl, rfl⟩, new_ext (k := 2) (f := fun _ => 0) hq rfl rfl (fun b hb => ?_), ⟨List.mem_append_right _ (List.mem_singleton.mpr rfl), sN_s S q 2 (fun _ => 0)⟩, ?_, ?_, ?_, ?_, ?_⟩
  · rw [sD_n _ _ _ hb, sD_n _ _ _ hb, sD_n _ _ _ hb, sD_n _ _ _ hb, sD_n _ _ _ hb]
    exact va_up_ne _ _ hb
  · rw [sD_s, pk_un (by decide), sD_s, pk_un (by decide), sD_s, pk_un (by decide), sD_s, pk_un (by decide), sD_s, pk_us]
  · rw [sD_s, pk_un (by decide), sD_s, pk_un (by decide), sD_s, pk_un (by decide), sD_s, pk_us]
  · rw [sD_s, pk_un (by decide), sD_s, pk_un (by decide), sD_s, pk_us]
  · rw [sD_s, pk_un (by decide), sD_s, pk_us]
  · rw [sD_s, pk_us]
theorem lt6 {i : Nat} (h : i < 6) : i = 0 ∨ i = 1 ∨ i = 2 ∨ i = 3 ∨ i = 4 ∨ i = 5 := by omega
theorem chg_d {M N : gSm} {S : gSc} {p : Int32} {q : Nat} (h : inv M S) (hp : isP p) (hq : q ∉ S.2.2.1) (v0 v1 v2 v3 v4 v5 v6 : Int32) (n1 : ∀ c, c ≠ 1 → N.1 c = (q_X11_keep M p).1 c) (n2 : ∀ j, (j < 7 * p.toNatClampNeg ∨ 7 * p.toNatClampNeg + 7 ≤ j) → N.1 1 j = M.1 1 j) (r0 : N.1 1 (7 * p.toNatClampNeg) = 2 + v0) (r1 : N.1 1 (7 * p.toNatClampNeg + 1) = v1) (r2 : N.1 1 (7 * p.toNatClampNeg + 2) = v2) (r3 : N.1 1 (7 * p.toNatClampNeg + 3) = v3) (r4 : N.1 1 (7 * p.toNatClampNeg + 4) = v4) (r5 : N.1 1 (7 * p.toNatClampNeg + 5) = v5) (r6 : N.1 1 (7 * p.toNatClampNeg + 6) = v6) (o0 : 0 ≤ v0.toInt ∧ v0.toInt ≤ 4) (o4 : 0 ≤ v4.toInt ∧ v4.toInt ≤ 65535) (o5 : 0 ≤ v5.toInt ∧ v5.toInt ≤ 16384) (o6 : 0 ≤ v6.toInt ∧ v6.toInt < 16777216) : inv N (q_X10_put (q_X1_init (sN S q 1 (fun _ => 0)) q v0 v1 v2 v3 v4 v5 v6) p (some q)) := by
  obtain ⟨⟨e1, e2⟩, e3, ⟨e4, e5⟩, f0, f1, f2, f3, f4, f5, f6⟩ := new_d hq v0 v1 v2 v3 v4 v5 v6
  generalize q_X1_init (sN S q 1 (fun _ => 0)) q v0 v1 v2 v3 v4 v5 v6 = Y at e1 e2 e3 e4 e5 f0 f1 f2 f3 f4 f5 f6 ⊢
  refine chg (inv_ext h e1 e2 e3) hp n1 n2 ⟨fun z => (by cases z), fun a ha => ?_⟩
  cases ha
  refine ⟨e4, fun _ => ⟨?_, fun i hi => ?_, ?_⟩, fun z => absurd e5 z⟩
  · show N.1 1 (7 * p.toNatClampNeg + 0) = _
    rw [Nat.add_zero, r0, f0]
  · rcases lt6 hi with e | e | e | e | e | e <;> subst e
    · exact r1.trans f1.symm
    · exact r2.trans f2.symm
    · exact r3.trans f3.symm
    · exact r4.trans f4.symm
    · exact r5.trans f5.symm
    · exact r6.trans f6.symm
  · unfold dOk
    rw [f0, f4, f5, f6]
    exact ⟨o0, o4, o5, o6⟩
theorem kp1 {M : gSm} {S : gSc} {p : Int32} (h : inv M S) (hp : isP p) : (q_X11_keep M p).1 1 = M.1 1 := by
  obtain ⟨k1, k2, k3⟩ := h.2.2.1.1
  have xp := nI_x hp.1
  have lp := isP_lt hp
  have xK := nI_x k2
  have lK : (S.1 4 3).toNatClampNeg ≤ 16 := by show (S.1 4 3).toInt.toNat ≤ 16; omega
  have z := keep_z (M := M) lp lK (k1.trans xK)
  rw [← xp] at z
  exact z.2.1 1 (by decide) (by decide) (by decide)
theorem pw {Z : gSm} {p w v : Int32} (hp : isP p) (k : Nat) (hw : w = nI k) (hk : k < 7) : q_X11_put Z p w v = pM Z 1 (7 * p.toNatClampNeg + k) v := by
  unfold q_X11_put
  have xp := nI_x hp.1
  have lp := isP_lt hp
  generalize p.toNatClampNeg = q at xp lp ⊢
  rw [xp, hw, i7 (by omega) hk]
theorem P_dial {M : gSm} {S : gSc} (h : inv M S) (p kd x y r : Int32) (q : Nat) (hq : q ∉ S.2.2.1) : (q_X10_dial S p kd x y r q).1 = (q_X11_dial M p kd x y r).1 ∧ inv (q_X11_dial M p kd x y r).2 (q_X10_dial S p kd x y r q).2 := by
  unfold q_X10_dial q_X11_dial
  dsimp only
  rw [pl_eq, show q_X10_isKind kd = q_X11_isIn (kd.toInt64) 0 4 from rfl, show q_X10_isSpot x y = q_X11_isSpot x y from rfl, wi_eq]
  by_cases c1 : q_X11_isPlace p = 0
  · rw [if_pos c1, if_pos c1]; exact ⟨rfl, h⟩
  · rw [if_neg c1, if_neg c1]
    by_cases c2 : q_X11_isIn (kd.toInt64) 0 4 = 0
    · rw [if_pos c2, if_pos c2]; exact ⟨rfl, h⟩
    · rw [if_neg c2, if_neg c2]
      by_cases c3 : q_X11_isSpot x y = 0
      · rw [if_pos c3, if_pos c3]; exact ⟨rfl, h⟩
      · rw [if_neg c3, if_neg c3]
        by_cases c4 : q_X11_isIn (r.toInt64) 1 1000 = 0
        · rw [if_pos c4, if_pos c4]; exact ⟨rfl, h⟩
        · rw [if_neg c4, if_neg c4]
          have hp := isPm_of rfl c1
          have b := isIn_of rfl c2
          rw [t64, l_0, show (4 : Int64).toInt = 4 by decide] at b
          have k1 := kp1 h hp
          rw [pw (w := (0 : Int32)) hp 0 rfl (by decide), pw (w := (1 : Int32)) hp 1 rfl (by decide), pw (w := (2 : Int32)) hp 2 rfl (by decide), pw (w := (3 : Int32)) hp 3 rfl (by decide), pw (w := (4 : Int32)) hp 4 rfl (by decide), pw (w := (5 : Int32)) hp 5 rfl (by decide), pw (w := (6 : Int32)) hp 6 rfl (by decide)]
          refine ⟨rfl, chg_d h hp hq kd x y r 0 8192 16777215 (fun c hc => ?_) (fun j hj => ?_) ?_ ?_ ?_ ?_ ?_ ?_ ?_ b (by decide) (by decide) (by decide)⟩
          · rw [pM_n hc, pM_n hc, pM_n hc, pM_n hc, pM_n hc, pM_n hc, pM_n hc]
          · rw [pM_s, pk_un (by omega), pM_s, pk_un (by omega), pM_s, pk_un (by omega), pM_s, pk_un (by omega), pM_s, pk_un (by omega), pM_s, pk_un (by omega), pM_s, pk_un (by omega), k1]
          · rw [pM_s, pk_un (by omega), pM_s, pk_un (by omega), pM_s, pk_un (by omega), pM_s, pk_un (by omega), pM_s, pk_un (by omega), pM_s, pk_un (by omega), pM_s, Nat.add_zero, pk_us]
          · rw [pM_s, pk_un (by omega), pM_s, pk_un (by omega), pM_s, pk_un (by omega), pM_s, pk_un (by omega), pM_s, pk_un (by omega), pM_s, pk_us]
          · rw [pM_s, pk_un (by omega), pM_s, pk_un (by omega), pM_s, pk_un (by omega), pM_s, pk_un (by omega), pM_s, pk_us]
          · rw [pM_s, pk_un (by omega), pM_s, pk_un (by omega), pM_s, pk_un (by omega), pM_s, pk_us]
          · rw [pM_s, pk_un (by omega), pM_s, pk_un (by omega), pM_s, pk_us]
          · rw [pM_s, pk_un (by omega), pM_s, pk_us]
          · rw [pM_s, pk_us]
theorem chg_h {M N : gSm} {S : gSc} {p : Int32} {q : Nat} (h : inv M S) (hp : isP p) (hq : q ∉ S.2.2.1) (v0 v1 v2 v3 v4 : Int32) (n1 : ∀ c, c ≠ 1 → N.1 c = (q_X11_keep M p).1 c) (n2 : ∀ j, (j < 7 * p.toNatClampNeg ∨ 7 * p.toNatClampNeg + 7 ≤ j) → N.1 1 j = M.1 1 j) (r0 : N.1 1 (7 * p.toNatClampNeg) = 1) (r1 : N.1 1 (7 * p.toNatClampNeg + 1) = v0) (r2 : N.1 1 (7 * p.toNatClampNeg + 2) = v1) (r3 : N.1 1 (7 * p.toNatClampNeg + 3) = v2) (r4 : N.1 1 (7 * p.toNatClampNeg + 4) = v3) (r5 : N.1 1 (7 * p.toNatClampNeg + 5) = v4) : inv N (q_X10_put (q_X2_init (sN S q 2 (fun _ => 0)) q v0 v1 v2 v3 v4) p (some q)) := by
  obtain ⟨⟨e1, e2⟩, e3, ⟨e4, e5⟩, f0, f1, f2, f3, f4⟩ := new_h hq v0 v1 v2 v3 v4
  generalize q_X2_init (sN S q 2 (fun _ => 0)) q v0 v1 v2 v3 v4 = Y at e1 e2 e3 e4 e5 f0 f1 f2 f3 f4 ⊢
  refine chg (inv_ext h e1 e2 e3) hp n1 n2 ⟨fun z => (by cases z), fun a ha => ?_⟩
  cases ha
  have n1' : ¬ Y.2.2.2.1 q = 1 := by rw [e5]; decide
  refine ⟨e4, fun z => absurd z n1', fun _ => ⟨?_, fun i hi => ?_⟩⟩
  · show N.1 1 (7 * p.toNatClampNeg + 0) = _
    rw [Nat.add_zero, r0]
  · rcases lt6 (show i < 6 by omega) with e | e | e | e | e | e <;> subst e
    · exact r1.trans f0.symm
    · exact r2.trans f1.symm
    · exact r3.trans f2.symm
    · exact r4.trans f3.symm
    · exact r5.trans f4.symm
    · exact absurd hi (by decide)
theorem P_house_ok {M : gSm} {S : gSc} (h : inv M S) (p v0 v1 v2 v3 v4 : Int32) (q : Nat) (hq : q ∉ S.2.2.1) (hp : isP p) : inv (q_X11_put (q_X11_put (q_X11_put (q_X11_put (q_X11_put (q_X11_put (q_X11_keep M p) p 0 1) p 1 v0) p 2 v1) p 3 v2) p 4 v3) p 5 v4) (q_X10_put (q_X2_init (sN S q 2 (fun _ => 0)) q v0 v1 v2 v3 v4) p (some q)) := by
  have k1 := kp1 h hp
  rw [pw (w := (0 : Int32)) hp 0 rfl (by decide), pw (w := (1 : Int32)) hp 1 rfl (by decide), pw (w := (2 : Int32)) hp 2 rfl (by decide), pw (w := (3 : Int32)) hp 3 rfl (by decide), pw (w := (4 : Int32)) hp 4 rfl (by decide), pw (w := (5 : Int32)) hp 5 rfl (by decide)]
  refine chg_h h hp hq v0 v1 v2 v3 v4 (fun c hc => ?_) (fun j hj => ?_) ?_ ?_ ?_ ?_ ?_ ?_
  · rw [pM_n hc, pM_n hc, pM_n hc, pM_n hc, pM_n hc, pM_n hc]
  · rw [pM_s, pk_un (by omega), pM_s, pk_un (by omega), pM_s, pk_un (by omega), pM_s, pk_un (by omega), pM_s, pk_un (by omega), pM_s, pk_un (by omega), k1]
  · rw [pM_s, pk_un (by omega), pM_s, pk_un (by omega), pM_s, pk_un (by omega), pM_s, pk_un (by omega), pM_s, pk_un (by omega), pM_s, Nat.add_zero, pk_us]
  · rw [pM_s, pk_un (by omega), pM_s, pk_un (by omega), pM_s, pk_un (by omega), pM_s, pk_un (by omega), pM_s, pk_us]
  · rw [pM_s, pk_un (by omega), pM_s, pk_un (by omega), pM_s, pk_un (by omega), pM_s, pk_us]
  · rw [pM_s, pk_un (by omega), pM_s, pk_un (by omega), pM_s, pk_us]
  · rw [pM_s, pk_un (by omega), pM_s, pk_us]
  · rw [pM_s, pk_us]
theorem P_house {M : gSm} {S : gSc} (h : inv M S) (p x y : Int32) (e : Int64) (t : Int32) (q : Nat) (hq : q ∉ S.2.2.1) : (q_X10_house S p x y e t q).1 = (q_X11_house M p x y e t).1 ∧ inv (q_X11_house M p x y e t).2 (q_X10_house S p x y e t q).2 := by
  unfold q_X10_house q_X11_house
  dsimp only
  rw [pl_eq, show q_X10_isSpot x y = q_X11_isSpot x y from rfl, show q_X10_isSpot ((e / 32768).toInt32 - 16384) ((e - e / 32768 * 32768).toInt32 - 16384) = q_X11_isSpot ((e / 32768).toInt32 - 16384) ((e - e / 32768 * 32768).toInt32 - 16384) from rfl, wi_eq, wi_eq]
  by_cases c1 : q_X11_isPlace p = 0
  · rw [if_pos c1, if_pos c1]; exact ⟨rfl, h⟩
  · rw [if_neg c1, if_neg c1]
    by_cases c2 : q_X11_isSpot x y = 0
    · rw [if_pos c2, if_pos c2]; exact ⟨rfl, h⟩
    · rw [if_neg c2, if_neg c2]
      by_cases c3 : q_X11_isIn (t.toInt64) 1 10000 = 0
      · rw [if_pos c3, if_pos c3]
        by_cases c4 : q_X11_isIn e 0 1073741823 = 0
        · rw [if_pos c4]; exact ⟨rfl, h⟩
        · rw [if_neg c4]; exact ⟨rfl, h⟩
      · rw [if_neg c3, if_neg c3]
        by_cases c4 : q_X11_isIn e 0 1073741823 = 0
        · rw [if_pos c4, if_pos c4]; exact ⟨rfl, h⟩
        · rw [if_neg c4, if_neg c4]
          generalize (e / 32768).toInt32 - 16384 = x2
          generalize (e - e / 32768 * 32768).toInt32 - 16384 = y2
          by_cases c5 : q_X11_isSpot x2 y2 = 0
          · rw [if_pos c5, if_pos c5]; exact ⟨rfl, h⟩
          · rw [if_neg c5, if_neg c5]
            have hp := isPm_of rfl c1
            have ok := P_house_ok h p x y x2 y2 t q hq hp
            by_cases c6 : x2 = x
            · rw [if_pos c6, if_pos c6.symm]
              by_cases c7 : y2 = y
              · rw [if_pos c7, if_pos c7.symm]; exact ⟨rfl, h⟩
              · rw [if_neg c7, if_neg (fun z => c7 z.symm)]; exact ⟨rfl, ok⟩
            · rw [if_neg c6, if_neg (fun z => c6 z.symm)]; exact ⟨rfl, ok⟩
theorem P_drop {M : gSm} {S : gSc} (h : inv M S) (p : Int32) : (q_X10_drop S p).1 = (q_X11_drop M p).1 ∧ inv (q_X11_drop M p).2 (q_X10_drop S p).2 := by
  unfold q_X10_drop q_X11_drop
  dsimp only
  rw [pl_eq]
  by_cases c1 : q_X11_isPlace p = 0
  · rw [if_pos c1, if_pos c1]; exact ⟨rfl, h⟩
  · rw [if_neg c1, if_neg c1]
    have hp := isPm_of rfl c1
    have k1 := kp1 h hp
    have go : inv (q_X11_put (q_X11_keep M p) p 0 0) (q_X10_put S p none) := by
      rw [pw (w := (0 : Int32)) hp 0 rfl (by decide)]
      refine chg h hp (fun c hc => pM_n hc) (fun j hj => ?_) ⟨fun _ => ?_, fun a ha => (by cases ha)⟩
      · rw [pM_s, pk_un (by omega), k1]
      · show (pM (q_X11_keep M p) 1 (7 * p.toNatClampNeg + 0) 0).1 1 (7 * p.toNatClampNeg + 0) = 0
        rw [pM_s, pk_us]
    cases ho : S.2.1 3 p.toNatClampNeg with
    | none => rw [nF_of h.2.1 hp ho, if_pos rfl]; exact ⟨rfl, h⟩
    | some a =>
      dsimp only
      have nz : ¬ q_X11_get M p 0 = 0 := by
        by_cases hk : S.2.2.2.1 a = 1
        · have f := dF_of h.2.1 hp ho hk
          rw [f.1]
          intro z
          have := (kd_of f.2.2.2.2.2.2.2).2.2.2
          rw [z] at this
          exact this (by decide)
        · rw [(hF_of h.2.1 hp ho hk).1]; decide
      rw [if_neg nz]
      exact ⟨rfl, go⟩
