/-! HELP for marks and shade -/
def okR (S : gSc) (k n : Nat) : Prop := ∀ j a, j < n → S.2.1 k j = some a → a ∈ S.2.2.1
def okH (S : gSc) : Prop := ∀ j a, j < 40 → S.2.1 11 j = some a → a ∈ S.2.2.1 ∧ ¬ S.2.2.2.1 a = 1
theorem sb_c (S : gSc) (a b : Int32) (x y : Int64) : (q_X3_showBetween S a b x y).2.1 13 3 = S.1 13 3 := by
  unfold q_X3_showBetween
  simp only []
  (repeat' split) <;> rfl
theorem sw_in {v k : Int32} {n : Nat} (hi : (0 ≤ v.toInt ∧ v.toInt ≤ 24 ∧ 24 < v.toInt + n) ∧ 0 ≤ k.toInt ∧ k.toInt ≤ 24) (c : ¬ k ≤ v) : vp_in v 24 := by
  have c' := i_nle c
  exact vx hi.1.1 (by show _ < (24 : Int); omega)
theorem sw_st {v k x : Int32} {n : Nat} (hi : (0 ≤ v.toInt ∧ v.toInt ≤ 24 ∧ 24 < v.toInt + (n + 1 : Nat)) ∧ 0 ≤ k.toInt ∧ k.toInt ≤ 24) (c : ¬ k ≤ v) (hx : x = v + 1) : 0 ≤ x.toInt ∧ x.toInt ≤ 24 ∧ 24 < x.toInt + n := by
  have c' := i_nle c
  have a := i_1 (v := v) (by omega)
  rw [← hx] at a
  omega
/-- while the houses are gathered -/
def ghI (S : gSc) (v : Int32) (Z : gSc) : Prop := (0 ≤ (Z.1 7 6).toInt ∧ (Z.1 7 6).toInt ≤ v.toInt) ∧ Z.2.2 = S.2.2 ∧ Z.2.1 3 = S.2.1 3
theorem gh_i {S : gSc} : ghI S 0 (pI S 7 6 0) := ⟨⟨by show 0 ≤ (0 : Int32).toInt; decide, by show (0 : Int32).toInt ≤ (0 : Int32).toInt; decide⟩, rfl, rfl⟩
theorem gh_s1 {S Z : gSc} {v x : Int32} {n : Nat} (hi : gL 40 (n + 1) v ∧ ghI S v Z) (c : ¬ 40 ≤ v) (hx : x = v + 1) : ghI S x Z := by
  have c' := hi.1.lt c (by decide)
  have a := i_1 (v := v) (by omega)
  rw [← hx] at a
  obtain ⟨-, ⟨h1, h2⟩, h3⟩ := hi
  exact ⟨⟨h1, by omega⟩, h3⟩
theorem gh_s2 {S Z : gSc} {v x : Int32} {n : Nat} {f : Nat → Option Nat} {w : Int32} (hi : gL 40 (n + 1) v ∧ ghI S v Z) (c : ¬ 40 ≤ v) (hx : x = v + 1) : ghI S x (pI (pI (sR Z 11 f) 12 ((Z.1 7 6).toNatClampNeg) w) 7 6 ((Z.1 7 6) + 1)) := by
  have c' := hi.1.lt c (by decide)
  have a := i_1 (v := v) (by omega)
  rw [← hx] at a
  obtain ⟨-, ⟨h1, h2⟩, h3⟩ := hi
  have b := i_1 (v := Z.1 7 6) (by omega)
  refine ⟨⟨?_, ?_⟩, h3⟩
  · show 0 ≤ ((Z.1 7 6) + 1).toInt; omega
  · show ((Z.1 7 6) + 1).toInt ≤ _; omega
theorem gh_in {S Z : gSc} {v : Int32} {n : Nat} (hi : gL 40 n v ∧ ghI S v Z) (c : ¬ 40 ≤ v) : vp_in (Z.1 7 6) 40 := by
  have c' := hi.1.lt c (by decide)
  obtain ⟨-, ⟨h1, h2⟩, h3⟩ := hi
  exact vx h1 (by omega)
theorem gh_t {S Z : gSc} {v : Int32} {n a : Nat} (hT : okR S 3 40) (hi : gL 40 n v ∧ ghI S v Z) (c : ¬ 40 ≤ v) (ho : Z.2.1 3 (v.toNatClampNeg) = some a) : a ∈ Z.2.2.1 := by
  have c' := hi.1.lt c (by decide)
  obtain ⟨-, -, h3, h4⟩ := hi
  rw [h4] at ho
  rw [h3]
  exact hT _ _ (show v.toInt.toNat < 40 by omega) ho
