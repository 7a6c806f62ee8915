theorem pJ_1 (M : gSm) (k j : Nat) (v : Int64) : (pJ M k j v).1 = M.1 := rfl
theorem pM_2 (M : gSm) (k j : Nat) (v : Int32) : (pM M k j v).2 = M.2 := rfl
theorem pM_n {M : gSm} {k j k2 : Nat} {v : Int32} (h : k2 ≠ k) : (pM M k j v).1 k2 = M.1 k2 := if_neg h
theorem pM_s {M : gSm} {k j : Nat} {v : Int32} : (pM M k j v).1 k = upd (M.1 k) j v := if_pos rfl
theorem fm_b (M : gSm) (p d : Int32) : ∀ (n : Nat) (v : Int32) (Z : gSm), (q_X11_findMarks_b2 M p d n v Z).1 0 6 = Z.1 0 6
  | 0, _, _ => rfl
  | n + 1, v, Z => by
    rw [q_X11_findMarks_b2]
    by_cases c : 24 ≤ v
    · rw [if_pos c]
    · rw [if_neg c]
      dsimp only
      split
      · split
        · rw [fm_b M p d n, pJ_1, pJ_1, pM_n (by decide), stn_I]
        · rw [fm_b M p d n, pJ_1, pJ_1, pM_n (by decide), stn_I]
      · rw [fm_b M p d n, pJ_1, pJ_1, pM_n (by decide)]
theorem fm_c (M : gSm) (p d : Int32) : (q_X11_findMarks M p d).1 0 6 = M.1 0 6 := by
  unfold q_X11_findMarks
  exact fm_b M p d _ _ _
theorem li_c (M : gSm) (h k : Int32) (x y : Int64) : (q_X11_lies M h k x y).2.1 0 6 = M.1 0 6 := by
  unfold q_X11_lies
  simp only []
  (repeat' split) <;> rfl
theorem ir_b (M : gSm) (p d m : Int32) : ∀ (n : Nat) (v4 v6 : Int64) (v8 v9 : Int32) (Z : gSm), (q_X11_isRead_b30 M p d m n v4 v6 v8 v9 Z).2.1 0 6 = Z.1 0 6
  | 0, _, _, _, _, _ => rfl
  | n + 1, v4, v6, v8, v9, Z => by
    rw [q_X11_isRead_b30]
    dsimp only
    (repeat' split) <;> first | (rw [ir_b M p d m n]; done) | (rw [ir_b M p d m n, li_c]; done) | (rw [li_c]; done) | rfl
theorem ir_c (M : gSm) (p d m : Int32) : (q_X11_isRead M p d m).2.1 0 6 = M.1 0 6 := by
  unfold q_X11_isRead
  dsimp only
  split
  · rw [ir_b M p d m, stn_I]
  · rw [stn_I]
