/-! PURE 8: state, hides, end -/
theorem pr_eta {α β : Type} (p : α × β) : (p.1, p.2) = p := rfl
theorem so_eq (S : gSc) (a : Nat) (d m : Int32) : q_X10_stateOf S a d m = q_X6_cast (q_X8_setMinute (q_X8_setDay (q_X6_setUp S a) d) m) := pr_eta (q_X6_cast (q_X8_setMinute (q_X8_setDay (q_X6_setUp S a) d) m))
theorem nBAD : ¬ (0 : Int32) ≤ -2000000001 := by decide
theorem nNO : ¬ (0 : Int32) ≤ -2000000002 := by decide
theorem y00 : (0 : Int32) ≤ 0 := by decide
theorem e1_0 : ((1 : Int32) = 0) = False := eq_false (by decide)
/-- a call on a dial at a time, its three ways -/
theorem ask_3 {M : gSm} {S : gSc} (hG : iG M S) (p d m : Int32) : (q_X11_ask M p d m = -2000000001 ∧ (q_X11_isPlace p = 0 ∨ (¬ q_X11_isPlace p = 0 ∧ q_X11_isTime d m = 0))) ∨ (¬ q_X11_isPlace p = 0 ∧ ¬ q_X11_isTime d m = 0 ∧ ((q_X11_ask M p d m = -2000000002 ∧ q_X10_dialAt S p 0 = none) ∨ (q_X11_ask M p d m = 0 ∧ ∃ a, q_X10_dialAt S p 0 = some a ∧ dF M p (S.2.2.2.2 a)))) := by
  unfold q_X11_ask
  dsimp only
  by_cases c1 : q_X11_isPlace p = 0
  · rw [if_pos c1]
    exact Or.inl ⟨rfl, Or.inl c1⟩
  · rw [if_neg c1]
    by_cases c2 : q_X11_isTime d m = 0
    · rw [if_pos c2]
      exact Or.inl ⟨rfl, Or.inr ⟨c1, c2⟩⟩
    · rw [if_neg c2]
      refine Or.inr ⟨c1, c2, ?_⟩
      rcases da0_eq hG (isPm_of rfl c1) with ⟨e1, e2⟩ | ⟨a, e1, e2, e3, e4, e5⟩
      · rw [e2, if_pos rfl]
        exact Or.inl ⟨rfl, e1⟩
      · rw [e5, if_neg (by decide)]
        exact Or.inr ⟨rfl, a, e1, e4⟩
theorem P_state {M : gSm} {S : gSc} (h : inv M S) (p d m : Int32) : (q_X10_state S p d m).1 = (q_X11_state M p d m).1 ∧ inv (q_X11_state M p d m).2 (q_X10_state S p d m).2 := by
  unfold q_X10_state q_X11_state
  dsimp only
  rw [pl_eq, tm_eq]
  rcases ask_3 h.2.1 p d m with ⟨e, c | ⟨c1, c2⟩⟩ | ⟨c1, c2, ⟨e, e1⟩ | ⟨e, a, e1, e4⟩⟩
  · rw [e, if_pos c, if_neg nBAD]
    exact ⟨rfl, h⟩
  · rw [e, if_neg c1, if_pos c2, if_neg nBAD]
    exact ⟨rfl, h⟩
  · rw [e, if_neg c1, if_neg c2, if_neg nNO, e1]
    exact ⟨rfl, h⟩
  · rw [e, if_neg c1, if_neg c2, if_pos y00, e1]
    dsimp only
    rw [so_eq]
    have ht := isTm_of rfl c2
    have r := (rdy_0 h e4 cE_rf tE_rf rfl).day d
    have q := r.1.now r.2 ht.1 ht.2
    exact ⟨q.1.1, q.2.2.1.inv⟩
theorem P_hides {M : gSm} {S : gSc} (h : inv M S) (p d m : Int32) : (q_X10_hides S p d m).1 = (q_X11_hides M p d m).1 ∧ inv (q_X11_hides M p d m).2 (q_X10_hides S p d m).2 := by
  unfold q_X10_hides q_X11_hides
  dsimp only
  rw [pl_eq, tm_eq]
  rcases ask_3 h.2.1 p d m with ⟨e, c | ⟨c1, c2⟩⟩ | ⟨c1, c2, ⟨e, e1⟩ | ⟨e, a, e1, e4⟩⟩
  · rw [e, if_pos c, if_neg nBAD]
    exact ⟨rfl, h⟩
  · rw [e, if_neg c1, if_pos c2, if_neg nBAD]
    exact ⟨rfl, h⟩
  · rw [e, if_neg c1, if_neg c2, if_neg nNO, e1]
    exact ⟨rfl, h⟩
  · rw [e, if_neg c1, if_neg c2, if_pos y00, e1]
    dsimp only
    rw [so_eq]
    have ht := isTm_of rfl c2
    have r := (rdy_0 h e4 cE_rf tE_rf rfl).day d
    have q := r.1.now r.2 ht.1 ht.2
    generalize q_X6_cast (q_X8_setMinute (q_X8_setDay (q_X6_setUp S a) d) m) = R at q ⊢
    generalize q_X11_stateNow M p d m = N at q ⊢
    rw [← q.1.1]
    by_cases c3 : R.1 = 3
    · rw [if_pos c3, if_pos c3]
      exact ⟨q.2.1 c3, q.2.2.1.inv⟩
    · rw [if_neg c3, if_neg c3]
      exact ⟨rfl, q.2.2.1.inv⟩
theorem P_end {M : gSm} {S : gSc} (h : inv M S) (p d m w : Int32) : (q_X10_end S p d m w).1 = (q_X11_end M p d m w).1 ∧ inv (q_X11_end M p d m w).2 (q_X10_end S p d m w).2 := by
  unfold q_X10_end q_X11_end
  dsimp only
  rw [pl_eq, tm_eq, wi_eq]
  by_cases cw : q_X11_isIn (w.toInt64) 0 1 = 0
  · rw [if_pos cw, if_pos cw]
    by_cases c1 : q_X11_isPlace p = 0
    · rw [if_pos c1]; exact ⟨rfl, h⟩
    · rw [if_neg c1]
      by_cases c2 : q_X11_isTime d m = 0
      · rw [if_pos c2]; exact ⟨rfl, h⟩
      · rw [if_neg c2]; exact ⟨rfl, h⟩
  · rw [if_neg cw, if_neg cw]
    rcases ask_3 h.2.1 p d m with ⟨e, c | ⟨c1, c2⟩⟩ | ⟨c1, c2, ⟨e, e1⟩ | ⟨e, a, e1, e4⟩⟩
    · rw [e, if_pos c, if_neg nBAD]
      exact ⟨rfl, h⟩
    · rw [e, if_neg c1, if_pos c2, if_neg nBAD]
      exact ⟨rfl, h⟩
    · rw [e, if_neg c1, if_neg c2, if_neg nNO, e1]
      exact ⟨rfl, h⟩
    · rw [e, if_neg c1, if_neg c2, if_pos y00, e1]
      dsimp only
      rw [so_eq]
      have ht := isTm_of rfl c2
      have r := (rdy_0 h e4 cE_rf tE_rf rfl).day d
      have q := r.1.now r.2 ht.1 ht.2
      generalize q_X6_cast (q_X8_setMinute (q_X8_setDay (q_X6_setUp S a) d) m) = R at q ⊢
      generalize q_X11_stateNow M p d m = N at q ⊢
      rw [← q.1.1]
      by_cases c3 : R.1 = 0
      · rw [if_pos c3, if_pos c3]
        have l := (q.1.2 c3).1
        by_cases c4 : w = 0
        · rw [if_pos c4, if_pos c4]
          exact ⟨by show R.2.1 7 12 = (N.2.2 0 14).toInt32; rw [l.1, t6432], q.2.2.1.inv⟩
        · rw [if_neg c4, if_neg c4]
          exact ⟨by show R.2.1 7 13 = (N.2.2 0 15).toInt32; rw [l.2, t6432], q.2.2.1.inv⟩
      · rw [if_neg c3, if_neg c3]
        exact ⟨rfl, q.2.2.1.inv⟩
