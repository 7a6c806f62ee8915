theorem askm_of {M : gSm} {r p d m : Int32} (e : r = q_X11_ask M p d m) (h : 0 ≤ r) : isP p ∧ (0 ≤ d.toInt ∧ d.toInt ≤ 365) ∧ 0 ≤ m.toInt ∧ m.toInt ≤ 1439 := by
  unfold q_X11_ask at e
  simp only [] at e
  split at e
  · rw [e] at h; exact absurd h (by decide)
  · next h1 =>
    split at e
    · rw [e] at h; exact absurd h (by decide)
    · next h2 => exact ⟨isPm_of rfl h1, isTm_of rfl h2⟩
