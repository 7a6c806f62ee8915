def R_law : String := "DialGardenLaw"
def lw_P (b : Addr) (xs : List Int32) (args : Array Value) (s : State) : Prop := args = #[.ref b] ∧ s.IntsAt b xs ∧ xs.length ≤ 3584 ∧ (Jvm.Cond.and given_1 narrow_1).before args s = true
def lw_Q (_ : Array Value) (s : State) (o : Outcome) (t : State) : Prop := o = .returned (some (.int 1)) ∧ Framed s o t [] 600000 7302250
def lw_Z (below : List Frame) (a : Array Value) (s : State) : State → Prop := fun t => ∃ o, t.status = .running ∧ Ended t below o ∧ lw_Q a s o t
/-- the law's own end, with 1 on the stack, nothing written that was there before, its room as the claim has it -/
theorem lw_ret {p : Program} {l : Launch} {e : Env} {s : State} {m : MethodId} {below : List Frame} {meth : Method} {c : Code} {b : Nat} (hx : p.tables.exec = Jvm.exec) (hb : c.code = code) (hr : meth.sig.returnType = ret) (hlocks : meth.locks = false) {pc : Nat} {H : Heap} {ls : Array Slot} (hdg : decode code pc = .ok (.ireturn, 1)) : W p l e room_1 s m #[Value.ref b] below meth c H [] 600000 7302250 (lw_Z below #[Value.ref b] s) (F0 m pc ls [.int 1]) := by
  intro T hT X
  obtain ⟨fs, hret, hrun, hended, hW, hframe⟩ := X.leave (v := some (.int 1)) (hlocks := hlocks) (fun h => by rw [hr] at h; cases h)
  have hmeth' : T.vm.method? m = some meth := X.method'
  refine ⟨T.setFrames fs, ?_, .returned (some (.int 1)), hrun, hended, rfl, ⟨_, rfl⟩, hW, hframe⟩
  jvm_step X.here [X.here.top, hx, hb, hdg, hmeth', hr, ret, narrow_b1]
  (try refine ⟨rfl, ?_⟩); (try refine ⟨rfl, ?_⟩)
  first | (intro acts; rw [hret _ acts rfl rfl rfl]) | rw [hret _ _ rfl rfl rfl]
  exact Steps.refl _
/-- what holds at the law's entry: the machine, the code, the tables' words (any of lw_tbl by 'hts w (by decide +kernel)'), the script of L ints xs at the cell b, what the Statement gives of the start (any of its parts by flat_of_before) -/
def lw_At (p : Program) (s : State) (m : MethodId) (meth : Method) (c : Code) (b L : Nat) (xs : Nat → Int32) : Prop :=
  p.tables.exec = Jvm.exec ∧ c.code = code ∧ meth.sig.returnType = ret ∧ c.maxLocals = 4 ∧ s.vm.findClass R_law = some m.cls ∧ (∀ w ∈ lw_tbl, w.before #[Value.ref b] s = true) ∧ va_X b L xs s s.heap ∧ b < s.heap.size ∧ meth.locks = false ∧ (Jvm.Cond.and given_1 narrow_1).before #[Value.ref b] s = true
theorem lw_c45 : Cond.constantLong RL 45 (4294967295) ∈ wsL_law := List.mem_of_getElem? (i := 6) (by decide +kernel)
theorem lw_ixn {i L : Nat} (j : Nat) (hi : i + 7 ≤ L) (hL : L ≤ 3584) (hj : j < 7) : vp_in (nI i + nI j) L := by
  rw [nI_add]
  exact vp_in_nI (by omega) (by omega)
theorem lw_ix1 {i L : Nat} (hi : i + 7 ≤ L) (hL : L ≤ 3584) : vp_in (nI i + 1) L := lw_ixn 1 hi hL (by decide)
theorem lw_ix2 {i L : Nat} (hi : i + 7 ≤ L) (hL : L ≤ 3584) : vp_in (nI i + 2) L := lw_ixn 2 hi hL (by decide)
theorem lw_ix3 {i L : Nat} (hi : i + 7 ≤ L) (hL : L ≤ 3584) : vp_in (nI i + 3) L := lw_ixn 3 hi hL (by decide)
theorem lw_ix4 {i L : Nat} (hi : i + 7 ≤ L) (hL : L ≤ 3584) : vp_in (nI i + 4) L := lw_ixn 4 hi hL (by decide)
theorem lw_ix5 {i L : Nat} (hi : i + 7 ≤ L) (hL : L ≤ 3584) : vp_in (nI i + 5) L := lw_ixn 5 hi hL (by decide)
theorem lw_ix6 {i L : Nat} (hi : i + 7 ≤ L) (hL : L ≤ 3584) : vp_in (nI i + 6) L := lw_ixn 6 hi hL (by decide)
theorem iv_T {M : gSm} {S : gSc} (h : inv M S) : okR S 3 40 := okR_of_iG h.2.1
theorem iv_H {M : gSm} {S : gSc} (h : inv M S) : okH S := h.2.2.2.2.2
theorem iv_kn0 {M : gSm} {S : gSc} (h : inv M S) : 0 ≤ (S.1 1 1).toInt := h.1.1.2.1
theorem iv_kn {M : gSm} {S : gSc} (h : inv M S) : (S.1 1 1).toInt ≤ 366 := h.1.1.2.2
theorem iv_s0 {M : gSm} {S : gSc} (h : inv M S) : 0 ≤ (S.1 17 4).toInt := h.2.2.2.1.1.2.1
theorem iv_s {M : gSm} {S : gSc} (h : inv M S) : (S.1 17 4).toInt ≤ 20 := h.2.2.2.1.1.2.2
theorem iv_l0 {M : gSm} {S : gSc} (h : inv M S) : 0 ≤ (S.1 4 2).toInt := h.2.2.1.2.1.1
theorem iv_l1 {M : gSm} {S : gSc} (h : inv M S) : (S.1 4 2).toInt < 16 := h.2.2.1.2.1.2
theorem iv_cp {M : gSm} {S : gSc} (h : inv M S) : ∀ j, j < 16 → isP (S.1 5 j) := h.2.2.1.2.2.1
theorem iv_C {M : gSm} {S : gSc} (h : inv M S) : okR S 6 16 := h.2.2.1.2.2.2.2.1
theorem iv_t0 {M : gSm} {S : gSc} (h : inv M S) : 0 ≤ (S.1 0 7).toInt := h.2.2.2.2.1.1.2.1
theorem iv_t {M : gSm} {S : gSc} (h : inv M S) : (S.1 0 7).toInt ≤ 601 := h.2.2.2.2.1.1.2.2
theorem iv_mc0 {M : gSm} {S : gSc} (h : inv M S) : 0 ≤ (M.1 0 6).toInt := by rw [h.1.1.1]; exact h.1.1.2.1
theorem iv_mc {M : gSm} {S : gSc} (h : inv M S) : (M.1 0 6).toInt ≤ 366 := by rw [h.1.1.1]; exact h.1.1.2.2
theorem iv_mk0 {M : gSm} {S : gSc} (h : inv M S) : 0 ≤ (M.1 0 3).toInt := by rw [h.2.2.1.1.1]; exact h.2.2.1.1.2.1
theorem iv_mk {M : gSm} {S : gSc} (h : inv M S) : (M.1 0 3).toInt ≤ 16 := by rw [h.2.2.1.1.1]; exact h.2.2.1.1.2.2
theorem iv_mkp {M : gSm} {S : gSc} (h : inv M S) : ∀ j, j < 16 → isP (M.1 2 j) := h.2.2.1.2.2.2.1
theorem iv_ms0 {M : gSm} {S : gSc} (h : inv M S) : 0 ≤ (M.1 0 8).toInt := by rw [h.2.2.2.1.1.1]; exact h.2.2.2.1.1.2.1
theorem iv_ms {M : gSm} {S : gSc} (h : inv M S) : (M.1 0 8).toInt ≤ 20 := by rw [h.2.2.2.1.1.1]; exact h.2.2.2.1.1.2.2
theorem iv_msd {M : gSm} {S : gSc} (h : inv M S) : ∀ j, j < 20 → 0 ≤ (M.1 5 (4 * j)).toInt := fun j hj => by rw [(h.2.2.2.1.2 j hj).1.1]; exact (h.2.2.2.1.2 j hj).2.1.1
theorem iv_mt0 {M : gSm} {S : gSc} (h : inv M S) : 0 ≤ (M.1 0 10).toInt := by rw [h.2.2.2.2.1.1.1]; exact h.2.2.2.2.1.1.2.1
theorem iv_mt {M : gSm} {S : gSc} (h : inv M S) : (M.1 0 10).toInt ≤ 601 := by rw [h.2.2.2.2.1.1.1]; exact h.2.2.2.2.1.1.2.2
