/-! ROWS OVER THE WORLD: the tables' facts go from a caller to its callee; calls that change nothing -/
def gF : Cond → Bool
  | .fieldLinkNest _ _ _ _ _ _ => true
  | .methodLinkNest _ _ _ _ => true
  | .declares _ => true
  | .castable _ _ => true
  | _ => false
theorem gF_xN : ∀ w ∈ xN, gF w = true := List.all_eq_true.mp (by decide +kernel)
theorem gF_warm {w : Cond} (hf : gF w = true) {s U : State} (hW : s.WarmedH U.vm) (h : va_Nw w s) : va_Nw w U := by
  cases w <;> first | exact va_Nw.warmF hW h | exact va_Nw.warmM hW h | exact va_Nw.warmD hW h | exact va_Nw.warmC hW h | exact absurd hf (by simp [gF])
theorem gE.go {E : gEE} {s U : State} {H : Heap} {locs : List Loc} (h : gE E s) (hS : va_S (eA E) s.heap H locs) (hU : U.heap = H) (hW : s.WarmedH U.vm) : gE E U := by
  obtain ⟨hK, hA, hN, c1, c2, hZ, hT⟩ := h
  refine ⟨va_K.moved hW.alike hK, fun q hq => hA q (Nat.le_trans hS.1 (by rw [← hU]; exact hq)), fun w hw => gF_warm (gF_xN w hw) hW (hN w hw), c1.moved hW.alike, c2.moved hW.alike, ?_, ?_⟩
  · rw [hU]; exact (hZ.moved hW.alike).kept hS.2.1
  · rw [hU]; exact (hT.moved hW.alike).kept hS.2.1
def gP (E : gEE) (M : gSm) (S : gSc) : State → Prop := fun U => gE E U ∧ gW E M S U.heap
theorem gP.blind {E : gEE} {M : gSm} {S : gSc} {av : List Value} : FrameBlind (va_Pc av (gP E M S)) := fun _ U _ _ h => ⟨h.1, gE.go h.2.1 va_S.rf rfl (State.WarmedH.refl U), h.2.2⟩
theorem gP.S {E : gEE} {M : gSm} {S : gSc} {s : State} {H : Heap} {locs : List Loc} {As : List Value} (hE : gE E s) (hS : va_S (eA E) s.heap H locs) (hW : gW E M S H) : PreS s H (va_Pc As (gP E M S)) As :=
  ⟨gP.blind, fun U hU hw => ⟨rfl, gE.go hE hS hU hw, by rw [hU]; exact hW⟩⟩
theorem gP.V {E : gEE} {M : gSm} {S : gSc} {s : State} {H : Heap} {locs : List Loc} {As : List Value} {b q0 ci : Nat} {fs : List Value} {q : vw_C} (hE : gE E s) (hS : va_S (eA E) s.heap H locs) (hW : gW E M S H) (hc : vwCl[ci]? = some q) (he : (wJ E M S)[q0]? = some (b, .inr (ci, fs))) : PreV s H q.1 b (va_Pc (.ref b :: As) (gP E M S)) As :=
  ⟨gP.blind, va_recv hE.1 hW.1 hc he, fun U hU hw => ⟨rfl, gE.go hE hS hU hw, by rw [hU]; exact hW⟩⟩
theorem gP0 {s : State} {H : Heap} {As : List Value} : PreS s H (va_Pc As (fun _ => True)) As := ⟨fun _ _ _ _ h => h, fun _ _ _ => ⟨rfl, trivial⟩⟩
theorem gB {v : Int32} (h : v = 0 ∨ v = 1) : narrow .boolean (.int v) = .int v := by rcases h with rfl | rfl <;> rfl
section K4
variable {p : Program} {l : Launch} {e : Env} {R : Room} {s : State} {m : MethodId} {args : Array Value} {below : List Frame} {meth : Method} {c : Code} {H : Heap} {locs : List Loc} {cells slots : Nat} {Q : State → Prop}
variable {pc : Nat} {ls : Array Slot} {rest st0 : List Value} {a : Array Value}
theorem k_Si {post : Int32 → Prop} (hr : va_Run p l e R s m args below meth c H locs cells slots 0 0 (F0 m pc ls st0) rest (vp_Si post a) (fun _ => False))
    (kk : ∀ r : Int32, post r → W p l e R s m args below meth c H locs cells slots Q (F0 m (pc + 3) ls (.int r :: rest))) : W p l e R s m args below meth c H locs cells slots Q (F0 m pc ls st0) := by
  intro T hT X
  obtain ⟨v, st₀, t, T', L, h0, X', hL, e1, -, ⟨r, hv, hp, hh⟩, st⟩ := hr T hT X
  cases hv
  obtain ⟨t2, a1, b1⟩ := kk r hp T' (by rw [e1, hh, h0]) (Stand.forget X' (fun q h => (hL q h).elim))
  exact ⟨t2, st t2 a1, b1⟩
theorem k_Sl {post : Int64 → Prop} (hr : va_Run p l e R s m args below meth c H locs cells slots 0 0 (F0 m pc ls st0) rest (vp_Sl post a) (fun _ => False))
    (kk : ∀ r : Int64, post r → W p l e R s m args below meth c H locs cells slots Q (F0 m (pc + 3) ls (.long r :: rest))) : W p l e R s m args below meth c H locs cells slots Q (F0 m pc ls st0) := by
  intro T hT X
  obtain ⟨v, st₀, t, T', L, h0, X', hL, e1, -, ⟨r, hv, hp, hh⟩, st⟩ := hr T hT X
  cases hv
  obtain ⟨t2, a1, b1⟩ := kk r hp T' (by rw [e1, hh, h0]) (Stand.forget X' (fun q h => (hL q h).elim))
  exact ⟨t2, st t2 a1, b1⟩
theorem k_Sq {post : Option Nat → Prop} (hr : va_Run p l e R s m args below meth c H locs cells slots 0 0 (F0 m pc ls st0) rest (va_Sq post a) (fun _ => False))
    (kk : ∀ r : Option Nat, post r → W p l e R s m args below meth c H locs cells slots Q (F0 m (pc + 3) ls (va_rf r :: rest))) : W p l e R s m args below meth c H locs cells slots Q (F0 m pc ls st0) := by
  intro T hT X
  obtain ⟨v, st₀, t, T', L, h0, X', hL, e1, -, ⟨r, hv, hp, hh⟩, st⟩ := hr T hT X
  cases hv
  obtain ⟨t2, a1, b1⟩ := kk r hp T' (by rw [e1, hh, h0]) (Stand.forget X' (fun q h => (hL q h).elim))
  exact ⟨t2, st t2 a1, b1⟩
end K4
theorem gT_d {S : gSc} {a : Nat} (h : S.2.2.2.1 a = 1) : gT S a = .inr (1, [.int (S.2.2.2.2 a 0), .int (S.2.2.2.2 a 1), .int (S.2.2.2.2 a 2), .int (S.2.2.2.2 a 3), .int (S.2.2.2.2 a 4), .int (S.2.2.2.2 a 5), .int (S.2.2.2.2 a 6)]) := if_pos h
theorem gT_h {S : gSc} {a : Nat} (h : ¬ S.2.2.2.1 a = 1) : gT S a = .inr (2, [.int (S.2.2.2.2 a 0), .int (S.2.2.2.2 a 1), .int (S.2.2.2.2 a 2), .int (S.2.2.2.2 a 3), .int (S.2.2.2.2 a 4)]) := if_neg h
theorem wJ_at (E : gEE) (M : gSm) {S : gSc} {a : Nat} (h : a ∈ S.2.2.1) : ∃ k : Nat, (wJ E M S)[k]? = some (a, gT S a) := by
  have := va_pl_get (X := wM E M ++ wC E S) (f := gT S) h
  rwa [List.append_assoc] at this
theorem wJ_d (E : gEE) (M : gSm) {S : gSc} {a : Nat} (h : a ∈ S.2.2.1) (h1 : S.2.2.2.1 a = 1) : ∃ k : Nat, (wJ E M S)[k]? = some (a, .inr (1, [.int (S.2.2.2.2 a 0), .int (S.2.2.2.2 a 1), .int (S.2.2.2.2 a 2), .int (S.2.2.2.2 a 3), .int (S.2.2.2.2 a 4), .int (S.2.2.2.2 a 5), .int (S.2.2.2.2 a 6)])) := by
  obtain ⟨k, hk⟩ := wJ_at E M h
  exact ⟨k, hk.trans (congrArg (fun e => some (a, e)) (gT_d h1))⟩
theorem wJ_h (E : gEE) (M : gSm) {S : gSc} {a : Nat} (h : a ∈ S.2.2.1) (h1 : ¬ S.2.2.2.1 a = 1) : ∃ k : Nat, (wJ E M S)[k]? = some (a, .inr (2, [.int (S.2.2.2.2 a 0), .int (S.2.2.2.2 a 1), .int (S.2.2.2.2 a 2), .int (S.2.2.2.2 a 3), .int (S.2.2.2.2 a 4)])) := by
  obtain ⟨k, hk⟩ := wJ_at E M h
  exact ⟨k, hk.trans (congrArg (fun e => some (a, e)) (gT_h h1))⟩
theorem sw_nlt {x : Int32} {n : Nat} (hn : n < 2 ^ 31) (h : ¬ (0 ≤ x.toInt ∧ x.toInt ≤ n)) : x.toInt < 0 ∨ (n : Int) < x.toInt := by omega
theorem gBf {v : Int32} (h : v = 0 ∨ v = 1) : fits .boolean (.int v) = true := by rcases h with rfl | rfl <;> rfl
section K5
variable {p : Program} {l : Launch} {e : Env} {R : Room} {s : State} {m : MethodId} {args : Array Value} {below : List Frame} {meth : Method} {c : Code} {H : Heap} {locs : List Loc} {cells slots : Nat} {Q : State → Prop} {cc : ByteArray} {pc tgt : Nat} {ls : Array Slot} {rest : List Value} {x y : Int64} {off : Int}
theorem k_llt (hexec : p.tables.exec = Jvm.exec) (hb : c.code = cc) (hd : decode cc pc = .ok (.lcmp, 1)) (hdg : decode cc (pc + 1) = .ok (.ifCond .lt off, 3)) (ht : ((pc + 1 : Nat) : Int) + off = (tgt : Int)) (kt : x < y → W p l e R s m args below meth c H locs cells slots Q (F0 m tgt ls rest)) (kf : ¬ x < y → W p l e R s m args below meth c H locs cells slots Q (F0 m (pc + 1 + 3) ls rest)) : W p l e R s m args below meth c H locs cells slots Q (F0 m pc ls (.long y :: .long x :: rest)) :=
  W.lcmp hexec hb hd (lv_if_lt hexec hb hdg ht (fun h => kt ((lg_cmp_lt x y).mp h)) (fun h => kf (fun q => h ((lg_cmp_lt x y).mpr q))))
theorem k_lge (hexec : p.tables.exec = Jvm.exec) (hb : c.code = cc) (hd : decode cc pc = .ok (.lcmp, 1)) (hdg : decode cc (pc + 1) = .ok (.ifCond .ge off, 3)) (ht : ((pc + 1 : Nat) : Int) + off = (tgt : Int)) (kt : y ≤ x → W p l e R s m args below meth c H locs cells slots Q (F0 m tgt ls rest)) (kf : ¬ y ≤ x → W p l e R s m args below meth c H locs cells slots Q (F0 m (pc + 1 + 3) ls rest)) : W p l e R s m args below meth c H locs cells slots Q (F0 m pc ls (.long y :: .long x :: rest)) :=
  W.lcmp hexec hb hd (lv_if_ge hexec hb hdg ht (fun h => kt ((lg_cmp_ge x y).mp h)) (fun h => kf (fun q => h ((lg_cmp_ge x y).mpr q))))
theorem k_lgt (hexec : p.tables.exec = Jvm.exec) (hb : c.code = cc) (hd : decode cc pc = .ok (.lcmp, 1)) (hdg : decode cc (pc + 1) = .ok (.ifCond .gt off, 3)) (ht : ((pc + 1 : Nat) : Int) + off = (tgt : Int)) (kt : y < x → W p l e R s m args below meth c H locs cells slots Q (F0 m tgt ls rest)) (kf : ¬ y < x → W p l e R s m args below meth c H locs cells slots Q (F0 m (pc + 1 + 3) ls rest)) : W p l e R s m args below meth c H locs cells slots Q (F0 m pc ls (.long y :: .long x :: rest)) :=
  W.lcmp hexec hb hd (lv_if_gt hexec hb hdg ht (fun h => kt ((lg_cmp_gt x y).mp h)) (fun h => kf (fun q => h ((lg_cmp_gt x y).mpr q))))
theorem k_lle (hexec : p.tables.exec = Jvm.exec) (hb : c.code = cc) (hd : decode cc pc = .ok (.lcmp, 1)) (hdg : decode cc (pc + 1) = .ok (.ifCond .le off, 3)) (ht : ((pc + 1 : Nat) : Int) + off = (tgt : Int)) (kt : x ≤ y → W p l e R s m args below meth c H locs cells slots Q (F0 m tgt ls rest)) (kf : ¬ x ≤ y → W p l e R s m args below meth c H locs cells slots Q (F0 m (pc + 1 + 3) ls rest)) : W p l e R s m args below meth c H locs cells slots Q (F0 m pc ls (.long y :: .long x :: rest)) :=
  W.lcmp hexec hb hd (lv_if_le hexec hb hdg ht (fun h => kt ((lg_cmp_le x y).mp h)) (fun h => kf (fun q => h ((lg_cmp_le x y).mpr q))))
theorem k_leq (hexec : p.tables.exec = Jvm.exec) (hb : c.code = cc) (hd : decode cc pc = .ok (.lcmp, 1)) (hdg : decode cc (pc + 1) = .ok (.ifCond .eq off, 3)) (ht : ((pc + 1 : Nat) : Int) + off = (tgt : Int)) (kt : x = y → W p l e R s m args below meth c H locs cells slots Q (F0 m tgt ls rest)) (kf : ¬ x = y → W p l e R s m args below meth c H locs cells slots Q (F0 m (pc + 1 + 3) ls rest)) : W p l e R s m args below meth c H locs cells slots Q (F0 m pc ls (.long y :: .long x :: rest)) :=
  W.lcmp hexec hb hd (lv_if_eq hexec hb hdg ht (fun h => kt ((lg_cmp_eq x y).mp h)) (fun h => kf (fun q => h ((lg_cmp_eq x y).mpr q))))
theorem k_lne (hexec : p.tables.exec = Jvm.exec) (hb : c.code = cc) (hd : decode cc pc = .ok (.lcmp, 1)) (hdg : decode cc (pc + 1) = .ok (.ifCond .ne off, 3)) (ht : ((pc + 1 : Nat) : Int) + off = (tgt : Int)) (kt : ¬ x = y → W p l e R s m args below meth c H locs cells slots Q (F0 m tgt ls rest)) (kf : x = y → W p l e R s m args below meth c H locs cells slots Q (F0 m (pc + 1 + 3) ls rest)) : W p l e R s m args below meth c H locs cells slots Q (F0 m pc ls (.long y :: .long x :: rest)) :=
  W.lcmp hexec hb hd (lv_if_ne hexec hb hdg ht (fun h => kt (fun q => h ((lg_cmp_eq x y).mpr q))) (fun h => kf ((lg_cmp_eq x y).mp h)))
end K5
theorem sw_ne {x k : Int32} {i : Int} (hk : k.toInt = i) (h : ¬ x = k) : x.toInt ≠ i := fun q => h (Int32.toInt_inj.mp (q.trans hk.symm))
theorem sw_out1 {x : Int32} (h0 : ¬ x = 0) (h1 : ¬ x = 1) : x.toInt < 0 ∨ 1 < x.toInt := by
  have g0 := sw_ne (i := 0) (by decide) h0
  have g1 := sw_ne (i := 1) (by decide) h1
  omega
theorem sw_out4 {x : Int32} (h0 : ¬ x = 0) (h1 : ¬ x = 1) (h2 : ¬ x = 2) (h3 : ¬ x = 3) (h4 : ¬ x = 4) : x.toInt < 0 ∨ 4 < x.toInt := by
  have g0 := sw_ne (i := 0) (by decide) h0
  have g1 := sw_ne (i := 1) (by decide) h1
  have g2 := sw_ne (i := 2) (by decide) h2
  have g3 := sw_ne (i := 3) (by decide) h3
  have g4 := sw_ne (i := 4) (by decide) h4
  omega
theorem sw_out5 {x : Int32} (h0 : ¬ x = 0) (h1 : ¬ x = 1) (h2 : ¬ x = 2) (h3 : ¬ x = 3) (h4 : ¬ x = 4) (h5 : ¬ x = 5) : x.toInt < 0 ∨ 5 < x.toInt := by
  have g4 := sw_out4 h0 h1 h2 h3 h4
  have g5 := sw_ne (i := 5) (by decide) h5
  omega
theorem sw_out6 {x : Int32} (h0 : ¬ x = 0) (h1 : ¬ x = 1) (h2 : ¬ x = 2) (h3 : ¬ x = 3) (h4 : ¬ x = 4) (h5 : ¬ x = 5) (h6 : ¬ x = 6) : x.toInt < 0 ∨ 6 < x.toInt := by
  have g5 := sw_out5 h0 h1 h2 h3 h4 h5
  have g6 := sw_ne (i := 6) (by decide) h6
  omega
