/-! CONSTRUCTORS, over any list of cells -/
def gV (E : gEE) (ws : va_W) (H : Heap) : Prop := va_P (eD E) vwCl ws H ∧ va_D (eA E) ws
def gE1 (E : gEE) (U : State) : Prop := gE E U ∧ va_AO "DialGarden$House" U ∧ va_AO "DialGarden$Thing" U
def gP1 (E : gEE) (ws : va_W) : State → Prop := fun U => gE1 E U ∧ gV E ws U.heap
theorem gE1.go {E : gEE} {s U : State} {H : Heap} {locs : List Loc} (h : gE1 E s) (hS : va_S (eA E) s.heap H locs) (hU : U.heap = H) (hW : s.WarmedH U.vm) : gE1 E U := ⟨gE.go h.1 hS hU hW, h.2.1.moved hW.alike, h.2.2.moved hW.alike⟩
theorem gP1.blind {E : gEE} {ws : va_W} {av : List Value} : FrameBlind (va_Pc av (gP1 E ws)) := fun _ U _ _ h => ⟨h.1, gE1.go h.2.1 va_S.rf rfl (State.WarmedH.refl U), h.2.2⟩
theorem gP1.S {E : gEE} {ws : va_W} {s : State} {H : Heap} {locs : List Loc} {As : List Value} (hE : gE1 E s) (hS : va_S (eA E) s.heap H locs) (hW : gV E ws H) : PreS s H (va_Pc As (gP1 E ws)) As :=
  ⟨gP1.blind, fun U hU hw => ⟨rfl, gE1.go hE hS hU hw, by rw [hU]; exact hW⟩⟩
theorem gP1.V {E : gEE} {ws : va_W} {s : State} {H : Heap} {locs : List Loc} {As : List Value} {b q0 ci : Nat} {fs : List Value} {q : vw_C} (hE : gE1 E s) (hS : va_S (eA E) s.heap H locs) (hW : gV E ws H) (hc : vwCl[ci]? = some q) (he : ws[q0]? = some (b, .inr (ci, fs))) : PreV s H q.1 b (va_Pc (.ref b :: As) (gP1 E ws)) As :=
  ⟨gP1.blind, va_recv hE.1.1 hW.1 hc he, fun U hU hw => ⟨rfl, gE1.go hE hS hU hw, by rw [hU]; exact hW⟩⟩
theorem v_lt {ws : va_W} {k : Nat} {x : Nat × va_E} (h : ws[k]? = some x) : k < ws.length := (List.getElem?_eq_some_iff.mp h).1
theorem v_0 {ws : va_W} {k : Nat} {x : Nat × va_E} (h : ws[k]? = some x) : ws.set k x = ws := by
  obtain ⟨h1, h2⟩ := List.getElem?_eq_some_iff.mp h
  rw [← h2]
  exact List.set_getElem_self h1
theorem v_gk {ws L : va_W} {k : Nat} {x : Nat × va_E} (h : k < ws.length) : (ws.set k x ++ L)[k]? = some x := by
  rw [List.getElem?_append_left (by rw [List.length_set]; exact h), List.getElem?_set_self h]
theorem v_sk {ws L : va_W} {k : Nat} {x y : Nat × va_E} (h : k < ws.length) : (ws.set k x ++ L).set k y = ws.set k y ++ L := by
  rw [List.set_append_left _ _ (by rw [List.length_set]; exact h), List.set_set]
theorem v_gi {ws L : va_W} {k i : Nat} {x : Nat × va_E} : (ws.set k x ++ L)[ws.length + i]? = L[i]? := by
  rw [List.getElem?_append_right (by rw [List.length_set]; omega), List.length_set, Nat.add_sub_cancel_left]
theorem v_si {ws L : va_W} {k i : Nat} {x y : Nat × va_E} : (ws.set k x ++ L).set (ws.length + i) y = ws.set k x ++ L.set i y := by
  rw [List.set_append_right _ _ (by rw [List.length_set]; omega), List.length_set, Nat.add_sub_cancel_left]
theorem ha_i (n : Nat) : ∀ cA : ClassId, vp_cell cA (n, .inl (fun _ => 0)) = arrV cA n (fun _ => defaultValue .int) := fun _ => rfl
theorem ha_l (n : Nat) : ∀ cA : ClassId, vp_cell cA (n, .inr (.inl (fun _ => 0))) = arrV cA n (fun _ => defaultValue .long) := fun _ => rfl
theorem ha_z (n : Nat) : ∀ cA : ClassId, vp_cell cA (n, .inl (fun _ => 0)) = arrV cA n (fun _ => defaultValue .boolean) := fun _ => rfl
theorem v_ra {U : State} {a b : ClassId} {ty : FieldType} (h1 : va_RA U a ty) (h2 : va_RA U b ty) : a = b := by
  cases ty <;> first | exact Option.some.inj (Eq.trans (Eq.symm h1) h2) | (obtain ⟨_, _, _, _, _, e1⟩ := h1; obtain ⟨_, _, _, _, _, e2⟩ := h2; exact Option.some.inj (Eq.trans (Eq.symm e1) e2))
