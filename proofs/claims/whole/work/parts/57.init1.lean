/-! CONSTRUCTORS, over any list of cells -/
def gV (E : gEE) (ws : va_W) (H : Heap) : Prop := va_P (eD E) vwCl ws H ∧ va_D (eA E) ws
def gE1 (E : gEE) (U : State) : Prop := gE E U ∧ va_AO "DialGarden$House" U ∧ va_AO "DialGarden$Thing" U
def gP1 (E : gEE) (ws : va_W) : State → Prop := fun U => gE1 E U ∧ gV E ws U.heap
theorem gE1.go {E : gEE} {s U : State} {H : Heap} {locs : List Loc} (h : gE1 E s) (hS : va_S (eA E) s.heap H locs) (hU : U.heap = H) (hW : s.WarmedH U.vm) : gE1 E U := ⟨gE.go h.1 hS hU hW, h.2.1.moved hW.alike, h.2.2.moved hW.alike⟩
theorem gP1.blind {E : gEE} {ws : va_W} {av : List Value} : FrameBlind (va_Pc av (gP1 E ws)) := fun _ U _ _ h => ⟨h.1, gE1.go h.2.1 va_S.rf rfl (State.WarmedH.refl U), h.2.2⟩
theorem gP1.S {E : gEE} {ws : va_W} {s : State} {H : Heap} {locs : List Loc} {As : List Value} (hE : gE1 E s) (hS : va_S (eA E) s.heap H locs) (hW : gV E ws H) : PreS s H (va_Pc As (gP1 E ws)) As :=
  ⟨gP1.blind, fun U hU hw => ⟨rfl, gE1.go hE hS hU hw, by rw [hU]; exact hW⟩⟩
theorem gP1.V {E : gEE} {ws : va_W} {s : State} {H : Heap} {locs : List Loc} {As : List Value} {b q0 ci : Nat} {fs : List Value} {q : vw_C} (hE : gE1 E s) (hS : va_S (eA E) s.heap H locs) (hW : gV E ws H) (hc : vwCl[ci]? = some q) (he : ws[q0]? = some (b, .inr (ci, fs))) : PreV s H q.1 b (va_Pc (.ref b :: As) (gP1 E ws)) As :=
  ⟨gP1.blind, va_recv hE.1.1 hW.1 hc he, fun U hU hw => ⟨rfl, gE1.go hE hS hU hw, by rw [hU]; exact hW⟩⟩
theorem v_lt {ws : va_W} {k : Nat} {x : Nat × va_E} (h : ws[k]? = some x) : k < ws.length := (List.getElem?_eq_some_iff.mp h).1
theorem v_0 {ws : va_W} {k : Nat} {x : Nat × va_E} (h : ws[k]? = some x) : ws.set k x = ws := by
  obtain ⟨h1, h2⟩ := List.getElem?_eq_some_iff.mp h
  rw [← h2]
  exact List.set_getElem_self h1
theorem v_gk {ws L : va_W} {k : Nat} {x : Nat × va_E} (h : k < ws.length) : (ws.set k x ++ L)[k]? = some x := by
  rw [List.getElem?_append_left (by rw [List.length_set]; exact h), List.getElem?_set_self h]
theorem v_sk {ws L : va_W} {k : Nat} {x y : Nat × va_E} (h : k < ws.length) : (ws.set k x ++ L).set k y = ws.set k y ++ L := by
  rw [List.set_append_left _ _ (by rw [List.length_set]; exact h), List.set_set]
theorem v_gi {ws L : va_W} {k i : Nat} {x : Nat × va_E} : (ws.set k x ++ L)[ws.length + i]? = L[i]? := by
  rw [List.getElem?_append_right (by rw [List.length_set]; omega), List.length_set, Nat.add_sub_cancel_left]
theorem v_si {ws L : va_W} {k i : Nat} {x y : Nat × va_E} : (ws.set k x ++ L).set (ws.length + i) y = ws.set k x ++ L.set i y := by
  rw [List.set_append_right _ _ (by rw [List.length_set]; omega), List.length_set, Nat.add_sub_cancel_left]
theorem v_ra {U : State} {a b : ClassId} {ty : FieldType} (h1 : va_RA U a ty) (h2 : va_RA U b ty) : a = b := by
  cases ty <;> first | exact Option.some.inj (Eq.trans (Eq.symm h1) h2) | (obtain ⟨_, _, _, _, _, e1⟩ := h1; obtain ⟨_, _, _, _, _, e2⟩ := h2; exact Option.some.inj (Eq.trans (Eq.symm e1) e2))

set_option maxHeartbeats 4000000 in
set_option maxRecDepth 100000 in
theorem c_X4_init (l : Launch) (E : gEE) (ws : va_W) (k a : Nat) (hk : ws[k]? = some (a, .inr (4, [.int 0, .int 0, .int 0]))) : Met l yX4_init wsX4_init ({ frames := 1, cells := 0, slots := 0, locals := 12 }) (va_Pc [.ref a] (gP1 E ws)) (va_Qv (fun u : va_W => u = (ws.set k (a, .inr (4, [.int 0, .int 0, .int 0])) ++ [])) (fun u t => gV E u t.heap) (eA E)) 0 0 (eA E) := by
  refine Met.ofW (cc := cX4_init) (maxL := 1) (ret := none) (by decide) rfl ?_
  intro p e s m args below meth c s₁ B hml hv
  obtain ⟨rfl, hE1, hV⟩ := hv
  have hE := hE1.1
  have hx := B.exec
  have hb := B.bytes
  have hr := B.returns
  have hts := atoms_spec (ws := wsX4_init) B.pre
  have hown : s.vm.findClass RX4 = some m.cls := findClass_of_methodNamed B.named
  have hlocks := B.notSynchronized
  have hin2 : meth.name = "<init>" := (name_of_methodNamed B.named B.method).1
  have hinX4 : ∀ w ∈ wsX40, w ∈ wsX4_init := by decide +kernel
  have hS : va_S (eA E) s.heap s.heap [] := va_S.rf
  have hlt := v_lt hk
  have hl := lv_entry ([.ref a]) (n := 1) (Nat.le_of_ble_eq_true rfl)
  rw [lg_entry_eq]
  generalize (lg_sl ([.ref a]) ++ List.replicate (1 - (lg_sl ([.ref a])).length) Slot.unset).toArray = ls at hl ⊢
  have hl : lv_has ls 1 [(0, .ref a)] := hl
  obtain ⟨H, locs, eH, el, hP, hD, hS⟩ : ∃ (H : Heap) (locs : List Loc), H = s.heap ∧ locs = [] ∧ va_P (eD E) vwCl (ws.set k (a, .inr (4, [.int 0, .int 0, .int 0])) ++ []) H ∧ va_D (eA E) (ws.set k (a, .inr (4, [.int 0, .int 0, .int 0])) ++ []) ∧ va_S (eA E) s.heap H locs := ⟨_, _, rfl, rfl, by rw [List.append_nil, v_0 hk]; exact hV.1, by rw [List.append_nil, v_0 hk]; exact hV.2, hS⟩
  rw [← eH, ← el]
  clear eH el
  refine lv_aload_n hx hb dX4_init_0 rfl (lv_at hl 0 rfl) ?_
  refine W.objInit hx hb hown (hts (.methodLink RX4 3 objectInit) (by decide +kernel)) (hts (.instanceMethod objectInit) (by decide +kernel)) (hts (.code objectInit ⟨#[0xb1]⟩ 1 none) (by decide +kernel)) rfl (by rw [hml]; exact hl.1) rfl dX4_init_1 (Nat.le_of_ble_eq_true rfl) (Nat.le_of_ble_eq_true rfl) ?_
  refine W.eq (g2 := F0 m 4 ls []) rfl ?_
  refine lv_aload_n hx hb dX4_init_4 rfl (lv_at hl 0 rfl) ?_
  refine lv_iconst (v := 0) hx hb dX4_init_5 (by decide) ?_
  refine va_put (D := eD E) (cl := vwCl) (tys := eT E) (A := eA E) (ci := 4) (C := RX4) (T := TX4) (N := 3) (v := .int 0) (ty := .int) hx hb hts hinX4 tyX4 tyX4_ok nmX4 hown hE.1 hP hD hS k (v_gk hlt) rfl 0 (by decide) (hts (.fieldLink RX4 9 "DialGarden$Range" "size" "I") (by decide +kernel)) (fun _ h9 => h9) rfl (by decide +kernel) rfl rfl (Nat.le_of_ble_eq_true rfl) dX4_init_6 (fun H locs hP hD hS => ?_)
  have hP : va_P (eD E) vwCl (ws.set k (a, .inr (4, [.int 0, .int 0, .int 0])) ++ []) H := by have h := hP; rw [v_sk hlt] at h; exact h
  have hD : va_D (eA E) (ws.set k (a, .inr (4, [.int 0, .int 0, .int 0])) ++ []) := by have h := hD; rw [v_sk hlt] at h; exact h
  refine lv_aload_n hx hb dX4_init_9 rfl (lv_at hl 0 rfl) ?_
  refine lv_iconst (v := 0) hx hb dX4_init_10 (by decide) ?_
  refine va_put (D := eD E) (cl := vwCl) (tys := eT E) (A := eA E) (ci := 4) (C := RX4) (T := TX4) (N := 3) (v := .int 0) (ty := .int) hx hb hts hinX4 tyX4 tyX4_ok nmX4 hown hE.1 hP hD hS k (v_gk hlt) rfl 1 (by decide) (hts (.fieldLink RX4 15 "DialGarden$Range" "least" "I") (by decide +kernel)) (fun _ h9 => h9) rfl (by decide +kernel) rfl rfl (Nat.le_of_ble_eq_true rfl) dX4_init_11 (fun H locs hP hD hS => ?_)
  have hP : va_P (eD E) vwCl (ws.set k (a, .inr (4, [.int 0, .int 0, .int 0])) ++ []) H := by have h := hP; rw [v_sk hlt] at h; exact h
  have hD : va_D (eA E) (ws.set k (a, .inr (4, [.int 0, .int 0, .int 0])) ++ []) := by have h := hD; rw [v_sk hlt] at h; exact h
  refine lv_aload_n hx hb dX4_init_14 rfl (lv_at hl 0 rfl) ?_
  refine lv_iconst (v := 0) hx hb dX4_init_15 (by decide) ?_
  refine va_put (D := eD E) (cl := vwCl) (tys := eT E) (A := eA E) (ci := 4) (C := RX4) (T := TX4) (N := 3) (v := .int 0) (ty := .int) hx hb hts hinX4 tyX4 tyX4_ok nmX4 hown hE.1 hP hD hS k (v_gk hlt) rfl 2 (by decide) (hts (.fieldLink RX4 18 "DialGarden$Range" "greatest" "I") (by decide +kernel)) (fun _ h9 => h9) rfl (by decide +kernel) rfl rfl (Nat.le_of_ble_eq_true rfl) dX4_init_16 (fun H locs hP hD hS => ?_)
  have hP : va_P (eD E) vwCl (ws.set k (a, .inr (4, [.int 0, .int 0, .int 0])) ++ []) H := by have h := hP; rw [v_sk hlt] at h; exact h
  have hD : va_D (eA E) (ws.set k (a, .inr (4, [.int 0, .int 0, .int 0])) ++ []) := by have h := hD; rw [v_sk hlt] at h; exact h
  refine W.widen (k := 0) (n := 0) (by decide) (by decide) ?_
  exact W.vret hx hb hr (fun t ht _ => ⟨⟨(ws.set k (a, .inr (4, [.int 0, .int 0, .int 0])) ++ []), rfl, by rfl, by dsimp only; rw [ht]; exact ⟨hP, hD⟩⟩, hS.F ht⟩) hS.2.2 dX4_init_19

set_option maxHeartbeats 4000000 in
set_option maxRecDepth 100000 in
theorem c_X5_init (l : Launch) (E : gEE) (ws : va_W) (k a : Nat) (hk : ws[k]? = some (a, .inr (5, [.int 0, .int 0, .int 0]))) : Met l yX5_init wsX5_init ({ frames := 1, cells := 0, slots := 0, locals := 12 }) (va_Pc [.ref a] (gP1 E ws)) (va_Qv (fun u : va_W => u = (ws.set k (a, .inr (5, [.int 0, .int 0, .int 0])) ++ [])) (fun u t => gV E u t.heap) (eA E)) 0 0 (eA E) := by
  refine Met.ofW (cc := cX5_init) (maxL := 1) (ret := none) (by decide) rfl ?_
  intro p e s m args below meth c s₁ B hml hv
  obtain ⟨rfl, hE1, hV⟩ := hv
  have hE := hE1.1
  have hx := B.exec
  have hb := B.bytes
  have hr := B.returns
  have hts := atoms_spec (ws := wsX5_init) B.pre
  have hown : s.vm.findClass RX5 = some m.cls := findClass_of_methodNamed B.named
  have hlocks := B.notSynchronized
  have hin2 : meth.name = "<init>" := (name_of_methodNamed B.named B.method).1
  have hinX5 : ∀ w ∈ wsX50, w ∈ wsX5_init := by decide +kernel
  have hS : va_S (eA E) s.heap s.heap [] := va_S.rf
  have hlt := v_lt hk
  have hl := lv_entry ([.ref a]) (n := 1) (Nat.le_of_ble_eq_true rfl)
  rw [lg_entry_eq]
  generalize (lg_sl ([.ref a]) ++ List.replicate (1 - (lg_sl ([.ref a])).length) Slot.unset).toArray = ls at hl ⊢
  have hl : lv_has ls 1 [(0, .ref a)] := hl
  obtain ⟨H, locs, eH, el, hP, hD, hS⟩ : ∃ (H : Heap) (locs : List Loc), H = s.heap ∧ locs = [] ∧ va_P (eD E) vwCl (ws.set k (a, .inr (5, [.int 0, .int 0, .int 0])) ++ []) H ∧ va_D (eA E) (ws.set k (a, .inr (5, [.int 0, .int 0, .int 0])) ++ []) ∧ va_S (eA E) s.heap H locs := ⟨_, _, rfl, rfl, by rw [List.append_nil, v_0 hk]; exact hV.1, by rw [List.append_nil, v_0 hk]; exact hV.2, hS⟩
  rw [← eH, ← el]
  clear eH el
  refine lv_aload_n hx hb dX5_init_0 rfl (lv_at hl 0 rfl) ?_
  refine W.objInit hx hb hown (hts (.methodLink RX5 1 objectInit) (by decide +kernel)) (hts (.instanceMethod objectInit) (by decide +kernel)) (hts (.code objectInit ⟨#[0xb1]⟩ 1 none) (by decide +kernel)) rfl (by rw [hml]; exact hl.1) rfl dX5_init_1 (Nat.le_of_ble_eq_true rfl) (Nat.le_of_ble_eq_true rfl) ?_
  refine W.eq (g2 := F0 m 4 ls []) rfl ?_
  refine lv_aload_n hx hb dX5_init_4 rfl (lv_at hl 0 rfl) ?_
  refine lv_iconst (v := 0) hx hb dX5_init_5 (by decide) ?_
  refine va_put (D := eD E) (cl := vwCl) (tys := eT E) (A := eA E) (ci := 5) (C := RX5) (T := TX5) (N := 3) (v := .int 0) (ty := .int) hx hb hts hinX5 tyX5 tyX5_ok nmX5 hown hE.1 hP hD hS k (v_gk hlt) rfl 0 (by decide) (hts (.fieldLink RX5 7 "DialGarden$Row" "toEast" "I") (by decide +kernel)) (fun _ h9 => h9) rfl (by decide +kernel) rfl rfl (Nat.le_of_ble_eq_true rfl) dX5_init_6 (fun H locs hP hD hS => ?_)
  have hP : va_P (eD E) vwCl (ws.set k (a, .inr (5, [.int 0, .int 0, .int 0])) ++ []) H := by have h := hP; rw [v_sk hlt] at h; exact h
  have hD : va_D (eA E) (ws.set k (a, .inr (5, [.int 0, .int 0, .int 0])) ++ []) := by have h := hD; rw [v_sk hlt] at h; exact h
  refine lv_aload_n hx hb dX5_init_9 rfl (lv_at hl 0 rfl) ?_
  refine lv_iconst (v := 0) hx hb dX5_init_10 (by decide) ?_
  refine va_put (D := eD E) (cl := vwCl) (tys := eT E) (A := eA E) (ci := 5) (C := RX5) (T := TX5) (N := 3) (v := .int 0) (ty := .int) hx hb hts hinX5 tyX5 tyX5_ok nmX5 hown hE.1 hP hD hS k (v_gk hlt) rfl 1 (by decide) (hts (.fieldLink RX5 13 "DialGarden$Row" "toNorth" "I") (by decide +kernel)) (fun _ h9 => h9) rfl (by decide +kernel) rfl rfl (Nat.le_of_ble_eq_true rfl) dX5_init_11 (fun H locs hP hD hS => ?_)
  have hP : va_P (eD E) vwCl (ws.set k (a, .inr (5, [.int 0, .int 0, .int 0])) ++ []) H := by have h := hP; rw [v_sk hlt] at h; exact h
  have hD : va_D (eA E) (ws.set k (a, .inr (5, [.int 0, .int 0, .int 0])) ++ []) := by have h := hD; rw [v_sk hlt] at h; exact h
  refine lv_aload_n hx hb dX5_init_14 rfl (lv_at hl 0 rfl) ?_
  refine lv_iconst (v := 0) hx hb dX5_init_15 (by decide) ?_
  refine va_put (D := eD E) (cl := vwCl) (tys := eT E) (A := eA E) (ci := 5) (C := RX5) (T := TX5) (N := 3) (v := .int 0) (ty := .int) hx hb hts hinX5 tyX5 tyX5_ok nmX5 hown hE.1 hP hD hS k (v_gk hlt) rfl 2 (by decide) (hts (.fieldLink RX5 16 "DialGarden$Row" "toUp" "I") (by decide +kernel)) (fun _ h9 => h9) rfl (by decide +kernel) rfl rfl (Nat.le_of_ble_eq_true rfl) dX5_init_16 (fun H locs hP hD hS => ?_)
  have hP : va_P (eD E) vwCl (ws.set k (a, .inr (5, [.int 0, .int 0, .int 0])) ++ []) H := by have h := hP; rw [v_sk hlt] at h; exact h
  have hD : va_D (eA E) (ws.set k (a, .inr (5, [.int 0, .int 0, .int 0])) ++ []) := by have h := hD; rw [v_sk hlt] at h; exact h
  refine W.widen (k := 0) (n := 0) (by decide) (by decide) ?_
  exact W.vret hx hb hr (fun t ht _ => ⟨⟨(ws.set k (a, .inr (5, [.int 0, .int 0, .int 0])) ++ []), rfl, by rfl, by dsimp only; rw [ht]; exact ⟨hP, hD⟩⟩, hS.F ht⟩) hS.2.2 dX5_init_19

set_option maxHeartbeats 4000000 in
set_option maxRecDepth 100000 in
theorem c_X0_init (l : Launch) (E : gEE) (ws : va_W) (k a : Nat) (hk : ws[k]? = some (a, .inr (0, [.null, .null, .int 0, .int 0]))) : Met l yX0_init wsX0_init ({ frames := 1, cells := 2, slots := 32, locals := 12 }) (va_Pc [.ref a] (gP1 E ws)) (va_Qv (fun u : va_W => ∃ q7 q15 : Nat, u = (ws.set k (a, .inr (0, [.ref q7, .ref q15, .int 0, .int 0])) ++ [(q7, .inl (eY E 0, 16, .inl (fun _ => 0))), (q15, .inl (eY E 4, 16, .inr (.inr (.inr (.inr (fun _ => none))))))])) (fun u t => gV E u t.heap) (eA E)) 2 32 (eA E) := by
  refine Met.ofW (cc := cX0_init) (maxL := 1) (ret := none) (by decide) rfl ?_
  intro p e s m args below meth c s₁ B hml hv
  obtain ⟨rfl, hE1, hV⟩ := hv
  have hE := hE1.1
  have hx := B.exec
  have hb := B.bytes
  have hr := B.returns
  have hts := atoms_spec (ws := wsX0_init) B.pre
  have hown : s.vm.findClass RX0 = some m.cls := findClass_of_methodNamed B.named
  have hlocks := B.notSynchronized
  have hin2 : meth.name = "<init>" := (name_of_methodNamed B.named B.method).1
  have hinX0 : ∀ w ∈ wsX00, w ∈ wsX0_init := by decide +kernel
  have hS : va_S (eA E) s.heap s.heap [] := va_S.rf
  have hlt := v_lt hk
  have hl := lv_entry ([.ref a]) (n := 1) (Nat.le_of_ble_eq_true rfl)
  rw [lg_entry_eq]
  generalize (lg_sl ([.ref a]) ++ List.replicate (1 - (lg_sl ([.ref a])).length) Slot.unset).toArray = ls at hl ⊢
  have hl : lv_has ls 1 [(0, .ref a)] := hl
  obtain ⟨H, locs, eH, el, hP, hD, hS⟩ : ∃ (H : Heap) (locs : List Loc), H = s.heap ∧ locs = [] ∧ va_P (eD E) vwCl (ws.set k (a, .inr (0, [.null, .null, .int 0, .int 0])) ++ []) H ∧ va_D (eA E) (ws.set k (a, .inr (0, [.null, .null, .int 0, .int 0])) ++ []) ∧ va_S (eA E) s.heap H locs := ⟨_, _, rfl, rfl, by rw [List.append_nil, v_0 hk]; exact hV.1, by rw [List.append_nil, v_0 hk]; exact hV.2, hS⟩
  rw [← eH, ← el]
  clear eH el
  refine lv_aload_n hx hb dX0_init_0 rfl (lv_at hl 0 rfl) ?_
  refine W.objInit hx hb hown (hts (.methodLink RX0 3 objectInit) (by decide +kernel)) (hts (.instanceMethod objectInit) (by decide +kernel)) (hts (.code objectInit ⟨#[0xb1]⟩ 1 none) (by decide +kernel)) rfl (by rw [hml]; exact hl.1) rfl dX0_init_1 (Nat.le_of_ble_eq_true rfl) (Nat.le_of_ble_eq_true rfl) ?_
  refine W.eq (g2 := F0 m 4 ls []) rfl ?_
  refine lv_aload_n hx hb dX0_init_4 rfl (lv_at hl 0 rfl) ?_
  refine lv_bipush (v := 16) hx hb dX0_init_5 (by decide) ?_
  refine va_newa (D := eD E) (cl := vwCl) (tys := eT E) (A := eA E) hx hb (ty := .int) (N' := 16) (a0 := (16, .inl (fun _ => 0))) (hts (.arrayClass .int) (by decide +kernel)) rfl hE.1 hP hD hS hE.2.1 (fun _ => rfl) (by decide) rfl (by decide) (Nat.le_of_ble_eq_true rfl) (Nat.le_of_ble_eq_true rfl) dX0_init_7 (fun q7 cA H hK9 hP hD hS => ?_)
  have ecA : cA = eY E 0 := v_ra (hK9.2 5 _ rfl).2 (hE.1.2 0 _ rfl).2
  subst ecA
  clear hK9
  have hP : va_P (eD E) vwCl (ws.set k (a, .inr (0, [.null, .null, .int 0, .int 0])) ++ [(q7, .inl (eY E 0, 16, .inl (fun _ => 0)))]) H := by have h := hP; rw [List.append_assoc] at h; exact h
  have hD : va_D (eA E) (ws.set k (a, .inr (0, [.null, .null, .int 0, .int 0])) ++ [(q7, .inl (eY E 0, 16, .inl (fun _ => 0)))]) := by have h := hD; rw [List.append_assoc] at h; exact h
  refine va_putF (D := eD E) (cl := vwCl) (tys := eT E) (A := eA E) (ci := 0) (C := RX0) (T := TX0) (N := 4) (v := .ref q7) (ty := .array .int) hx hb hts hinX0 tyX0 tyX0_ok nmX0 hown hE.1 hP hD hS k (v_gk hlt) rfl 0 (by decide) (hts (.fieldLink RX0 9 "DialGarden$Changes" "places" "[I") (by decide +kernel)) (fun _ h9 => h9) rfl hin2 rfl (by decide +kernel) rfl rfl (Nat.le_of_ble_eq_true rfl) dX0_init_9 (fun H locs hP hD hS => ?_)
  have hP : va_P (eD E) vwCl (ws.set k (a, .inr (0, [.ref q7, .null, .int 0, .int 0])) ++ [(q7, .inl (eY E 0, 16, .inl (fun _ => 0)))]) H := by have h := hP; rw [v_sk hlt] at h; exact h
  have hD : va_D (eA E) (ws.set k (a, .inr (0, [.ref q7, .null, .int 0, .int 0])) ++ [(q7, .inl (eY E 0, 16, .inl (fun _ => 0)))]) := by have h := hD; rw [v_sk hlt] at h; exact h
  refine lv_aload_n hx hb dX0_init_12 rfl (lv_at hl 0 rfl) ?_
  refine lv_bipush (v := 16) hx hb dX0_init_13 (by decide) ?_
  refine va_newq (D := eD E) (cl := vwCl) (tys := eT E) (A := eA E) (C := RX9) hx hb (N' := 16) hown (hts (.classLink RX0 15 RX9) (by decide +kernel)) hE1.2.2 hE.1 hP hD hS hE.2.1 (by decide) rfl (by decide) (Nat.le_of_ble_eq_true rfl) (Nat.le_of_ble_eq_true rfl) dX0_init_15 (fun q15 cA H hK9 hP hD hS => ?_)
  have ecA : cA = eY E 4 := v_ra (hK9.2 5 _ rfl).2 (hE.1.2 4 _ rfl).2
  subst ecA
  clear hK9
  have hP : va_P (eD E) vwCl (ws.set k (a, .inr (0, [.ref q7, .null, .int 0, .int 0])) ++ [(q7, .inl (eY E 0, 16, .inl (fun _ => 0))), (q15, .inl (eY E 4, 16, .inr (.inr (.inr (.inr (fun _ => none))))))]) H := by have h := hP; rw [List.append_assoc] at h; exact h
  have hD : va_D (eA E) (ws.set k (a, .inr (0, [.ref q7, .null, .int 0, .int 0])) ++ [(q7, .inl (eY E 0, 16, .inl (fun _ => 0))), (q15, .inl (eY E 4, 16, .inr (.inr (.inr (.inr (fun _ => none))))))]) := by have h := hD; rw [List.append_assoc] at h; exact h
  refine va_putF (D := eD E) (cl := vwCl) (tys := eT E) (A := eA E) (ci := 0) (C := RX0) (T := TX0) (N := 4) (v := .ref q15) (ty := .array (.object "DialGarden$Thing")) hx hb hts hinX0 tyX0 tyX0_ok nmX0 hown hE.1 hP hD hS k (v_gk hlt) rfl 1 (by decide) (hts (.fieldLink RX0 17 "DialGarden$Changes" "things" "[LDialGarden$Thing;") (by decide +kernel)) (fun _ h9 => h9) rfl hin2 rfl (by decide +kernel) rfl rfl (Nat.le_of_ble_eq_true rfl) dX0_init_18 (fun H locs hP hD hS => ?_)
  have hP : va_P (eD E) vwCl (ws.set k (a, .inr (0, [.ref q7, .ref q15, .int 0, .int 0])) ++ [(q7, .inl (eY E 0, 16, .inl (fun _ => 0))), (q15, .inl (eY E 4, 16, .inr (.inr (.inr (.inr (fun _ => none))))))]) H := by have h := hP; rw [v_sk hlt] at h; exact h
  have hD : va_D (eA E) (ws.set k (a, .inr (0, [.ref q7, .ref q15, .int 0, .int 0])) ++ [(q7, .inl (eY E 0, 16, .inl (fun _ => 0))), (q15, .inl (eY E 4, 16, .inr (.inr (.inr (.inr (fun _ => none))))))]) := by have h := hD; rw [v_sk hlt] at h; exact h
  refine lv_aload_n hx hb dX0_init_21 rfl (lv_at hl 0 rfl) ?_
  refine lv_iconst (v := 0) hx hb dX0_init_22 (by decide) ?_
  refine va_put (D := eD E) (cl := vwCl) (tys := eT E) (A := eA E) (ci := 0) (C := RX0) (T := TX0) (N := 4) (v := .int 0) (ty := .int) hx hb hts hinX0 tyX0 tyX0_ok nmX0 hown hE.1 hP hD hS k (v_gk hlt) rfl 2 (by decide) (hts (.fieldLink RX0 21 "DialGarden$Changes" "latest" "I") (by decide +kernel)) (fun _ h9 => h9) rfl (by decide +kernel) rfl rfl (Nat.le_of_ble_eq_true rfl) dX0_init_23 (fun H locs hP hD hS => ?_)
  have hP : va_P (eD E) vwCl (ws.set k (a, .inr (0, [.ref q7, .ref q15, .int 0, .int 0])) ++ [(q7, .inl (eY E 0, 16, .inl (fun _ => 0))), (q15, .inl (eY E 4, 16, .inr (.inr (.inr (.inr (fun _ => none))))))]) H := by have h := hP; rw [v_sk hlt] at h; exact h
  have hD : va_D (eA E) (ws.set k (a, .inr (0, [.ref q7, .ref q15, .int 0, .int 0])) ++ [(q7, .inl (eY E 0, 16, .inl (fun _ => 0))), (q15, .inl (eY E 4, 16, .inr (.inr (.inr (.inr (fun _ => none))))))]) := by have h := hD; rw [v_sk hlt] at h; exact h
  refine lv_aload_n hx hb dX0_init_26 rfl (lv_at hl 0 rfl) ?_
  refine lv_iconst (v := 0) hx hb dX0_init_27 (by decide) ?_
  refine va_put (D := eD E) (cl := vwCl) (tys := eT E) (A := eA E) (ci := 0) (C := RX0) (T := TX0) (N := 4) (v := .int 0) (ty := .int) hx hb hts hinX0 tyX0 tyX0_ok nmX0 hown hE.1 hP hD hS k (v_gk hlt) rfl 3 (by decide) (hts (.fieldLink RX0 25 "DialGarden$Changes" "kept" "I") (by decide +kernel)) (fun _ h9 => h9) rfl (by decide +kernel) rfl rfl (Nat.le_of_ble_eq_true rfl) dX0_init_28 (fun H locs hP hD hS => ?_)
  have hP : va_P (eD E) vwCl (ws.set k (a, .inr (0, [.ref q7, .ref q15, .int 0, .int 0])) ++ [(q7, .inl (eY E 0, 16, .inl (fun _ => 0))), (q15, .inl (eY E 4, 16, .inr (.inr (.inr (.inr (fun _ => none))))))]) H := by have h := hP; rw [v_sk hlt] at h; exact h
  have hD : va_D (eA E) (ws.set k (a, .inr (0, [.ref q7, .ref q15, .int 0, .int 0])) ++ [(q7, .inl (eY E 0, 16, .inl (fun _ => 0))), (q15, .inl (eY E 4, 16, .inr (.inr (.inr (.inr (fun _ => none))))))]) := by have h := hD; rw [v_sk hlt] at h; exact h
  refine W.widen (k := 2) (n := 32) (by decide) (by decide) ?_
  exact W.vret hx hb hr (fun t ht _ => ⟨⟨(ws.set k (a, .inr (0, [.ref q7, .ref q15, .int 0, .int 0])) ++ [(q7, .inl (eY E 0, 16, .inl (fun _ => 0))), (q15, .inl (eY E 4, 16, .inr (.inr (.inr (.inr (fun _ => none))))))]), rfl, ⟨q7, q15, by rfl⟩, by dsimp only; rw [ht]; exact ⟨hP, hD⟩⟩, hS.F ht⟩) hS.2.2 dX0_init_31

set_option maxHeartbeats 4000000 in
set_option maxRecDepth 100000 in
theorem c_X3_init (l : Launch) (E : gEE) (ws : va_W) (k a : Nat) (hk : ws[k]? = some (a, .inr (3, [.null, .null, .null, .int 0, .int 0, .int 0, .int 0]))) : Met l yX3_init wsX3_init ({ frames := 1, cells := 3, slots := 72, locals := 12 }) (va_Pc [.ref a] (gP1 E ws)) (va_Qv (fun u : va_W => ∃ q7 q15 q23 : Nat, u = (ws.set k (a, .inr (3, [.ref q7, .ref q15, .ref q23, .int 0, .int 0, .int 0, .int 0])) ++ [(q7, .inl (eY E 0, 24, .inl (fun _ => 0))), (q15, .inl (eY E 0, 24, .inl (fun _ => 0))), (q23, .inl (eY E 0, 24, .inl (fun _ => 0)))])) (fun u t => gV E u t.heap) (eA E)) 3 72 (eA E) := by
  refine Met.ofW (cc := cX3_init) (maxL := 1) (ret := none) (by decide) rfl ?_
  intro p e s m args below meth c s₁ B hml hv
  obtain ⟨rfl, hE1, hV⟩ := hv
  have hE := hE1.1
  have hx := B.exec
  have hb := B.bytes
  have hr := B.returns
  have hts := atoms_spec (ws := wsX3_init) B.pre
  have hown : s.vm.findClass RX3 = some m.cls := findClass_of_methodNamed B.named
  have hlocks := B.notSynchronized
  have hin2 : meth.name = "<init>" := (name_of_methodNamed B.named B.method).1
  have hinX3 : ∀ w ∈ wsX30, w ∈ wsX3_init := by decide +kernel
  have hS : va_S (eA E) s.heap s.heap [] := va_S.rf
  have hlt := v_lt hk
  have hl := lv_entry ([.ref a]) (n := 1) (Nat.le_of_ble_eq_true rfl)
  rw [lg_entry_eq]
  generalize (lg_sl ([.ref a]) ++ List.replicate (1 - (lg_sl ([.ref a])).length) Slot.unset).toArray = ls at hl ⊢
  have hl : lv_has ls 1 [(0, .ref a)] := hl
  obtain ⟨H, locs, eH, el, hP, hD, hS⟩ : ∃ (H : Heap) (locs : List Loc), H = s.heap ∧ locs = [] ∧ va_P (eD E) vwCl (ws.set k (a, .inr (3, [.null, .null, .null, .int 0, .int 0, .int 0, .int 0])) ++ []) H ∧ va_D (eA E) (ws.set k (a, .inr (3, [.null, .null, .null, .int 0, .int 0, .int 0, .int 0])) ++ []) ∧ va_S (eA E) s.heap H locs := ⟨_, _, rfl, rfl, by rw [List.append_nil, v_0 hk]; exact hV.1, by rw [List.append_nil, v_0 hk]; exact hV.2, hS⟩
  rw [← eH, ← el]
  clear eH el
  refine lv_aload_n hx hb dX3_init_0 rfl (lv_at hl 0 rfl) ?_
  refine W.objInit hx hb hown (hts (.methodLink RX3 3 objectInit) (by decide +kernel)) (hts (.instanceMethod objectInit) (by decide +kernel)) (hts (.code objectInit ⟨#[0xb1]⟩ 1 none) (by decide +kernel)) rfl (by rw [hml]; exact hl.1) rfl dX3_init_1 (Nat.le_of_ble_eq_true rfl) (Nat.le_of_ble_eq_true rfl) ?_
  refine W.eq (g2 := F0 m 4 ls []) rfl ?_
  refine lv_aload_n hx hb dX3_init_4 rfl (lv_at hl 0 rfl) ?_
  refine lv_bipush (v := 24) hx hb dX3_init_5 (by decide) ?_
  refine va_newa (D := eD E) (cl := vwCl) (tys := eT E) (A := eA E) hx hb (ty := .int) (N' := 24) (a0 := (24, .inl (fun _ => 0))) (hts (.arrayClass .int) (by decide +kernel)) rfl hE.1 hP hD hS hE.2.1 (fun _ => rfl) (by decide) rfl (by decide) (Nat.le_of_ble_eq_true rfl) (Nat.le_of_ble_eq_true rfl) dX3_init_7 (fun q7 cA H hK9 hP hD hS => ?_)
  have ecA : cA = eY E 0 := v_ra (hK9.2 5 _ rfl).2 (hE.1.2 0 _ rfl).2
  subst ecA
  clear hK9
  have hP : va_P (eD E) vwCl (ws.set k (a, .inr (3, [.null, .null, .null, .int 0, .int 0, .int 0, .int 0])) ++ [(q7, .inl (eY E 0, 24, .inl (fun _ => 0)))]) H := by have h := hP; rw [List.append_assoc] at h; exact h
  have hD : va_D (eA E) (ws.set k (a, .inr (3, [.null, .null, .null, .int 0, .int 0, .int 0, .int 0])) ++ [(q7, .inl (eY E 0, 24, .inl (fun _ => 0)))]) := by have h := hD; rw [List.append_assoc] at h; exact h
  refine va_putF (D := eD E) (cl := vwCl) (tys := eT E) (A := eA E) (ci := 3) (C := RX3) (T := TX3) (N := 7) (v := .ref q7) (ty := .array .int) hx hb hts hinX3 tyX3 tyX3_ok nmX3 hown hE.1 hP hD hS k (v_gk hlt) rfl 0 (by decide) (hts (.fieldLink RX3 9 "DialGarden$Marks" "hours" "[I") (by decide +kernel)) (fun _ h9 => h9) rfl hin2 rfl (by decide +kernel) rfl rfl (Nat.le_of_ble_eq_true rfl) dX3_init_9 (fun H locs hP hD hS => ?_)
  have hP : va_P (eD E) vwCl (ws.set k (a, .inr (3, [.ref q7, .null, .null, .int 0, .int 0, .int 0, .int 0])) ++ [(q7, .inl (eY E 0, 24, .inl (fun _ => 0)))]) H := by have h := hP; rw [v_sk hlt] at h; exact h
  have hD : va_D (eA E) (ws.set k (a, .inr (3, [.ref q7, .null, .null, .int 0, .int 0, .int 0, .int 0])) ++ [(q7, .inl (eY E 0, 24, .inl (fun _ => 0)))]) := by have h := hD; rw [v_sk hlt] at h; exact h
  refine lv_aload_n hx hb dX3_init_12 rfl (lv_at hl 0 rfl) ?_
  refine lv_bipush (v := 24) hx hb dX3_init_13 (by decide) ?_
  refine va_newa (D := eD E) (cl := vwCl) (tys := eT E) (A := eA E) hx hb (ty := .int) (N' := 24) (a0 := (24, .inl (fun _ => 0))) (hts (.arrayClass .int) (by decide +kernel)) rfl hE.1 hP hD hS hE.2.1 (fun _ => rfl) (by decide) rfl (by decide) (Nat.le_of_ble_eq_true rfl) (Nat.le_of_ble_eq_true rfl) dX3_init_15 (fun q15 cA H hK9 hP hD hS => ?_)
  have ecA : cA = eY E 0 := v_ra (hK9.2 5 _ rfl).2 (hE.1.2 0 _ rfl).2
  subst ecA
  clear hK9
  have hP : va_P (eD E) vwCl (ws.set k (a, .inr (3, [.ref q7, .null, .null, .int 0, .int 0, .int 0, .int 0])) ++ [(q7, .inl (eY E 0, 24, .inl (fun _ => 0))), (q15, .inl (eY E 0, 24, .inl (fun _ => 0)))]) H := by have h := hP; rw [List.append_assoc] at h; exact h
  have hD : va_D (eA E) (ws.set k (a, .inr (3, [.ref q7, .null, .null, .int 0, .int 0, .int 0, .int 0])) ++ [(q7, .inl (eY E 0, 24, .inl (fun _ => 0))), (q15, .inl (eY E 0, 24, .inl (fun _ => 0)))]) := by have h := hD; rw [List.append_assoc] at h; exact h
  refine va_putF (D := eD E) (cl := vwCl) (tys := eT E) (A := eA E) (ci := 3) (C := RX3) (T := TX3) (N := 7) (v := .ref q15) (ty := .array .int) hx hb hts hinX3 tyX3 tyX3_ok nmX3 hown hE.1 hP hD hS k (v_gk hlt) rfl 1 (by decide) (hts (.fieldLink RX3 15 "DialGarden$Marks" "xs" "[I") (by decide +kernel)) (fun _ h9 => h9) rfl hin2 rfl (by decide +kernel) rfl rfl (Nat.le_of_ble_eq_true rfl) dX3_init_17 (fun H locs hP hD hS => ?_)
  have hP : va_P (eD E) vwCl (ws.set k (a, .inr (3, [.ref q7, .ref q15, .null, .int 0, .int 0, .int 0, .int 0])) ++ [(q7, .inl (eY E 0, 24, .inl (fun _ => 0))), (q15, .inl (eY E 0, 24, .inl (fun _ => 0)))]) H := by have h := hP; rw [v_sk hlt] at h; exact h
  have hD : va_D (eA E) (ws.set k (a, .inr (3, [.ref q7, .ref q15, .null, .int 0, .int 0, .int 0, .int 0])) ++ [(q7, .inl (eY E 0, 24, .inl (fun _ => 0))), (q15, .inl (eY E 0, 24, .inl (fun _ => 0)))]) := by have h := hD; rw [v_sk hlt] at h; exact h
  refine lv_aload_n hx hb dX3_init_20 rfl (lv_at hl 0 rfl) ?_
  refine lv_bipush (v := 24) hx hb dX3_init_21 (by decide) ?_
  refine va_newa (D := eD E) (cl := vwCl) (tys := eT E) (A := eA E) hx hb (ty := .int) (N' := 24) (a0 := (24, .inl (fun _ => 0))) (hts (.arrayClass .int) (by decide +kernel)) rfl hE.1 hP hD hS hE.2.1 (fun _ => rfl) (by decide) rfl (by decide) (Nat.le_of_ble_eq_true rfl) (Nat.le_of_ble_eq_true rfl) dX3_init_23 (fun q23 cA H hK9 hP hD hS => ?_)
  have ecA : cA = eY E 0 := v_ra (hK9.2 5 _ rfl).2 (hE.1.2 0 _ rfl).2
  subst ecA
  clear hK9
  have hP : va_P (eD E) vwCl (ws.set k (a, .inr (3, [.ref q7, .ref q15, .null, .int 0, .int 0, .int 0, .int 0])) ++ [(q7, .inl (eY E 0, 24, .inl (fun _ => 0))), (q15, .inl (eY E 0, 24, .inl (fun _ => 0))), (q23, .inl (eY E 0, 24, .inl (fun _ => 0)))]) H := by have h := hP; rw [List.append_assoc] at h; exact h
  have hD : va_D (eA E) (ws.set k (a, .inr (3, [.ref q7, .ref q15, .null, .int 0, .int 0, .int 0, .int 0])) ++ [(q7, .inl (eY E 0, 24, .inl (fun _ => 0))), (q15, .inl (eY E 0, 24, .inl (fun _ => 0))), (q23, .inl (eY E 0, 24, .inl (fun _ => 0)))]) := by have h := hD; rw [List.append_assoc] at h; exact h
  refine va_putF (D := eD E) (cl := vwCl) (tys := eT E) (A := eA E) (ci := 3) (C := RX3) (T := TX3) (N := 7) (v := .ref q23) (ty := .array .int) hx hb hts hinX3 tyX3 tyX3_ok nmX3 hown hE.1 hP hD hS k (v_gk hlt) rfl 2 (by decide) (hts (.fieldLink RX3 18 "DialGarden$Marks" "ys" "[I") (by decide +kernel)) (fun _ h9 => h9) rfl hin2 rfl (by decide +kernel) rfl rfl (Nat.le_of_ble_eq_true rfl) dX3_init_25 (fun H locs hP hD hS => ?_)
  have hP : va_P (eD E) vwCl (ws.set k (a, .inr (3, [.ref q7, .ref q15, .ref q23, .int 0, .int 0, .int 0, .int 0])) ++ [(q7, .inl (eY E 0, 24, .inl (fun _ => 0))), (q15, .inl (eY E 0, 24, .inl (fun _ => 0))), (q23, .inl (eY E 0, 24, .inl (fun _ => 0)))]) H := by have h := hP; rw [v_sk hlt] at h; exact h
  have hD : va_D (eA E) (ws.set k (a, .inr (3, [.ref q7, .ref q15, .ref q23, .int 0, .int 0, .int 0, .int 0])) ++ [(q7, .inl (eY E 0, 24, .inl (fun _ => 0))), (q15, .inl (eY E 0, 24, .inl (fun _ => 0))), (q23, .inl (eY E 0, 24, .inl (fun _ => 0)))]) := by have h := hD; rw [v_sk hlt] at h; exact h
  refine lv_aload_n hx hb dX3_init_28 rfl (lv_at hl 0 rfl) ?_
  refine lv_iconst (v := 0) hx hb dX3_init_29 (by decide) ?_
  refine va_put (D := eD E) (cl := vwCl) (tys := eT E) (A := eA E) (ci := 3) (C := RX3) (T := TX3) (N := 7) (v := .int 0) (ty := .int) hx hb hts hinX3 tyX3 tyX3_ok nmX3 hown hE.1 hP hD hS k (v_gk hlt) rfl 3 (by decide) (hts (.fieldLink RX3 21 "DialGarden$Marks" "size" "I") (by decide +kernel)) (fun _ h9 => h9) rfl (by decide +kernel) rfl rfl (Nat.le_of_ble_eq_true rfl) dX3_init_30 (fun H locs hP hD hS => ?_)
  have hP : va_P (eD E) vwCl (ws.set k (a, .inr (3, [.ref q7, .ref q15, .ref q23, .int 0, .int 0, .int 0, .int 0])) ++ [(q7, .inl (eY E 0, 24, .inl (fun _ => 0))), (q15, .inl (eY E 0, 24, .inl (fun _ => 0))), (q23, .inl (eY E 0, 24, .inl (fun _ => 0)))]) H := by have h := hP; rw [v_sk hlt] at h; exact h
  have hD : va_D (eA E) (ws.set k (a, .inr (3, [.ref q7, .ref q15, .ref q23, .int 0, .int 0, .int 0, .int 0])) ++ [(q7, .inl (eY E 0, 24, .inl (fun _ => 0))), (q15, .inl (eY E 0, 24, .inl (fun _ => 0))), (q23, .inl (eY E 0, 24, .inl (fun _ => 0)))]) := by have h := hD; rw [v_sk hlt] at h; exact h
  refine lv_aload_n hx hb dX3_init_33 rfl (lv_at hl 0 rfl) ?_
  refine lv_iconst (v := 0) hx hb dX3_init_34 (by decide) ?_
  refine va_put (D := eD E) (cl := vwCl) (tys := eT E) (A := eA E) (ci := 3) (C := RX3) (T := TX3) (N := 7) (v := .int 0) (ty := .int) hx hb hts hinX3 tyX3 tyX3_ok nmX3 hown hE.1 hP hD hS k (v_gk hlt) rfl 4 (by decide) (hts (.fieldLink RX3 25 "DialGarden$Marks" "hourBefore" "I") (by decide +kernel)) (fun _ h9 => h9) rfl (by decide +kernel) rfl rfl (Nat.le_of_ble_eq_true rfl) dX3_init_35 (fun H locs hP hD hS => ?_)
  have hP : va_P (eD E) vwCl (ws.set k (a, .inr (3, [.ref q7, .ref q15, .ref q23, .int 0, .int 0, .int 0, .int 0])) ++ [(q7, .inl (eY E 0, 24, .inl (fun _ => 0))), (q15, .inl (eY E 0, 24, .inl (fun _ => 0))), (q23, .inl (eY E 0, 24, .inl (fun _ => 0)))]) H := by have h := hP; rw [v_sk hlt] at h; exact h
  have hD : va_D (eA E) (ws.set k (a, .inr (3, [.ref q7, .ref q15, .ref q23, .int 0, .int 0, .int 0, .int 0])) ++ [(q7, .inl (eY E 0, 24, .inl (fun _ => 0))), (q15, .inl (eY E 0, 24, .inl (fun _ => 0))), (q23, .inl (eY E 0, 24, .inl (fun _ => 0)))]) := by have h := hD; rw [v_sk hlt] at h; exact h
  refine lv_aload_n hx hb dX3_init_38 rfl (lv_at hl 0 rfl) ?_
  refine lv_iconst (v := 0) hx hb dX3_init_39 (by decide) ?_
  refine va_put (D := eD E) (cl := vwCl) (tys := eT E) (A := eA E) (ci := 3) (C := RX3) (T := TX3) (N := 7) (v := .int 0) (ty := .int) hx hb hts hinX3 tyX3 tyX3_ok nmX3 hown hE.1 hP hD hS k (v_gk hlt) rfl 5 (by decide) (hts (.fieldLink RX3 28 "DialGarden$Marks" "hourBehind" "I") (by decide +kernel)) (fun _ h9 => h9) rfl (by decide +kernel) rfl rfl (Nat.le_of_ble_eq_true rfl) dX3_init_40 (fun H locs hP hD hS => ?_)
  have hP : va_P (eD E) vwCl (ws.set k (a, .inr (3, [.ref q7, .ref q15, .ref q23, .int 0, .int 0, .int 0, .int 0])) ++ [(q7, .inl (eY E 0, 24, .inl (fun _ => 0))), (q15, .inl (eY E 0, 24, .inl (fun _ => 0))), (q23, .inl (eY E 0, 24, .inl (fun _ => 0)))]) H := by have h := hP; rw [v_sk hlt] at h; exact h
  have hD : va_D (eA E) (ws.set k (a, .inr (3, [.ref q7, .ref q15, .ref q23, .int 0, .int 0, .int 0, .int 0])) ++ [(q7, .inl (eY E 0, 24, .inl (fun _ => 0))), (q15, .inl (eY E 0, 24, .inl (fun _ => 0))), (q23, .inl (eY E 0, 24, .inl (fun _ => 0)))]) := by have h := hD; rw [v_sk hlt] at h; exact h
  refine lv_aload_n hx hb dX3_init_43 rfl (lv_at hl 0 rfl) ?_
  refine lv_iconst (v := 0) hx hb dX3_init_44 (by decide) ?_
  refine va_put (D := eD E) (cl := vwCl) (tys := eT E) (A := eA E) (ci := 3) (C := RX3) (T := TX3) (N := 7) (v := .int 0) (ty := .int) hx hb hts hinX3 tyX3 tyX3_ok nmX3 hown hE.1 hP hD hS k (v_gk hlt) rfl 6 (by decide) (hts (.fieldLink RX3 31 "DialGarden$Marks" "shown" "I") (by decide +kernel)) (fun _ h9 => h9) rfl (by decide +kernel) rfl rfl (Nat.le_of_ble_eq_true rfl) dX3_init_45 (fun H locs hP hD hS => ?_)
  have hP : va_P (eD E) vwCl (ws.set k (a, .inr (3, [.ref q7, .ref q15, .ref q23, .int 0, .int 0, .int 0, .int 0])) ++ [(q7, .inl (eY E 0, 24, .inl (fun _ => 0))), (q15, .inl (eY E 0, 24, .inl (fun _ => 0))), (q23, .inl (eY E 0, 24, .inl (fun _ => 0)))]) H := by have h := hP; rw [v_sk hlt] at h; exact h
  have hD : va_D (eA E) (ws.set k (a, .inr (3, [.ref q7, .ref q15, .ref q23, .int 0, .int 0, .int 0, .int 0])) ++ [(q7, .inl (eY E 0, 24, .inl (fun _ => 0))), (q15, .inl (eY E 0, 24, .inl (fun _ => 0))), (q23, .inl (eY E 0, 24, .inl (fun _ => 0)))]) := by have h := hD; rw [v_sk hlt] at h; exact h
  refine W.widen (k := 3) (n := 72) (by decide) (by decide) ?_
  exact W.vret hx hb hr (fun t ht _ => ⟨⟨(ws.set k (a, .inr (3, [.ref q7, .ref q15, .ref q23, .int 0, .int 0, .int 0, .int 0])) ++ [(q7, .inl (eY E 0, 24, .inl (fun _ => 0))), (q15, .inl (eY E 0, 24, .inl (fun _ => 0))), (q23, .inl (eY E 0, 24, .inl (fun _ => 0)))]), rfl, ⟨q7, q15, q23, by rfl⟩, by dsimp only; rw [ht]; exact ⟨hP, hD⟩⟩, hS.F ht⟩) hS.2.2 dX3_init_48

set_option maxHeartbeats 4000000 in
set_option maxRecDepth 100000 in
theorem c_X7_init (l : Launch) (E : gEE) (ws : va_W) (k a : Nat) (hk : ws[k]? = some (a, .inr (7, [.null, .null, .null, .null, .int 0]))) : Met l yX7_init wsX7_init ({ frames := 1, cells := 4, slots := 80, locals := 12 }) (va_Pc [.ref a] (gP1 E ws)) (va_Qv (fun u : va_W => ∃ q7 q15 q23 q31 : Nat, u = (ws.set k (a, .inr (7, [.ref q7, .ref q15, .ref q23, .ref q31, .int 0])) ++ [(q7, .inl (eY E 0, 20, .inl (fun _ => 0))), (q15, .inl (eY E 0, 20, .inl (fun _ => 0))), (q23, .inl (eY E 0, 20, .inl (fun _ => 0))), (q31, .inl (eY E 0, 20, .inl (fun _ => 0)))])) (fun u t => gV E u t.heap) (eA E)) 4 80 (eA E) := by
  refine Met.ofW (cc := cX7_init) (maxL := 1) (ret := none) (by decide) rfl ?_
  intro p e s m args below meth c s₁ B hml hv
  obtain ⟨rfl, hE1, hV⟩ := hv
  have hE := hE1.1
  have hx := B.exec
  have hb := B.bytes
  have hr := B.returns
  have hts := atoms_spec (ws := wsX7_init) B.pre
  have hown : s.vm.findClass RX7 = some m.cls := findClass_of_methodNamed B.named
  have hlocks := B.notSynchronized
  have hin2 : meth.name = "<init>" := (name_of_methodNamed B.named B.method).1
  have hinX7 : ∀ w ∈ wsX70, w ∈ wsX7_init := by decide +kernel
  have hS : va_S (eA E) s.heap s.heap [] := va_S.rf
  have hlt := v_lt hk
  have hl := lv_entry ([.ref a]) (n := 1) (Nat.le_of_ble_eq_true rfl)
  rw [lg_entry_eq]
  generalize (lg_sl ([.ref a]) ++ List.replicate (1 - (lg_sl ([.ref a])).length) Slot.unset).toArray = ls at hl ⊢
  have hl : lv_has ls 1 [(0, .ref a)] := hl
  obtain ⟨H, locs, eH, el, hP, hD, hS⟩ : ∃ (H : Heap) (locs : List Loc), H = s.heap ∧ locs = [] ∧ va_P (eD E) vwCl (ws.set k (a, .inr (7, [.null, .null, .null, .null, .int 0])) ++ []) H ∧ va_D (eA E) (ws.set k (a, .inr (7, [.null, .null, .null, .null, .int 0])) ++ []) ∧ va_S (eA E) s.heap H locs := ⟨_, _, rfl, rfl, by rw [List.append_nil, v_0 hk]; exact hV.1, by rw [List.append_nil, v_0 hk]; exact hV.2, hS⟩
  rw [← eH, ← el]
  clear eH el
  refine lv_aload_n hx hb dX7_init_0 rfl (lv_at hl 0 rfl) ?_
  refine W.objInit hx hb hown (hts (.methodLink RX7 3 objectInit) (by decide +kernel)) (hts (.instanceMethod objectInit) (by decide +kernel)) (hts (.code objectInit ⟨#[0xb1]⟩ 1 none) (by decide +kernel)) rfl (by rw [hml]; exact hl.1) rfl dX7_init_1 (Nat.le_of_ble_eq_true rfl) (Nat.le_of_ble_eq_true rfl) ?_
  refine W.eq (g2 := F0 m 4 ls []) rfl ?_
  refine lv_aload_n hx hb dX7_init_4 rfl (lv_at hl 0 rfl) ?_
  refine lv_bipush (v := 20) hx hb dX7_init_5 (by decide) ?_
  refine va_newa (D := eD E) (cl := vwCl) (tys := eT E) (A := eA E) hx hb (ty := .int) (N' := 20) (a0 := (20, .inl (fun _ => 0))) (hts (.arrayClass .int) (by decide +kernel)) rfl hE.1 hP hD hS hE.2.1 (fun _ => rfl) (by decide) rfl (by decide) (Nat.le_of_ble_eq_true rfl) (Nat.le_of_ble_eq_true rfl) dX7_init_7 (fun q7 cA H hK9 hP hD hS => ?_)
  have ecA : cA = eY E 0 := v_ra (hK9.2 5 _ rfl).2 (hE.1.2 0 _ rfl).2
  subst ecA
  clear hK9
  have hP : va_P (eD E) vwCl (ws.set k (a, .inr (7, [.null, .null, .null, .null, .int 0])) ++ [(q7, .inl (eY E 0, 20, .inl (fun _ => 0)))]) H := by have h := hP; rw [List.append_assoc] at h; exact h
  have hD : va_D (eA E) (ws.set k (a, .inr (7, [.null, .null, .null, .null, .int 0])) ++ [(q7, .inl (eY E 0, 20, .inl (fun _ => 0)))]) := by have h := hD; rw [List.append_assoc] at h; exact h
  refine va_putF (D := eD E) (cl := vwCl) (tys := eT E) (A := eA E) (ci := 7) (C := RX7) (T := TX7) (N := 5) (v := .ref q7) (ty := .array .int) hx hb hts hinX7 tyX7 tyX7_ok nmX7 hown hE.1 hP hD hS k (v_gk hlt) rfl 0 (by decide) (hts (.fieldLink RX7 9 "DialGarden$Sights" "days" "[I") (by decide +kernel)) (fun _ h9 => h9) rfl hin2 rfl (by decide +kernel) rfl rfl (Nat.le_of_ble_eq_true rfl) dX7_init_9 (fun H locs hP hD hS => ?_)
  have hP : va_P (eD E) vwCl (ws.set k (a, .inr (7, [.ref q7, .null, .null, .null, .int 0])) ++ [(q7, .inl (eY E 0, 20, .inl (fun _ => 0)))]) H := by have h := hP; rw [v_sk hlt] at h; exact h
  have hD : va_D (eA E) (ws.set k (a, .inr (7, [.ref q7, .null, .null, .null, .int 0])) ++ [(q7, .inl (eY E 0, 20, .inl (fun _ => 0)))]) := by have h := hD; rw [v_sk hlt] at h; exact h
  refine lv_aload_n hx hb dX7_init_12 rfl (lv_at hl 0 rfl) ?_
  refine lv_bipush (v := 20) hx hb dX7_init_13 (by decide) ?_
  refine va_newa (D := eD E) (cl := vwCl) (tys := eT E) (A := eA E) hx hb (ty := .int) (N' := 20) (a0 := (20, .inl (fun _ => 0))) (hts (.arrayClass .int) (by decide +kernel)) rfl hE.1 hP hD hS hE.2.1 (fun _ => rfl) (by decide) rfl (by decide) (Nat.le_of_ble_eq_true rfl) (Nat.le_of_ble_eq_true rfl) dX7_init_15 (fun q15 cA H hK9 hP hD hS => ?_)
  have ecA : cA = eY E 0 := v_ra (hK9.2 5 _ rfl).2 (hE.1.2 0 _ rfl).2
  subst ecA
  clear hK9
  have hP : va_P (eD E) vwCl (ws.set k (a, .inr (7, [.ref q7, .null, .null, .null, .int 0])) ++ [(q7, .inl (eY E 0, 20, .inl (fun _ => 0))), (q15, .inl (eY E 0, 20, .inl (fun _ => 0)))]) H := by have h := hP; rw [List.append_assoc] at h; exact h
  have hD : va_D (eA E) (ws.set k (a, .inr (7, [.ref q7, .null, .null, .null, .int 0])) ++ [(q7, .inl (eY E 0, 20, .inl (fun _ => 0))), (q15, .inl (eY E 0, 20, .inl (fun _ => 0)))]) := by have h := hD; rw [List.append_assoc] at h; exact h
  refine va_putF (D := eD E) (cl := vwCl) (tys := eT E) (A := eA E) (ci := 7) (C := RX7) (T := TX7) (N := 5) (v := .ref q15) (ty := .array .int) hx hb hts hinX7 tyX7 tyX7_ok nmX7 hown hE.1 hP hD hS k (v_gk hlt) rfl 1 (by decide) (hts (.fieldLink RX7 15 "DialGarden$Sights" "minutes" "[I") (by decide +kernel)) (fun _ h9 => h9) rfl hin2 rfl (by decide +kernel) rfl rfl (Nat.le_of_ble_eq_true rfl) dX7_init_17 (fun H locs hP hD hS => ?_)
  have hP : va_P (eD E) vwCl (ws.set k (a, .inr (7, [.ref q7, .ref q15, .null, .null, .int 0])) ++ [(q7, .inl (eY E 0, 20, .inl (fun _ => 0))), (q15, .inl (eY E 0, 20, .inl (fun _ => 0)))]) H := by have h := hP; rw [v_sk hlt] at h; exact h
  have hD : va_D (eA E) (ws.set k (a, .inr (7, [.ref q7, .ref q15, .null, .null, .int 0])) ++ [(q7, .inl (eY E 0, 20, .inl (fun _ => 0))), (q15, .inl (eY E 0, 20, .inl (fun _ => 0)))]) := by have h := hD; rw [v_sk hlt] at h; exact h
  refine lv_aload_n hx hb dX7_init_20 rfl (lv_at hl 0 rfl) ?_
  refine lv_bipush (v := 20) hx hb dX7_init_21 (by decide) ?_
  refine va_newa (D := eD E) (cl := vwCl) (tys := eT E) (A := eA E) hx hb (ty := .int) (N' := 20) (a0 := (20, .inl (fun _ => 0))) (hts (.arrayClass .int) (by decide +kernel)) rfl hE.1 hP hD hS hE.2.1 (fun _ => rfl) (by decide) rfl (by decide) (Nat.le_of_ble_eq_true rfl) (Nat.le_of_ble_eq_true rfl) dX7_init_23 (fun q23 cA H hK9 hP hD hS => ?_)
  have ecA : cA = eY E 0 := v_ra (hK9.2 5 _ rfl).2 (hE.1.2 0 _ rfl).2
  subst ecA
  clear hK9
  have hP : va_P (eD E) vwCl (ws.set k (a, .inr (7, [.ref q7, .ref q15, .null, .null, .int 0])) ++ [(q7, .inl (eY E 0, 20, .inl (fun _ => 0))), (q15, .inl (eY E 0, 20, .inl (fun _ => 0))), (q23, .inl (eY E 0, 20, .inl (fun _ => 0)))]) H := by have h := hP; rw [List.append_assoc] at h; exact h
  have hD : va_D (eA E) (ws.set k (a, .inr (7, [.ref q7, .ref q15, .null, .null, .int 0])) ++ [(q7, .inl (eY E 0, 20, .inl (fun _ => 0))), (q15, .inl (eY E 0, 20, .inl (fun _ => 0))), (q23, .inl (eY E 0, 20, .inl (fun _ => 0)))]) := by have h := hD; rw [List.append_assoc] at h; exact h
  refine va_putF (D := eD E) (cl := vwCl) (tys := eT E) (A := eA E) (ci := 7) (C := RX7) (T := TX7) (N := 5) (v := .ref q23) (ty := .array .int) hx hb hts hinX7 tyX7 tyX7_ok nmX7 hown hE.1 hP hD hS k (v_gk hlt) rfl 2 (by decide) (hts (.fieldLink RX7 18 "DialGarden$Sights" "xs" "[I") (by decide +kernel)) (fun _ h9 => h9) rfl hin2 rfl (by decide +kernel) rfl rfl (Nat.le_of_ble_eq_true rfl) dX7_init_25 (fun H locs hP hD hS => ?_)
  have hP : va_P (eD E) vwCl (ws.set k (a, .inr (7, [.ref q7, .ref q15, .ref q23, .null, .int 0])) ++ [(q7, .inl (eY E 0, 20, .inl (fun _ => 0))), (q15, .inl (eY E 0, 20, .inl (fun _ => 0))), (q23, .inl (eY E 0, 20, .inl (fun _ => 0)))]) H := by have h := hP; rw [v_sk hlt] at h; exact h
  have hD : va_D (eA E) (ws.set k (a, .inr (7, [.ref q7, .ref q15, .ref q23, .null, .int 0])) ++ [(q7, .inl (eY E 0, 20, .inl (fun _ => 0))), (q15, .inl (eY E 0, 20, .inl (fun _ => 0))), (q23, .inl (eY E 0, 20, .inl (fun _ => 0)))]) := by have h := hD; rw [v_sk hlt] at h; exact h
  refine lv_aload_n hx hb dX7_init_28 rfl (lv_at hl 0 rfl) ?_
  refine lv_bipush (v := 20) hx hb dX7_init_29 (by decide) ?_
  refine va_newa (D := eD E) (cl := vwCl) (tys := eT E) (A := eA E) hx hb (ty := .int) (N' := 20) (a0 := (20, .inl (fun _ => 0))) (hts (.arrayClass .int) (by decide +kernel)) rfl hE.1 hP hD hS hE.2.1 (fun _ => rfl) (by decide) rfl (by decide) (Nat.le_of_ble_eq_true rfl) (Nat.le_of_ble_eq_true rfl) dX7_init_31 (fun q31 cA H hK9 hP hD hS => ?_)
  have ecA : cA = eY E 0 := v_ra (hK9.2 5 _ rfl).2 (hE.1.2 0 _ rfl).2
  subst ecA
  clear hK9
  have hP : va_P (eD E) vwCl (ws.set k (a, .inr (7, [.ref q7, .ref q15, .ref q23, .null, .int 0])) ++ [(q7, .inl (eY E 0, 20, .inl (fun _ => 0))), (q15, .inl (eY E 0, 20, .inl (fun _ => 0))), (q23, .inl (eY E 0, 20, .inl (fun _ => 0))), (q31, .inl (eY E 0, 20, .inl (fun _ => 0)))]) H := by have h := hP; rw [List.append_assoc] at h; exact h
  have hD : va_D (eA E) (ws.set k (a, .inr (7, [.ref q7, .ref q15, .ref q23, .null, .int 0])) ++ [(q7, .inl (eY E 0, 20, .inl (fun _ => 0))), (q15, .inl (eY E 0, 20, .inl (fun _ => 0))), (q23, .inl (eY E 0, 20, .inl (fun _ => 0))), (q31, .inl (eY E 0, 20, .inl (fun _ => 0)))]) := by have h := hD; rw [List.append_assoc] at h; exact h
  refine va_putF (D := eD E) (cl := vwCl) (tys := eT E) (A := eA E) (ci := 7) (C := RX7) (T := TX7) (N := 5) (v := .ref q31) (ty := .array .int) hx hb hts hinX7 tyX7 tyX7_ok nmX7 hown hE.1 hP hD hS k (v_gk hlt) rfl 3 (by decide) (hts (.fieldLink RX7 21 "DialGarden$Sights" "ys" "[I") (by decide +kernel)) (fun _ h9 => h9) rfl hin2 rfl (by decide +kernel) rfl rfl (Nat.le_of_ble_eq_true rfl) dX7_init_33 (fun H locs hP hD hS => ?_)
  have hP : va_P (eD E) vwCl (ws.set k (a, .inr (7, [.ref q7, .ref q15, .ref q23, .ref q31, .int 0])) ++ [(q7, .inl (eY E 0, 20, .inl (fun _ => 0))), (q15, .inl (eY E 0, 20, .inl (fun _ => 0))), (q23, .inl (eY E 0, 20, .inl (fun _ => 0))), (q31, .inl (eY E 0, 20, .inl (fun _ => 0)))]) H := by have h := hP; rw [v_sk hlt] at h; exact h
  have hD : va_D (eA E) (ws.set k (a, .inr (7, [.ref q7, .ref q15, .ref q23, .ref q31, .int 0])) ++ [(q7, .inl (eY E 0, 20, .inl (fun _ => 0))), (q15, .inl (eY E 0, 20, .inl (fun _ => 0))), (q23, .inl (eY E 0, 20, .inl (fun _ => 0))), (q31, .inl (eY E 0, 20, .inl (fun _ => 0)))]) := by have h := hD; rw [v_sk hlt] at h; exact h
  refine lv_aload_n hx hb dX7_init_36 rfl (lv_at hl 0 rfl) ?_
  refine lv_iconst (v := 0) hx hb dX7_init_37 (by decide) ?_
  refine va_put (D := eD E) (cl := vwCl) (tys := eT E) (A := eA E) (ci := 7) (C := RX7) (T := TX7) (N := 5) (v := .int 0) (ty := .int) hx hb hts hinX7 tyX7 tyX7_ok nmX7 hown hE.1 hP hD hS k (v_gk hlt) rfl 4 (by decide) (hts (.fieldLink RX7 24 "DialGarden$Sights" "size" "I") (by decide +kernel)) (fun _ h9 => h9) rfl (by decide +kernel) rfl rfl (Nat.le_of_ble_eq_true rfl) dX7_init_38 (fun H locs hP hD hS => ?_)
  have hP : va_P (eD E) vwCl (ws.set k (a, .inr (7, [.ref q7, .ref q15, .ref q23, .ref q31, .int 0])) ++ [(q7, .inl (eY E 0, 20, .inl (fun _ => 0))), (q15, .inl (eY E 0, 20, .inl (fun _ => 0))), (q23, .inl (eY E 0, 20, .inl (fun _ => 0))), (q31, .inl (eY E 0, 20, .inl (fun _ => 0)))]) H := by have h := hP; rw [v_sk hlt] at h; exact h
  have hD : va_D (eA E) (ws.set k (a, .inr (7, [.ref q7, .ref q15, .ref q23, .ref q31, .int 0])) ++ [(q7, .inl (eY E 0, 20, .inl (fun _ => 0))), (q15, .inl (eY E 0, 20, .inl (fun _ => 0))), (q23, .inl (eY E 0, 20, .inl (fun _ => 0))), (q31, .inl (eY E 0, 20, .inl (fun _ => 0)))]) := by have h := hD; rw [v_sk hlt] at h; exact h
  refine W.widen (k := 4) (n := 80) (by decide) (by decide) ?_
  exact W.vret hx hb hr (fun t ht _ => ⟨⟨(ws.set k (a, .inr (7, [.ref q7, .ref q15, .ref q23, .ref q31, .int 0])) ++ [(q7, .inl (eY E 0, 20, .inl (fun _ => 0))), (q15, .inl (eY E 0, 20, .inl (fun _ => 0))), (q23, .inl (eY E 0, 20, .inl (fun _ => 0))), (q31, .inl (eY E 0, 20, .inl (fun _ => 0)))]), rfl, ⟨q7, q15, q23, q31, by rfl⟩, by dsimp only; rw [ht]; exact ⟨hP, hD⟩⟩, hS.F ht⟩) hS.2.2 dX7_init_41

set_option maxHeartbeats 4000000 in
set_option maxRecDepth 100000 in
theorem c2_X8_setLatitude (l : Launch) (E : gEE) (ws : va_W) (k a : Nat) (p1 : Int32) (r0 : Nat) (hk : ws[k]? = some (a, .inr (8, [.ref r0, .int 0, .int 0, .int 0, .int 0, .int 0, .int 0, .int 0, .int 0, .int 0, .int 0, .int 0, .int 0, .int 0, .int 0, .int 0]))) : Met l yX8_setLatitude wsX8_setLatitude ({ frames := 2, cells := 0, slots := 0, locals := 44 }) (va_Pc [.ref a, .int p1] (gP1 E ws)) (va_Qv (fun u : va_W => u = (ws.set k (a, .inr (8, [.ref r0, .int 0, .int p1, .int (q_X10_sineOf p1), .int (q_X10_cosineOf p1), .int 0, .int 0, .int 0, .int 0, .int 0, .int 0, .int 0, .int 0, .int 0, .int 0, .int 0])) ++ [])) (fun u t => gV E u t.heap) (eA E)) 0 0 (eA E) := by
  refine Met.ofW (cc := cX8_setLatitude) (maxL := 2) (ret := none) (by decide) rfl ?_
  intro p e s m args below meth c s₁ B hml hv
  obtain ⟨rfl, hE1, hV⟩ := hv
  have hE := hE1.1
  have hx := B.exec
  have hb := B.bytes
  have hr := B.returns
  have hts := atoms_spec (ws := wsX8_setLatitude) B.pre
  have hown : s.vm.findClass RX8 = some m.cls := findClass_of_methodNamed B.named
  have hlocks := B.notSynchronized
  have hinX8 : ∀ w ∈ wsX80, w ∈ wsX8_setLatitude := by decide +kernel
  have hS : va_S (eA E) s.heap s.heap [] := va_S.rf
  have hlt := v_lt hk
  have hl := lv_entry ([.ref a, .int p1]) (n := 2) (Nat.le_of_ble_eq_true rfl)
  rw [lg_entry_eq]
  generalize (lg_sl ([.ref a, .int p1]) ++ List.replicate (2 - (lg_sl ([.ref a, .int p1])).length) Slot.unset).toArray = ls at hl ⊢
  have hl : lv_has ls 2 [(0, .ref a), (1, .int p1)] := hl
  obtain ⟨H, locs, eH, el, hP, hD, hS⟩ : ∃ (H : Heap) (locs : List Loc), H = s.heap ∧ locs = [] ∧ va_P (eD E) vwCl (ws.set k (a, .inr (8, [.ref r0, .int 0, .int 0, .int 0, .int 0, .int 0, .int 0, .int 0, .int 0, .int 0, .int 0, .int 0, .int 0, .int 0, .int 0, .int 0])) ++ []) H ∧ va_D (eA E) (ws.set k (a, .inr (8, [.ref r0, .int 0, .int 0, .int 0, .int 0, .int 0, .int 0, .int 0, .int 0, .int 0, .int 0, .int 0, .int 0, .int 0, .int 0, .int 0])) ++ []) ∧ va_S (eA E) s.heap H locs := ⟨_, _, rfl, rfl, by rw [List.append_nil, v_0 hk]; exact hV.1, by rw [List.append_nil, v_0 hk]; exact hV.2, hS⟩
  rw [← eH, ← el]
  clear eH el
  refine lv_aload_n hx hb dX8_setLatitude_0 rfl (lv_at hl 0 rfl) ?_
  refine lv_iload_n hx hb dX8_setLatitude_1 rfl (lv_at hl 1 rfl) ?_
  refine va_put (D := eD E) (cl := vwCl) (tys := eT E) (A := eA E) (ci := 8) (C := RX8) (T := TX8) (N := 16) (v := .int p1) (ty := .int) hx hb hts hinX8 tyX8 tyX8_ok nmX8 hown hE.1 hP hD hS k (v_gk hlt) rfl 2 (by decide) (hts (.fieldLink RX8 23 "DialGarden$Sky" "latitude" "I") (by decide +kernel)) (fun _ h9 => h9) rfl (by decide +kernel) rfl rfl (Nat.le_of_ble_eq_true rfl) dX8_setLatitude_2 (fun H locs hP hD hS => ?_)
  have hP : va_P (eD E) vwCl (ws.set k (a, .inr (8, [.ref r0, .int 0, .int p1, .int 0, .int 0, .int 0, .int 0, .int 0, .int 0, .int 0, .int 0, .int 0, .int 0, .int 0, .int 0, .int 0])) ++ []) H := by have h := hP; rw [v_sk hlt] at h; exact h
  have hD : va_D (eA E) (ws.set k (a, .inr (8, [.ref r0, .int 0, .int p1, .int 0, .int 0, .int 0, .int 0, .int 0, .int 0, .int 0, .int 0, .int 0, .int 0, .int 0, .int 0, .int 0])) ++ []) := by have h := hD; rw [v_sk hlt] at h; exact h
  refine lv_aload_n hx hb dX8_setLatitude_5 rfl (lv_at hl 0 rfl) ?_
  refine lv_iload_n hx hb dX8_setLatitude_6 rfl (lv_at hl 1 rfl) ?_
  refine k_Si (va_runSN (As := [.int p1]) (rest := [.ref a]) ⟨hx, hb, hml, hown, hts⟩ (c_X10_sineOf l p1) ⟨va_cnB 1 hts gX8_setLatitude_X10_sineOf_n26 rfl rfl rfl (hE.2.2.1 (.methodLinkNest "DialGarden$Sky" 26 ⟨"DialGarden", "sineOf", "(I)I"⟩ "DialGarden") (by decide +kernel)) (hts (.initialized RX10) (by decide +kernel)) (by decide +kernel) ⟨Nat.le_of_ble_eq_true rfl, Nat.le_of_ble_eq_true rfl⟩, hts (.static yX10_sineOf) (by decide +kernel), trivial⟩ gP0 rfl rfl hl.1 rfl (lv_room (Nat.le_of_ble_eq_true rfl)) dX8_setLatitude_7 ⟨Nat.le_of_ble_eq_true rfl, Nat.le_of_ble_eq_true rfl⟩) (fun r7 er7 => ?_)
  refine va_put (D := eD E) (cl := vwCl) (tys := eT E) (A := eA E) (ci := 8) (C := RX8) (T := TX8) (N := 16) (v := .int r7) (ty := .int) hx hb hts hinX8 tyX8 tyX8_ok nmX8 hown hE.1 hP hD hS k (v_gk hlt) rfl 3 (by decide) (hts (.fieldLink RX8 30 "DialGarden$Sky" "latitudeSine" "I") (by decide +kernel)) (fun _ h9 => h9) rfl (by decide +kernel) rfl rfl (Nat.le_of_ble_eq_true rfl) dX8_setLatitude_10 (fun H locs hP hD hS => ?_)
  have hP : va_P (eD E) vwCl (ws.set k (a, .inr (8, [.ref r0, .int 0, .int p1, .int r7, .int 0, .int 0, .int 0, .int 0, .int 0, .int 0, .int 0, .int 0, .int 0, .int 0, .int 0, .int 0])) ++ []) H := by have h := hP; rw [v_sk hlt] at h; exact h
  have hD : va_D (eA E) (ws.set k (a, .inr (8, [.ref r0, .int 0, .int p1, .int r7, .int 0, .int 0, .int 0, .int 0, .int 0, .int 0, .int 0, .int 0, .int 0, .int 0, .int 0, .int 0])) ++ []) := by have h := hD; rw [v_sk hlt] at h; exact h
  refine lv_aload_n hx hb dX8_setLatitude_13 rfl (lv_at hl 0 rfl) ?_
  refine lv_iload_n hx hb dX8_setLatitude_14 rfl (lv_at hl 1 rfl) ?_
  refine k_Si (va_runSN (As := [.int p1]) (rest := [.ref a]) ⟨hx, hb, hml, hown, hts⟩ (c_X10_cosineOf l p1) ⟨va_cnB 1 hts gX8_setLatitude_X10_cosineOf_n33 rfl rfl rfl (hE.2.2.1 (.methodLinkNest "DialGarden$Sky" 33 ⟨"DialGarden", "cosineOf", "(I)I"⟩ "DialGarden") (by decide +kernel)) (hts (.initialized RX10) (by decide +kernel)) (by decide +kernel) ⟨Nat.le_of_ble_eq_true rfl, Nat.le_of_ble_eq_true rfl⟩, hts (.static yX10_cosineOf) (by decide +kernel), trivial⟩ gP0 rfl rfl hl.1 rfl (lv_room (Nat.le_of_ble_eq_true rfl)) dX8_setLatitude_15 ⟨Nat.le_of_ble_eq_true rfl, Nat.le_of_ble_eq_true rfl⟩) (fun r15 er15 => ?_)
  refine va_put (D := eD E) (cl := vwCl) (tys := eT E) (A := eA E) (ci := 8) (C := RX8) (T := TX8) (N := 16) (v := .int r15) (ty := .int) hx hb hts hinX8 tyX8 tyX8_ok nmX8 hown hE.1 hP hD hS k (v_gk hlt) rfl 4 (by decide) (hts (.fieldLink RX8 36 "DialGarden$Sky" "latitudeCosine" "I") (by decide +kernel)) (fun _ h9 => h9) rfl (by decide +kernel) rfl rfl (Nat.le_of_ble_eq_true rfl) dX8_setLatitude_18 (fun H locs hP hD hS => ?_)
  have hP : va_P (eD E) vwCl (ws.set k (a, .inr (8, [.ref r0, .int 0, .int p1, .int r7, .int r15, .int 0, .int 0, .int 0, .int 0, .int 0, .int 0, .int 0, .int 0, .int 0, .int 0, .int 0])) ++ []) H := by have h := hP; rw [v_sk hlt] at h; exact h
  have hD : va_D (eA E) (ws.set k (a, .inr (8, [.ref r0, .int 0, .int p1, .int r7, .int r15, .int 0, .int 0, .int 0, .int 0, .int 0, .int 0, .int 0, .int 0, .int 0, .int 0, .int 0])) ++ []) := by have h := hD; rw [v_sk hlt] at h; exact h
  refine W.widen (k := 0) (n := 0) (by decide) (by decide) ?_
  exact W.vret hx hb hr (fun t ht _ => ⟨⟨(ws.set k (a, .inr (8, [.ref r0, .int 0, .int p1, .int r7, .int r15, .int 0, .int 0, .int 0, .int 0, .int 0, .int 0, .int 0, .int 0, .int 0, .int 0, .int 0])) ++ []), rfl, by subst er15; subst er7; rfl, by dsimp only; rw [ht]; exact ⟨hP, hD⟩⟩, hS.F ht⟩) hS.2.2 dX8_setLatitude_21

set_option maxHeartbeats 4000000 in
set_option maxRecDepth 100000 in
theorem c_X8_init (l : Launch) (E : gEE) (ws : va_W) (k a : Nat) (hk : ws[k]? = some (a, .inr (8, [.null, .int 0, .int 0, .int 0, .int 0, .int 0, .int 0, .int 0, .int 0, .int 0, .int 0, .int 0, .int 0, .int 0, .int 0, .int 0]))) : Met l yX8_init wsX8_init ({ frames := 3, cells := 1, slots := 366, locals := 65 }) (va_Pc [.ref a] (gP1 E ws)) (va_Qv (fun u : va_W => ∃ q8 : Nat, u = (ws.set k (a, .inr (8, [.ref q8, .int 0, .int 8192, .int (q_X10_sineOf 8192), .int (q_X10_cosineOf 8192), .int 0, .int 0, .int 0, .int 0, .int 0, .int 0, .int 0, .int 0, .int 0, .int 0, .int 0])) ++ [(q8, .inl (eY E 0, 366, .inl (fun _ => 0)))])) (fun u t => gV E u t.heap) (eA E)) 1 366 (eA E) := by
  refine Met.ofW (cc := cX8_init) (maxL := 1) (ret := none) (by decide) rfl ?_
  intro p e s m args below meth c s₁ B hml hv
  obtain ⟨rfl, hE1, hV⟩ := hv
  have hE := hE1.1
  have hx := B.exec
  have hb := B.bytes
  have hr := B.returns
  have hts := atoms_spec (ws := wsX8_init) B.pre
  have hown : s.vm.findClass RX8 = some m.cls := findClass_of_methodNamed B.named
  have hlocks := B.notSynchronized
  have hin2 : meth.name = "<init>" := (name_of_methodNamed B.named B.method).1
  have hinX8 : ∀ w ∈ wsX80, w ∈ wsX8_init := by decide +kernel
  have hS : va_S (eA E) s.heap s.heap [] := va_S.rf
  have hlt := v_lt hk
  have hl := lv_entry ([.ref a]) (n := 1) (Nat.le_of_ble_eq_true rfl)
  rw [lg_entry_eq]
  generalize (lg_sl ([.ref a]) ++ List.replicate (1 - (lg_sl ([.ref a])).length) Slot.unset).toArray = ls at hl ⊢
  have hl : lv_has ls 1 [(0, .ref a)] := hl
  obtain ⟨H, locs, eH, el, hP, hD, hS⟩ : ∃ (H : Heap) (locs : List Loc), H = s.heap ∧ locs = [] ∧ va_P (eD E) vwCl (ws.set k (a, .inr (8, [.null, .int 0, .int 0, .int 0, .int 0, .int 0, .int 0, .int 0, .int 0, .int 0, .int 0, .int 0, .int 0, .int 0, .int 0, .int 0])) ++ []) H ∧ va_D (eA E) (ws.set k (a, .inr (8, [.null, .int 0, .int 0, .int 0, .int 0, .int 0, .int 0, .int 0, .int 0, .int 0, .int 0, .int 0, .int 0, .int 0, .int 0, .int 0])) ++ []) ∧ va_S (eA E) s.heap H locs := ⟨_, _, rfl, rfl, by rw [List.append_nil, v_0 hk]; exact hV.1, by rw [List.append_nil, v_0 hk]; exact hV.2, hS⟩
  rw [← eH, ← el]
  clear eH el
  refine lv_aload_n hx hb dX8_init_0 rfl (lv_at hl 0 rfl) ?_
  refine W.objInit hx hb hown (hts (.methodLink RX8 3 objectInit) (by decide +kernel)) (hts (.instanceMethod objectInit) (by decide +kernel)) (hts (.code objectInit ⟨#[0xb1]⟩ 1 none) (by decide +kernel)) rfl (by rw [hml]; exact hl.1) rfl dX8_init_1 (Nat.le_of_ble_eq_true rfl) (Nat.le_of_ble_eq_true rfl) ?_
  refine W.eq (g2 := F0 m 4 ls []) rfl ?_
  refine lv_aload_n hx hb dX8_init_4 rfl (lv_at hl 0 rfl) ?_
  refine lv_sipush (v := 366) hx hb dX8_init_5 (by decide) ?_
  refine va_newa (D := eD E) (cl := vwCl) (tys := eT E) (A := eA E) hx hb (ty := .int) (N' := 366) (a0 := (366, .inl (fun _ => 0))) (hts (.arrayClass .int) (by decide +kernel)) rfl hE.1 hP hD hS hE.2.1 (fun _ => rfl) (by decide) rfl (by decide) (Nat.le_of_ble_eq_true rfl) (Nat.le_of_ble_eq_true rfl) dX8_init_8 (fun q8 cA H hK9 hP hD hS => ?_)
  have ecA : cA = eY E 0 := v_ra (hK9.2 5 _ rfl).2 (hE.1.2 0 _ rfl).2
  subst ecA
  clear hK9
  have hP : va_P (eD E) vwCl (ws.set k (a, .inr (8, [.null, .int 0, .int 0, .int 0, .int 0, .int 0, .int 0, .int 0, .int 0, .int 0, .int 0, .int 0, .int 0, .int 0, .int 0, .int 0])) ++ [(q8, .inl (eY E 0, 366, .inl (fun _ => 0)))]) H := by have h := hP; rw [List.append_assoc] at h; exact h
  have hD : va_D (eA E) (ws.set k (a, .inr (8, [.null, .int 0, .int 0, .int 0, .int 0, .int 0, .int 0, .int 0, .int 0, .int 0, .int 0, .int 0, .int 0, .int 0, .int 0, .int 0])) ++ [(q8, .inl (eY E 0, 366, .inl (fun _ => 0)))]) := by have h := hD; rw [List.append_assoc] at h; exact h
  refine va_putF (D := eD E) (cl := vwCl) (tys := eT E) (A := eA E) (ci := 8) (C := RX8) (T := TX8) (N := 16) (v := .ref q8) (ty := .array .int) hx hb hts hinX8 tyX8 tyX8_ok nmX8 hown hE.1 hP hD hS k (v_gk hlt) rfl 0 (by decide) (hts (.fieldLink RX8 9 "DialGarden$Sky" "corrections" "[I") (by decide +kernel)) (fun _ h9 => h9) rfl hin2 rfl (by decide +kernel) rfl rfl (Nat.le_of_ble_eq_true rfl) dX8_init_10 (fun H locs hP hD hS => ?_)
  have hP : va_P (eD E) vwCl (ws.set k (a, .inr (8, [.ref q8, .int 0, .int 0, .int 0, .int 0, .int 0, .int 0, .int 0, .int 0, .int 0, .int 0, .int 0, .int 0, .int 0, .int 0, .int 0])) ++ [(q8, .inl (eY E 0, 366, .inl (fun _ => 0)))]) H := by have h := hP; rw [v_sk hlt] at h; exact h
  have hD : va_D (eA E) (ws.set k (a, .inr (8, [.ref q8, .int 0, .int 0, .int 0, .int 0, .int 0, .int 0, .int 0, .int 0, .int 0, .int 0, .int 0, .int 0, .int 0, .int 0, .int 0])) ++ [(q8, .inl (eY E 0, 366, .inl (fun _ => 0)))]) := by have h := hD; rw [v_sk hlt] at h; exact h
  refine lv_aload_n hx hb dX8_init_13 rfl (lv_at hl 0 rfl) ?_
  refine lv_iconst (v := 0) hx hb dX8_init_14 (by decide) ?_
  refine va_put (D := eD E) (cl := vwCl) (tys := eT E) (A := eA E) (ci := 8) (C := RX8) (T := TX8) (N := 16) (v := .int 0) (ty := .int) hx hb hts hinX8 tyX8 tyX8_ok nmX8 hown hE.1 hP hD hS k (v_gk hlt) rfl 1 (by decide) (hts (.fieldLink RX8 15 "DialGarden$Sky" "known" "I") (by decide +kernel)) (fun _ h9 => h9) rfl (by decide +kernel) rfl rfl (Nat.le_of_ble_eq_true rfl) dX8_init_15 (fun H locs hP hD hS => ?_)
  have hP : va_P (eD E) vwCl (ws.set k (a, .inr (8, [.ref q8, .int 0, .int 0, .int 0, .int 0, .int 0, .int 0, .int 0, .int 0, .int 0, .int 0, .int 0, .int 0, .int 0, .int 0, .int 0])) ++ [(q8, .inl (eY E 0, 366, .inl (fun _ => 0)))]) H := by have h := hP; rw [v_sk hlt] at h; exact h
  have hD : va_D (eA E) (ws.set k (a, .inr (8, [.ref q8, .int 0, .int 0, .int 0, .int 0, .int 0, .int 0, .int 0, .int 0, .int 0, .int 0, .int 0, .int 0, .int 0, .int 0, .int 0])) ++ [(q8, .inl (eY E 0, 366, .inl (fun _ => 0)))]) := by have h := hD; rw [v_sk hlt] at h; exact h
  refine lv_aload_n hx hb dX8_init_18 rfl (lv_at hl 0 rfl) ?_
  refine lv_sipush (v := 8192) hx hb dX8_init_19 (by decide) ?_
  refine va_callv (va_runV (As := [.int 8192]) (rest := []) ⟨hx, hb, hml, hown, hts⟩ (c2_X8_setLatitude l E (ws.set k (a, .inr (8, [.ref q8, .int 0, .int 0, .int 0, .int 0, .int 0, .int 0, .int 0, .int 0, .int 0, .int 0, .int 0, .int 0, .int 0, .int 0, .int 0])) ++ [(q8, .inl (eY E 0, 366, .inl (fun _ => 0)))]) k a 8192 q8 (v_gk hlt)) (cwV 1 hts gX8_init_X8_setLatitude rfl rfl rfl (by decide +kernel) ⟨Nat.le_of_ble_eq_true rfl, Nat.le_of_ble_eq_true rfl⟩) (gP1.V (ci := 8) (q := (RX8, TX8, 16)) hE1 hS ⟨hP, hD⟩ rfl (v_gk hlt)) rfl rfl hl.1 rfl (lv_room (Nat.le_of_ble_eq_true rfl)) dX8_init_22 ⟨Nat.le_of_ble_eq_true rfl, Nat.le_of_ble_eq_true rfl⟩) hS (fun _ _ h => h) (fun _ h => h) (fun u t H locs ht hvm hw hB hz1 hk1 hS => ?_)
  obtain eu := hw
  subst eu
  rw [ht] at hB
  have hP : va_P (eD E) vwCl (ws.set k (a, .inr (8, [.ref q8, .int 0, .int 8192, .int (q_X10_sineOf 8192), .int (q_X10_cosineOf 8192), .int 0, .int 0, .int 0, .int 0, .int 0, .int 0, .int 0, .int 0, .int 0, .int 0, .int 0])) ++ [(q8, .inl (eY E 0, 366, .inl (fun _ => 0)))]) H := by have h := hB.1; rw [v_sk hlt, List.append_assoc] at h; exact h
  have hD : va_D (eA E) (ws.set k (a, .inr (8, [.ref q8, .int 0, .int 8192, .int (q_X10_sineOf 8192), .int (q_X10_cosineOf 8192), .int 0, .int 0, .int 0, .int 0, .int 0, .int 0, .int 0, .int 0, .int 0, .int 0, .int 0])) ++ [(q8, .inl (eY E 0, 366, .inl (fun _ => 0)))]) := by have h := hB.2; rw [v_sk hlt, List.append_assoc] at h; exact h
  refine W.widen (k := 1) (n := 366) (by decide) (by decide) ?_
  exact W.vret hx hb hr (fun t ht _ => ⟨⟨(ws.set k (a, .inr (8, [.ref q8, .int 0, .int 8192, .int (q_X10_sineOf 8192), .int (q_X10_cosineOf 8192), .int 0, .int 0, .int 0, .int 0, .int 0, .int 0, .int 0, .int 0, .int 0, .int 0, .int 0])) ++ [(q8, .inl (eY E 0, 366, .inl (fun _ => 0)))]), rfl, ⟨q8, by rfl⟩, by dsimp only; rw [ht]; exact ⟨hP, hD⟩⟩, hS.F ht⟩) hS.2.2 dX8_init_25

set_option maxHeartbeats 4000000 in
set_option maxRecDepth 100000 in
theorem c_X6_init (l : Launch) (E : gEE) (ws : va_W) (k a : Nat) (b1 : Nat) (hk : ws[k]? = some (a, .inr (6, [.null, .null, .null, .null, .null, .null, .int 0, .int 0, .int 0, .int 0, .int 0, .int 0, .int 0, .int 0]))) : Met l yX6_init wsX6_init ({ frames := 2, cells := 5, slots := 89, locals := 32 }) (va_Pc [.ref a, .ref b1] (gP1 E ws)) (va_Qv (fun u : va_W => ∃ q5 q16 q27 q40 q49 : Nat, u = (ws.set k (a, .inr (6, [.ref b1, .ref q5, .ref q16, .ref q27, .ref q40, .ref q49, .int 0, .int 0, .int 0, .int 1, .int 0, .int (-2000000005), .int 0, .int 0])) ++ [(q5, .inr (5, [.int 0, .int 0, .int 0])), (q16, .inr (5, [.int 0, .int 0, .int 0])), (q27, .inr (5, [.int 0, .int 0, .int 0])), (q40, .inl (eY E 3, 40, .inr (.inr (.inr (.inr (fun _ => none)))))), (q49, .inl (eY E 0, 40, .inl (fun _ => 0)))])) (fun u t => gV E u t.heap) (eA E)) 5 89 (eA E) := by
  refine Met.ofW (cc := cX6_init) (maxL := 2) (ret := none) (by decide) rfl ?_
  intro p e s m args below meth c s₁ B hml hv
  obtain ⟨rfl, hE1, hV⟩ := hv
  have hE := hE1.1
  have hx := B.exec
  have hb := B.bytes
  have hr := B.returns
  have hts := atoms_spec (ws := wsX6_init) B.pre
  have hown : s.vm.findClass RX6 = some m.cls := findClass_of_methodNamed B.named
  have hlocks := B.notSynchronized
  have hin2 : meth.name = "<init>" := (name_of_methodNamed B.named B.method).1
  have hinX5 : ∀ w ∈ wsX50, w ∈ wsX6_init := by decide +kernel
  have hinX6 : ∀ w ∈ wsX60, w ∈ wsX6_init := by decide +kernel
  have hS : va_S (eA E) s.heap s.heap [] := va_S.rf
  have hlt := v_lt hk
  have hl := lv_entry ([.ref a, .ref b1]) (n := 2) (Nat.le_of_ble_eq_true rfl)
  rw [lg_entry_eq]
  generalize (lg_sl ([.ref a, .ref b1]) ++ List.replicate (2 - (lg_sl ([.ref a, .ref b1])).length) Slot.unset).toArray = ls at hl ⊢
  have hl : lv_has ls 2 [(0, .ref a), (1, .ref b1)] := hl
  obtain ⟨H, locs, eH, el, hP, hD, hS⟩ : ∃ (H : Heap) (locs : List Loc), H = s.heap ∧ locs = [] ∧ va_P (eD E) vwCl (ws.set k (a, .inr (6, [.null, .null, .null, .null, .null, .null, .int 0, .int 0, .int 0, .int 0, .int 0, .int 0, .int 0, .int 0])) ++ []) H ∧ va_D (eA E) (ws.set k (a, .inr (6, [.null, .null, .null, .null, .null, .null, .int 0, .int 0, .int 0, .int 0, .int 0, .int 0, .int 0, .int 0])) ++ []) ∧ va_S (eA E) s.heap H locs := ⟨_, _, rfl, rfl, by rw [List.append_nil, v_0 hk]; exact hV.1, by rw [List.append_nil, v_0 hk]; exact hV.2, hS⟩
  rw [← eH, ← el]
  clear eH el
  refine lv_aload_n hx hb dX6_init_0 rfl (lv_at hl 0 rfl) ?_
  refine W.objInit hx hb hown (hts (.methodLink RX6 3 objectInit) (by decide +kernel)) (hts (.instanceMethod objectInit) (by decide +kernel)) (hts (.code objectInit ⟨#[0xb1]⟩ 1 none) (by decide +kernel)) rfl (by rw [hml]; exact hl.1) rfl dX6_init_1 (Nat.le_of_ble_eq_true rfl) (Nat.le_of_ble_eq_true rfl) ?_
  refine W.eq (g2 := F0 m 4 ls []) rfl ?_
  refine lv_aload_n hx hb dX6_init_4 rfl (lv_at hl 0 rfl) ?_
  refine va_new (D := eD E) (cl := vwCl) (tys := eT E) (A := eA E) (ci := 5) (fs := [.int 0, .int 0, .int 0]) (C := RX5) (T := TX5) (N := 3) hx hb hts hinX5 tyX5 tyX5_ok hown (hts (.classLink RX6 9 RX5) (by decide +kernel)) (hts (.instantiable RX5 3) (by decide +kernel)) (hts (.initialized RX5) (by decide +kernel)) hE.1 hP hD hS hE.2.1 rfl (fun j hj => by rcases (show j = 0 ∨ j = 1 ∨ j = 2 by omega) with rfl | rfl | rfl <;> rfl) (Nat.le_of_ble_eq_true rfl) (Nat.le_of_ble_eq_true rfl) dX6_init_5 (fun q5 H hP hD hS => ?_)
  have hP : va_P (eD E) vwCl (ws.set k (a, .inr (6, [.null, .null, .null, .null, .null, .null, .int 0, .int 0, .int 0, .int 0, .int 0, .int 0, .int 0, .int 0])) ++ [(q5, .inr (5, [.int 0, .int 0, .int 0]))]) H := by have h := hP; rw [List.append_assoc] at h; exact h
  have hD : va_D (eA E) (ws.set k (a, .inr (6, [.null, .null, .null, .null, .null, .null, .int 0, .int 0, .int 0, .int 0, .int 0, .int 0, .int 0, .int 0])) ++ [(q5, .inr (5, [.int 0, .int 0, .int 0]))]) := by have h := hD; rw [List.append_assoc] at h; exact h
  refine lv_dup hx hb dX6_init_8 rfl ?_
  refine va_callv (va_runIN (As := []) (rest := [.ref q5, .ref a]) ⟨hx, hb, hml, hown, hts⟩ (c_X5_init l E (ws.set k (a, .inr (6, [.null, .null, .null, .null, .null, .null, .int 0, .int 0, .int 0, .int 0, .int 0, .int 0, .int 0, .int 0])) ++ [(q5, .inr (5, [.int 0, .int 0, .int 0]))]) (ws.length + 0) q5   ((v_gi (i := 0)).trans rfl)) ⟨va_cnB 0 hts gX6_init_X5_init_n11 rfl rfl rfl (hE.2.2.1 (.methodLinkNest "DialGarden$Shade" 11 ⟨"DialGarden$Row", "<init>", "()V"⟩ "DialGarden") (by decide +kernel)) (hts (.initialized RX5) (by decide +kernel)) (by decide +kernel) ⟨Nat.le_of_ble_eq_true rfl, Nat.le_of_ble_eq_true rfl⟩, rfl, hts (.instanceMethod yX5_init) (by decide +kernel)⟩ (gP1.S hE1 hS ⟨hP, hD⟩) rfl rfl hl.1 rfl (lv_room (Nat.le_of_ble_eq_true rfl)) dX6_init_9 ⟨Nat.le_of_ble_eq_true rfl, Nat.le_of_ble_eq_true rfl⟩) hS (fun _ _ h => h) (fun _ h => h) (fun u t H locs ht hvm hw hB hz1 hk1 hS => ?_)
  obtain eu := hw
  subst eu
  rw [ht] at hB
  have hP : va_P (eD E) vwCl (ws.set k (a, .inr (6, [.null, .null, .null, .null, .null, .null, .int 0, .int 0, .int 0, .int 0, .int 0, .int 0, .int 0, .int 0])) ++ [(q5, .inr (5, [.int 0, .int 0, .int 0]))]) H := by have h := hB.1; rw [v_si, List.append_assoc] at h; exact h
  have hD : va_D (eA E) (ws.set k (a, .inr (6, [.null, .null, .null, .null, .null, .null, .int 0, .int 0, .int 0, .int 0, .int 0, .int 0, .int 0, .int 0])) ++ [(q5, .inr (5, [.int 0, .int 0, .int 0]))]) := by have h := hB.2; rw [v_si, List.append_assoc] at h; exact h
  refine va_putF (D := eD E) (cl := vwCl) (tys := eT E) (A := eA E) (ci := 6) (C := RX6) (T := TX6) (N := 14) (v := .ref q5) (ty := .object "DialGarden$Row") hx hb hts hinX6 tyX6 tyX6_ok nmX6 hown hE.1 hP hD hS k (v_gk hlt) rfl 1 (by decide) (hts (.fieldLink RX6 12 "DialGarden$Shade" "face" "LDialGarden$Row;") (by decide +kernel)) (fun _ h9 => h9) rfl hin2 rfl (by decide +kernel) rfl rfl (Nat.le_of_ble_eq_true rfl) dX6_init_12 (fun H locs hP hD hS => ?_)
  have hP : va_P (eD E) vwCl (ws.set k (a, .inr (6, [.null, .ref q5, .null, .null, .null, .null, .int 0, .int 0, .int 0, .int 0, .int 0, .int 0, .int 0, .int 0])) ++ [(q5, .inr (5, [.int 0, .int 0, .int 0]))]) H := by have h := hP; rw [v_sk hlt] at h; exact h
  have hD : va_D (eA E) (ws.set k (a, .inr (6, [.null, .ref q5, .null, .null, .null, .null, .int 0, .int 0, .int 0, .int 0, .int 0, .int 0, .int 0, .int 0])) ++ [(q5, .inr (5, [.int 0, .int 0, .int 0]))]) := by have h := hD; rw [v_sk hlt] at h; exact h
  refine lv_aload_n hx hb dX6_init_15 rfl (lv_at hl 0 rfl) ?_
  refine va_new (D := eD E) (cl := vwCl) (tys := eT E) (A := eA E) (ci := 5) (fs := [.int 0, .int 0, .int 0]) (C := RX5) (T := TX5) (N := 3) hx hb hts hinX5 tyX5 tyX5_ok hown (hts (.classLink RX6 9 RX5) (by decide +kernel)) (hts (.instantiable RX5 3) (by decide +kernel)) (hts (.initialized RX5) (by decide +kernel)) hE.1 hP hD hS hE.2.1 rfl (fun j hj => by rcases (show j = 0 ∨ j = 1 ∨ j = 2 by omega) with rfl | rfl | rfl <;> rfl) (Nat.le_of_ble_eq_true rfl) (Nat.le_of_ble_eq_true rfl) dX6_init_16 (fun q16 H hP hD hS => ?_)
  have hP : va_P (eD E) vwCl (ws.set k (a, .inr (6, [.null, .ref q5, .null, .null, .null, .null, .int 0, .int 0, .int 0, .int 0, .int 0, .int 0, .int 0, .int 0])) ++ [(q5, .inr (5, [.int 0, .int 0, .int 0])), (q16, .inr (5, [.int 0, .int 0, .int 0]))]) H := by have h := hP; rw [List.append_assoc] at h; exact h
  have hD : va_D (eA E) (ws.set k (a, .inr (6, [.null, .ref q5, .null, .null, .null, .null, .int 0, .int 0, .int 0, .int 0, .int 0, .int 0, .int 0, .int 0])) ++ [(q5, .inr (5, [.int 0, .int 0, .int 0])), (q16, .inr (5, [.int 0, .int 0, .int 0]))]) := by have h := hD; rw [List.append_assoc] at h; exact h
  refine lv_dup hx hb dX6_init_19 rfl ?_
  refine va_callv (va_runIN (As := []) (rest := [.ref q16, .ref a]) ⟨hx, hb, hml, hown, hts⟩ (c_X5_init l E (ws.set k (a, .inr (6, [.null, .ref q5, .null, .null, .null, .null, .int 0, .int 0, .int 0, .int 0, .int 0, .int 0, .int 0, .int 0])) ++ [(q5, .inr (5, [.int 0, .int 0, .int 0])), (q16, .inr (5, [.int 0, .int 0, .int 0]))]) (ws.length + 1) q16   ((v_gi (i := 1)).trans rfl)) ⟨va_cnB 0 hts gX6_init_X5_init_n11 rfl rfl rfl (hE.2.2.1 (.methodLinkNest "DialGarden$Shade" 11 ⟨"DialGarden$Row", "<init>", "()V"⟩ "DialGarden") (by decide +kernel)) (hts (.initialized RX5) (by decide +kernel)) (by decide +kernel) ⟨Nat.le_of_ble_eq_true rfl, Nat.le_of_ble_eq_true rfl⟩, rfl, hts (.instanceMethod yX5_init) (by decide +kernel)⟩ (gP1.S hE1 hS ⟨hP, hD⟩) rfl rfl hl.1 rfl (lv_room (Nat.le_of_ble_eq_true rfl)) dX6_init_20 ⟨Nat.le_of_ble_eq_true rfl, Nat.le_of_ble_eq_true rfl⟩) hS (fun _ _ h => h) (fun _ h => h) (fun u t H locs ht hvm hw hB hz1 hk1 hS => ?_)
  obtain eu := hw
  subst eu
  rw [ht] at hB
  have hP : va_P (eD E) vwCl (ws.set k (a, .inr (6, [.null, .ref q5, .null, .null, .null, .null, .int 0, .int 0, .int 0, .int 0, .int 0, .int 0, .int 0, .int 0])) ++ [(q5, .inr (5, [.int 0, .int 0, .int 0])), (q16, .inr (5, [.int 0, .int 0, .int 0]))]) H := by have h := hB.1; rw [v_si, List.append_assoc] at h; exact h
  have hD : va_D (eA E) (ws.set k (a, .inr (6, [.null, .ref q5, .null, .null, .null, .null, .int 0, .int 0, .int 0, .int 0, .int 0, .int 0, .int 0, .int 0])) ++ [(q5, .inr (5, [.int 0, .int 0, .int 0])), (q16, .inr (5, [.int 0, .int 0, .int 0]))]) := by have h := hB.2; rw [v_si, List.append_assoc] at h; exact h
  refine va_putF (D := eD E) (cl := vwCl) (tys := eT E) (A := eA E) (ci := 6) (C := RX6) (T := TX6) (N := 14) (v := .ref q16) (ty := .object "DialGarden$Row") hx hb hts hinX6 tyX6 tyX6_ok nmX6 hown hE.1 hP hD hS k (v_gk hlt) rfl 2 (by decide) (hts (.fieldLink RX6 18 "DialGarden$Shade" "across" "LDialGarden$Row;") (by decide +kernel)) (fun _ h9 => h9) rfl hin2 rfl (by decide +kernel) rfl rfl (Nat.le_of_ble_eq_true rfl) dX6_init_23 (fun H locs hP hD hS => ?_)
  have hP : va_P (eD E) vwCl (ws.set k (a, .inr (6, [.null, .ref q5, .ref q16, .null, .null, .null, .int 0, .int 0, .int 0, .int 0, .int 0, .int 0, .int 0, .int 0])) ++ [(q5, .inr (5, [.int 0, .int 0, .int 0])), (q16, .inr (5, [.int 0, .int 0, .int 0]))]) H := by have h := hP; rw [v_sk hlt] at h; exact h
  have hD : va_D (eA E) (ws.set k (a, .inr (6, [.null, .ref q5, .ref q16, .null, .null, .null, .int 0, .int 0, .int 0, .int 0, .int 0, .int 0, .int 0, .int 0])) ++ [(q5, .inr (5, [.int 0, .int 0, .int 0])), (q16, .inr (5, [.int 0, .int 0, .int 0]))]) := by have h := hD; rw [v_sk hlt] at h; exact h
  refine lv_aload_n hx hb dX6_init_26 rfl (lv_at hl 0 rfl) ?_
  refine va_new (D := eD E) (cl := vwCl) (tys := eT E) (A := eA E) (ci := 5) (fs := [.int 0, .int 0, .int 0]) (C := RX5) (T := TX5) (N := 3) hx hb hts hinX5 tyX5 tyX5_ok hown (hts (.classLink RX6 9 RX5) (by decide +kernel)) (hts (.instantiable RX5 3) (by decide +kernel)) (hts (.initialized RX5) (by decide +kernel)) hE.1 hP hD hS hE.2.1 rfl (fun j hj => by rcases (show j = 0 ∨ j = 1 ∨ j = 2 by omega) with rfl | rfl | rfl <;> rfl) (Nat.le_of_ble_eq_true rfl) (Nat.le_of_ble_eq_true rfl) dX6_init_27 (fun q27 H hP hD hS => ?_)
  have hP : va_P (eD E) vwCl (ws.set k (a, .inr (6, [.null, .ref q5, .ref q16, .null, .null, .null, .int 0, .int 0, .int 0, .int 0, .int 0, .int 0, .int 0, .int 0])) ++ [(q5, .inr (5, [.int 0, .int 0, .int 0])), (q16, .inr (5, [.int 0, .int 0, .int 0])), (q27, .inr (5, [.int 0, .int 0, .int 0]))]) H := by have h := hP; rw [List.append_assoc] at h; exact h
  have hD : va_D (eA E) (ws.set k (a, .inr (6, [.null, .ref q5, .ref q16, .null, .null, .null, .int 0, .int 0, .int 0, .int 0, .int 0, .int 0, .int 0, .int 0])) ++ [(q5, .inr (5, [.int 0, .int 0, .int 0])), (q16, .inr (5, [.int 0, .int 0, .int 0])), (q27, .inr (5, [.int 0, .int 0, .int 0]))]) := by have h := hD; rw [List.append_assoc] at h; exact h
  refine lv_dup hx hb dX6_init_30 rfl ?_
  refine va_callv (va_runIN (As := []) (rest := [.ref q27, .ref a]) ⟨hx, hb, hml, hown, hts⟩ (c_X5_init l E (ws.set k (a, .inr (6, [.null, .ref q5, .ref q16, .null, .null, .null, .int 0, .int 0, .int 0, .int 0, .int 0, .int 0, .int 0, .int 0])) ++ [(q5, .inr (5, [.int 0, .int 0, .int 0])), (q16, .inr (5, [.int 0, .int 0, .int 0])), (q27, .inr (5, [.int 0, .int 0, .int 0]))]) (ws.length + 2) q27   ((v_gi (i := 2)).trans rfl)) ⟨va_cnB 0 hts gX6_init_X5_init_n11 rfl rfl rfl (hE.2.2.1 (.methodLinkNest "DialGarden$Shade" 11 ⟨"DialGarden$Row", "<init>", "()V"⟩ "DialGarden") (by decide +kernel)) (hts (.initialized RX5) (by decide +kernel)) (by decide +kernel) ⟨Nat.le_of_ble_eq_true rfl, Nat.le_of_ble_eq_true rfl⟩, rfl, hts (.instanceMethod yX5_init) (by decide +kernel)⟩ (gP1.S hE1 hS ⟨hP, hD⟩) rfl rfl hl.1 rfl (lv_room (Nat.le_of_ble_eq_true rfl)) dX6_init_31 ⟨Nat.le_of_ble_eq_true rfl, Nat.le_of_ble_eq_true rfl⟩) hS (fun _ _ h => h) (fun _ h => h) (fun u t H locs ht hvm hw hB hz1 hk1 hS => ?_)
  obtain eu := hw
  subst eu
  rw [ht] at hB
  have hP : va_P (eD E) vwCl (ws.set k (a, .inr (6, [.null, .ref q5, .ref q16, .null, .null, .null, .int 0, .int 0, .int 0, .int 0, .int 0, .int 0, .int 0, .int 0])) ++ [(q5, .inr (5, [.int 0, .int 0, .int 0])), (q16, .inr (5, [.int 0, .int 0, .int 0])), (q27, .inr (5, [.int 0, .int 0, .int 0]))]) H := by have h := hB.1; rw [v_si, List.append_assoc] at h; exact h
  have hD : va_D (eA E) (ws.set k (a, .inr (6, [.null, .ref q5, .ref q16, .null, .null, .null, .int 0, .int 0, .int 0, .int 0, .int 0, .int 0, .int 0, .int 0])) ++ [(q5, .inr (5, [.int 0, .int 0, .int 0])), (q16, .inr (5, [.int 0, .int 0, .int 0])), (q27, .inr (5, [.int 0, .int 0, .int 0]))]) := by have h := hB.2; rw [v_si, List.append_assoc] at h; exact h
  refine va_putF (D := eD E) (cl := vwCl) (tys := eT E) (A := eA E) (ci := 6) (C := RX6) (T := TX6) (N := 14) (v := .ref q27) (ty := .object "DialGarden$Row") hx hb hts hinX6 tyX6 tyX6_ok nmX6 hown hE.1 hP hD hS k (v_gk hlt) rfl 3 (by decide) (hts (.fieldLink RX6 21 "DialGarden$Shade" "along" "LDialGarden$Row;") (by decide +kernel)) (fun _ h9 => h9) rfl hin2 rfl (by decide +kernel) rfl rfl (Nat.le_of_ble_eq_true rfl) dX6_init_34 (fun H locs hP hD hS => ?_)
  have hP : va_P (eD E) vwCl (ws.set k (a, .inr (6, [.null, .ref q5, .ref q16, .ref q27, .null, .null, .int 0, .int 0, .int 0, .int 0, .int 0, .int 0, .int 0, .int 0])) ++ [(q5, .inr (5, [.int 0, .int 0, .int 0])), (q16, .inr (5, [.int 0, .int 0, .int 0])), (q27, .inr (5, [.int 0, .int 0, .int 0]))]) H := by have h := hP; rw [v_sk hlt] at h; exact h
  have hD : va_D (eA E) (ws.set k (a, .inr (6, [.null, .ref q5, .ref q16, .ref q27, .null, .null, .int 0, .int 0, .int 0, .int 0, .int 0, .int 0, .int 0, .int 0])) ++ [(q5, .inr (5, [.int 0, .int 0, .int 0])), (q16, .inr (5, [.int 0, .int 0, .int 0])), (q27, .inr (5, [.int 0, .int 0, .int 0]))]) := by have h := hD; rw [v_sk hlt] at h; exact h
  refine lv_aload_n hx hb dX6_init_37 rfl (lv_at hl 0 rfl) ?_
  refine lv_bipush (v := 40) hx hb dX6_init_38 (by decide) ?_
  refine va_newq (D := eD E) (cl := vwCl) (tys := eT E) (A := eA E) (C := RX2) hx hb (N' := 40) hown (hts (.classLink RX6 24 RX2) (by decide +kernel)) hE1.2.1 hE.1 hP hD hS hE.2.1 (by decide) rfl (by decide) (Nat.le_of_ble_eq_true rfl) (Nat.le_of_ble_eq_true rfl) dX6_init_40 (fun q40 cA H hK9 hP hD hS => ?_)
  have ecA : cA = eY E 3 := v_ra (hK9.2 5 _ rfl).2 (hE.1.2 3 _ rfl).2
  subst ecA
  clear hK9
  have hP : va_P (eD E) vwCl (ws.set k (a, .inr (6, [.null, .ref q5, .ref q16, .ref q27, .null, .null, .int 0, .int 0, .int 0, .int 0, .int 0, .int 0, .int 0, .int 0])) ++ [(q5, .inr (5, [.int 0, .int 0, .int 0])), (q16, .inr (5, [.int 0, .int 0, .int 0])), (q27, .inr (5, [.int 0, .int 0, .int 0])), (q40, .inl (eY E 3, 40, .inr (.inr (.inr (.inr (fun _ => none))))))]) H := by have h := hP; rw [List.append_assoc] at h; exact h
  have hD : va_D (eA E) (ws.set k (a, .inr (6, [.null, .ref q5, .ref q16, .ref q27, .null, .null, .int 0, .int 0, .int 0, .int 0, .int 0, .int 0, .int 0, .int 0])) ++ [(q5, .inr (5, [.int 0, .int 0, .int 0])), (q16, .inr (5, [.int 0, .int 0, .int 0])), (q27, .inr (5, [.int 0, .int 0, .int 0])), (q40, .inl (eY E 3, 40, .inr (.inr (.inr (.inr (fun _ => none))))))]) := by have h := hD; rw [List.append_assoc] at h; exact h
  refine va_putF (D := eD E) (cl := vwCl) (tys := eT E) (A := eA E) (ci := 6) (C := RX6) (T := TX6) (N := 14) (v := .ref q40) (ty := .array (.object "DialGarden$House")) hx hb hts hinX6 tyX6 tyX6_ok nmX6 hown hE.1 hP hD hS k (v_gk hlt) rfl 4 (by decide) (hts (.fieldLink RX6 26 "DialGarden$Shade" "houses" "[LDialGarden$House;") (by decide +kernel)) (fun _ h9 => h9) rfl hin2 rfl (by decide +kernel) rfl rfl (Nat.le_of_ble_eq_true rfl) dX6_init_43 (fun H locs hP hD hS => ?_)
  have hP : va_P (eD E) vwCl (ws.set k (a, .inr (6, [.null, .ref q5, .ref q16, .ref q27, .ref q40, .null, .int 0, .int 0, .int 0, .int 0, .int 0, .int 0, .int 0, .int 0])) ++ [(q5, .inr (5, [.int 0, .int 0, .int 0])), (q16, .inr (5, [.int 0, .int 0, .int 0])), (q27, .inr (5, [.int 0, .int 0, .int 0])), (q40, .inl (eY E 3, 40, .inr (.inr (.inr (.inr (fun _ => none))))))]) H := by have h := hP; rw [v_sk hlt] at h; exact h
  have hD : va_D (eA E) (ws.set k (a, .inr (6, [.null, .ref q5, .ref q16, .ref q27, .ref q40, .null, .int 0, .int 0, .int 0, .int 0, .int 0, .int 0, .int 0, .int 0])) ++ [(q5, .inr (5, [.int 0, .int 0, .int 0])), (q16, .inr (5, [.int 0, .int 0, .int 0])), (q27, .inr (5, [.int 0, .int 0, .int 0])), (q40, .inl (eY E 3, 40, .inr (.inr (.inr (.inr (fun _ => none))))))]) := by have h := hD; rw [v_sk hlt] at h; exact h
  refine lv_aload_n hx hb dX6_init_46 rfl (lv_at hl 0 rfl) ?_
  refine lv_bipush (v := 40) hx hb dX6_init_47 (by decide) ?_
  refine va_newa (D := eD E) (cl := vwCl) (tys := eT E) (A := eA E) hx hb (ty := .int) (N' := 40) (a0 := (40, .inl (fun _ => 0))) (hts (.arrayClass .int) (by decide +kernel)) rfl hE.1 hP hD hS hE.2.1 (fun _ => rfl) (by decide) rfl (by decide) (Nat.le_of_ble_eq_true rfl) (Nat.le_of_ble_eq_true rfl) dX6_init_49 (fun q49 cA H hK9 hP hD hS => ?_)
  have ecA : cA = eY E 0 := v_ra (hK9.2 5 _ rfl).2 (hE.1.2 0 _ rfl).2
  subst ecA
  clear hK9
  have hP : va_P (eD E) vwCl (ws.set k (a, .inr (6, [.null, .ref q5, .ref q16, .ref q27, .ref q40, .null, .int 0, .int 0, .int 0, .int 0, .int 0, .int 0, .int 0, .int 0])) ++ [(q5, .inr (5, [.int 0, .int 0, .int 0])), (q16, .inr (5, [.int 0, .int 0, .int 0])), (q27, .inr (5, [.int 0, .int 0, .int 0])), (q40, .inl (eY E 3, 40, .inr (.inr (.inr (.inr (fun _ => none)))))), (q49, .inl (eY E 0, 40, .inl (fun _ => 0)))]) H := by have h := hP; rw [List.append_assoc] at h; exact h
  have hD : va_D (eA E) (ws.set k (a, .inr (6, [.null, .ref q5, .ref q16, .ref q27, .ref q40, .null, .int 0, .int 0, .int 0, .int 0, .int 0, .int 0, .int 0, .int 0])) ++ [(q5, .inr (5, [.int 0, .int 0, .int 0])), (q16, .inr (5, [.int 0, .int 0, .int 0])), (q27, .inr (5, [.int 0, .int 0, .int 0])), (q40, .inl (eY E 3, 40, .inr (.inr (.inr (.inr (fun _ => none)))))), (q49, .inl (eY E 0, 40, .inl (fun _ => 0)))]) := by have h := hD; rw [List.append_assoc] at h; exact h
  refine va_putF (D := eD E) (cl := vwCl) (tys := eT E) (A := eA E) (ci := 6) (C := RX6) (T := TX6) (N := 14) (v := .ref q49) (ty := .array .int) hx hb hts hinX6 tyX6 tyX6_ok nmX6 hown hE.1 hP hD hS k (v_gk hlt) rfl 5 (by decide) (hts (.fieldLink RX6 30 "DialGarden$Shade" "housePlaces" "[I") (by decide +kernel)) (fun _ h9 => h9) rfl hin2 rfl (by decide +kernel) rfl rfl (Nat.le_of_ble_eq_true rfl) dX6_init_51 (fun H locs hP hD hS => ?_)
  have hP : va_P (eD E) vwCl (ws.set k (a, .inr (6, [.null, .ref q5, .ref q16, .ref q27, .ref q40, .ref q49, .int 0, .int 0, .int 0, .int 0, .int 0, .int 0, .int 0, .int 0])) ++ [(q5, .inr (5, [.int 0, .int 0, .int 0])), (q16, .inr (5, [.int 0, .int 0, .int 0])), (q27, .inr (5, [.int 0, .int 0, .int 0])), (q40, .inl (eY E 3, 40, .inr (.inr (.inr (.inr (fun _ => none)))))), (q49, .inl (eY E 0, 40, .inl (fun _ => 0)))]) H := by have h := hP; rw [v_sk hlt] at h; exact h
  have hD : va_D (eA E) (ws.set k (a, .inr (6, [.null, .ref q5, .ref q16, .ref q27, .ref q40, .ref q49, .int 0, .int 0, .int 0, .int 0, .int 0, .int 0, .int 0, .int 0])) ++ [(q5, .inr (5, [.int 0, .int 0, .int 0])), (q16, .inr (5, [.int 0, .int 0, .int 0])), (q27, .inr (5, [.int 0, .int 0, .int 0])), (q40, .inl (eY E 3, 40, .inr (.inr (.inr (.inr (fun _ => none)))))), (q49, .inl (eY E 0, 40, .inl (fun _ => 0)))]) := by have h := hD; rw [v_sk hlt] at h; exact h
  refine lv_aload_n hx hb dX6_init_54 rfl (lv_at hl 0 rfl) ?_
  refine lv_iconst (v := 0) hx hb dX6_init_55 (by decide) ?_
  refine va_put (D := eD E) (cl := vwCl) (tys := eT E) (A := eA E) (ci := 6) (C := RX6) (T := TX6) (N := 14) (v := .int 0) (ty := .int) hx hb hts hinX6 tyX6 tyX6_ok nmX6 hown hE.1 hP hD hS k (v_gk hlt) rfl 6 (by decide) (hts (.fieldLink RX6 34 "DialGarden$Shade" "houseCount" "I") (by decide +kernel)) (fun _ h9 => h9) rfl (by decide +kernel) rfl rfl (Nat.le_of_ble_eq_true rfl) dX6_init_56 (fun H locs hP hD hS => ?_)
  have hP : va_P (eD E) vwCl (ws.set k (a, .inr (6, [.null, .ref q5, .ref q16, .ref q27, .ref q40, .ref q49, .int 0, .int 0, .int 0, .int 0, .int 0, .int 0, .int 0, .int 0])) ++ [(q5, .inr (5, [.int 0, .int 0, .int 0])), (q16, .inr (5, [.int 0, .int 0, .int 0])), (q27, .inr (5, [.int 0, .int 0, .int 0])), (q40, .inl (eY E 3, 40, .inr (.inr (.inr (.inr (fun _ => none)))))), (q49, .inl (eY E 0, 40, .inl (fun _ => 0)))]) H := by have h := hP; rw [v_sk hlt] at h; exact h
  have hD : va_D (eA E) (ws.set k (a, .inr (6, [.null, .ref q5, .ref q16, .ref q27, .ref q40, .ref q49, .int 0, .int 0, .int 0, .int 0, .int 0, .int 0, .int 0, .int 0])) ++ [(q5, .inr (5, [.int 0, .int 0, .int 0])), (q16, .inr (5, [.int 0, .int 0, .int 0])), (q27, .inr (5, [.int 0, .int 0, .int 0])), (q40, .inl (eY E 3, 40, .inr (.inr (.inr (.inr (fun _ => none)))))), (q49, .inl (eY E 0, 40, .inl (fun _ => 0)))]) := by have h := hD; rw [v_sk hlt] at h; exact h
  refine lv_aload_n hx hb dX6_init_59 rfl (lv_at hl 0 rfl) ?_
  refine lv_iconst (v := 0) hx hb dX6_init_60 (by decide) ?_
  refine va_put (D := eD E) (cl := vwCl) (tys := eT E) (A := eA E) (ci := 6) (C := RX6) (T := TX6) (N := 14) (v := .int 0) (ty := .int) hx hb hts hinX6 tyX6 tyX6_ok nmX6 hown hE.1 hP hD hS k (v_gk hlt) rfl 7 (by decide) (hts (.fieldLink RX6 38 "DialGarden$Shade" "x" "I") (by decide +kernel)) (fun _ h9 => h9) rfl (by decide +kernel) rfl rfl (Nat.le_of_ble_eq_true rfl) dX6_init_61 (fun H locs hP hD hS => ?_)
  have hP : va_P (eD E) vwCl (ws.set k (a, .inr (6, [.null, .ref q5, .ref q16, .ref q27, .ref q40, .ref q49, .int 0, .int 0, .int 0, .int 0, .int 0, .int 0, .int 0, .int 0])) ++ [(q5, .inr (5, [.int 0, .int 0, .int 0])), (q16, .inr (5, [.int 0, .int 0, .int 0])), (q27, .inr (5, [.int 0, .int 0, .int 0])), (q40, .inl (eY E 3, 40, .inr (.inr (.inr (.inr (fun _ => none)))))), (q49, .inl (eY E 0, 40, .inl (fun _ => 0)))]) H := by have h := hP; rw [v_sk hlt] at h; exact h
  have hD : va_D (eA E) (ws.set k (a, .inr (6, [.null, .ref q5, .ref q16, .ref q27, .ref q40, .ref q49, .int 0, .int 0, .int 0, .int 0, .int 0, .int 0, .int 0, .int 0])) ++ [(q5, .inr (5, [.int 0, .int 0, .int 0])), (q16, .inr (5, [.int 0, .int 0, .int 0])), (q27, .inr (5, [.int 0, .int 0, .int 0])), (q40, .inl (eY E 3, 40, .inr (.inr (.inr (.inr (fun _ => none)))))), (q49, .inl (eY E 0, 40, .inl (fun _ => 0)))]) := by have h := hD; rw [v_sk hlt] at h; exact h
  refine lv_aload_n hx hb dX6_init_64 rfl (lv_at hl 0 rfl) ?_
  refine lv_iconst (v := 0) hx hb dX6_init_65 (by decide) ?_
  refine va_put (D := eD E) (cl := vwCl) (tys := eT E) (A := eA E) (ci := 6) (C := RX6) (T := TX6) (N := 14) (v := .int 0) (ty := .int) hx hb hts hinX6 tyX6 tyX6_ok nmX6 hown hE.1 hP hD hS k (v_gk hlt) rfl 8 (by decide) (hts (.fieldLink RX6 41 "DialGarden$Shade" "y" "I") (by decide +kernel)) (fun _ h9 => h9) rfl (by decide +kernel) rfl rfl (Nat.le_of_ble_eq_true rfl) dX6_init_66 (fun H locs hP hD hS => ?_)
  have hP : va_P (eD E) vwCl (ws.set k (a, .inr (6, [.null, .ref q5, .ref q16, .ref q27, .ref q40, .ref q49, .int 0, .int 0, .int 0, .int 0, .int 0, .int 0, .int 0, .int 0])) ++ [(q5, .inr (5, [.int 0, .int 0, .int 0])), (q16, .inr (5, [.int 0, .int 0, .int 0])), (q27, .inr (5, [.int 0, .int 0, .int 0])), (q40, .inl (eY E 3, 40, .inr (.inr (.inr (.inr (fun _ => none)))))), (q49, .inl (eY E 0, 40, .inl (fun _ => 0)))]) H := by have h := hP; rw [v_sk hlt] at h; exact h
  have hD : va_D (eA E) (ws.set k (a, .inr (6, [.null, .ref q5, .ref q16, .ref q27, .ref q40, .ref q49, .int 0, .int 0, .int 0, .int 0, .int 0, .int 0, .int 0, .int 0])) ++ [(q5, .inr (5, [.int 0, .int 0, .int 0])), (q16, .inr (5, [.int 0, .int 0, .int 0])), (q27, .inr (5, [.int 0, .int 0, .int 0])), (q40, .inl (eY E 3, 40, .inr (.inr (.inr (.inr (fun _ => none)))))), (q49, .inl (eY E 0, 40, .inl (fun _ => 0)))]) := by have h := hD; rw [v_sk hlt] at h; exact h
  refine lv_aload_n hx hb dX6_init_69 rfl (lv_at hl 0 rfl) ?_
  refine lv_iconst (v := 1) hx hb dX6_init_70 (by decide) ?_
  refine va_put (D := eD E) (cl := vwCl) (tys := eT E) (A := eA E) (ci := 6) (C := RX6) (T := TX6) (N := 14) (v := .int 1) (ty := .int) hx hb hts hinX6 tyX6 tyX6_ok nmX6 hown hE.1 hP hD hS k (v_gk hlt) rfl 9 (by decide) (hts (.fieldLink RX6 44 "DialGarden$Shade" "rod" "I") (by decide +kernel)) (fun _ h9 => h9) rfl (by decide +kernel) rfl rfl (Nat.le_of_ble_eq_true rfl) dX6_init_71 (fun H locs hP hD hS => ?_)
  have hP : va_P (eD E) vwCl (ws.set k (a, .inr (6, [.null, .ref q5, .ref q16, .ref q27, .ref q40, .ref q49, .int 0, .int 0, .int 0, .int 1, .int 0, .int 0, .int 0, .int 0])) ++ [(q5, .inr (5, [.int 0, .int 0, .int 0])), (q16, .inr (5, [.int 0, .int 0, .int 0])), (q27, .inr (5, [.int 0, .int 0, .int 0])), (q40, .inl (eY E 3, 40, .inr (.inr (.inr (.inr (fun _ => none)))))), (q49, .inl (eY E 0, 40, .inl (fun _ => 0)))]) H := by have h := hP; rw [v_sk hlt] at h; exact h
  have hD : va_D (eA E) (ws.set k (a, .inr (6, [.null, .ref q5, .ref q16, .ref q27, .ref q40, .ref q49, .int 0, .int 0, .int 0, .int 1, .int 0, .int 0, .int 0, .int 0])) ++ [(q5, .inr (5, [.int 0, .int 0, .int 0])), (q16, .inr (5, [.int 0, .int 0, .int 0])), (q27, .inr (5, [.int 0, .int 0, .int 0])), (q40, .inl (eY E 3, 40, .inr (.inr (.inr (.inr (fun _ => none)))))), (q49, .inl (eY E 0, 40, .inl (fun _ => 0)))]) := by have h := hD; rw [v_sk hlt] at h; exact h
  refine lv_aload_n hx hb dX6_init_74 rfl (lv_at hl 0 rfl) ?_
  refine lv_iconst (v := 0) hx hb dX6_init_75 (by decide) ?_
  refine va_put (D := eD E) (cl := vwCl) (tys := eT E) (A := eA E) (ci := 6) (C := RX6) (T := TX6) (N := 14) (v := .int 0) (ty := .boolean) hx hb hts hinX6 tyX6 tyX6_ok nmX6 hown hE.1 hP hD hS k (v_gk hlt) rfl 10 (by decide) (hts (.fieldLink RX6 47 "DialGarden$Shade" "isRing" "Z") (by decide +kernel)) (fun _ h9 => h9) rfl (by decide +kernel) rfl rfl (Nat.le_of_ble_eq_true rfl) dX6_init_76 (fun H locs hP hD hS => ?_)
  have hP : va_P (eD E) vwCl (ws.set k (a, .inr (6, [.null, .ref q5, .ref q16, .ref q27, .ref q40, .ref q49, .int 0, .int 0, .int 0, .int 1, .int 0, .int 0, .int 0, .int 0])) ++ [(q5, .inr (5, [.int 0, .int 0, .int 0])), (q16, .inr (5, [.int 0, .int 0, .int 0])), (q27, .inr (5, [.int 0, .int 0, .int 0])), (q40, .inl (eY E 3, 40, .inr (.inr (.inr (.inr (fun _ => none)))))), (q49, .inl (eY E 0, 40, .inl (fun _ => 0)))]) H := by have h := hP; rw [v_sk hlt] at h; exact h
  have hD : va_D (eA E) (ws.set k (a, .inr (6, [.null, .ref q5, .ref q16, .ref q27, .ref q40, .ref q49, .int 0, .int 0, .int 0, .int 1, .int 0, .int 0, .int 0, .int 0])) ++ [(q5, .inr (5, [.int 0, .int 0, .int 0])), (q16, .inr (5, [.int 0, .int 0, .int 0])), (q27, .inr (5, [.int 0, .int 0, .int 0])), (q40, .inl (eY E 3, 40, .inr (.inr (.inr (.inr (fun _ => none)))))), (q49, .inl (eY E 0, 40, .inl (fun _ => 0)))]) := by have h := hD; rw [v_sk hlt] at h; exact h
  refine lv_aload_n hx hb dX6_init_79 rfl (lv_at hl 0 rfl) ?_
  refine lv_ldc hx hb (v := (-2000000005)) hown (hts (.constant RX6 51 (-2000000005)) (by decide +kernel)) dX6_init_80 ?_
  refine va_put (D := eD E) (cl := vwCl) (tys := eT E) (A := eA E) (ci := 6) (C := RX6) (T := TX6) (N := 14) (v := .int (-2000000005)) (ty := .int) hx hb hts hinX6 tyX6 tyX6_ok nmX6 hown hE.1 hP hD hS k (v_gk hlt) rfl 11 (by decide) (hts (.fieldLink RX6 52 "DialGarden$Shade" "hider" "I") (by decide +kernel)) (fun _ h9 => h9) rfl (by decide +kernel) rfl rfl (Nat.le_of_ble_eq_true rfl) dX6_init_82 (fun H locs hP hD hS => ?_)
  have hP : va_P (eD E) vwCl (ws.set k (a, .inr (6, [.null, .ref q5, .ref q16, .ref q27, .ref q40, .ref q49, .int 0, .int 0, .int 0, .int 1, .int 0, .int (-2000000005), .int 0, .int 0])) ++ [(q5, .inr (5, [.int 0, .int 0, .int 0])), (q16, .inr (5, [.int 0, .int 0, .int 0])), (q27, .inr (5, [.int 0, .int 0, .int 0])), (q40, .inl (eY E 3, 40, .inr (.inr (.inr (.inr (fun _ => none)))))), (q49, .inl (eY E 0, 40, .inl (fun _ => 0)))]) H := by have h := hP; rw [v_sk hlt] at h; exact h
  have hD : va_D (eA E) (ws.set k (a, .inr (6, [.null, .ref q5, .ref q16, .ref q27, .ref q40, .ref q49, .int 0, .int 0, .int 0, .int 1, .int 0, .int (-2000000005), .int 0, .int 0])) ++ [(q5, .inr (5, [.int 0, .int 0, .int 0])), (q16, .inr (5, [.int 0, .int 0, .int 0])), (q27, .inr (5, [.int 0, .int 0, .int 0])), (q40, .inl (eY E 3, 40, .inr (.inr (.inr (.inr (fun _ => none)))))), (q49, .inl (eY E 0, 40, .inl (fun _ => 0)))]) := by have h := hD; rw [v_sk hlt] at h; exact h
  refine lv_aload_n hx hb dX6_init_85 rfl (lv_at hl 0 rfl) ?_
  refine lv_iconst (v := 0) hx hb dX6_init_86 (by decide) ?_
  refine va_put (D := eD E) (cl := vwCl) (tys := eT E) (A := eA E) (ci := 6) (C := RX6) (T := TX6) (N := 14) (v := .int 0) (ty := .int) hx hb hts hinX6 tyX6 tyX6_ok nmX6 hown hE.1 hP hD hS k (v_gk hlt) rfl 12 (by decide) (hts (.fieldLink RX6 55 "DialGarden$Shade" "endX" "I") (by decide +kernel)) (fun _ h9 => h9) rfl (by decide +kernel) rfl rfl (Nat.le_of_ble_eq_true rfl) dX6_init_87 (fun H locs hP hD hS => ?_)
  have hP : va_P (eD E) vwCl (ws.set k (a, .inr (6, [.null, .ref q5, .ref q16, .ref q27, .ref q40, .ref q49, .int 0, .int 0, .int 0, .int 1, .int 0, .int (-2000000005), .int 0, .int 0])) ++ [(q5, .inr (5, [.int 0, .int 0, .int 0])), (q16, .inr (5, [.int 0, .int 0, .int 0])), (q27, .inr (5, [.int 0, .int 0, .int 0])), (q40, .inl (eY E 3, 40, .inr (.inr (.inr (.inr (fun _ => none)))))), (q49, .inl (eY E 0, 40, .inl (fun _ => 0)))]) H := by have h := hP; rw [v_sk hlt] at h; exact h
  have hD : va_D (eA E) (ws.set k (a, .inr (6, [.null, .ref q5, .ref q16, .ref q27, .ref q40, .ref q49, .int 0, .int 0, .int 0, .int 1, .int 0, .int (-2000000005), .int 0, .int 0])) ++ [(q5, .inr (5, [.int 0, .int 0, .int 0])), (q16, .inr (5, [.int 0, .int 0, .int 0])), (q27, .inr (5, [.int 0, .int 0, .int 0])), (q40, .inl (eY E 3, 40, .inr (.inr (.inr (.inr (fun _ => none)))))), (q49, .inl (eY E 0, 40, .inl (fun _ => 0)))]) := by have h := hD; rw [v_sk hlt] at h; exact h
  refine lv_aload_n hx hb dX6_init_90 rfl (lv_at hl 0 rfl) ?_
  refine lv_iconst (v := 0) hx hb dX6_init_91 (by decide) ?_
  refine va_put (D := eD E) (cl := vwCl) (tys := eT E) (A := eA E) (ci := 6) (C := RX6) (T := TX6) (N := 14) (v := .int 0) (ty := .int) hx hb hts hinX6 tyX6 tyX6_ok nmX6 hown hE.1 hP hD hS k (v_gk hlt) rfl 13 (by decide) (hts (.fieldLink RX6 58 "DialGarden$Shade" "endY" "I") (by decide +kernel)) (fun _ h9 => h9) rfl (by decide +kernel) rfl rfl (Nat.le_of_ble_eq_true rfl) dX6_init_92 (fun H locs hP hD hS => ?_)
  have hP : va_P (eD E) vwCl (ws.set k (a, .inr (6, [.null, .ref q5, .ref q16, .ref q27, .ref q40, .ref q49, .int 0, .int 0, .int 0, .int 1, .int 0, .int (-2000000005), .int 0, .int 0])) ++ [(q5, .inr (5, [.int 0, .int 0, .int 0])), (q16, .inr (5, [.int 0, .int 0, .int 0])), (q27, .inr (5, [.int 0, .int 0, .int 0])), (q40, .inl (eY E 3, 40, .inr (.inr (.inr (.inr (fun _ => none)))))), (q49, .inl (eY E 0, 40, .inl (fun _ => 0)))]) H := by have h := hP; rw [v_sk hlt] at h; exact h
  have hD : va_D (eA E) (ws.set k (a, .inr (6, [.null, .ref q5, .ref q16, .ref q27, .ref q40, .ref q49, .int 0, .int 0, .int 0, .int 1, .int 0, .int (-2000000005), .int 0, .int 0])) ++ [(q5, .inr (5, [.int 0, .int 0, .int 0])), (q16, .inr (5, [.int 0, .int 0, .int 0])), (q27, .inr (5, [.int 0, .int 0, .int 0])), (q40, .inl (eY E 3, 40, .inr (.inr (.inr (.inr (fun _ => none)))))), (q49, .inl (eY E 0, 40, .inl (fun _ => 0)))]) := by have h := hD; rw [v_sk hlt] at h; exact h
  refine lv_aload_n hx hb dX6_init_95 rfl (lv_at hl 0 rfl) ?_
  refine lv_aload_n hx hb dX6_init_96 rfl (lv_at hl 1 rfl) ?_
  refine va_putF (D := eD E) (cl := vwCl) (tys := eT E) (A := eA E) (ci := 6) (C := RX6) (T := TX6) (N := 14) (v := .ref b1) (ty := .object "DialGarden$Sky") hx hb hts hinX6 tyX6 tyX6_ok nmX6 hown hE.1 hP hD hS k (v_gk hlt) rfl 0 (by decide) (hts (.fieldLink RX6 61 "DialGarden$Shade" "sky" "LDialGarden$Sky;") (by decide +kernel)) (fun _ h9 => h9) rfl hin2 rfl (by decide +kernel) rfl rfl (Nat.le_of_ble_eq_true rfl) dX6_init_97 (fun H locs hP hD hS => ?_)
  have hP : va_P (eD E) vwCl (ws.set k (a, .inr (6, [.ref b1, .ref q5, .ref q16, .ref q27, .ref q40, .ref q49, .int 0, .int 0, .int 0, .int 1, .int 0, .int (-2000000005), .int 0, .int 0])) ++ [(q5, .inr (5, [.int 0, .int 0, .int 0])), (q16, .inr (5, [.int 0, .int 0, .int 0])), (q27, .inr (5, [.int 0, .int 0, .int 0])), (q40, .inl (eY E 3, 40, .inr (.inr (.inr (.inr (fun _ => none)))))), (q49, .inl (eY E 0, 40, .inl (fun _ => 0)))]) H := by have h := hP; rw [v_sk hlt] at h; exact h
  have hD : va_D (eA E) (ws.set k (a, .inr (6, [.ref b1, .ref q5, .ref q16, .ref q27, .ref q40, .ref q49, .int 0, .int 0, .int 0, .int 1, .int 0, .int (-2000000005), .int 0, .int 0])) ++ [(q5, .inr (5, [.int 0, .int 0, .int 0])), (q16, .inr (5, [.int 0, .int 0, .int 0])), (q27, .inr (5, [.int 0, .int 0, .int 0])), (q40, .inl (eY E 3, 40, .inr (.inr (.inr (.inr (fun _ => none)))))), (q49, .inl (eY E 0, 40, .inl (fun _ => 0)))]) := by have h := hD; rw [v_sk hlt] at h; exact h
  refine W.widen (k := 5) (n := 89) (by decide) (by decide) ?_
  exact W.vret hx hb hr (fun t ht _ => ⟨⟨(ws.set k (a, .inr (6, [.ref b1, .ref q5, .ref q16, .ref q27, .ref q40, .ref q49, .int 0, .int 0, .int 0, .int 1, .int 0, .int (-2000000005), .int 0, .int 0])) ++ [(q5, .inr (5, [.int 0, .int 0, .int 0])), (q16, .inr (5, [.int 0, .int 0, .int 0])), (q27, .inr (5, [.int 0, .int 0, .int 0])), (q40, .inl (eY E 3, 40, .inr (.inr (.inr (.inr (fun _ => none)))))), (q49, .inl (eY E 0, 40, .inl (fun _ => 0)))]), rfl, ⟨q5, q16, q27, q40, q49, by rfl⟩, by dsimp only; rw [ht]; exact ⟨hP, hD⟩⟩, hS.F ht⟩) hS.2.2 dX6_init_100
