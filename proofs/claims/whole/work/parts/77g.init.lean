set_option maxHeartbeats 4000000 in
set_option maxRecDepth 100000 in
theorem c2_X8_setLatitude (l : Launch) (E : gEE) (ws : va_W) (k a : Nat) (p1 : Int32) (r0 : Nat) (hk : ws[k]? = some (a, .inr (8, [.ref r0, .int 0, .int 0, .int 0, .int 0, .int 0, .int 0, .int 0, .int 0, .int 0, .int 0, .int 0, .int 0, .int 0, .int 0, .int 0]))) : Met l yX8_setLatitude wsX8_setLatitude ({ frames := 2, cells := 0, slots := 0, locals := 44 }) (va_Pc [.ref a, .int p1] (gP1 E ws)) (va_Qv (fun u : va_W => u = (ws.set k (a, .inr (8, [.ref r0, .int 0, .int p1, .int (q_X10_sineOf p1), .int (q_X10_cosineOf p1), .int 0, .int 0, .int 0, .int 0, .int 0, .int 0, .int 0, .int 0, .int 0, .int 0, .int 0])) ++ [])) (fun u t => gV E u t.heap) (eA E)) 0 0 (eA E) := by
  refine Met.ofW (cc := cX8_setLatitude) (maxL := 2) (ret := none) (by decide) rfl ?_
  intro p e s m args below meth c s₁ B hml hv
  obtain ⟨rfl, hE1, hV⟩ := hv
  have hE := hE1.1
  have hx := B.exec
  have hb := B.bytes
  have hr := B.returns
  have hts := atoms_spec (ws := wsX8_setLatitude) B.pre
  have hown : s.vm.findClass RX8 = some m.cls := findClass_of_methodNamed B.named
  have hlocks := B.notSynchronized
  have hinX8 : ∀ w ∈ wsX80, w ∈ wsX8_setLatitude := by decide +kernel
  have hS : va_S (eA E) s.heap s.heap [] := va_S.rf
  have hlt := v_lt hk
  have hl := lv_entry ([.ref a, .int p1]) (n := 2) (Nat.le_of_ble_eq_true rfl)
  rw [lg_entry_eq]
  generalize (lg_sl ([.ref a, .int p1]) ++ List.replicate (2 - (lg_sl ([.ref a, .int p1])).length) Slot.unset).toArray = ls at hl ⊢
  have hl : lv_has ls 2 [(0, .ref a), (1, .int p1)] := hl
  obtain ⟨H, locs, eH, el, hP, hD, hS⟩ : ∃ (H : Heap) (locs : List Loc), H = s.heap ∧ locs = [] ∧ va_P (eD E) vwCl (ws.set k (a, .inr (8, [.ref r0, .int 0, .int 0, .int 0, .int 0, .int 0, .int 0, .int 0, .int 0, .int 0, .int 0, .int 0, .int 0, .int 0, .int 0, .int 0])) ++ []) H ∧ va_D (eA E) (ws.set k (a, .inr (8, [.ref r0, .int 0, .int 0, .int 0, .int 0, .int 0, .int 0, .int 0, .int 0, .int 0, .int 0, .int 0, .int 0, .int 0, .int 0, .int 0])) ++ []) ∧ va_S (eA E) s.heap H locs := ⟨_, _, rfl, rfl, by rw [List.append_nil, v_0 hk]; exact hV.1, by rw [List.append_nil, v_0 hk]; exact hV.2, hS⟩
  rw [← eH, ← el]
  clear eH el
  refine lv_aload_n hx hb dX8_setLatitude_0 rfl (lv_at hl 0 rfl) ?_
  refine lv_iload_n hx hb dX8_setLatitude_1 rfl (lv_at hl 1 rfl) ?_
  refine va_put (D := eD E) (cl := vwCl) (tys := eT E) (A := eA E) (ci := 8) (C := RX8) (T := TX8) (N := 16) (v := .int p1) (ty := .int) hx hb hts hinX8 tyX8 tyX8_ok nmX8 hown hE.1 hP hD hS k (v_gk hlt) rfl 2 (by decide) (hts (.fieldLink RX8 23 "DialGarden$Sky" "latitude" "I") (by decide +kernel)) (fun _ h9 => h9) rfl (by decide +kernel) rfl rfl (Nat.le_of_ble_eq_true rfl) dX8_setLatitude_2 (fun H locs hP hD hS => ?_)
  have hP : va_P (eD E) vwCl (ws.set k (a, .inr (8, [.ref r0, .int 0, .int p1, .int 0, .int 0, .int 0, .int 0, .int 0, .int 0, .int 0, .int 0, .int 0, .int 0, .int 0, .int 0, .int 0])) ++ []) H := by have h := hP; rw [v_sk hlt] at h; exact h
  have hD : va_D (eA E) (ws.set k (a, .inr (8, [.ref r0, .int 0, .int p1, .int 0, .int 0, .int 0, .int 0, .int 0, .int 0, .int 0, .int 0, .int 0, .int 0, .int 0, .int 0, .int 0])) ++ []) := by have h := hD; rw [v_sk hlt] at h; exact h
  refine lv_aload_n hx hb dX8_setLatitude_5 rfl (lv_at hl 0 rfl) ?_
  refine lv_iload_n hx hb dX8_setLatitude_6 rfl (lv_at hl 1 rfl) ?_
  refine k_Si (va_runSN (As := [.int p1]) (rest := [.ref a]) ⟨hx, hb, hml, hown, hts⟩ (c_X10_sineOf l p1) ⟨va_cnB 1 hts gX8_setLatitude_X10_sineOf_n26 rfl rfl rfl (hE.2.2.1 (.methodLinkNest "DialGarden$Sky" 26 ⟨"DialGarden", "sineOf", "(I)I"⟩ "DialGarden") (by decide +kernel)) (hts (.initialized RX10) (by decide +kernel)) (by decide +kernel) ⟨Nat.le_of_ble_eq_true rfl, Nat.le_of_ble_eq_true rfl⟩, hts (.static yX10_sineOf) (by decide +kernel), trivial⟩ gP0 rfl rfl hl.1 rfl (lv_room (Nat.le_of_ble_eq_true rfl)) dX8_setLatitude_7 ⟨Nat.le_of_ble_eq_true rfl, Nat.le_of_ble_eq_true rfl⟩) (fun r7 er7 => ?_)
  refine va_put (D := eD E) (cl := vwCl) (tys := eT E) (A := eA E) (ci := 8) (C := RX8) (T := TX8) (N := 16) (v := .int r7) (ty := .int) hx hb hts hinX8 tyX8 tyX8_ok nmX8 hown hE.1 hP hD hS k (v_gk hlt) rfl 3 (by decide) (hts (.fieldLink RX8 30 "DialGarden$Sky" "latitudeSine" "I") (by decide +kernel)) (fun _ h9 => h9) rfl (by decide +kernel) rfl rfl (Nat.le_of_ble_eq_true rfl) dX8_setLatitude_10 (fun H locs hP hD hS => ?_)
  have hP : va_P (eD E) vwCl (ws.set k (a, .inr (8, [.ref r0, .int 0, .int p1, .int r7, .int 0, .int 0, .int 0, .int 0, .int 0, .int 0, .int 0, .int 0, .int 0, .int 0, .int 0, .int 0])) ++ []) H := by have h := hP; rw [v_sk hlt] at h; exact h
  have hD : va_D (eA E) (ws.set k (a, .inr (8, [.ref r0, .int 0, .int p1, .int r7, .int 0, .int 0, .int 0, .int 0, .int 0, .int 0, .int 0, .int 0, .int 0, .int 0, .int 0, .int 0])) ++ []) := by have h := hD; rw [v_sk hlt] at h; exact h
  refine lv_aload_n hx hb dX8_setLatitude_13 rfl (lv_at hl 0 rfl) ?_
  refine lv_iload_n hx hb dX8_setLatitude_14 rfl (lv_at hl 1 rfl) ?_
  refine k_Si (va_runSN (As := [.int p1]) (rest := [.ref a]) ⟨hx, hb, hml, hown, hts⟩ (c_X10_cosineOf l p1) ⟨va_cnB 1 hts gX8_setLatitude_X10_cosineOf_n33 rfl rfl rfl (hE.2.2.1 (.methodLinkNest "DialGarden$Sky" 33 ⟨"DialGarden", "cosineOf", "(I)I"⟩ "DialGarden") (by decide +kernel)) (hts (.initialized RX10) (by decide +kernel)) (by decide +kernel) ⟨Nat.le_of_ble_eq_true rfl, Nat.le_of_ble_eq_true rfl⟩, hts (.static yX10_cosineOf) (by decide +kernel), trivial⟩ gP0 rfl rfl hl.1 rfl (lv_room (Nat.le_of_ble_eq_true rfl)) dX8_setLatitude_15 ⟨Nat.le_of_ble_eq_true rfl, Nat.le_of_ble_eq_true rfl⟩) (fun r15 er15 => ?_)
  refine va_put (D := eD E) (cl := vwCl) (tys := eT E) (A := eA E) (ci := 8) (C := RX8) (T := TX8) (N := 16) (v := .int r15) (ty := .int) hx hb hts hinX8 tyX8 tyX8_ok nmX8 hown hE.1 hP hD hS k (v_gk hlt) rfl 4 (by decide) (hts (.fieldLink RX8 36 "DialGarden$Sky" "latitudeCosine" "I") (by decide +kernel)) (fun _ h9 => h9) rfl (by decide +kernel) rfl rfl (Nat.le_of_ble_eq_true rfl) dX8_setLatitude_18 (fun H locs hP hD hS => ?_)
  have hP : va_P (eD E) vwCl (ws.set k (a, .inr (8, [.ref r0, .int 0, .int p1, .int r7, .int r15, .int 0, .int 0, .int 0, .int 0, .int 0, .int 0, .int 0, .int 0, .int 0, .int 0, .int 0])) ++ []) H := by have h := hP; rw [v_sk hlt] at h; exact h
  have hD : va_D (eA E) (ws.set k (a, .inr (8, [.ref r0, .int 0, .int p1, .int r7, .int r15, .int 0, .int 0, .int 0, .int 0, .int 0, .int 0, .int 0, .int 0, .int 0, .int 0, .int 0])) ++ []) := by have h := hD; rw [v_sk hlt] at h; exact h
  refine W.widen (k := 0) (n := 0) (by decide) (by decide) ?_
  exact W.vret hx hb hr (fun t ht _ => ⟨⟨(ws.set k (a, .inr (8, [.ref r0, .int 0, .int p1, .int r7, .int r15, .int 0, .int 0, .int 0, .int 0, .int 0, .int 0, .int 0, .int 0, .int 0, .int 0, .int 0])) ++ []), rfl, by subst er15; subst er7; rfl, by dsimp only; rw [ht]; exact ⟨hP, hD⟩⟩, hS.F ht⟩) hS.2.2 dX8_setLatitude_21
