set_option maxHeartbeats 4000000 in
set_option maxRecDepth 100000 in
theorem c_X4_init (l : Launch) (E : gEE) (ws : va_W) (k a : Nat) (hk : ws[k]? = some (a, .inr (4, [.int 0, .int 0, .int 0]))) : Met l yX4_init wsX4_init ({ frames := 1, cells := 0, slots := 0, locals := 12 }) (va_Pc [.ref a] (gP1 E ws)) (va_Qv (fun u : va_W => u = (ws.set k (a, .inr (4, [.int 0, .int 0, .int 0])) ++ [])) (fun u t => gV E u t.heap) (eA E)) 0 0 (eA E) := by
  refine Met.ofW (cc := cX4_init) (maxL := 1) (ret := none) (by decide) rfl ?_
  intro p e s m args below meth c s₁ B hml hv
  obtain ⟨rfl, hE1, hV⟩ := hv
  have hE := hE1.1
  have hx := B.exec
  have hb := B.bytes
  have hr := B.returns
  have hts := atoms_spec (ws := wsX4_init) B.pre
  have hown : s.vm.findClass RX4 = some m.cls := findClass_of_methodNamed B.named
  have hlocks := B.notSynchronized
  have hin2 : meth.name = "<init>" := (name_of_methodNamed B.named B.method).1
  have hinX4 : ∀ w ∈ wsX40, w ∈ wsX4_init := by decide +kernel
  have hS : va_S (eA E) s.heap s.heap [] := va_S.rf
  have hlt := v_lt hk
  have hl := lv_entry ([.ref a]) (n := 1) (Nat.le_of_ble_eq_true rfl)
  rw [lg_entry_eq]
  generalize (lg_sl ([.ref a]) ++ List.replicate (1 - (lg_sl ([.ref a])).length) Slot.unset).toArray = ls at hl ⊢
  have hl : lv_has ls 1 [(0, .ref a)] := hl
  obtain ⟨H, locs, eH, el, hP, hD, hS⟩ : ∃ (H : Heap) (locs : List Loc), H = s.heap ∧ locs = [] ∧ va_P (eD E) vwCl (ws.set k (a, .inr (4, [.int 0, .int 0, .int 0])) ++ []) H ∧ va_D (eA E) (ws.set k (a, .inr (4, [.int 0, .int 0, .int 0])) ++ []) ∧ va_S (eA E) s.heap H locs := ⟨_, _, rfl, rfl, by rw [List.append_nil, v_0 hk]; exact hV.1, by rw [List.append_nil, v_0 hk]; exact hV.2, hS⟩
  rw [← eH, ← el]
  clear eH el
  refine lv_aload_n hx hb dX4_init_0 rfl (lv_at hl 0 rfl) ?_
  refine W.objInit hx hb hown (hts (.methodLink RX4 3 objectInit) (by decide +kernel)) (hts (.instanceMethod objectInit) (by decide +kernel)) (hts (.code objectInit ⟨#[0xb1]⟩ 1 none) (by decide +kernel)) rfl (by rw [hml]; exact hl.1) rfl dX4_init_1 (Nat.le_of_ble_eq_true rfl) (Nat.le_of_ble_eq_true rfl) ?_
  refine W.eq (g2 := F0 m 4 ls []) rfl ?_
  refine lv_aload_n hx hb dX4_init_4 rfl (lv_at hl 0 rfl) ?_
  refine lv_iconst (v := 0) hx hb dX4_init_5 (by decide) ?_
  refine va_put (D := eD E) (cl := vwCl) (tys := eT E) (A := eA E) (ci := 4) (C := RX4) (T := TX4) (N := 3) (v := .int 0) (ty := .int) hx hb hts hinX4 tyX4 tyX4_ok nmX4 hown hE.1 hP hD hS k (v_gk hlt) rfl 0 (by decide) (hts (.fieldLink RX4 9 "DialGarden$Range" "size" "I") (by decide +kernel)) (fun _ h9 => h9) rfl (by decide +kernel) rfl rfl (Nat.le_of_ble_eq_true rfl) dX4_init_6 (fun H locs hP hD hS => ?_)
  have hP : va_P (eD E) vwCl (ws.set k (a, .inr (4, [.int 0, .int 0, .int 0])) ++ []) H := by have h := hP; rw [v_sk hlt] at h; exact h
  have hD : va_D (eA E) (ws.set k (a, .inr (4, [.int 0, .int 0, .int 0])) ++ []) := by have h := hD; rw [v_sk hlt] at h; exact h
  refine lv_aload_n hx hb dX4_init_9 rfl (lv_at hl 0 rfl) ?_
  refine lv_iconst (v := 0) hx hb dX4_init_10 (by decide) ?_
  refine va_put (D := eD E) (cl := vwCl) (tys := eT E) (A := eA E) (ci := 4) (C := RX4) (T := TX4) (N := 3) (v := .int 0) (ty := .int) hx hb hts hinX4 tyX4 tyX4_ok nmX4 hown hE.1 hP hD hS k (v_gk hlt) rfl 1 (by decide) (hts (.fieldLink RX4 15 "DialGarden$Range" "least" "I") (by decide +kernel)) (fun _ h9 => h9) rfl (by decide +kernel) rfl rfl (Nat.le_of_ble_eq_true rfl) dX4_init_11 (fun H locs hP hD hS => ?_)
  have hP : va_P (eD E) vwCl (ws.set k (a, .inr (4, [.int 0, .int 0, .int 0])) ++ []) H := by have h := hP; rw [v_sk hlt] at h; exact h
  have hD : va_D (eA E) (ws.set k (a, .inr (4, [.int 0, .int 0, .int 0])) ++ []) := by have h := hD; rw [v_sk hlt] at h; exact h
  refine lv_aload_n hx hb dX4_init_14 rfl (lv_at hl 0 rfl) ?_
  refine lv_iconst (v := 0) hx hb dX4_init_15 (by decide) ?_
  refine va_put (D := eD E) (cl := vwCl) (tys := eT E) (A := eA E) (ci := 4) (C := RX4) (T := TX4) (N := 3) (v := .int 0) (ty := .int) hx hb hts hinX4 tyX4 tyX4_ok nmX4 hown hE.1 hP hD hS k (v_gk hlt) rfl 2 (by decide) (hts (.fieldLink RX4 18 "DialGarden$Range" "greatest" "I") (by decide +kernel)) (fun _ h9 => h9) rfl (by decide +kernel) rfl rfl (Nat.le_of_ble_eq_true rfl) dX4_init_16 (fun H locs hP hD hS => ?_)
  have hP : va_P (eD E) vwCl (ws.set k (a, .inr (4, [.int 0, .int 0, .int 0])) ++ []) H := by have h := hP; rw [v_sk hlt] at h; exact h
  have hD : va_D (eA E) (ws.set k (a, .inr (4, [.int 0, .int 0, .int 0])) ++ []) := by have h := hD; rw [v_sk hlt] at h; exact h
  refine W.widen (k := 0) (n := 0) (by decide) (by decide) ?_
  exact W.vret hx hb hr (fun t ht _ => ⟨⟨(ws.set k (a, .inr (4, [.int 0, .int 0, .int 0])) ++ []), rfl, by rfl, by dsimp only; rw [ht]; exact ⟨hP, hD⟩⟩, hS.F ht⟩) hS.2.2 dX4_init_19
