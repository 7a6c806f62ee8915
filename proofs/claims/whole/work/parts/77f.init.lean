set_option maxHeartbeats 4000000 in
set_option maxRecDepth 100000 in
theorem c_X7_init (l : Launch) (E : gEE) (ws : va_W) (k a : Nat) (hk : ws[k]? = some (a, .inr (7, [.null, .null, .null, .null, .int 0]))) : Met l yX7_init wsX7_init ({ frames := 1, cells := 4, slots := 80, locals := 12 }) (va_Pc [.ref a] (gP1 E ws)) (va_Qv (fun u : va_W => ∃ q7 q15 q23 q31 : Nat, u = (ws.set k (a, .inr (7, [.ref q7, .ref q15, .ref q23, .ref q31, .int 0])) ++ [(q7, .inl (eY E 0, 20, .inl (fun _ => 0))), (q15, .inl (eY E 0, 20, .inl (fun _ => 0))), (q23, .inl (eY E 0, 20, .inl (fun _ => 0))), (q31, .inl (eY E 0, 20, .inl (fun _ => 0)))])) (fun u t => gV E u t.heap) (eA E)) 4 80 (eA E) := by
  refine Met.ofW (cc := cX7_init) (maxL := 1) (ret := none) (by decide) rfl ?_
  intro p e s m args below meth c s₁ B hml hv
  obtain ⟨rfl, hE1, hV⟩ := hv
  have hE := hE1.1
  have hx := B.exec
  have hb := B.bytes
  have hr := B.returns
  have hts := atoms_spec (ws := wsX7_init) B.pre
  have hown : s.vm.findClass RX7 = some m.cls := findClass_of_methodNamed B.named
  have hlocks := B.notSynchronized
  have hin2 : meth.name = "<init>" := (name_of_methodNamed B.named B.method).1
  have hinX7 : ∀ w ∈ wsX70, w ∈ wsX7_init := by decide +kernel
  have hS : va_S (eA E) s.heap s.heap [] := va_S.rf
  have hlt := v_lt hk
  have hl := lv_entry ([.ref a]) (n := 1) (Nat.le_of_ble_eq_true rfl)
  rw [lg_entry_eq]
  generalize (lg_sl ([.ref a]) ++ List.replicate (1 - (lg_sl ([.ref a])).length) Slot.unset).toArray = ls at hl ⊢
  have hl : lv_has ls 1 [(0, .ref a)] := hl
  obtain ⟨H, locs, eH, el, hP, hD, hS⟩ : ∃ (H : Heap) (locs : List Loc), H = s.heap ∧ locs = [] ∧ va_P (eD E) vwCl (ws.set k (a, .inr (7, [.null, .null, .null, .null, .int 0])) ++ []) H ∧ va_D (eA E) (ws.set k (a, .inr (7, [.null, .null, .null, .null, .int 0])) ++ []) ∧ va_S (eA E) s.heap H locs := ⟨_, _, rfl, rfl, by rw [List.append_nil, v_0 hk]; exact hV.1, by rw [List.append_nil, v_0 hk]; exact hV.2, hS⟩
  rw [← eH, ← el]
  clear eH el
  refine lv_aload_n hx hb dX7_init_0 rfl (lv_at hl 0 rfl) ?_
  refine W.objInit hx hb hown (hts (.methodLink RX7 3 objectInit) (by decide +kernel)) (hts (.instanceMethod objectInit) (by decide +kernel)) (hts (.code objectInit ⟨#[0xb1]⟩ 1 none) (by decide +kernel)) rfl (by rw [hml]; exact hl.1) rfl dX7_init_1 (Nat.le_of_ble_eq_true rfl) (Nat.le_of_ble_eq_true rfl) ?_
  refine W.eq (g2 := F0 m 4 ls []) rfl ?_
  refine lv_aload_n hx hb dX7_init_4 rfl (lv_at hl 0 rfl) ?_
  refine lv_bipush (v := 20) hx hb dX7_init_5 (by decide) ?_
  refine va_newa (D := eD E) (cl := vwCl) (tys := eT E) (A := eA E) hx hb (atype := .int) (ty := .int) (N' := 20) (a0 := (20, .inl (fun _ => 0))) (hts (.arrayClass .int) (by decide +kernel)) rfl hE.1 hP hD hS hE.2.1 (ha_i 20) (by decide) rfl (by decide +kernel) (Nat.le_of_ble_eq_true rfl) (Nat.le_of_ble_eq_true rfl) dX7_init_7 (fun q7 cA H hK9 hP hD hS => ?_)
  have ecA : cA = eY E 0 := v_ra (hK9.2 5 _ rfl).2 (hE.1.2 0 _ rfl).2
  subst ecA
  clear hK9
  have hP : va_P (eD E) vwCl (ws.set k (a, .inr (7, [.null, .null, .null, .null, .int 0])) ++ [(q7, .inl (eY E 0, 20, .inl (fun _ => 0)))]) H := by have h := hP; rw [List.append_assoc] at h; exact h
  have hD : va_D (eA E) (ws.set k (a, .inr (7, [.null, .null, .null, .null, .int 0])) ++ [(q7, .inl (eY E 0, 20, .inl (fun _ => 0)))]) := by have h := hD; rw [List.append_assoc] at h; exact h
  refine va_putF (D := eD E) (cl := vwCl) (tys := eT E) (A := eA E) (ci := 7) (C := RX7) (T := TX7) (N := 5) (v := .ref q7) (ty := .array .int) hx hb hts hinX7 tyX7 tyX7_ok nmX7 hown hE.1 hP hD hS k (v_gk hlt) rfl 0 (by decide) (hts (.fieldLink RX7 9 "DialGarden$Sights" "days" "[I") (by decide +kernel)) (fun _ h9 => h9) rfl hin2 rfl (by decide +kernel) rfl rfl (Nat.le_of_ble_eq_true rfl) dX7_init_9 (fun H locs hP hD hS => ?_)
  have hP : va_P (eD E) vwCl (ws.set k (a, .inr (7, [.ref q7, .null, .null, .null, .int 0])) ++ [(q7, .inl (eY E 0, 20, .inl (fun _ => 0)))]) H := by have h := hP; rw [v_sk hlt] at h; exact h
  have hD : va_D (eA E) (ws.set k (a, .inr (7, [.ref q7, .null, .null, .null, .int 0])) ++ [(q7, .inl (eY E 0, 20, .inl (fun _ => 0)))]) := by have h := hD; rw [v_sk hlt] at h; exact h
  refine lv_aload_n hx hb dX7_init_12 rfl (lv_at hl 0 rfl) ?_
  refine lv_bipush (v := 20) hx hb dX7_init_13 (by decide) ?_
  refine va_newa (D := eD E) (cl := vwCl) (tys := eT E) (A := eA E) hx hb (atype := .int) (ty := .int) (N' := 20) (a0 := (20, .inl (fun _ => 0))) (hts (.arrayClass .int) (by decide +kernel)) rfl hE.1 hP hD hS hE.2.1 (ha_i 20) (by decide) rfl (by decide +kernel) (Nat.le_of_ble_eq_true rfl) (Nat.le_of_ble_eq_true rfl) dX7_init_15 (fun q15 cA H hK9 hP hD hS => ?_)
  have ecA : cA = eY E 0 := v_ra (hK9.2 5 _ rfl).2 (hE.1.2 0 _ rfl).2
  subst ecA
  clear hK9
  have hP : va_P (eD E) vwCl (ws.set k (a, .inr (7, [.ref q7, .null, .null, .null, .int 0])) ++ [(q7, .inl (eY E 0, 20, .inl (fun _ => 0))), (q15, .inl (eY E 0, 20, .inl (fun _ => 0)))]) H := by have h := hP; rw [List.append_assoc] at h; exact h
  have hD : va_D (eA E) (ws.set k (a, .inr (7, [.ref q7, .null, .null, .null, .int 0])) ++ [(q7, .inl (eY E 0, 20, .inl (fun _ => 0))), (q15, .inl (eY E 0, 20, .inl (fun _ => 0)))]) := by have h := hD; rw [List.append_assoc] at h; exact h
  refine va_putF (D := eD E) (cl := vwCl) (tys := eT E) (A := eA E) (ci := 7) (C := RX7) (T := TX7) (N := 5) (v := .ref q15) (ty := .array .int) hx hb hts hinX7 tyX7 tyX7_ok nmX7 hown hE.1 hP hD hS k (v_gk hlt) rfl 1 (by decide) (hts (.fieldLink RX7 15 "DialGarden$Sights" "minutes" "[I") (by decide +kernel)) (fun _ h9 => h9) rfl hin2 rfl (by decide +kernel) rfl rfl (Nat.le_of_ble_eq_true rfl) dX7_init_17 (fun H locs hP hD hS => ?_)
  have hP : va_P (eD E) vwCl (ws.set k (a, .inr (7, [.ref q7, .ref q15, .null, .null, .int 0])) ++ [(q7, .inl (eY E 0, 20, .inl (fun _ => 0))), (q15, .inl (eY E 0, 20, .inl (fun _ => 0)))]) H := by have h := hP; rw [v_sk hlt] at h; exact h
  have hD : va_D (eA E) (ws.set k (a, .inr (7, [.ref q7, .ref q15, .null, .null, .int 0])) ++ [(q7, .inl (eY E 0, 20, .inl (fun _ => 0))), (q15, .inl (eY E 0, 20, .inl (fun _ => 0)))]) := by have h := hD; rw [v_sk hlt] at h; exact h
  refine lv_aload_n hx hb dX7_init_20 rfl (lv_at hl 0 rfl) ?_
  refine lv_bipush (v := 20) hx hb dX7_init_21 (by decide) ?_
  refine va_newa (D := eD E) (cl := vwCl) (tys := eT E) (A := eA E) hx hb (atype := .int) (ty := .int) (N' := 20) (a0 := (20, .inl (fun _ => 0))) (hts (.arrayClass .int) (by decide +kernel)) rfl hE.1 hP hD hS hE.2.1 (ha_i 20) (by decide) rfl (by decide +kernel) (Nat.le_of_ble_eq_true rfl) (Nat.le_of_ble_eq_true rfl) dX7_init_23 (fun q23 cA H hK9 hP hD hS => ?_)
  have ecA : cA = eY E 0 := v_ra (hK9.2 5 _ rfl).2 (hE.1.2 0 _ rfl).2
  subst ecA
  clear hK9
  have hP : va_P (eD E) vwCl (ws.set k (a, .inr (7, [.ref q7, .ref q15, .null, .null, .int 0])) ++ [(q7, .inl (eY E 0, 20, .inl (fun _ => 0))), (q15, .inl (eY E 0, 20, .inl (fun _ => 0))), (q23, .inl (eY E 0, 20, .inl (fun _ => 0)))]) H := by have h := hP; rw [List.append_assoc] at h; exact h
  have hD : va_D (eA E) (ws.set k (a, .inr (7, [.ref q7, .ref q15, .null, .null, .int 0])) ++ [(q7, .inl (eY E 0, 20, .inl (fun _ => 0))), (q15, .inl (eY E 0, 20, .inl (fun _ => 0))), (q23, .inl (eY E 0, 20, .inl (fun _ => 0)))]) := by have h := hD; rw [List.append_assoc] at h; exact h
  refine va_putF (D := eD E) (cl := vwCl) (tys := eT E) (A := eA E) (ci := 7) (C := RX7) (T := TX7) (N := 5) (v := .ref q23) (ty := .array .int) hx hb hts hinX7 tyX7 tyX7_ok nmX7 hown hE.1 hP hD hS k (v_gk hlt) rfl 2 (by decide) (hts (.fieldLink RX7 18 "DialGarden$Sights" "xs" "[I") (by decide +kernel)) (fun _ h9 => h9) rfl hin2 rfl (by decide +kernel) rfl rfl (Nat.le_of_ble_eq_true rfl) dX7_init_25 (fun H locs hP hD hS => ?_)
  have hP : va_P (eD E) vwCl (ws.set k (a, .inr (7, [.ref q7, .ref q15, .ref q23, .null, .int 0])) ++ [(q7, .inl (eY E 0, 20, .inl (fun _ => 0))), (q15, .inl (eY E 0, 20, .inl (fun _ => 0))), (q23, .inl (eY E 0, 20, .inl (fun _ => 0)))]) H := by have h := hP; rw [v_sk hlt] at h; exact h
  have hD : va_D (eA E) (ws.set k (a, .inr (7, [.ref q7, .ref q15, .ref q23, .null, .int 0])) ++ [(q7, .inl (eY E 0, 20, .inl (fun _ => 0))), (q15, .inl (eY E 0, 20, .inl (fun _ => 0))), (q23, .inl (eY E 0, 20, .inl (fun _ => 0)))]) := by have h := hD; rw [v_sk hlt] at h; exact h
  refine lv_aload_n hx hb dX7_init_28 rfl (lv_at hl 0 rfl) ?_
  refine lv_bipush (v := 20) hx hb dX7_init_29 (by decide) ?_
  refine va_newa (D := eD E) (cl := vwCl) (tys := eT E) (A := eA E) hx hb (atype := .int) (ty := .int) (N' := 20) (a0 := (20, .inl (fun _ => 0))) (hts (.arrayClass .int) (by decide +kernel)) rfl hE.1 hP hD hS hE.2.1 (ha_i 20) (by decide) rfl (by decide +kernel) (Nat.le_of_ble_eq_true rfl) (Nat.le_of_ble_eq_true rfl) dX7_init_31 (fun q31 cA H hK9 hP hD hS => ?_)
  have ecA : cA = eY E 0 := v_ra (hK9.2 5 _ rfl).2 (hE.1.2 0 _ rfl).2
  subst ecA
  clear hK9
  have hP : va_P (eD E) vwCl (ws.set k (a, .inr (7, [.ref q7, .ref q15, .ref q23, .null, .int 0])) ++ [(q7, .inl (eY E 0, 20, .inl (fun _ => 0))), (q15, .inl (eY E 0, 20, .inl (fun _ => 0))), (q23, .inl (eY E 0, 20, .inl (fun _ => 0))), (q31, .inl (eY E 0, 20, .inl (fun _ => 0)))]) H := by have h := hP; rw [List.append_assoc] at h; exact h
  have hD : va_D (eA E) (ws.set k (a, .inr (7, [.ref q7, .ref q15, .ref q23, .null, .int 0])) ++ [(q7, .inl (eY E 0, 20, .inl (fun _ => 0))), (q15, .inl (eY E 0, 20, .inl (fun _ => 0))), (q23, .inl (eY E 0, 20, .inl (fun _ => 0))), (q31, .inl (eY E 0, 20, .inl (fun _ => 0)))]) := by have h := hD; rw [List.append_assoc] at h; exact h
  refine va_putF (D := eD E) (cl := vwCl) (tys := eT E) (A := eA E) (ci := 7) (C := RX7) (T := TX7) (N := 5) (v := .ref q31) (ty := .array .int) hx hb hts hinX7 tyX7 tyX7_ok nmX7 hown hE.1 hP hD hS k (v_gk hlt) rfl 3 (by decide) (hts (.fieldLink RX7 21 "DialGarden$Sights" "ys" "[I") (by decide +kernel)) (fun _ h9 => h9) rfl hin2 rfl (by decide +kernel) rfl rfl (Nat.le_of_ble_eq_true rfl) dX7_init_33 (fun H locs hP hD hS => ?_)
  have hP : va_P (eD E) vwCl (ws.set k (a, .inr (7, [.ref q7, .ref q15, .ref q23, .ref q31, .int 0])) ++ [(q7, .inl (eY E 0, 20, .inl (fun _ => 0))), (q15, .inl (eY E 0, 20, .inl (fun _ => 0))), (q23, .inl (eY E 0, 20, .inl (fun _ => 0))), (q31, .inl (eY E 0, 20, .inl (fun _ => 0)))]) H := by have h := hP; rw [v_sk hlt] at h; exact h
  have hD : va_D (eA E) (ws.set k (a, .inr (7, [.ref q7, .ref q15, .ref q23, .ref q31, .int 0])) ++ [(q7, .inl (eY E 0, 20, .inl (fun _ => 0))), (q15, .inl (eY E 0, 20, .inl (fun _ => 0))), (q23, .inl (eY E 0, 20, .inl (fun _ => 0))), (q31, .inl (eY E 0, 20, .inl (fun _ => 0)))]) := by have h := hD; rw [v_sk hlt] at h; exact h
  refine lv_aload_n hx hb dX7_init_36 rfl (lv_at hl 0 rfl) ?_
  refine lv_iconst (v := 0) hx hb dX7_init_37 (by decide) ?_
  refine va_put (D := eD E) (cl := vwCl) (tys := eT E) (A := eA E) (ci := 7) (C := RX7) (T := TX7) (N := 5) (v := .int 0) (ty := .int) hx hb hts hinX7 tyX7 tyX7_ok nmX7 hown hE.1 hP hD hS k (v_gk hlt) rfl 4 (by decide) (hts (.fieldLink RX7 24 "DialGarden$Sights" "size" "I") (by decide +kernel)) (fun _ h9 => h9) rfl (by decide +kernel) rfl rfl (Nat.le_of_ble_eq_true rfl) dX7_init_38 (fun H locs hP hD hS => ?_)
  have hP : va_P (eD E) vwCl (ws.set k (a, .inr (7, [.ref q7, .ref q15, .ref q23, .ref q31, .int 0])) ++ [(q7, .inl (eY E 0, 20, .inl (fun _ => 0))), (q15, .inl (eY E 0, 20, .inl (fun _ => 0))), (q23, .inl (eY E 0, 20, .inl (fun _ => 0))), (q31, .inl (eY E 0, 20, .inl (fun _ => 0)))]) H := by have h := hP; rw [v_sk hlt] at h; exact h
  have hD : va_D (eA E) (ws.set k (a, .inr (7, [.ref q7, .ref q15, .ref q23, .ref q31, .int 0])) ++ [(q7, .inl (eY E 0, 20, .inl (fun _ => 0))), (q15, .inl (eY E 0, 20, .inl (fun _ => 0))), (q23, .inl (eY E 0, 20, .inl (fun _ => 0))), (q31, .inl (eY E 0, 20, .inl (fun _ => 0)))]) := by have h := hD; rw [v_sk hlt] at h; exact h
  refine W.widen (k := 4) (n := 80) (by decide) (by decide) ?_
  exact W.vret hx hb hr (fun t ht _ => ⟨⟨(ws.set k (a, .inr (7, [.ref q7, .ref q15, .ref q23, .ref q31, .int 0])) ++ [(q7, .inl (eY E 0, 20, .inl (fun _ => 0))), (q15, .inl (eY E 0, 20, .inl (fun _ => 0))), (q23, .inl (eY E 0, 20, .inl (fun _ => 0))), (q31, .inl (eY E 0, 20, .inl (fun _ => 0)))]), rfl, ⟨q7, q15, q23, q31, by rfl⟩, by dsimp only; rw [ht]; exact ⟨hP, hD⟩⟩, hS.F ht⟩) hS.2.2 dX7_init_41
