set_option maxHeartbeats 4000000 in
set_option maxRecDepth 100000 in
theorem c_X8_init (l : Launch) (E : gEE) (ws : va_W) (k a : Nat) (hk : ws[k]? = some (a, .inr (8, [.null, .int 0, .int 0, .int 0, .int 0, .int 0, .int 0, .int 0, .int 0, .int 0, .int 0, .int 0, .int 0, .int 0, .int 0, .int 0]))) : Met l yX8_init wsX8_init ({ frames := 3, cells := 1, slots := 366, locals := 65 }) (va_Pc [.ref a] (gP1 E ws)) (va_Qv (fun u : va_W => ∃ q8 : Nat, u = (ws.set k (a, .inr (8, [.ref q8, .int 0, .int 8192, .int (q_X10_sineOf 8192), .int (q_X10_cosineOf 8192), .int 0, .int 0, .int 0, .int 0, .int 0, .int 0, .int 0, .int 0, .int 0, .int 0, .int 0])) ++ [(q8, .inl (eY E 0, 366, .inl (fun _ => 0)))])) (fun u t => gV E u t.heap) (eA E)) 1 366 (eA E) := by
  refine Met.ofW (cc := cX8_init) (maxL := 1) (ret := none) (by decide) rfl ?_
  intro p e s m args below meth c s₁ B hml hv
  obtain ⟨rfl, hE1, hV⟩ := hv
  have hE := hE1.1
  have hx := B.exec
  have hb := B.bytes
  have hr := B.returns
  have hts := atoms_spec (ws := wsX8_init) B.pre
  have hown : s.vm.findClass RX8 = some m.cls := findClass_of_methodNamed B.named
  have hlocks := B.notSynchronized
  have hin2 : meth.name = "<init>" := (name_of_methodNamed B.named B.method).1
  have hinX8 : ∀ w ∈ wsX80, w ∈ wsX8_init := by decide +kernel
  have hS : va_S (eA E) s.heap s.heap [] := va_S.rf
  have hlt := v_lt hk
  have hl := lv_entry ([.ref a]) (n := 1) (Nat.le_of_ble_eq_true rfl)
  rw [lg_entry_eq]
  generalize (lg_sl ([.ref a]) ++ List.replicate (1 - (lg_sl ([.ref a])).length) Slot.unset).toArray = ls at hl ⊢
  have hl : lv_has ls 1 [(0, .ref a)] := hl
  obtain ⟨H, locs, eH, el, hP, hD, hS⟩ : ∃ (H : Heap) (locs : List Loc), H = s.heap ∧ locs = [] ∧ va_P (eD E) vwCl (ws.set k (a, .inr (8, [.null, .int 0, .int 0, .int 0, .int 0, .int 0, .int 0, .int 0, .int 0, .int 0, .int 0, .int 0, .int 0, .int 0, .int 0, .int 0])) ++ []) H ∧ va_D (eA E) (ws.set k (a, .inr (8, [.null, .int 0, .int 0, .int 0, .int 0, .int 0, .int 0, .int 0, .int 0, .int 0, .int 0, .int 0, .int 0, .int 0, .int 0, .int 0])) ++ []) ∧ va_S (eA E) s.heap H locs := ⟨_, _, rfl, rfl, by rw [List.append_nil, v_0 hk]; exact hV.1, by rw [List.append_nil, v_0 hk]; exact hV.2, hS⟩
  rw [← eH, ← el]
  clear eH el
  refine lv_aload_n hx hb dX8_init_0 rfl (lv_at hl 0 rfl) ?_
  refine W.objInit hx hb hown (hts (.methodLink RX8 3 objectInit) (by decide +kernel)) (hts (.instanceMethod objectInit) (by decide +kernel)) (hts (.code objectInit ⟨#[0xb1]⟩ 1 none) (by decide +kernel)) rfl (by rw [hml]; exact hl.1) rfl dX8_init_1 (Nat.le_of_ble_eq_true rfl) (Nat.le_of_ble_eq_true rfl) ?_
  refine W.eq (g2 := F0 m 4 ls []) rfl ?_
  refine lv_aload_n hx hb dX8_init_4 rfl (lv_at hl 0 rfl) ?_
  refine lv_sipush (v := 366) hx hb dX8_init_5 (by decide) ?_
  refine va_newa (D := eD E) (cl := vwCl) (tys := eT E) (A := eA E) hx hb (atype := .int) (ty := .int) (N' := 366) (a0 := (366, .inl (fun _ => 0))) (hts (.arrayClass .int) (by decide +kernel)) rfl hE.1 hP hD hS hE.2.1 (ha_i 366) (by decide) rfl (by decide +kernel) (Nat.le_of_ble_eq_true rfl) (Nat.le_of_ble_eq_true rfl) dX8_init_8 (fun q8 cA H hK9 hP hD hS => ?_)
  have ecA : cA = eY E 0 := v_ra (hK9.2 5 _ rfl).2 (hE.1.2 0 _ rfl).2
  subst ecA
  clear hK9
  have hP : va_P (eD E) vwCl (ws.set k (a, .inr (8, [.null, .int 0, .int 0, .int 0, .int 0, .int 0, .int 0, .int 0, .int 0, .int 0, .int 0, .int 0, .int 0, .int 0, .int 0, .int 0])) ++ [(q8, .inl (eY E 0, 366, .inl (fun _ => 0)))]) H := by have h := hP; rw [List.append_assoc] at h; exact h
  have hD : va_D (eA E) (ws.set k (a, .inr (8, [.null, .int 0, .int 0, .int 0, .int 0, .int 0, .int 0, .int 0, .int 0, .int 0, .int 0, .int 0, .int 0, .int 0, .int 0, .int 0])) ++ [(q8, .inl (eY E 0, 366, .inl (fun _ => 0)))]) := by have h := hD; rw [List.append_assoc] at h; exact h
  refine va_putF (D := eD E) (cl := vwCl) (tys := eT E) (A := eA E) (ci := 8) (C := RX8) (T := TX8) (N := 16) (v := .ref q8) (ty := .array .int) hx hb hts hinX8 tyX8 tyX8_ok nmX8 hown hE.1 hP hD hS k (v_gk hlt) rfl 0 (by decide) (hts (.fieldLink RX8 9 "DialGarden$Sky" "corrections" "[I") (by decide +kernel)) (fun _ h9 => h9) rfl hin2 rfl (by decide +kernel) rfl rfl (Nat.le_of_ble_eq_true rfl) dX8_init_10 (fun H locs hP hD hS => ?_)
  have hP : va_P (eD E) vwCl (ws.set k (a, .inr (8, [.ref q8, .int 0, .int 0, .int 0, .int 0, .int 0, .int 0, .int 0, .int 0, .int 0, .int 0, .int 0, .int 0, .int 0, .int 0, .int 0])) ++ [(q8, .inl (eY E 0, 366, .inl (fun _ => 0)))]) H := by have h := hP; rw [v_sk hlt] at h; exact h
  have hD : va_D (eA E) (ws.set k (a, .inr (8, [.ref q8, .int 0, .int 0, .int 0, .int 0, .int 0, .int 0, .int 0, .int 0, .int 0, .int 0, .int 0, .int 0, .int 0, .int 0, .int 0])) ++ [(q8, .inl (eY E 0, 366, .inl (fun _ => 0)))]) := by have h := hD; rw [v_sk hlt] at h; exact h
  refine lv_aload_n hx hb dX8_init_13 rfl (lv_at hl 0 rfl) ?_
  refine lv_iconst (v := 0) hx hb dX8_init_14 (by decide) ?_
  refine va_put (D := eD E) (cl := vwCl) (tys := eT E) (A := eA E) (ci := 8) (C := RX8) (T := TX8) (N := 16) (v := .int 0) (ty := .int) hx hb hts hinX8 tyX8 tyX8_ok nmX8 hown hE.1 hP hD hS k (v_gk hlt) rfl 1 (by decide) (hts (.fieldLink RX8 15 "DialGarden$Sky" "known" "I") (by decide +kernel)) (fun _ h9 => h9) rfl (by decide +kernel) rfl rfl (Nat.le_of_ble_eq_true rfl) dX8_init_15 (fun H locs hP hD hS => ?_)
  have hP : va_P (eD E) vwCl (ws.set k (a, .inr (8, [.ref q8, .int 0, .int 0, .int 0, .int 0, .int 0, .int 0, .int 0, .int 0, .int 0, .int 0, .int 0, .int 0, .int 0, .int 0, .int 0])) ++ [(q8, .inl (eY E 0, 366, .inl (fun _ => 0)))]) H := by have h := hP; rw [v_sk hlt] at h; exact h
  have hD : va_D (eA E) (ws.set k (a, .inr (8, [.ref q8, .int 0, .int 0, .int 0, .int 0, .int 0, .int 0, .int 0, .int 0, .int 0, .int 0, .int 0, .int 0, .int 0, .int 0, .int 0])) ++ [(q8, .inl (eY E 0, 366, .inl (fun _ => 0)))]) := by have h := hD; rw [v_sk hlt] at h; exact h
  refine lv_aload_n hx hb dX8_init_18 rfl (lv_at hl 0 rfl) ?_
  refine lv_sipush (v := 8192) hx hb dX8_init_19 (by decide) ?_
  refine va_callv (va_runV (As := [.int 8192]) (rest := []) ⟨hx, hb, hml, hown, hts⟩ (c2_X8_setLatitude l E (ws.set k (a, .inr (8, [.ref q8, .int 0, .int 0, .int 0, .int 0, .int 0, .int 0, .int 0, .int 0, .int 0, .int 0, .int 0, .int 0, .int 0, .int 0, .int 0])) ++ [(q8, .inl (eY E 0, 366, .inl (fun _ => 0)))]) k a 8192 q8 (v_gk hlt)) (cwV 1 hts gX8_init_X8_setLatitude rfl rfl rfl (by decide +kernel) ⟨Nat.le_of_ble_eq_true rfl, Nat.le_of_ble_eq_true rfl⟩) (gP1.V (ci := 8) (q := (RX8, TX8, 16)) hE1 hS ⟨hP, hD⟩ rfl (v_gk hlt)) rfl rfl hl.1 rfl (lv_room (Nat.le_of_ble_eq_true rfl)) dX8_init_22 ⟨Nat.le_of_ble_eq_true rfl, Nat.le_of_ble_eq_true rfl⟩) hS (fun _ _ h => h) (fun _ h => h) (fun u t H locs ht hvm hw hB hz1 hk1 hS => ?_)
  have eu := hw
  subst eu
  rw [ht] at hB
  have hP : va_P (eD E) vwCl (ws.set k (a, .inr (8, [.ref q8, .int 0, .int 8192, .int (q_X10_sineOf 8192), .int (q_X10_cosineOf 8192), .int 0, .int 0, .int 0, .int 0, .int 0, .int 0, .int 0, .int 0, .int 0, .int 0, .int 0])) ++ [(q8, .inl (eY E 0, 366, .inl (fun _ => 0)))]) H := by have h := hB.1; rw [v_sk hlt, List.append_assoc] at h; exact h
  have hD : va_D (eA E) (ws.set k (a, .inr (8, [.ref q8, .int 0, .int 8192, .int (q_X10_sineOf 8192), .int (q_X10_cosineOf 8192), .int 0, .int 0, .int 0, .int 0, .int 0, .int 0, .int 0, .int 0, .int 0, .int 0, .int 0])) ++ [(q8, .inl (eY E 0, 366, .inl (fun _ => 0)))]) := by have h := hB.2; rw [v_sk hlt, List.append_assoc] at h; exact h
  refine W.widen (k := 1) (n := 366) (by decide) (by decide) ?_
  exact W.vret hx hb hr (fun t ht _ => ⟨⟨(ws.set k (a, .inr (8, [.ref q8, .int 0, .int 8192, .int (q_X10_sineOf 8192), .int (q_X10_cosineOf 8192), .int 0, .int 0, .int 0, .int 0, .int 0, .int 0, .int 0, .int 0, .int 0, .int 0, .int 0])) ++ [(q8, .inl (eY E 0, 366, .inl (fun _ => 0)))]), rfl, ⟨q8, by rfl⟩, by dsimp only; rw [ht]; exact ⟨hP, hD⟩⟩, hS.F ht⟩) hS.2.2 dX8_init_25
