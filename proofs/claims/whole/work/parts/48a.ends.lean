def q_X10_stateOf (S : gSc) (p1 : Nat) (p2 : Int32) (p3 : Int32) : Int32 × gSc := (let S9 := q_X6_setUp S p1; (let S18 := q_X8_setTime S9 p2 p3; (let r29 := (q_X6_cast S18).1; let S29 := (q_X6_cast S18).2; (r29, S29))))
set_option maxHeartbeats 4000000 in
set_option maxRecDepth 100000 in
theorem c_X10_stateOf (l : Launch) (E : gEE) (M : gSm) (S : gSc) (p1 : Nat) (p2 : Int32) (p3 : Int32) (hL1 : p1 ∈ S.2.2.1) (hk1 : S.2.2.2.1 p1 = 1) (hT : okR S 3 40) (hH : okH S) (hkn0 : 0 ≤ (S.1 1 1).toInt) (hkn : (S.1 1 1).toInt ≤ 366) : Met l yX10_stateOf wsX10_stateOf ({ frames := 5, cells := 0, slots := 0, locals := 114 }) (va_Pc [.ref (eC E 0), .ref (p1), .int (p2), .int (p3)] (gP E M S)) (va_Qi (fun r (u : gSc) => (r, u) = q_X10_stateOf S p1 p2 p3) (fun u t => gW E M u t.heap) (eA E)) 0 0 (eA E) := by
  refine Met.ofW (cc := cX10_stateOf) (maxL := 4) (ret := (some .int)) (by decide) rfl ?_
  intro p e s m args below meth c s₁ B hml hv
  obtain ⟨rfl, hE, hW⟩ := hv
  have hx := B.exec
  have hb := B.bytes
  have hr := B.returns
  have hts := atoms_spec (ws := wsX10_stateOf) B.pre
  have hown : s.vm.findClass RX10 = some m.cls := findClass_of_methodNamed B.named
  have hlocks := B.notSynchronized
  have hinX10 : ∀ w ∈ wsX100, w ∈ wsX10_stateOf := by decide +kernel
  have hS : va_S (eA E) s.heap s.heap [] := va_S.rf
  have hl := lv_entry ([.ref (eC E 0), .ref (p1), .int (p2), .int (p3)]) (n := 4) (Nat.le_of_ble_eq_true rfl)
  rw [lg_entry_eq]
  generalize (lg_sl ([.ref (eC E 0), .ref (p1), .int (p2), .int (p3)]) ++ List.replicate (4 - (lg_sl ([.ref (eC E 0), .ref (p1), .int (p2), .int (p3)])).length) Slot.unset).toArray = ls at hl ⊢
  have hl : lv_has ls 4 [(0, .ref (eC E 0)), (1, .ref (p1)), (2, .int (p2)), (3, .int (p3))] := hl
  have hS : ∃ (H : Heap) (locs : List Loc), H = s.heap ∧ locs = [] ∧ gW E M S H ∧ va_S (eA E) s.heap H locs := ⟨_, _, rfl, rfl, hW, hS⟩
  clear hW
  obtain ⟨H, locs, eH, el, hW, hS⟩ := hS
  rw [← eH, ← el]
  clear eH el
  refine lv_aload_n hx hb dX10_stateOf_0 rfl (lv_at hl 0 rfl) ?_
  refine va_get (D := eD E) (cl := vwCl) (tys := eT E) (ci := 9) (C := RX10) (T := TX10) (N := 12) (v := .ref (eC E 7)) hx hb hts hinX10 hown hE.1 hW.1 11 rfl rfl 3 (by decide) (hts (.fieldLink RX10 32 "DialGarden" "shade" "LDialGarden$Shade;") (by decide +kernel)) (fun _ h9 => h9) rfl dX10_stateOf_1 ?_
  refine lv_aload_n hx hb dX10_stateOf_4 rfl (lv_at hl 1 rfl) ?_
  refine lv_aload_n hx hb dX10_stateOf_5 rfl (lv_at hl 0 rfl) ?_
  refine va_get (D := eD E) (cl := vwCl) (tys := eT E) (ci := 9) (C := RX10) (T := TX10) (N := 12) (v := .ref (eC E 3)) hx hb hts hinX10 hown hE.1 hW.1 11 rfl rfl 1 (by decide) (hts (.fieldLink RX10 18 "DialGarden" "things" "[LDialGarden$Thing;") (by decide +kernel)) (fun _ h9 => h9) rfl dX10_stateOf_6 ?_
  refine va_callv (va_runV (As := [.ref (p1), .ref (eC E 3)]) (rest := []) ⟨hx, hb, hml, hown, hts⟩ (c_X6_setUp l E M S p1 hL1 hk1 hT) (cwV 2 hts gX10_stateOf_X6_setUp rfl rfl rfl (by decide +kernel) ⟨Nat.le_of_ble_eq_true rfl, Nat.le_of_ble_eq_true rfl⟩) (gP.V (ci := 6) (q := (RX6, TX6, 13)) (q0 := 18) hE hS hW rfl rfl) rfl rfl hl.1 rfl (lv_room (Nat.le_of_ble_eq_true rfl)) dX10_stateOf_9 ⟨Nat.le_of_ble_eq_true rfl, Nat.le_of_ble_eq_true rfl⟩) hS (fun _ _ h => h) (fun _ h => h) (fun S9 t H locs ht hvm hw hB hz1 hk1 hS => ?_)
  have eS9 : S9 = q_X6_setUp S p1 := hw
  clear hw
  have hW : gW E M S9 H := by rw [← ht]; exact hB
  have hpS9 : S9.2.2 = S.2.2 := by rw [eS9]; exact (qp_X6_setUp _ _)
  refine lv_aload_n hx hb dX10_stateOf_12 rfl (lv_at hl 0 rfl) ?_
  refine va_get (D := eD E) (cl := vwCl) (tys := eT E) (ci := 9) (C := RX10) (T := TX10) (N := 12) (v := .ref (eC E 1)) hx hb hts hinX10 hown hE.1 hW.1 11 rfl rfl 0 (by decide) (hts (.fieldLink RX10 10 "DialGarden" "sky" "LDialGarden$Sky;") (by decide +kernel)) (fun _ h9 => h9) rfl dX10_stateOf_13 ?_
  refine lv_iload_n hx hb dX10_stateOf_16 rfl (lv_at hl 2 rfl) ?_
  refine lv_iload_n hx hb dX10_stateOf_17 rfl (lv_at hl 3 rfl) ?_
  refine va_callv (va_runV (As := [.int (p2), .int (p3)]) (rest := []) ⟨hx, hb, hml, hown, hts⟩ (c_X8_setTime l E M S9 p2 p3 (by rw [eS9]; exact (su_kZ hT hH hkn0 hkn rfl rfl).2.1.1) (by rw [eS9]; exact (su_kZ hT hH hkn0 hkn rfl rfl).2.1.2)) (cwV 2 hts gX10_stateOf_X8_setTime rfl rfl rfl (by decide +kernel) ⟨Nat.le_of_ble_eq_true rfl, Nat.le_of_ble_eq_true rfl⟩) (gP.V (ci := 8) (q := (RX8, TX8, 16)) (q0 := 12) hE hS hW rfl rfl) rfl rfl hl.1 rfl (lv_room (Nat.le_of_ble_eq_true rfl)) dX10_stateOf_18 ⟨Nat.le_of_ble_eq_true rfl, Nat.le_of_ble_eq_true rfl⟩) hS (fun _ _ h => h) (fun _ h => h) (fun S18 t H locs ht hvm hw hB hz1 hk1 hS => ?_)
  have eS18 : S18 = q_X8_setTime S9 p2 p3 := hw
  clear hw
  have hW : gW E M S18 H := by rw [← ht]; exact hB
  have hpS18 : S18.2.2 = S9.2.2 := by rw [eS18]; exact (qp_X8_setTime _ _ _)
  refine lv_aload_n hx hb dX10_stateOf_21 rfl (lv_at hl 0 rfl) ?_
  refine va_get (D := eD E) (cl := vwCl) (tys := eT E) (ci := 9) (C := RX10) (T := TX10) (N := 12) (v := .ref (eC E 7)) hx hb hts hinX10 hown hE.1 hW.1 11 rfl rfl 3 (by decide) (hts (.fieldLink RX10 32 "DialGarden" "shade" "LDialGarden$Shade;") (by decide +kernel)) (fun _ h9 => h9) rfl dX10_stateOf_22 ?_
  refine lv_aload_n hx hb dX10_stateOf_25 rfl (lv_at hl 0 rfl) ?_
  refine va_get (D := eD E) (cl := vwCl) (tys := eT E) (ci := 9) (C := RX10) (T := TX10) (N := 12) (v := .ref (eC E 1)) hx hb hts hinX10 hown hE.1 hW.1 11 rfl rfl 0 (by decide) (hts (.fieldLink RX10 10 "DialGarden" "sky" "LDialGarden$Sky;") (by decide +kernel)) (fun _ h9 => h9) rfl dX10_stateOf_26 ?_
  refine va_calli (va_runV (As := [.ref (eC E 1)]) (rest := []) ⟨hx, hb, hml, hown, hts⟩ (c_X6_cast l E M S18 (by rw [eS18, eS9]; exact ((su_kZ hT hH hkn0 hkn rfl rfl).st (kw_setTime _ _ _)).1.1) (by rw [eS18, eS9]; exact ((su_kZ hT hH hkn0 hkn rfl rfl).st (kw_setTime _ _ _)).1.2.1) (by rw [eS18, eS9]; exact ((su_kZ hT hH hkn0 hkn rfl rfl).st (kw_setTime _ _ _)).1.2.2)) (cwV 1 hts gX10_stateOf_X6_cast rfl rfl rfl (by decide +kernel) ⟨Nat.le_of_ble_eq_true rfl, Nat.le_of_ble_eq_true rfl⟩) (gP.V (ci := 6) (q := (RX6, TX6, 13)) (q0 := 18) hE hS hW rfl rfl) rfl rfl hl.1 rfl (lv_room (Nat.le_of_ble_eq_true rfl)) dX10_stateOf_29 ⟨Nat.le_of_ble_eq_true rfl, Nat.le_of_ble_eq_true rfl⟩) hS (fun _ _ h => h) (fun _ h => h) (fun r29 S29 t H locs ht hvm hw hB hz1 hk1 hS => ?_)
  obtain ⟨er29, eS29⟩ := prj hw
  clear hw
  have hW : gW E M S29 H := by rw [← ht]; exact hB
  have hpS29 : S29.2.2 = S18.2.2 := by rw [eS29]; exact (qp_X6_cast _)
  exact W.iret (v := r29) hx hb hr (fun t ht _ => ⟨⟨r29, S29, rfl, by first | (simp only [q_X10_stateOf, ← eS9, ← eS18, ← er29, ← eS29]; done) | contradiction, by dsimp only; rw [ht]; exact hW⟩, hS.F ht⟩) hS.2.2 dX10_stateOf_32
