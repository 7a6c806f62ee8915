def q_X5_set_8 (S : gSc) (p1 : Int32) (p2 : Int32) (p3 : Int32) : gSc := pI (pI (pI S 8 0 p1) 8 1 p2) 8 2 p3
set_option maxHeartbeats 4000000 in
set_option maxRecDepth 100000 in
theorem c_X5_set_8 (l : Launch) (E : gEE) (M : gSm) (S : gSc) (p1 : Int32) (p2 : Int32) (p3 : Int32)  : Met l yX5_set wsX5_set ({ frames := 0, cells := 0, slots := 0, locals := 0 }) (va_Pc [.ref (eC E 8), .int (p1), .int (p2), .int (p3)] (gP E M S)) (va_Qv (fun u : gSc => u = q_X5_set_8 S p1 p2 p3) (fun u t => gW E M u t.heap) (eA E)) 0 0 (eA E) := by
  refine Met.ofW (cc := cX5_set) (maxL := 4) (ret := none) (by decide) rfl ?_
  intro p e s m args below meth c s₁ B hml hv
  obtain ⟨rfl, hE, hW⟩ := hv
  have hx := B.exec
  have hb := B.bytes
  have hr := B.returns
  have hts := atoms_spec (ws := wsX5_set) B.pre
  have hown : s.vm.findClass RX5 = some m.cls := findClass_of_methodNamed B.named
  have hlocks := B.notSynchronized
  have hinX5 : ∀ w ∈ wsX50, w ∈ wsX5_set := by decide +kernel
  have hS : va_S (eA E) s.heap s.heap [] := va_S.rf
  have hl := lv_entry ([.ref (eC E 8), .int (p1), .int (p2), .int (p3)]) (n := 4) (Nat.le_of_ble_eq_true rfl)
  rw [lg_entry_eq]
  generalize (lg_sl ([.ref (eC E 8), .int (p1), .int (p2), .int (p3)]) ++ List.replicate (4 - (lg_sl ([.ref (eC E 8), .int (p1), .int (p2), .int (p3)])).length) Slot.unset).toArray = ls at hl ⊢
  have hl : lv_has ls 4 [(0, .ref (eC E 8)), (1, .int (p1)), (2, .int (p2)), (3, .int (p3))] := hl
  have hS : ∃ (H : Heap) (locs : List Loc), H = s.heap ∧ locs = [] ∧ gW E M S H ∧ va_S (eA E) s.heap H locs := ⟨_, _, rfl, rfl, hW, hS⟩
  clear hW
  obtain ⟨H, locs, eH, el, hW, hS⟩ := hS
  rw [← eH, ← el]
  clear eH el
  refine lv_aload_n hx hb dX5_set_0 rfl (lv_at hl 0 rfl) ?_
  refine lv_iload_n hx hb dX5_set_1 rfl (lv_at hl 1 rfl) ?_
  refine va_put (D := eD E) (cl := vwCl) (tys := eT E) (A := eA E) (ci := 5) (C := RX5) (T := TX5) (N := 3) (v := .int (p1)) (ty := .int) hx hb hts hinX5 tyX5 tyX5_ok nmX5 hown hE.1 hW.1 hW.2 hS 19 rfl rfl 0 (by decide) (hts (.fieldLink RX5 7 "DialGarden$Row" "toEast" "I") (by decide +kernel)) (fun _ h9 => h9) rfl (by decide +kernel) rfl rfl (Nat.le_of_ble_eq_true rfl) dX5_set_2 (fun H locs hP hD hS => ?_)
  have hW : gW E M (pI S 8 0 p1) H := gW.of (uC_8_0 E M S p1) hP hD
  refine lv_aload_n hx hb dX5_set_5 rfl (lv_at hl 0 rfl) ?_
  refine lv_iload_n hx hb dX5_set_6 rfl (lv_at hl 2 rfl) ?_
  refine va_put (D := eD E) (cl := vwCl) (tys := eT E) (A := eA E) (ci := 5) (C := RX5) (T := TX5) (N := 3) (v := .int (p2)) (ty := .int) hx hb hts hinX5 tyX5 tyX5_ok nmX5 hown hE.1 hW.1 hW.2 hS 19 rfl rfl 1 (by decide) (hts (.fieldLink RX5 13 "DialGarden$Row" "toNorth" "I") (by decide +kernel)) (fun _ h9 => h9) rfl (by decide +kernel) rfl rfl (Nat.le_of_ble_eq_true rfl) dX5_set_7 (fun H locs hP hD hS => ?_)
  have hW : gW E M (pI (pI S 8 0 p1) 8 1 p2) H := gW.of (uC_8_1 E M (pI S 8 0 p1) p2) hP hD
  refine lv_aload_n hx hb dX5_set_10 rfl (lv_at hl 0 rfl) ?_
  refine lv_iload_n hx hb dX5_set_11 rfl (lv_at hl 3 rfl) ?_
  refine va_put (D := eD E) (cl := vwCl) (tys := eT E) (A := eA E) (ci := 5) (C := RX5) (T := TX5) (N := 3) (v := .int (p3)) (ty := .int) hx hb hts hinX5 tyX5 tyX5_ok nmX5 hown hE.1 hW.1 hW.2 hS 19 rfl rfl 2 (by decide) (hts (.fieldLink RX5 16 "DialGarden$Row" "toUp" "I") (by decide +kernel)) (fun _ h9 => h9) rfl (by decide +kernel) rfl rfl (Nat.le_of_ble_eq_true rfl) dX5_set_12 (fun H locs hP hD hS => ?_)
  have hW : gW E M (pI (pI (pI S 8 0 p1) 8 1 p2) 8 2 p3) H := gW.of (uC_8_2 E M (pI (pI S 8 0 p1) 8 1 p2) p3) hP hD
  exact W.vret hx hb hr (fun t ht _ => ⟨⟨pI (pI (pI S 8 0 p1) 8 1 p2) 8 2 p3, rfl, by first | (simp only [q_X5_set_8]; done) | contradiction, by dsimp only; rw [ht]; exact hW⟩, hS.F ht⟩) hS.2.2 dX5_set_15
theorem qp_X5_set_8 (S : gSc) (p1 : Int32) (p2 : Int32) (p3 : Int32) : (q_X5_set_8 S p1 p2 p3).2.2 = S.2.2 := by
  unfold q_X5_set_8
  try dsimp only
  (repeat' split) <;> first | (simp only [pI_2, sR_22]; done) | rfl

def q_X5_sunBy_8 (S : gSc)  : Int64 := ((((S.1 1 13).toInt64) * ((S.1 8 0).toInt64)) + (((S.1 1 14).toInt64) * ((S.1 8 1).toInt64))) + (((S.1 1 15).toInt64) * ((S.1 8 2).toInt64))
set_option maxHeartbeats 4000000 in
set_option maxRecDepth 100000 in
theorem c_X5_sunBy_8 (l : Launch) (E : gEE) (M : gSm) (S : gSc)   : Met l yX5_sunBy wsX5_sunBy ({ frames := 0, cells := 0, slots := 0, locals := 0 }) (va_Pc [.ref (eC E 8), .ref (eC E 1)] (gP E M S)) (vp_Sl (fun r => r = q_X5_sunBy_8 S)) 0 0 (fun _ => False) := by
  refine Met.ofW (cc := cX5_sunBy) (maxL := 2) (ret := (some .long)) (by decide) rfl ?_
  intro p e s m args below meth c s₁ B hml hv
  obtain ⟨rfl, hE, hW⟩ := hv
  have hx := B.exec
  have hb := B.bytes
  have hr := B.returns
  have hts := atoms_spec (ws := wsX5_sunBy) B.pre
  have hown : s.vm.findClass RX5 = some m.cls := findClass_of_methodNamed B.named
  have hlocks := B.notSynchronized
  have hinX5 : ∀ w ∈ wsX50, w ∈ wsX5_sunBy := by decide +kernel
  have hinX8 : ∀ w ∈ wsX80, w ∈ wsX5_sunBy := by decide +kernel
  have hS : va_S (eA E) s.heap s.heap [] := va_S.rf
  have hl := lv_entry ([.ref (eC E 8), .ref (eC E 1)]) (n := 2) (Nat.le_of_ble_eq_true rfl)
  rw [lg_entry_eq]
  generalize (lg_sl ([.ref (eC E 8), .ref (eC E 1)]) ++ List.replicate (2 - (lg_sl ([.ref (eC E 8), .ref (eC E 1)])).length) Slot.unset).toArray = ls at hl ⊢
  have hl : lv_has ls 2 [(0, .ref (eC E 8)), (1, .ref (eC E 1))] := hl
  refine lv_aload_n hx hb dX5_sunBy_0 rfl (lv_at hl 1 rfl) ?_
  refine va_getN (D := eD E) (cl := vwCl) (tys := eT E) (ci := 8) (C := RX8) (T := TX8) (N := 16) (v := .int (S.1 1 13)) hx hb hts hinX8 hown hE.1 hW.1 12 rfl rfl 13 (by decide) (va_Nw.use rfl (hE.2.2.1 (.fieldLinkNest "DialGarden$Row" 19 "DialGarden$Sky" "east" "I" "DialGarden") (by decide +kernel))) (fun _ h9 => h9) rfl dX5_sunBy_1 ?_
  refine lv_i2l (v := (S.1 1 13).toInt64) hx hb dX5_sunBy_4 rfl ?_
  refine lv_aload_n hx hb dX5_sunBy_5 rfl (lv_at hl 0 rfl) ?_
  refine va_get (D := eD E) (cl := vwCl) (tys := eT E) (ci := 5) (C := RX5) (T := TX5) (N := 3) (v := .int (S.1 8 0)) hx hb hts hinX5 hown hE.1 hW.1 19 rfl rfl 0 (by decide) (hts (.fieldLink RX5 7 "DialGarden$Row" "toEast" "I") (by decide +kernel)) (fun _ h9 => h9) rfl dX5_sunBy_6 ?_
  refine lv_i2l (v := (S.1 8 0).toInt64) hx hb dX5_sunBy_9 rfl ?_
  refine lv_lmul hx hb dX5_sunBy_10 ?_
  refine lv_aload_n hx hb dX5_sunBy_11 rfl (lv_at hl 1 rfl) ?_
  refine va_getN (D := eD E) (cl := vwCl) (tys := eT E) (ci := 8) (C := RX8) (T := TX8) (N := 16) (v := .int (S.1 1 14)) hx hb hts hinX8 hown hE.1 hW.1 12 rfl rfl 14 (by decide) (va_Nw.use rfl (hE.2.2.1 (.fieldLinkNest "DialGarden$Row" 24 "DialGarden$Sky" "north" "I" "DialGarden") (by decide +kernel))) (fun _ h9 => h9) rfl dX5_sunBy_12 ?_
  refine lv_i2l (v := (S.1 1 14).toInt64) hx hb dX5_sunBy_15 rfl ?_
  refine lv_aload_n hx hb dX5_sunBy_16 rfl (lv_at hl 0 rfl) ?_
  refine va_get (D := eD E) (cl := vwCl) (tys := eT E) (ci := 5) (C := RX5) (T := TX5) (N := 3) (v := .int (S.1 8 1)) hx hb hts hinX5 hown hE.1 hW.1 19 rfl rfl 1 (by decide) (hts (.fieldLink RX5 13 "DialGarden$Row" "toNorth" "I") (by decide +kernel)) (fun _ h9 => h9) rfl dX5_sunBy_17 ?_
  refine lv_i2l (v := (S.1 8 1).toInt64) hx hb dX5_sunBy_20 rfl ?_
  refine lv_lmul hx hb dX5_sunBy_21 ?_
  refine lv_ladd hx hb dX5_sunBy_22 ?_
  refine lv_aload_n hx hb dX5_sunBy_23 rfl (lv_at hl 1 rfl) ?_
  refine va_getN (D := eD E) (cl := vwCl) (tys := eT E) (ci := 8) (C := RX8) (T := TX8) (N := 16) (v := .int (S.1 1 15)) hx hb hts hinX8 hown hE.1 hW.1 12 rfl rfl 15 (by decide) (va_Nw.use rfl (hE.2.2.1 (.fieldLinkNest "DialGarden$Row" 27 "DialGarden$Sky" "up" "I" "DialGarden") (by decide +kernel))) (fun _ h9 => h9) rfl dX5_sunBy_24 ?_
  refine lv_i2l (v := (S.1 1 15).toInt64) hx hb dX5_sunBy_27 rfl ?_
  refine lv_aload_n hx hb dX5_sunBy_28 rfl (lv_at hl 0 rfl) ?_
  refine va_get (D := eD E) (cl := vwCl) (tys := eT E) (ci := 5) (C := RX5) (T := TX5) (N := 3) (v := .int (S.1 8 2)) hx hb hts hinX5 hown hE.1 hW.1 19 rfl rfl 2 (by decide) (hts (.fieldLink RX5 16 "DialGarden$Row" "toUp" "I") (by decide +kernel)) (fun _ h9 => h9) rfl dX5_sunBy_29 ?_
  refine lv_i2l (v := (S.1 8 2).toInt64) hx hb dX5_sunBy_32 rfl ?_
  refine lv_lmul hx hb dX5_sunBy_33 ?_
  refine lv_ladd hx hb dX5_sunBy_34 ?_
  exact W.lret (v := ((((S.1 1 13).toInt64) * ((S.1 8 0).toInt64)) + (((S.1 1 14).toInt64) * ((S.1 8 1).toInt64))) + (((S.1 1 15).toInt64) * ((S.1 8 2).toInt64))) hx hb hr (fun t ht _ => ⟨((((S.1 1 13).toInt64) * ((S.1 8 0).toInt64)) + (((S.1 1 14).toInt64) * ((S.1 8 1).toInt64))) + (((S.1 1 15).toInt64) * ((S.1 8 2).toInt64)), rfl, by first | (simp only [q_X5_sunBy_8]; done) | contradiction, ht⟩) (fun _ h => nomatch h) dX5_sunBy_35

def q_X5_set_9 (S : gSc) (p1 : Int32) (p2 : Int32) (p3 : Int32) : gSc := pI (pI (pI S 9 0 p1) 9 1 p2) 9 2 p3
set_option maxHeartbeats 4000000 in
set_option maxRecDepth 100000 in
theorem c_X5_set_9 (l : Launch) (E : gEE) (M : gSm) (S : gSc) (p1 : Int32) (p2 : Int32) (p3 : Int32)  : Met l yX5_set wsX5_set ({ frames := 0, cells := 0, slots := 0, locals := 0 }) (va_Pc [.ref (eC E 9), .int (p1), .int (p2), .int (p3)] (gP E M S)) (va_Qv (fun u : gSc => u = q_X5_set_9 S p1 p2 p3) (fun u t => gW E M u t.heap) (eA E)) 0 0 (eA E) := by
  refine Met.ofW (cc := cX5_set) (maxL := 4) (ret := none) (by decide) rfl ?_
  intro p e s m args below meth c s₁ B hml hv
  obtain ⟨rfl, hE, hW⟩ := hv
  have hx := B.exec
  have hb := B.bytes
  have hr := B.returns
  have hts := atoms_spec (ws := wsX5_set) B.pre
  have hown : s.vm.findClass RX5 = some m.cls := findClass_of_methodNamed B.named
  have hlocks := B.notSynchronized
  have hinX5 : ∀ w ∈ wsX50, w ∈ wsX5_set := by decide +kernel
  have hS : va_S (eA E) s.heap s.heap [] := va_S.rf
  have hl := lv_entry ([.ref (eC E 9), .int (p1), .int (p2), .int (p3)]) (n := 4) (Nat.le_of_ble_eq_true rfl)
  rw [lg_entry_eq]
  generalize (lg_sl ([.ref (eC E 9), .int (p1), .int (p2), .int (p3)]) ++ List.replicate (4 - (lg_sl ([.ref (eC E 9), .int (p1), .int (p2), .int (p3)])).length) Slot.unset).toArray = ls at hl ⊢
  have hl : lv_has ls 4 [(0, .ref (eC E 9)), (1, .int (p1)), (2, .int (p2)), (3, .int (p3))] := hl
  have hS : ∃ (H : Heap) (locs : List Loc), H = s.heap ∧ locs = [] ∧ gW E M S H ∧ va_S (eA E) s.heap H locs := ⟨_, _, rfl, rfl, hW, hS⟩
  clear hW
  obtain ⟨H, locs, eH, el, hW, hS⟩ := hS
  rw [← eH, ← el]
  clear eH el
  refine lv_aload_n hx hb dX5_set_0 rfl (lv_at hl 0 rfl) ?_
  refine lv_iload_n hx hb dX5_set_1 rfl (lv_at hl 1 rfl) ?_
  refine va_put (D := eD E) (cl := vwCl) (tys := eT E) (A := eA E) (ci := 5) (C := RX5) (T := TX5) (N := 3) (v := .int (p1)) (ty := .int) hx hb hts hinX5 tyX5 tyX5_ok nmX5 hown hE.1 hW.1 hW.2 hS 20 rfl rfl 0 (by decide) (hts (.fieldLink RX5 7 "DialGarden$Row" "toEast" "I") (by decide +kernel)) (fun _ h9 => h9) rfl (by decide +kernel) rfl rfl (Nat.le_of_ble_eq_true rfl) dX5_set_2 (fun H locs hP hD hS => ?_)
  have hW : gW E M (pI S 9 0 p1) H := gW.of (uC_9_0 E M S p1) hP hD
  refine lv_aload_n hx hb dX5_set_5 rfl (lv_at hl 0 rfl) ?_
  refine lv_iload_n hx hb dX5_set_6 rfl (lv_at hl 2 rfl) ?_
  refine va_put (D := eD E) (cl := vwCl) (tys := eT E) (A := eA E) (ci := 5) (C := RX5) (T := TX5) (N := 3) (v := .int (p2)) (ty := .int) hx hb hts hinX5 tyX5 tyX5_ok nmX5 hown hE.1 hW.1 hW.2 hS 20 rfl rfl 1 (by decide) (hts (.fieldLink RX5 13 "DialGarden$Row" "toNorth" "I") (by decide +kernel)) (fun _ h9 => h9) rfl (by decide +kernel) rfl rfl (Nat.le_of_ble_eq_true rfl) dX5_set_7 (fun H locs hP hD hS => ?_)
  have hW : gW E M (pI (pI S 9 0 p1) 9 1 p2) H := gW.of (uC_9_1 E M (pI S 9 0 p1) p2) hP hD
  refine lv_aload_n hx hb dX5_set_10 rfl (lv_at hl 0 rfl) ?_
  refine lv_iload_n hx hb dX5_set_11 rfl (lv_at hl 3 rfl) ?_
  refine va_put (D := eD E) (cl := vwCl) (tys := eT E) (A := eA E) (ci := 5) (C := RX5) (T := TX5) (N := 3) (v := .int (p3)) (ty := .int) hx hb hts hinX5 tyX5 tyX5_ok nmX5 hown hE.1 hW.1 hW.2 hS 20 rfl rfl 2 (by decide) (hts (.fieldLink RX5 16 "DialGarden$Row" "toUp" "I") (by decide +kernel)) (fun _ h9 => h9) rfl (by decide +kernel) rfl rfl (Nat.le_of_ble_eq_true rfl) dX5_set_12 (fun H locs hP hD hS => ?_)
  have hW : gW E M (pI (pI (pI S 9 0 p1) 9 1 p2) 9 2 p3) H := gW.of (uC_9_2 E M (pI (pI S 9 0 p1) 9 1 p2) p3) hP hD
  exact W.vret hx hb hr (fun t ht _ => ⟨⟨pI (pI (pI S 9 0 p1) 9 1 p2) 9 2 p3, rfl, by first | (simp only [q_X5_set_9]; done) | contradiction, by dsimp only; rw [ht]; exact hW⟩, hS.F ht⟩) hS.2.2 dX5_set_15
theorem qp_X5_set_9 (S : gSc) (p1 : Int32) (p2 : Int32) (p3 : Int32) : (q_X5_set_9 S p1 p2 p3).2.2 = S.2.2 := by
  unfold q_X5_set_9
  try dsimp only
  (repeat' split) <;> first | (simp only [pI_2, sR_22]; done) | rfl

def q_X5_sunBy_9 (S : gSc)  : Int64 := ((((S.1 1 13).toInt64) * ((S.1 9 0).toInt64)) + (((S.1 1 14).toInt64) * ((S.1 9 1).toInt64))) + (((S.1 1 15).toInt64) * ((S.1 9 2).toInt64))
set_option maxHeartbeats 4000000 in
set_option maxRecDepth 100000 in
theorem c_X5_sunBy_9 (l : Launch) (E : gEE) (M : gSm) (S : gSc)   : Met l yX5_sunBy wsX5_sunBy ({ frames := 0, cells := 0, slots := 0, locals := 0 }) (va_Pc [.ref (eC E 9), .ref (eC E 1)] (gP E M S)) (vp_Sl (fun r => r = q_X5_sunBy_9 S)) 0 0 (fun _ => False) := by
  refine Met.ofW (cc := cX5_sunBy) (maxL := 2) (ret := (some .long)) (by decide) rfl ?_
  intro p e s m args below meth c s₁ B hml hv
  obtain ⟨rfl, hE, hW⟩ := hv
  have hx := B.exec
  have hb := B.bytes
  have hr := B.returns
  have hts := atoms_spec (ws := wsX5_sunBy) B.pre
  have hown : s.vm.findClass RX5 = some m.cls := findClass_of_methodNamed B.named
  have hlocks := B.notSynchronized
  have hinX5 : ∀ w ∈ wsX50, w ∈ wsX5_sunBy := by decide +kernel
  have hinX8 : ∀ w ∈ wsX80, w ∈ wsX5_sunBy := by decide +kernel
  have hS : va_S (eA E) s.heap s.heap [] := va_S.rf
  have hl := lv_entry ([.ref (eC E 9), .ref (eC E 1)]) (n := 2) (Nat.le_of_ble_eq_true rfl)
  rw [lg_entry_eq]
  generalize (lg_sl ([.ref (eC E 9), .ref (eC E 1)]) ++ List.replicate (2 - (lg_sl ([.ref (eC E 9), .ref (eC E 1)])).length) Slot.unset).toArray = ls at hl ⊢
  have hl : lv_has ls 2 [(0, .ref (eC E 9)), (1, .ref (eC E 1))] := hl
  refine lv_aload_n hx hb dX5_sunBy_0 rfl (lv_at hl 1 rfl) ?_
  refine va_getN (D := eD E) (cl := vwCl) (tys := eT E) (ci := 8) (C := RX8) (T := TX8) (N := 16) (v := .int (S.1 1 13)) hx hb hts hinX8 hown hE.1 hW.1 12 rfl rfl 13 (by decide) (va_Nw.use rfl (hE.2.2.1 (.fieldLinkNest "DialGarden$Row" 19 "DialGarden$Sky" "east" "I" "DialGarden") (by decide +kernel))) (fun _ h9 => h9) rfl dX5_sunBy_1 ?_
  refine lv_i2l (v := (S.1 1 13).toInt64) hx hb dX5_sunBy_4 rfl ?_
  refine lv_aload_n hx hb dX5_sunBy_5 rfl (lv_at hl 0 rfl) ?_
  refine va_get (D := eD E) (cl := vwCl) (tys := eT E) (ci := 5) (C := RX5) (T := TX5) (N := 3) (v := .int (S.1 9 0)) hx hb hts hinX5 hown hE.1 hW.1 20 rfl rfl 0 (by decide) (hts (.fieldLink RX5 7 "DialGarden$Row" "toEast" "I") (by decide +kernel)) (fun _ h9 => h9) rfl dX5_sunBy_6 ?_
  refine lv_i2l (v := (S.1 9 0).toInt64) hx hb dX5_sunBy_9 rfl ?_
  refine lv_lmul hx hb dX5_sunBy_10 ?_
  refine lv_aload_n hx hb dX5_sunBy_11 rfl (lv_at hl 1 rfl) ?_
  refine va_getN (D := eD E) (cl := vwCl) (tys := eT E) (ci := 8) (C := RX8) (T := TX8) (N := 16) (v := .int (S.1 1 14)) hx hb hts hinX8 hown hE.1 hW.1 12 rfl rfl 14 (by decide) (va_Nw.use rfl (hE.2.2.1 (.fieldLinkNest "DialGarden$Row" 24 "DialGarden$Sky" "north" "I" "DialGarden") (by decide +kernel))) (fun _ h9 => h9) rfl dX5_sunBy_12 ?_
  refine lv_i2l (v := (S.1 1 14).toInt64) hx hb dX5_sunBy_15 rfl ?_
  refine lv_aload_n hx hb dX5_sunBy_16 rfl (lv_at hl 0 rfl) ?_
  refine va_get (D := eD E) (cl := vwCl) (tys := eT E) (ci := 5) (C := RX5) (T := TX5) (N := 3) (v := .int (S.1 9 1)) hx hb hts hinX5 hown hE.1 hW.1 20 rfl rfl 1 (by decide) (hts (.fieldLink RX5 13 "DialGarden$Row" "toNorth" "I") (by decide +kernel)) (fun _ h9 => h9) rfl dX5_sunBy_17 ?_
  refine lv_i2l (v := (S.1 9 1).toInt64) hx hb dX5_sunBy_20 rfl ?_
  refine lv_lmul hx hb dX5_sunBy_21 ?_
  refine lv_ladd hx hb dX5_sunBy_22 ?_
  refine lv_aload_n hx hb dX5_sunBy_23 rfl (lv_at hl 1 rfl) ?_
  refine va_getN (D := eD E) (cl := vwCl) (tys := eT E) (ci := 8) (C := RX8) (T := TX8) (N := 16) (v := .int (S.1 1 15)) hx hb hts hinX8 hown hE.1 hW.1 12 rfl rfl 15 (by decide) (va_Nw.use rfl (hE.2.2.1 (.fieldLinkNest "DialGarden$Row" 27 "DialGarden$Sky" "up" "I" "DialGarden") (by decide +kernel))) (fun _ h9 => h9) rfl dX5_sunBy_24 ?_
  refine lv_i2l (v := (S.1 1 15).toInt64) hx hb dX5_sunBy_27 rfl ?_
  refine lv_aload_n hx hb dX5_sunBy_28 rfl (lv_at hl 0 rfl) ?_
  refine va_get (D := eD E) (cl := vwCl) (tys := eT E) (ci := 5) (C := RX5) (T := TX5) (N := 3) (v := .int (S.1 9 2)) hx hb hts hinX5 hown hE.1 hW.1 20 rfl rfl 2 (by decide) (hts (.fieldLink RX5 16 "DialGarden$Row" "toUp" "I") (by decide +kernel)) (fun _ h9 => h9) rfl dX5_sunBy_29 ?_
  refine lv_i2l (v := (S.1 9 2).toInt64) hx hb dX5_sunBy_32 rfl ?_
  refine lv_lmul hx hb dX5_sunBy_33 ?_
  refine lv_ladd hx hb dX5_sunBy_34 ?_
  exact W.lret (v := ((((S.1 1 13).toInt64) * ((S.1 9 0).toInt64)) + (((S.1 1 14).toInt64) * ((S.1 9 1).toInt64))) + (((S.1 1 15).toInt64) * ((S.1 9 2).toInt64))) hx hb hr (fun t ht _ => ⟨((((S.1 1 13).toInt64) * ((S.1 9 0).toInt64)) + (((S.1 1 14).toInt64) * ((S.1 9 1).toInt64))) + (((S.1 1 15).toInt64) * ((S.1 9 2).toInt64)), rfl, by first | (simp only [q_X5_sunBy_9]; done) | contradiction, ht⟩) (fun _ h => nomatch h) dX5_sunBy_35

def q_X5_set_10 (S : gSc) (p1 : Int32) (p2 : Int32) (p3 : Int32) : gSc := pI (pI (pI S 10 0 p1) 10 1 p2) 10 2 p3
set_option maxHeartbeats 4000000 in
set_option maxRecDepth 100000 in
theorem c_X5_set_10 (l : Launch) (E : gEE) (M : gSm) (S : gSc) (p1 : Int32) (p2 : Int32) (p3 : Int32)  : Met l yX5_set wsX5_set ({ frames := 0, cells := 0, slots := 0, locals := 0 }) (va_Pc [.ref (eC E 10), .int (p1), .int (p2), .int (p3)] (gP E M S)) (va_Qv (fun u : gSc => u = q_X5_set_10 S p1 p2 p3) (fun u t => gW E M u t.heap) (eA E)) 0 0 (eA E) := by
  refine Met.ofW (cc := cX5_set) (maxL := 4) (ret := none) (by decide) rfl ?_
  intro p e s m args below meth c s₁ B hml hv
  obtain ⟨rfl, hE, hW⟩ := hv
  have hx := B.exec
  have hb := B.bytes
  have hr := B.returns
  have hts := atoms_spec (ws := wsX5_set) B.pre
  have hown : s.vm.findClass RX5 = some m.cls := findClass_of_methodNamed B.named
  have hlocks := B.notSynchronized
  have hinX5 : ∀ w ∈ wsX50, w ∈ wsX5_set := by decide +kernel
  have hS : va_S (eA E) s.heap s.heap [] := va_S.rf
  have hl := lv_entry ([.ref (eC E 10), .int (p1), .int (p2), .int (p3)]) (n := 4) (Nat.le_of_ble_eq_true rfl)
  rw [lg_entry_eq]
  generalize (lg_sl ([.ref (eC E 10), .int (p1), .int (p2), .int (p3)]) ++ List.replicate (4 - (lg_sl ([.ref (eC E 10), .int (p1), .int (p2), .int (p3)])).length) Slot.unset).toArray = ls at hl ⊢
  have hl : lv_has ls 4 [(0, .ref (eC E 10)), (1, .int (p1)), (2, .int (p2)), (3, .int (p3))] := hl
  have hS : ∃ (H : Heap) (locs : List Loc), H = s.heap ∧ locs = [] ∧ gW E M S H ∧ va_S (eA E) s.heap H locs := ⟨_, _, rfl, rfl, hW, hS⟩
  clear hW
  obtain ⟨H, locs, eH, el, hW, hS⟩ := hS
  rw [← eH, ← el]
  clear eH el
  refine lv_aload_n hx hb dX5_set_0 rfl (lv_at hl 0 rfl) ?_
  refine lv_iload_n hx hb dX5_set_1 rfl (lv_at hl 1 rfl) ?_
  refine va_put (D := eD E) (cl := vwCl) (tys := eT E) (A := eA E) (ci := 5) (C := RX5) (T := TX5) (N := 3) (v := .int (p1)) (ty := .int) hx hb hts hinX5 tyX5 tyX5_ok nmX5 hown hE.1 hW.1 hW.2 hS 21 rfl rfl 0 (by decide) (hts (.fieldLink RX5 7 "DialGarden$Row" "toEast" "I") (by decide +kernel)) (fun _ h9 => h9) rfl (by decide +kernel) rfl rfl (Nat.le_of_ble_eq_true rfl) dX5_set_2 (fun H locs hP hD hS => ?_)
  have hW : gW E M (pI S 10 0 p1) H := gW.of (uC_10_0 E M S p1) hP hD
  refine lv_aload_n hx hb dX5_set_5 rfl (lv_at hl 0 rfl) ?_
  refine lv_iload_n hx hb dX5_set_6 rfl (lv_at hl 2 rfl) ?_
  refine va_put (D := eD E) (cl := vwCl) (tys := eT E) (A := eA E) (ci := 5) (C := RX5) (T := TX5) (N := 3) (v := .int (p2)) (ty := .int) hx hb hts hinX5 tyX5 tyX5_ok nmX5 hown hE.1 hW.1 hW.2 hS 21 rfl rfl 1 (by decide) (hts (.fieldLink RX5 13 "DialGarden$Row" "toNorth" "I") (by decide +kernel)) (fun _ h9 => h9) rfl (by decide +kernel) rfl rfl (Nat.le_of_ble_eq_true rfl) dX5_set_7 (fun H locs hP hD hS => ?_)
  have hW : gW E M (pI (pI S 10 0 p1) 10 1 p2) H := gW.of (uC_10_1 E M (pI S 10 0 p1) p2) hP hD
  refine lv_aload_n hx hb dX5_set_10 rfl (lv_at hl 0 rfl) ?_
  refine lv_iload_n hx hb dX5_set_11 rfl (lv_at hl 3 rfl) ?_
  refine va_put (D := eD E) (cl := vwCl) (tys := eT E) (A := eA E) (ci := 5) (C := RX5) (T := TX5) (N := 3) (v := .int (p3)) (ty := .int) hx hb hts hinX5 tyX5 tyX5_ok nmX5 hown hE.1 hW.1 hW.2 hS 21 rfl rfl 2 (by decide) (hts (.fieldLink RX5 16 "DialGarden$Row" "toUp" "I") (by decide +kernel)) (fun _ h9 => h9) rfl (by decide +kernel) rfl rfl (Nat.le_of_ble_eq_true rfl) dX5_set_12 (fun H locs hP hD hS => ?_)
  have hW : gW E M (pI (pI (pI S 10 0 p1) 10 1 p2) 10 2 p3) H := gW.of (uC_10_2 E M (pI (pI S 10 0 p1) 10 1 p2) p3) hP hD
  exact W.vret hx hb hr (fun t ht _ => ⟨⟨pI (pI (pI S 10 0 p1) 10 1 p2) 10 2 p3, rfl, by first | (simp only [q_X5_set_10]; done) | contradiction, by dsimp only; rw [ht]; exact hW⟩, hS.F ht⟩) hS.2.2 dX5_set_15
theorem qp_X5_set_10 (S : gSc) (p1 : Int32) (p2 : Int32) (p3 : Int32) : (q_X5_set_10 S p1 p2 p3).2.2 = S.2.2 := by
  unfold q_X5_set_10
  try dsimp only
  (repeat' split) <;> first | (simp only [pI_2, sR_22]; done) | rfl

def q_X5_sunBy_10 (S : gSc)  : Int64 := ((((S.1 1 13).toInt64) * ((S.1 10 0).toInt64)) + (((S.1 1 14).toInt64) * ((S.1 10 1).toInt64))) + (((S.1 1 15).toInt64) * ((S.1 10 2).toInt64))
set_option maxHeartbeats 4000000 in
set_option maxRecDepth 100000 in
theorem c_X5_sunBy_10 (l : Launch) (E : gEE) (M : gSm) (S : gSc)   : Met l yX5_sunBy wsX5_sunBy ({ frames := 0, cells := 0, slots := 0, locals := 0 }) (va_Pc [.ref (eC E 10), .ref (eC E 1)] (gP E M S)) (vp_Sl (fun r => r = q_X5_sunBy_10 S)) 0 0 (fun _ => False) := by
  refine Met.ofW (cc := cX5_sunBy) (maxL := 2) (ret := (some .long)) (by decide) rfl ?_
  intro p e s m args below meth c s₁ B hml hv
  obtain ⟨rfl, hE, hW⟩ := hv
  have hx := B.exec
  have hb := B.bytes
  have hr := B.returns
  have hts := atoms_spec (ws := wsX5_sunBy) B.pre
  have hown : s.vm.findClass RX5 = some m.cls := findClass_of_methodNamed B.named
  have hlocks := B.notSynchronized
  have hinX5 : ∀ w ∈ wsX50, w ∈ wsX5_sunBy := by decide +kernel
  have hinX8 : ∀ w ∈ wsX80, w ∈ wsX5_sunBy := by decide +kernel
  have hS : va_S (eA E) s.heap s.heap [] := va_S.rf
  have hl := lv_entry ([.ref (eC E 10), .ref (eC E 1)]) (n := 2) (Nat.le_of_ble_eq_true rfl)
  rw [lg_entry_eq]
  generalize (lg_sl ([.ref (eC E 10), .ref (eC E 1)]) ++ List.replicate (2 - (lg_sl ([.ref (eC E 10), .ref (eC E 1)])).length) Slot.unset).toArray = ls at hl ⊢
  have hl : lv_has ls 2 [(0, .ref (eC E 10)), (1, .ref (eC E 1))] := hl
  refine lv_aload_n hx hb dX5_sunBy_0 rfl (lv_at hl 1 rfl) ?_
  refine va_getN (D := eD E) (cl := vwCl) (tys := eT E) (ci := 8) (C := RX8) (T := TX8) (N := 16) (v := .int (S.1 1 13)) hx hb hts hinX8 hown hE.1 hW.1 12 rfl rfl 13 (by decide) (va_Nw.use rfl (hE.2.2.1 (.fieldLinkNest "DialGarden$Row" 19 "DialGarden$Sky" "east" "I" "DialGarden") (by decide +kernel))) (fun _ h9 => h9) rfl dX5_sunBy_1 ?_
  refine lv_i2l (v := (S.1 1 13).toInt64) hx hb dX5_sunBy_4 rfl ?_
  refine lv_aload_n hx hb dX5_sunBy_5 rfl (lv_at hl 0 rfl) ?_
  refine va_get (D := eD E) (cl := vwCl) (tys := eT E) (ci := 5) (C := RX5) (T := TX5) (N := 3) (v := .int (S.1 10 0)) hx hb hts hinX5 hown hE.1 hW.1 21 rfl rfl 0 (by decide) (hts (.fieldLink RX5 7 "DialGarden$Row" "toEast" "I") (by decide +kernel)) (fun _ h9 => h9) rfl dX5_sunBy_6 ?_
  refine lv_i2l (v := (S.1 10 0).toInt64) hx hb dX5_sunBy_9 rfl ?_
  refine lv_lmul hx hb dX5_sunBy_10 ?_
  refine lv_aload_n hx hb dX5_sunBy_11 rfl (lv_at hl 1 rfl) ?_
  refine va_getN (D := eD E) (cl := vwCl) (tys := eT E) (ci := 8) (C := RX8) (T := TX8) (N := 16) (v := .int (S.1 1 14)) hx hb hts hinX8 hown hE.1 hW.1 12 rfl rfl 14 (by decide) (va_Nw.use rfl (hE.2.2.1 (.fieldLinkNest "DialGarden$Row" 24 "DialGarden$Sky" "north" "I" "DialGarden") (by decide +kernel))) (fun _ h9 => h9) rfl dX5_sunBy_12 ?_
  refine lv_i2l (v := (S.1 1 14).toInt64) hx hb dX5_sunBy_15 rfl ?_
  refine lv_aload_n hx hb dX5_sunBy_16 rfl (lv_at hl 0 rfl) ?_
  refine va_get (D := eD E) (cl := vwCl) (tys := eT E) (ci := 5) (C := RX5) (T := TX5) (N := 3) (v := .int (S.1 10 1)) hx hb hts hinX5 hown hE.1 hW.1 21 rfl rfl 1 (by decide) (hts (.fieldLink RX5 13 "DialGarden$Row" "toNorth" "I") (by decide +kernel)) (fun _ h9 => h9) rfl dX5_sunBy_17 ?_
  refine lv_i2l (v := (S.1 10 1).toInt64) hx hb dX5_sunBy_20 rfl ?_
  refine lv_lmul hx hb dX5_sunBy_21 ?_
  refine lv_ladd hx hb dX5_sunBy_22 ?_
  refine lv_aload_n hx hb dX5_sunBy_23 rfl (lv_at hl 1 rfl) ?_
  refine va_getN (D := eD E) (cl := vwCl) (tys := eT E) (ci := 8) (C := RX8) (T := TX8) (N := 16) (v := .int (S.1 1 15)) hx hb hts hinX8 hown hE.1 hW.1 12 rfl rfl 15 (by decide) (va_Nw.use rfl (hE.2.2.1 (.fieldLinkNest "DialGarden$Row" 27 "DialGarden$Sky" "up" "I" "DialGarden") (by decide +kernel))) (fun _ h9 => h9) rfl dX5_sunBy_24 ?_
  refine lv_i2l (v := (S.1 1 15).toInt64) hx hb dX5_sunBy_27 rfl ?_
  refine lv_aload_n hx hb dX5_sunBy_28 rfl (lv_at hl 0 rfl) ?_
  refine va_get (D := eD E) (cl := vwCl) (tys := eT E) (ci := 5) (C := RX5) (T := TX5) (N := 3) (v := .int (S.1 10 2)) hx hb hts hinX5 hown hE.1 hW.1 21 rfl rfl 2 (by decide) (hts (.fieldLink RX5 16 "DialGarden$Row" "toUp" "I") (by decide +kernel)) (fun _ h9 => h9) rfl dX5_sunBy_29 ?_
  refine lv_i2l (v := (S.1 10 2).toInt64) hx hb dX5_sunBy_32 rfl ?_
  refine lv_lmul hx hb dX5_sunBy_33 ?_
  refine lv_ladd hx hb dX5_sunBy_34 ?_
  exact W.lret (v := ((((S.1 1 13).toInt64) * ((S.1 10 0).toInt64)) + (((S.1 1 14).toInt64) * ((S.1 10 1).toInt64))) + (((S.1 1 15).toInt64) * ((S.1 10 2).toInt64))) hx hb hr (fun t ht _ => ⟨((((S.1 1 13).toInt64) * ((S.1 10 0).toInt64)) + (((S.1 1 14).toInt64) * ((S.1 10 1).toInt64))) + (((S.1 1 15).toInt64) * ((S.1 10 2).toInt64)), rfl, by first | (simp only [q_X5_sunBy_10]; done) | contradiction, ht⟩) (fun _ h => nomatch h) dX5_sunBy_35

def q_X4_clear_23 (S : gSc)  : gSc := pI S 23 0 0
set_option maxHeartbeats 4000000 in
set_option maxRecDepth 100000 in
theorem c_X4_clear_23 (l : Launch) (E : gEE) (M : gSm) (S : gSc)   : Met l yX4_clear wsX4_clear ({ frames := 0, cells := 0, slots := 0, locals := 0 }) (va_Pc [.ref (eC E 23)] (gP E M S)) (va_Qv (fun u : gSc => u = q_X4_clear_23 S) (fun u t => gW E M u t.heap) (eA E)) 0 0 (eA E) := by
  refine Met.ofW (cc := cX4_clear) (maxL := 1) (ret := none) (by decide) rfl ?_
  intro p e s m args below meth c s₁ B hml hv
  obtain ⟨rfl, hE, hW⟩ := hv
  have hx := B.exec
  have hb := B.bytes
  have hr := B.returns
  have hts := atoms_spec (ws := wsX4_clear) B.pre
  have hown : s.vm.findClass RX4 = some m.cls := findClass_of_methodNamed B.named
  have hlocks := B.notSynchronized
  have hinX4 : ∀ w ∈ wsX40, w ∈ wsX4_clear := by decide +kernel
  have hS : va_S (eA E) s.heap s.heap [] := va_S.rf
  have hl := lv_entry ([.ref (eC E 23)]) (n := 1) (Nat.le_of_ble_eq_true rfl)
  rw [lg_entry_eq]
  generalize (lg_sl ([.ref (eC E 23)]) ++ List.replicate (1 - (lg_sl ([.ref (eC E 23)])).length) Slot.unset).toArray = ls at hl ⊢
  have hl : lv_has ls 1 [(0, .ref (eC E 23))] := hl
  have hS : ∃ (H : Heap) (locs : List Loc), H = s.heap ∧ locs = [] ∧ gW E M S H ∧ va_S (eA E) s.heap H locs := ⟨_, _, rfl, rfl, hW, hS⟩
  clear hW
  obtain ⟨H, locs, eH, el, hW, hS⟩ := hS
  rw [← eH, ← el]
  clear eH el
  refine lv_aload_n hx hb dX4_clear_0 rfl (lv_at hl 0 rfl) ?_
  refine lv_iconst (v := 0) hx hb dX4_clear_1 (by decide) ?_
  refine va_put (D := eD E) (cl := vwCl) (tys := eT E) (A := eA E) (ci := 4) (C := RX4) (T := TX4) (N := 3) (v := .int (0)) (ty := .int) hx hb hts hinX4 tyX4 tyX4_ok nmX4 hown hE.1 hW.1 hW.2 hS 34 rfl rfl 0 (by decide) (hts (.fieldLink RX4 9 "DialGarden$Range" "size" "I") (by decide +kernel)) (fun _ h9 => h9) rfl (by decide +kernel) rfl rfl (Nat.le_of_ble_eq_true rfl) dX4_clear_2 (fun H locs hP hD hS => ?_)
  have hW : gW E M (pI S 23 0 0) H := gW.of (uC_23_0 E M S 0) hP hD
  exact W.vret hx hb hr (fun t ht _ => ⟨⟨pI S 23 0 0, rfl, by first | (simp only [q_X4_clear_23]; done) | contradiction, by dsimp only; rw [ht]; exact hW⟩, hS.F ht⟩) hS.2.2 dX4_clear_5
theorem qp_X4_clear_23 (S : gSc)  : (q_X4_clear_23 S).2.2 = S.2.2 := by
  unfold q_X4_clear_23
  try dsimp only
  (repeat' split) <;> first | (simp only [pI_2, sR_22]; done) | rfl

def q_X4_add_23 (S : gSc) (p1 : Int32) : gSc := (if (S.1 23 0) = 0 then (if (S.1 23 0) = 0 then pI (pI (pI S 23 1 p1) 23 2 p1) 23 0 ((S.1 23 0) + 1) else (if p1 ≤ (S.1 23 2) then pI (pI S 23 1 p1) 23 0 ((S.1 23 0) + 1) else pI (pI (pI S 23 1 p1) 23 2 p1) 23 0 ((S.1 23 0) + 1))) else (if (S.1 23 1) ≤ p1 then (if (S.1 23 0) = 0 then pI (pI S 23 2 p1) 23 0 ((S.1 23 0) + 1) else (if p1 ≤ (S.1 23 2) then pI S 23 0 ((S.1 23 0) + 1) else pI (pI S 23 2 p1) 23 0 ((S.1 23 0) + 1))) else (if (S.1 23 0) = 0 then pI (pI (pI S 23 1 p1) 23 2 p1) 23 0 ((S.1 23 0) + 1) else (if p1 ≤ (S.1 23 2) then pI (pI S 23 1 p1) 23 0 ((S.1 23 0) + 1) else pI (pI (pI S 23 1 p1) 23 2 p1) 23 0 ((S.1 23 0) + 1)))))
set_option maxHeartbeats 4000000 in
set_option maxRecDepth 100000 in
theorem c_X4_add_23 (l : Launch) (E : gEE) (M : gSm) (S : gSc) (p1 : Int32)  : Met l yX4_add wsX4_add ({ frames := 0, cells := 0, slots := 0, locals := 0 }) (va_Pc [.ref (eC E 23), .int (p1)] (gP E M S)) (va_Qv (fun u : gSc => u = q_X4_add_23 S p1) (fun u t => gW E M u t.heap) (eA E)) 0 0 (eA E) := by
  refine Met.ofW (cc := cX4_add) (maxL := 2) (ret := none) (by decide) rfl ?_
  intro p e s m args below meth c s₁ B hml hv
  obtain ⟨rfl, hE, hW⟩ := hv
  have hx := B.exec
  have hb := B.bytes
  have hr := B.returns
  have hts := atoms_spec (ws := wsX4_add) B.pre
  have hown : s.vm.findClass RX4 = some m.cls := findClass_of_methodNamed B.named
  have hlocks := B.notSynchronized
  have hinX4 : ∀ w ∈ wsX40, w ∈ wsX4_add := by decide +kernel
  have hS : va_S (eA E) s.heap s.heap [] := va_S.rf
  have hl := lv_entry ([.ref (eC E 23), .int (p1)]) (n := 2) (Nat.le_of_ble_eq_true rfl)
  rw [lg_entry_eq]
  generalize (lg_sl ([.ref (eC E 23), .int (p1)]) ++ List.replicate (2 - (lg_sl ([.ref (eC E 23), .int (p1)])).length) Slot.unset).toArray = ls at hl ⊢
  have hl : lv_has ls 2 [(0, .ref (eC E 23)), (1, .int (p1))] := hl
  have hS : ∃ (H : Heap) (locs : List Loc), H = s.heap ∧ locs = [] ∧ gW E M S H ∧ va_S (eA E) s.heap H locs := ⟨_, _, rfl, rfl, hW, hS⟩
  clear hW
  obtain ⟨H, locs, eH, el, hW, hS⟩ := hS
  rw [← eH, ← el]
  clear eH el
  refine lv_aload_n hx hb dX4_add_0 rfl (lv_at hl 0 rfl) ?_
  refine va_get (D := eD E) (cl := vwCl) (tys := eT E) (ci := 4) (C := RX4) (T := TX4) (N := 3) (v := .int (S.1 23 0)) hx hb hts hinX4 hown hE.1 hW.1 34 rfl rfl 0 (by decide) (hts (.fieldLink RX4 9 "DialGarden$Range" "size" "I") (by decide +kernel)) (fun _ h9 => h9) rfl dX4_add_1 ?_
  refine lv_if_eq (tgt := 15) hx hb dX4_add_4 (by decide) (fun c4 => ?_) (fun c4 => ?_)
  · refine lv_aload_n hx hb dX4_add_15 rfl (lv_at hl 0 rfl) ?_
    refine lv_iload_n hx hb dX4_add_16 rfl (lv_at hl 1 rfl) ?_
    refine va_put (D := eD E) (cl := vwCl) (tys := eT E) (A := eA E) (ci := 4) (C := RX4) (T := TX4) (N := 3) (v := .int (p1)) (ty := .int) hx hb hts hinX4 tyX4 tyX4_ok nmX4 hown hE.1 hW.1 hW.2 hS 34 rfl rfl 1 (by decide) (hts (.fieldLink RX4 15 "DialGarden$Range" "least" "I") (by decide +kernel)) (fun _ h9 => h9) rfl (by decide +kernel) rfl rfl (Nat.le_of_ble_eq_true rfl) dX4_add_17 (fun H locs hP hD hS => ?_)
    have hW : gW E M (pI S 23 1 p1) H := gW.of (uC_23_1 E M S p1) hP hD
    refine lv_aload_n hx hb dX4_add_20 rfl (lv_at hl 0 rfl) ?_
    refine va_get (D := eD E) (cl := vwCl) (tys := eT E) (ci := 4) (C := RX4) (T := TX4) (N := 3) (v := .int (S.1 23 0)) hx hb hts hinX4 hown hE.1 hW.1 34 rfl rfl 0 (by decide) (hts (.fieldLink RX4 9 "DialGarden$Range" "size" "I") (by decide +kernel)) (fun _ h9 => h9) rfl dX4_add_21 ?_
    refine lv_if_eq (tgt := 35) hx hb dX4_add_24 (by decide) (fun c24 => ?_) (fun c24 => ?_)
    · refine lv_aload_n hx hb dX4_add_35 rfl (lv_at hl 0 rfl) ?_
      refine lv_iload_n hx hb dX4_add_36 rfl (lv_at hl 1 rfl) ?_
      refine va_put (D := eD E) (cl := vwCl) (tys := eT E) (A := eA E) (ci := 4) (C := RX4) (T := TX4) (N := 3) (v := .int (p1)) (ty := .int) hx hb hts hinX4 tyX4 tyX4_ok nmX4 hown hE.1 hW.1 hW.2 hS 34 rfl rfl 2 (by decide) (hts (.fieldLink RX4 18 "DialGarden$Range" "greatest" "I") (by decide +kernel)) (fun _ h9 => h9) rfl (by decide +kernel) rfl rfl (Nat.le_of_ble_eq_true rfl) dX4_add_37 (fun H locs hP hD hS => ?_)
      have hW : gW E M (pI (pI S 23 1 p1) 23 2 p1) H := gW.of (uC_23_2 E M (pI S 23 1 p1) p1) hP hD
      refine lv_aload_n hx hb dX4_add_40 rfl (lv_at hl 0 rfl) ?_
      refine lv_dup hx hb dX4_add_41 rfl ?_
      refine va_get (D := eD E) (cl := vwCl) (tys := eT E) (ci := 4) (C := RX4) (T := TX4) (N := 3) (v := .int (S.1 23 0)) hx hb hts hinX4 hown hE.1 hW.1 34 rfl rfl 0 (by decide) (hts (.fieldLink RX4 9 "DialGarden$Range" "size" "I") (by decide +kernel)) (fun _ h9 => h9) rfl dX4_add_42 ?_
      refine lv_iconst (v := 1) hx hb dX4_add_45 (by decide) ?_
      refine lv_iadd hx hb dX4_add_46 ?_
      refine va_put (D := eD E) (cl := vwCl) (tys := eT E) (A := eA E) (ci := 4) (C := RX4) (T := TX4) (N := 3) (v := .int ((S.1 23 0) + 1)) (ty := .int) hx hb hts hinX4 tyX4 tyX4_ok nmX4 hown hE.1 hW.1 hW.2 hS 34 rfl rfl 0 (by decide) (hts (.fieldLink RX4 9 "DialGarden$Range" "size" "I") (by decide +kernel)) (fun _ h9 => h9) rfl (by decide +kernel) rfl rfl (Nat.le_of_ble_eq_true rfl) dX4_add_47 (fun H locs hP hD hS => ?_)
      have hW : gW E M (pI (pI (pI S 23 1 p1) 23 2 p1) 23 0 ((S.1 23 0) + 1)) H := gW.of (uC_23_0 E M (pI (pI S 23 1 p1) 23 2 p1) ((S.1 23 0) + 1)) hP hD
      exact W.vret hx hb hr (fun t ht _ => ⟨⟨pI (pI (pI S 23 1 p1) 23 2 p1) 23 0 ((S.1 23 0) + 1), rfl, by first | (simp only [q_X4_add_23, if_pos c4, if_pos c24]; done) | contradiction, by dsimp only; rw [ht]; exact hW⟩, hS.F ht⟩) hS.2.2 dX4_add_50
    · refine lv_iload_n hx hb dX4_add_27 rfl (lv_at hl 1 rfl) ?_
      refine lv_aload_n hx hb dX4_add_28 rfl (lv_at hl 0 rfl) ?_
      refine va_get (D := eD E) (cl := vwCl) (tys := eT E) (ci := 4) (C := RX4) (T := TX4) (N := 3) (v := .int (S.1 23 2)) hx hb hts hinX4 hown hE.1 hW.1 34 rfl rfl 2 (by decide) (hts (.fieldLink RX4 18 "DialGarden$Range" "greatest" "I") (by decide +kernel)) (fun _ h9 => h9) rfl dX4_add_29 ?_
      refine lv_icmp_le (tgt := 40) hx hb dX4_add_32 (by decide) (fun c32 => ?_) (fun c32 => ?_)
      · refine lv_aload_n hx hb dX4_add_40 rfl (lv_at hl 0 rfl) ?_
        refine lv_dup hx hb dX4_add_41 rfl ?_
        refine va_get (D := eD E) (cl := vwCl) (tys := eT E) (ci := 4) (C := RX4) (T := TX4) (N := 3) (v := .int (S.1 23 0)) hx hb hts hinX4 hown hE.1 hW.1 34 rfl rfl 0 (by decide) (hts (.fieldLink RX4 9 "DialGarden$Range" "size" "I") (by decide +kernel)) (fun _ h9 => h9) rfl dX4_add_42 ?_
        refine lv_iconst (v := 1) hx hb dX4_add_45 (by decide) ?_
        refine lv_iadd hx hb dX4_add_46 ?_
        refine va_put (D := eD E) (cl := vwCl) (tys := eT E) (A := eA E) (ci := 4) (C := RX4) (T := TX4) (N := 3) (v := .int ((S.1 23 0) + 1)) (ty := .int) hx hb hts hinX4 tyX4 tyX4_ok nmX4 hown hE.1 hW.1 hW.2 hS 34 rfl rfl 0 (by decide) (hts (.fieldLink RX4 9 "DialGarden$Range" "size" "I") (by decide +kernel)) (fun _ h9 => h9) rfl (by decide +kernel) rfl rfl (Nat.le_of_ble_eq_true rfl) dX4_add_47 (fun H locs hP hD hS => ?_)
        have hW : gW E M (pI (pI S 23 1 p1) 23 0 ((S.1 23 0) + 1)) H := gW.of (uC_23_0 E M (pI S 23 1 p1) ((S.1 23 0) + 1)) hP hD
        exact W.vret hx hb hr (fun t ht _ => ⟨⟨pI (pI S 23 1 p1) 23 0 ((S.1 23 0) + 1), rfl, by first | (simp only [q_X4_add_23, if_pos c4, if_neg c24, if_pos c32]; done) | contradiction, by dsimp only; rw [ht]; exact hW⟩, hS.F ht⟩) hS.2.2 dX4_add_50
      · refine lv_aload_n hx hb dX4_add_35 rfl (lv_at hl 0 rfl) ?_
        refine lv_iload_n hx hb dX4_add_36 rfl (lv_at hl 1 rfl) ?_
        refine va_put (D := eD E) (cl := vwCl) (tys := eT E) (A := eA E) (ci := 4) (C := RX4) (T := TX4) (N := 3) (v := .int (p1)) (ty := .int) hx hb hts hinX4 tyX4 tyX4_ok nmX4 hown hE.1 hW.1 hW.2 hS 34 rfl rfl 2 (by decide) (hts (.fieldLink RX4 18 "DialGarden$Range" "greatest" "I") (by decide +kernel)) (fun _ h9 => h9) rfl (by decide +kernel) rfl rfl (Nat.le_of_ble_eq_true rfl) dX4_add_37 (fun H locs hP hD hS => ?_)
        have hW : gW E M (pI (pI S 23 1 p1) 23 2 p1) H := gW.of (uC_23_2 E M (pI S 23 1 p1) p1) hP hD
        refine lv_aload_n hx hb dX4_add_40 rfl (lv_at hl 0 rfl) ?_
        refine lv_dup hx hb dX4_add_41 rfl ?_
        refine va_get (D := eD E) (cl := vwCl) (tys := eT E) (ci := 4) (C := RX4) (T := TX4) (N := 3) (v := .int (S.1 23 0)) hx hb hts hinX4 hown hE.1 hW.1 34 rfl rfl 0 (by decide) (hts (.fieldLink RX4 9 "DialGarden$Range" "size" "I") (by decide +kernel)) (fun _ h9 => h9) rfl dX4_add_42 ?_
        refine lv_iconst (v := 1) hx hb dX4_add_45 (by decide) ?_
        refine lv_iadd hx hb dX4_add_46 ?_
        refine va_put (D := eD E) (cl := vwCl) (tys := eT E) (A := eA E) (ci := 4) (C := RX4) (T := TX4) (N := 3) (v := .int ((S.1 23 0) + 1)) (ty := .int) hx hb hts hinX4 tyX4 tyX4_ok nmX4 hown hE.1 hW.1 hW.2 hS 34 rfl rfl 0 (by decide) (hts (.fieldLink RX4 9 "DialGarden$Range" "size" "I") (by decide +kernel)) (fun _ h9 => h9) rfl (by decide +kernel) rfl rfl (Nat.le_of_ble_eq_true rfl) dX4_add_47 (fun H locs hP hD hS => ?_)
        have hW : gW E M (pI (pI (pI S 23 1 p1) 23 2 p1) 23 0 ((S.1 23 0) + 1)) H := gW.of (uC_23_0 E M (pI (pI S 23 1 p1) 23 2 p1) ((S.1 23 0) + 1)) hP hD
        exact W.vret hx hb hr (fun t ht _ => ⟨⟨pI (pI (pI S 23 1 p1) 23 2 p1) 23 0 ((S.1 23 0) + 1), rfl, by first | (simp only [q_X4_add_23, if_pos c4, if_neg c24, if_neg c32]; done) | contradiction, by dsimp only; rw [ht]; exact hW⟩, hS.F ht⟩) hS.2.2 dX4_add_50
  · refine lv_iload_n hx hb dX4_add_7 rfl (lv_at hl 1 rfl) ?_
    refine lv_aload_n hx hb dX4_add_8 rfl (lv_at hl 0 rfl) ?_
    refine va_get (D := eD E) (cl := vwCl) (tys := eT E) (ci := 4) (C := RX4) (T := TX4) (N := 3) (v := .int (S.1 23 1)) hx hb hts hinX4 hown hE.1 hW.1 34 rfl rfl 1 (by decide) (hts (.fieldLink RX4 15 "DialGarden$Range" "least" "I") (by decide +kernel)) (fun _ h9 => h9) rfl dX4_add_9 ?_
    refine lv_icmp_ge (tgt := 20) hx hb dX4_add_12 (by decide) (fun c12 => ?_) (fun c12 => ?_)
    · refine lv_aload_n hx hb dX4_add_20 rfl (lv_at hl 0 rfl) ?_
      refine va_get (D := eD E) (cl := vwCl) (tys := eT E) (ci := 4) (C := RX4) (T := TX4) (N := 3) (v := .int (S.1 23 0)) hx hb hts hinX4 hown hE.1 hW.1 34 rfl rfl 0 (by decide) (hts (.fieldLink RX4 9 "DialGarden$Range" "size" "I") (by decide +kernel)) (fun _ h9 => h9) rfl dX4_add_21 ?_
      refine lv_if_eq (tgt := 35) hx hb dX4_add_24 (by decide) (fun c24 => ?_) (fun c24 => ?_)
      · refine lv_aload_n hx hb dX4_add_35 rfl (lv_at hl 0 rfl) ?_
        refine lv_iload_n hx hb dX4_add_36 rfl (lv_at hl 1 rfl) ?_
        refine va_put (D := eD E) (cl := vwCl) (tys := eT E) (A := eA E) (ci := 4) (C := RX4) (T := TX4) (N := 3) (v := .int (p1)) (ty := .int) hx hb hts hinX4 tyX4 tyX4_ok nmX4 hown hE.1 hW.1 hW.2 hS 34 rfl rfl 2 (by decide) (hts (.fieldLink RX4 18 "DialGarden$Range" "greatest" "I") (by decide +kernel)) (fun _ h9 => h9) rfl (by decide +kernel) rfl rfl (Nat.le_of_ble_eq_true rfl) dX4_add_37 (fun H locs hP hD hS => ?_)
        have hW : gW E M (pI S 23 2 p1) H := gW.of (uC_23_2 E M S p1) hP hD
        refine lv_aload_n hx hb dX4_add_40 rfl (lv_at hl 0 rfl) ?_
        refine lv_dup hx hb dX4_add_41 rfl ?_
        refine va_get (D := eD E) (cl := vwCl) (tys := eT E) (ci := 4) (C := RX4) (T := TX4) (N := 3) (v := .int (S.1 23 0)) hx hb hts hinX4 hown hE.1 hW.1 34 rfl rfl 0 (by decide) (hts (.fieldLink RX4 9 "DialGarden$Range" "size" "I") (by decide +kernel)) (fun _ h9 => h9) rfl dX4_add_42 ?_
        refine lv_iconst (v := 1) hx hb dX4_add_45 (by decide) ?_
        refine lv_iadd hx hb dX4_add_46 ?_
        refine va_put (D := eD E) (cl := vwCl) (tys := eT E) (A := eA E) (ci := 4) (C := RX4) (T := TX4) (N := 3) (v := .int ((S.1 23 0) + 1)) (ty := .int) hx hb hts hinX4 tyX4 tyX4_ok nmX4 hown hE.1 hW.1 hW.2 hS 34 rfl rfl 0 (by decide) (hts (.fieldLink RX4 9 "DialGarden$Range" "size" "I") (by decide +kernel)) (fun _ h9 => h9) rfl (by decide +kernel) rfl rfl (Nat.le_of_ble_eq_true rfl) dX4_add_47 (fun H locs hP hD hS => ?_)
        have hW : gW E M (pI (pI S 23 2 p1) 23 0 ((S.1 23 0) + 1)) H := gW.of (uC_23_0 E M (pI S 23 2 p1) ((S.1 23 0) + 1)) hP hD
        exact W.vret hx hb hr (fun t ht _ => ⟨⟨pI (pI S 23 2 p1) 23 0 ((S.1 23 0) + 1), rfl, by first | (simp only [q_X4_add_23, if_neg c4, if_pos c12, if_pos c24]; done) | contradiction, by dsimp only; rw [ht]; exact hW⟩, hS.F ht⟩) hS.2.2 dX4_add_50
      · refine lv_iload_n hx hb dX4_add_27 rfl (lv_at hl 1 rfl) ?_
        refine lv_aload_n hx hb dX4_add_28 rfl (lv_at hl 0 rfl) ?_
        refine va_get (D := eD E) (cl := vwCl) (tys := eT E) (ci := 4) (C := RX4) (T := TX4) (N := 3) (v := .int (S.1 23 2)) hx hb hts hinX4 hown hE.1 hW.1 34 rfl rfl 2 (by decide) (hts (.fieldLink RX4 18 "DialGarden$Range" "greatest" "I") (by decide +kernel)) (fun _ h9 => h9) rfl dX4_add_29 ?_
        refine lv_icmp_le (tgt := 40) hx hb dX4_add_32 (by decide) (fun c32 => ?_) (fun c32 => ?_)
        · refine lv_aload_n hx hb dX4_add_40 rfl (lv_at hl 0 rfl) ?_
          refine lv_dup hx hb dX4_add_41 rfl ?_
          refine va_get (D := eD E) (cl := vwCl) (tys := eT E) (ci := 4) (C := RX4) (T := TX4) (N := 3) (v := .int (S.1 23 0)) hx hb hts hinX4 hown hE.1 hW.1 34 rfl rfl 0 (by decide) (hts (.fieldLink RX4 9 "DialGarden$Range" "size" "I") (by decide +kernel)) (fun _ h9 => h9) rfl dX4_add_42 ?_
          refine lv_iconst (v := 1) hx hb dX4_add_45 (by decide) ?_
          refine lv_iadd hx hb dX4_add_46 ?_
          refine va_put (D := eD E) (cl := vwCl) (tys := eT E) (A := eA E) (ci := 4) (C := RX4) (T := TX4) (N := 3) (v := .int ((S.1 23 0) + 1)) (ty := .int) hx hb hts hinX4 tyX4 tyX4_ok nmX4 hown hE.1 hW.1 hW.2 hS 34 rfl rfl 0 (by decide) (hts (.fieldLink RX4 9 "DialGarden$Range" "size" "I") (by decide +kernel)) (fun _ h9 => h9) rfl (by decide +kernel) rfl rfl (Nat.le_of_ble_eq_true rfl) dX4_add_47 (fun H locs hP hD hS => ?_)
          have hW : gW E M (pI S 23 0 ((S.1 23 0) + 1)) H := gW.of (uC_23_0 E M S ((S.1 23 0) + 1)) hP hD
          exact W.vret hx hb hr (fun t ht _ => ⟨⟨pI S 23 0 ((S.1 23 0) + 1), rfl, by first | (simp only [q_X4_add_23, if_neg c4, if_pos c12, if_neg c24, if_pos c32]; done) | contradiction, by dsimp only; rw [ht]; exact hW⟩, hS.F ht⟩) hS.2.2 dX4_add_50
        · refine lv_aload_n hx hb dX4_add_35 rfl (lv_at hl 0 rfl) ?_
          refine lv_iload_n hx hb dX4_add_36 rfl (lv_at hl 1 rfl) ?_
          refine va_put (D := eD E) (cl := vwCl) (tys := eT E) (A := eA E) (ci := 4) (C := RX4) (T := TX4) (N := 3) (v := .int (p1)) (ty := .int) hx hb hts hinX4 tyX4 tyX4_ok nmX4 hown hE.1 hW.1 hW.2 hS 34 rfl rfl 2 (by decide) (hts (.fieldLink RX4 18 "DialGarden$Range" "greatest" "I") (by decide +kernel)) (fun _ h9 => h9) rfl (by decide +kernel) rfl rfl (Nat.le_of_ble_eq_true rfl) dX4_add_37 (fun H locs hP hD hS => ?_)
          have hW : gW E M (pI S 23 2 p1) H := gW.of (uC_23_2 E M S p1) hP hD
          refine lv_aload_n hx hb dX4_add_40 rfl (lv_at hl 0 rfl) ?_
          refine lv_dup hx hb dX4_add_41 rfl ?_
          refine va_get (D := eD E) (cl := vwCl) (tys := eT E) (ci := 4) (C := RX4) (T := TX4) (N := 3) (v := .int (S.1 23 0)) hx hb hts hinX4 hown hE.1 hW.1 34 rfl rfl 0 (by decide) (hts (.fieldLink RX4 9 "DialGarden$Range" "size" "I") (by decide +kernel)) (fun _ h9 => h9) rfl dX4_add_42 ?_
          refine lv_iconst (v := 1) hx hb dX4_add_45 (by decide) ?_
          refine lv_iadd hx hb dX4_add_46 ?_
          refine va_put (D := eD E) (cl := vwCl) (tys := eT E) (A := eA E) (ci := 4) (C := RX4) (T := TX4) (N := 3) (v := .int ((S.1 23 0) + 1)) (ty := .int) hx hb hts hinX4 tyX4 tyX4_ok nmX4 hown hE.1 hW.1 hW.2 hS 34 rfl rfl 0 (by decide) (hts (.fieldLink RX4 9 "DialGarden$Range" "size" "I") (by decide +kernel)) (fun _ h9 => h9) rfl (by decide +kernel) rfl rfl (Nat.le_of_ble_eq_true rfl) dX4_add_47 (fun H locs hP hD hS => ?_)
          have hW : gW E M (pI (pI S 23 2 p1) 23 0 ((S.1 23 0) + 1)) H := gW.of (uC_23_0 E M (pI S 23 2 p1) ((S.1 23 0) + 1)) hP hD
          exact W.vret hx hb hr (fun t ht _ => ⟨⟨pI (pI S 23 2 p1) 23 0 ((S.1 23 0) + 1), rfl, by first | (simp only [q_X4_add_23, if_neg c4, if_pos c12, if_neg c24, if_neg c32]; done) | contradiction, by dsimp only; rw [ht]; exact hW⟩, hS.F ht⟩) hS.2.2 dX4_add_50
    · refine lv_aload_n hx hb dX4_add_15 rfl (lv_at hl 0 rfl) ?_
      refine lv_iload_n hx hb dX4_add_16 rfl (lv_at hl 1 rfl) ?_
      refine va_put (D := eD E) (cl := vwCl) (tys := eT E) (A := eA E) (ci := 4) (C := RX4) (T := TX4) (N := 3) (v := .int (p1)) (ty := .int) hx hb hts hinX4 tyX4 tyX4_ok nmX4 hown hE.1 hW.1 hW.2 hS 34 rfl rfl 1 (by decide) (hts (.fieldLink RX4 15 "DialGarden$Range" "least" "I") (by decide +kernel)) (fun _ h9 => h9) rfl (by decide +kernel) rfl rfl (Nat.le_of_ble_eq_true rfl) dX4_add_17 (fun H locs hP hD hS => ?_)
      have hW : gW E M (pI S 23 1 p1) H := gW.of (uC_23_1 E M S p1) hP hD
      refine lv_aload_n hx hb dX4_add_20 rfl (lv_at hl 0 rfl) ?_
      refine va_get (D := eD E) (cl := vwCl) (tys := eT E) (ci := 4) (C := RX4) (T := TX4) (N := 3) (v := .int (S.1 23 0)) hx hb hts hinX4 hown hE.1 hW.1 34 rfl rfl 0 (by decide) (hts (.fieldLink RX4 9 "DialGarden$Range" "size" "I") (by decide +kernel)) (fun _ h9 => h9) rfl dX4_add_21 ?_
      refine lv_if_eq (tgt := 35) hx hb dX4_add_24 (by decide) (fun c24 => ?_) (fun c24 => ?_)
      · refine lv_aload_n hx hb dX4_add_35 rfl (lv_at hl 0 rfl) ?_
        refine lv_iload_n hx hb dX4_add_36 rfl (lv_at hl 1 rfl) ?_
        refine va_put (D := eD E) (cl := vwCl) (tys := eT E) (A := eA E) (ci := 4) (C := RX4) (T := TX4) (N := 3) (v := .int (p1)) (ty := .int) hx hb hts hinX4 tyX4 tyX4_ok nmX4 hown hE.1 hW.1 hW.2 hS 34 rfl rfl 2 (by decide) (hts (.fieldLink RX4 18 "DialGarden$Range" "greatest" "I") (by decide +kernel)) (fun _ h9 => h9) rfl (by decide +kernel) rfl rfl (Nat.le_of_ble_eq_true rfl) dX4_add_37 (fun H locs hP hD hS => ?_)
        have hW : gW E M (pI (pI S 23 1 p1) 23 2 p1) H := gW.of (uC_23_2 E M (pI S 23 1 p1) p1) hP hD
        refine lv_aload_n hx hb dX4_add_40 rfl (lv_at hl 0 rfl) ?_
        refine lv_dup hx hb dX4_add_41 rfl ?_
        refine va_get (D := eD E) (cl := vwCl) (tys := eT E) (ci := 4) (C := RX4) (T := TX4) (N := 3) (v := .int (S.1 23 0)) hx hb hts hinX4 hown hE.1 hW.1 34 rfl rfl 0 (by decide) (hts (.fieldLink RX4 9 "DialGarden$Range" "size" "I") (by decide +kernel)) (fun _ h9 => h9) rfl dX4_add_42 ?_
        refine lv_iconst (v := 1) hx hb dX4_add_45 (by decide) ?_
        refine lv_iadd hx hb dX4_add_46 ?_
        refine va_put (D := eD E) (cl := vwCl) (tys := eT E) (A := eA E) (ci := 4) (C := RX4) (T := TX4) (N := 3) (v := .int ((S.1 23 0) + 1)) (ty := .int) hx hb hts hinX4 tyX4 tyX4_ok nmX4 hown hE.1 hW.1 hW.2 hS 34 rfl rfl 0 (by decide) (hts (.fieldLink RX4 9 "DialGarden$Range" "size" "I") (by decide +kernel)) (fun _ h9 => h9) rfl (by decide +kernel) rfl rfl (Nat.le_of_ble_eq_true rfl) dX4_add_47 (fun H locs hP hD hS => ?_)
        have hW : gW E M (pI (pI (pI S 23 1 p1) 23 2 p1) 23 0 ((S.1 23 0) + 1)) H := gW.of (uC_23_0 E M (pI (pI S 23 1 p1) 23 2 p1) ((S.1 23 0) + 1)) hP hD
        exact W.vret hx hb hr (fun t ht _ => ⟨⟨pI (pI (pI S 23 1 p1) 23 2 p1) 23 0 ((S.1 23 0) + 1), rfl, by first | (simp only [q_X4_add_23, if_neg c4, if_neg c12, if_pos c24]; done) | contradiction, by dsimp only; rw [ht]; exact hW⟩, hS.F ht⟩) hS.2.2 dX4_add_50
      · refine lv_iload_n hx hb dX4_add_27 rfl (lv_at hl 1 rfl) ?_
        refine lv_aload_n hx hb dX4_add_28 rfl (lv_at hl 0 rfl) ?_
        refine va_get (D := eD E) (cl := vwCl) (tys := eT E) (ci := 4) (C := RX4) (T := TX4) (N := 3) (v := .int (S.1 23 2)) hx hb hts hinX4 hown hE.1 hW.1 34 rfl rfl 2 (by decide) (hts (.fieldLink RX4 18 "DialGarden$Range" "greatest" "I") (by decide +kernel)) (fun _ h9 => h9) rfl dX4_add_29 ?_
        refine lv_icmp_le (tgt := 40) hx hb dX4_add_32 (by decide) (fun c32 => ?_) (fun c32 => ?_)
        · refine lv_aload_n hx hb dX4_add_40 rfl (lv_at hl 0 rfl) ?_
          refine lv_dup hx hb dX4_add_41 rfl ?_
          refine va_get (D := eD E) (cl := vwCl) (tys := eT E) (ci := 4) (C := RX4) (T := TX4) (N := 3) (v := .int (S.1 23 0)) hx hb hts hinX4 hown hE.1 hW.1 34 rfl rfl 0 (by decide) (hts (.fieldLink RX4 9 "DialGarden$Range" "size" "I") (by decide +kernel)) (fun _ h9 => h9) rfl dX4_add_42 ?_
          refine lv_iconst (v := 1) hx hb dX4_add_45 (by decide) ?_
          refine lv_iadd hx hb dX4_add_46 ?_
          refine va_put (D := eD E) (cl := vwCl) (tys := eT E) (A := eA E) (ci := 4) (C := RX4) (T := TX4) (N := 3) (v := .int ((S.1 23 0) + 1)) (ty := .int) hx hb hts hinX4 tyX4 tyX4_ok nmX4 hown hE.1 hW.1 hW.2 hS 34 rfl rfl 0 (by decide) (hts (.fieldLink RX4 9 "DialGarden$Range" "size" "I") (by decide +kernel)) (fun _ h9 => h9) rfl (by decide +kernel) rfl rfl (Nat.le_of_ble_eq_true rfl) dX4_add_47 (fun H locs hP hD hS => ?_)
          have hW : gW E M (pI (pI S 23 1 p1) 23 0 ((S.1 23 0) + 1)) H := gW.of (uC_23_0 E M (pI S 23 1 p1) ((S.1 23 0) + 1)) hP hD
          exact W.vret hx hb hr (fun t ht _ => ⟨⟨pI (pI S 23 1 p1) 23 0 ((S.1 23 0) + 1), rfl, by first | (simp only [q_X4_add_23, if_neg c4, if_neg c12, if_neg c24, if_pos c32]; done) | contradiction, by dsimp only; rw [ht]; exact hW⟩, hS.F ht⟩) hS.2.2 dX4_add_50
        · refine lv_aload_n hx hb dX4_add_35 rfl (lv_at hl 0 rfl) ?_
          refine lv_iload_n hx hb dX4_add_36 rfl (lv_at hl 1 rfl) ?_
          refine va_put (D := eD E) (cl := vwCl) (tys := eT E) (A := eA E) (ci := 4) (C := RX4) (T := TX4) (N := 3) (v := .int (p1)) (ty := .int) hx hb hts hinX4 tyX4 tyX4_ok nmX4 hown hE.1 hW.1 hW.2 hS 34 rfl rfl 2 (by decide) (hts (.fieldLink RX4 18 "DialGarden$Range" "greatest" "I") (by decide +kernel)) (fun _ h9 => h9) rfl (by decide +kernel) rfl rfl (Nat.le_of_ble_eq_true rfl) dX4_add_37 (fun H locs hP hD hS => ?_)
          have hW : gW E M (pI (pI S 23 1 p1) 23 2 p1) H := gW.of (uC_23_2 E M (pI S 23 1 p1) p1) hP hD
          refine lv_aload_n hx hb dX4_add_40 rfl (lv_at hl 0 rfl) ?_
          refine lv_dup hx hb dX4_add_41 rfl ?_
          refine va_get (D := eD E) (cl := vwCl) (tys := eT E) (ci := 4) (C := RX4) (T := TX4) (N := 3) (v := .int (S.1 23 0)) hx hb hts hinX4 hown hE.1 hW.1 34 rfl rfl 0 (by decide) (hts (.fieldLink RX4 9 "DialGarden$Range" "size" "I") (by decide +kernel)) (fun _ h9 => h9) rfl dX4_add_42 ?_
          refine lv_iconst (v := 1) hx hb dX4_add_45 (by decide) ?_
          refine lv_iadd hx hb dX4_add_46 ?_
          refine va_put (D := eD E) (cl := vwCl) (tys := eT E) (A := eA E) (ci := 4) (C := RX4) (T := TX4) (N := 3) (v := .int ((S.1 23 0) + 1)) (ty := .int) hx hb hts hinX4 tyX4 tyX4_ok nmX4 hown hE.1 hW.1 hW.2 hS 34 rfl rfl 0 (by decide) (hts (.fieldLink RX4 9 "DialGarden$Range" "size" "I") (by decide +kernel)) (fun _ h9 => h9) rfl (by decide +kernel) rfl rfl (Nat.le_of_ble_eq_true rfl) dX4_add_47 (fun H locs hP hD hS => ?_)
          have hW : gW E M (pI (pI (pI S 23 1 p1) 23 2 p1) 23 0 ((S.1 23 0) + 1)) H := gW.of (uC_23_0 E M (pI (pI S 23 1 p1) 23 2 p1) ((S.1 23 0) + 1)) hP hD
          exact W.vret hx hb hr (fun t ht _ => ⟨⟨pI (pI (pI S 23 1 p1) 23 2 p1) 23 0 ((S.1 23 0) + 1), rfl, by first | (simp only [q_X4_add_23, if_neg c4, if_neg c12, if_neg c24, if_neg c32]; done) | contradiction, by dsimp only; rw [ht]; exact hW⟩, hS.F ht⟩) hS.2.2 dX4_add_50
theorem qp_X4_add_23 (S : gSc) (p1 : Int32) : (q_X4_add_23 S p1).2.2 = S.2.2 := by
  unfold q_X4_add_23
  try dsimp only
  (repeat' split) <;> first | (simp only [pI_2, sR_22]; done) | rfl

def q_X4_leastOrNone_23 (S : gSc)  : Int32 := (if (S.1 23 0) = 0 then (-2000000005) else S.1 23 1)
set_option maxHeartbeats 4000000 in
set_option maxRecDepth 100000 in
theorem c_X4_leastOrNone_23 (l : Launch) (E : gEE) (M : gSm) (S : gSc)   : Met l yX4_leastOrNone wsX4_leastOrNone ({ frames := 0, cells := 0, slots := 0, locals := 0 }) (va_Pc [.ref (eC E 23)] (gP E M S)) (vp_Si (fun r => r = q_X4_leastOrNone_23 S)) 0 0 (fun _ => False) := by
  refine Met.ofW (cc := cX4_leastOrNone) (maxL := 1) (ret := (some .int)) (by decide) rfl ?_
  intro p e s m args below meth c s₁ B hml hv
  obtain ⟨rfl, hE, hW⟩ := hv
  have hx := B.exec
  have hb := B.bytes
  have hr := B.returns
  have hts := atoms_spec (ws := wsX4_leastOrNone) B.pre
  have hown : s.vm.findClass RX4 = some m.cls := findClass_of_methodNamed B.named
  have hlocks := B.notSynchronized
  have hinX4 : ∀ w ∈ wsX40, w ∈ wsX4_leastOrNone := by decide +kernel
  have hS : va_S (eA E) s.heap s.heap [] := va_S.rf
  have hl := lv_entry ([.ref (eC E 23)]) (n := 1) (Nat.le_of_ble_eq_true rfl)
  rw [lg_entry_eq]
  generalize (lg_sl ([.ref (eC E 23)]) ++ List.replicate (1 - (lg_sl ([.ref (eC E 23)])).length) Slot.unset).toArray = ls at hl ⊢
  have hl : lv_has ls 1 [(0, .ref (eC E 23))] := hl
  refine lv_aload_n hx hb dX4_leastOrNone_0 rfl (lv_at hl 0 rfl) ?_
  refine va_get (D := eD E) (cl := vwCl) (tys := eT E) (ci := 4) (C := RX4) (T := TX4) (N := 3) (v := .int (S.1 23 0)) hx hb hts hinX4 hown hE.1 hW.1 34 rfl rfl 0 (by decide) (hts (.fieldLink RX4 9 "DialGarden$Range" "size" "I") (by decide +kernel)) (fun _ h9 => h9) rfl dX4_leastOrNone_1 ?_
  refine lv_if_ne (tgt := 12) hx hb dX4_leastOrNone_4 (by decide) (fun c4 => ?_) (fun c4 => ?_)
  · refine lv_aload_n hx hb dX4_leastOrNone_12 rfl (lv_at hl 0 rfl) ?_
    refine va_get (D := eD E) (cl := vwCl) (tys := eT E) (ci := 4) (C := RX4) (T := TX4) (N := 3) (v := .int (S.1 23 1)) hx hb hts hinX4 hown hE.1 hW.1 34 rfl rfl 1 (by decide) (hts (.fieldLink RX4 15 "DialGarden$Range" "least" "I") (by decide +kernel)) (fun _ h9 => h9) rfl dX4_leastOrNone_13 ?_
    exact W.iret (v := S.1 23 1) hx hb hr (fun t ht _ => ⟨S.1 23 1, rfl, by first | (simp only [q_X4_leastOrNone_23, if_neg c4]; done) | contradiction, ht⟩) (fun _ h => nomatch h) dX4_leastOrNone_16
  · refine lv_ldc hx hb (v := (-2000000005)) hown (hts (.constant RX4 21 (-2000000005)) (by decide +kernel)) dX4_leastOrNone_7 ?_
    refine lv_goto (tgt := 16) hx hb dX4_leastOrNone_9 (by decide) ?_
    exact W.iret (v := (-2000000005)) hx hb hr (fun t ht _ => ⟨(-2000000005), rfl, by first | (simp only [q_X4_leastOrNone_23, if_pos c4]; done) | contradiction, ht⟩) (fun _ h => nomatch h) dX4_leastOrNone_16

def q_X4_greatestOrNone_23 (S : gSc)  : Int32 := (if (S.1 23 0) = 0 then (-2000000005) else S.1 23 2)
set_option maxHeartbeats 4000000 in
set_option maxRecDepth 100000 in
theorem c_X4_greatestOrNone_23 (l : Launch) (E : gEE) (M : gSm) (S : gSc)   : Met l yX4_greatestOrNone wsX4_greatestOrNone ({ frames := 0, cells := 0, slots := 0, locals := 0 }) (va_Pc [.ref (eC E 23)] (gP E M S)) (vp_Si (fun r => r = q_X4_greatestOrNone_23 S)) 0 0 (fun _ => False) := by
  refine Met.ofW (cc := cX4_greatestOrNone) (maxL := 1) (ret := (some .int)) (by decide) rfl ?_
  intro p e s m args below meth c s₁ B hml hv
  obtain ⟨rfl, hE, hW⟩ := hv
  have hx := B.exec
  have hb := B.bytes
  have hr := B.returns
  have hts := atoms_spec (ws := wsX4_greatestOrNone) B.pre
  have hown : s.vm.findClass RX4 = some m.cls := findClass_of_methodNamed B.named
  have hlocks := B.notSynchronized
  have hinX4 : ∀ w ∈ wsX40, w ∈ wsX4_greatestOrNone := by decide +kernel
  have hS : va_S (eA E) s.heap s.heap [] := va_S.rf
  have hl := lv_entry ([.ref (eC E 23)]) (n := 1) (Nat.le_of_ble_eq_true rfl)
  rw [lg_entry_eq]
  generalize (lg_sl ([.ref (eC E 23)]) ++ List.replicate (1 - (lg_sl ([.ref (eC E 23)])).length) Slot.unset).toArray = ls at hl ⊢
  have hl : lv_has ls 1 [(0, .ref (eC E 23))] := hl
  refine lv_aload_n hx hb dX4_greatestOrNone_0 rfl (lv_at hl 0 rfl) ?_
  refine va_get (D := eD E) (cl := vwCl) (tys := eT E) (ci := 4) (C := RX4) (T := TX4) (N := 3) (v := .int (S.1 23 0)) hx hb hts hinX4 hown hE.1 hW.1 34 rfl rfl 0 (by decide) (hts (.fieldLink RX4 9 "DialGarden$Range" "size" "I") (by decide +kernel)) (fun _ h9 => h9) rfl dX4_greatestOrNone_1 ?_
  refine lv_if_ne (tgt := 12) hx hb dX4_greatestOrNone_4 (by decide) (fun c4 => ?_) (fun c4 => ?_)
  · refine lv_aload_n hx hb dX4_greatestOrNone_12 rfl (lv_at hl 0 rfl) ?_
    refine va_get (D := eD E) (cl := vwCl) (tys := eT E) (ci := 4) (C := RX4) (T := TX4) (N := 3) (v := .int (S.1 23 2)) hx hb hts hinX4 hown hE.1 hW.1 34 rfl rfl 2 (by decide) (hts (.fieldLink RX4 18 "DialGarden$Range" "greatest" "I") (by decide +kernel)) (fun _ h9 => h9) rfl dX4_greatestOrNone_13 ?_
    exact W.iret (v := S.1 23 2) hx hb hr (fun t ht _ => ⟨S.1 23 2, rfl, by first | (simp only [q_X4_greatestOrNone_23, if_neg c4]; done) | contradiction, ht⟩) (fun _ h => nomatch h) dX4_greatestOrNone_16
  · refine lv_ldc hx hb (v := (-2000000005)) hown (hts (.constant RX4 21 (-2000000005)) (by decide +kernel)) dX4_greatestOrNone_7 ?_
    refine lv_goto (tgt := 16) hx hb dX4_greatestOrNone_9 (by decide) ?_
    exact W.iret (v := (-2000000005)) hx hb hr (fun t ht _ => ⟨(-2000000005), rfl, by first | (simp only [q_X4_greatestOrNone_23, if_pos c4]; done) | contradiction, ht⟩) (fun _ h => nomatch h) dX4_greatestOrNone_16

def q_X4_clear_24 (S : gSc)  : gSc := pI S 24 0 0
set_option maxHeartbeats 4000000 in
set_option maxRecDepth 100000 in
theorem c_X4_clear_24 (l : Launch) (E : gEE) (M : gSm) (S : gSc)   : Met l yX4_clear wsX4_clear ({ frames := 0, cells := 0, slots := 0, locals := 0 }) (va_Pc [.ref (eC E 24)] (gP E M S)) (va_Qv (fun u : gSc => u = q_X4_clear_24 S) (fun u t => gW E M u t.heap) (eA E)) 0 0 (eA E) := by
  refine Met.ofW (cc := cX4_clear) (maxL := 1) (ret := none) (by decide) rfl ?_
  intro p e s m args below meth c s₁ B hml hv
  obtain ⟨rfl, hE, hW⟩ := hv
  have hx := B.exec
  have hb := B.bytes
  have hr := B.returns
  have hts := atoms_spec (ws := wsX4_clear) B.pre
  have hown : s.vm.findClass RX4 = some m.cls := findClass_of_methodNamed B.named
  have hlocks := B.notSynchronized
  have hinX4 : ∀ w ∈ wsX40, w ∈ wsX4_clear := by decide +kernel
  have hS : va_S (eA E) s.heap s.heap [] := va_S.rf
  have hl := lv_entry ([.ref (eC E 24)]) (n := 1) (Nat.le_of_ble_eq_true rfl)
  rw [lg_entry_eq]
  generalize (lg_sl ([.ref (eC E 24)]) ++ List.replicate (1 - (lg_sl ([.ref (eC E 24)])).length) Slot.unset).toArray = ls at hl ⊢
  have hl : lv_has ls 1 [(0, .ref (eC E 24))] := hl
  have hS : ∃ (H : Heap) (locs : List Loc), H = s.heap ∧ locs = [] ∧ gW E M S H ∧ va_S (eA E) s.heap H locs := ⟨_, _, rfl, rfl, hW, hS⟩
  clear hW
  obtain ⟨H, locs, eH, el, hW, hS⟩ := hS
  rw [← eH, ← el]
  clear eH el
  refine lv_aload_n hx hb dX4_clear_0 rfl (lv_at hl 0 rfl) ?_
  refine lv_iconst (v := 0) hx hb dX4_clear_1 (by decide) ?_
  refine va_put (D := eD E) (cl := vwCl) (tys := eT E) (A := eA E) (ci := 4) (C := RX4) (T := TX4) (N := 3) (v := .int (0)) (ty := .int) hx hb hts hinX4 tyX4 tyX4_ok nmX4 hown hE.1 hW.1 hW.2 hS 35 rfl rfl 0 (by decide) (hts (.fieldLink RX4 9 "DialGarden$Range" "size" "I") (by decide +kernel)) (fun _ h9 => h9) rfl (by decide +kernel) rfl rfl (Nat.le_of_ble_eq_true rfl) dX4_clear_2 (fun H locs hP hD hS => ?_)
  have hW : gW E M (pI S 24 0 0) H := gW.of (uC_24_0 E M S 0) hP hD
  exact W.vret hx hb hr (fun t ht _ => ⟨⟨pI S 24 0 0, rfl, by first | (simp only [q_X4_clear_24]; done) | contradiction, by dsimp only; rw [ht]; exact hW⟩, hS.F ht⟩) hS.2.2 dX4_clear_5
theorem qp_X4_clear_24 (S : gSc)  : (q_X4_clear_24 S).2.2 = S.2.2 := by
  unfold q_X4_clear_24
  try dsimp only
  (repeat' split) <;> first | (simp only [pI_2, sR_22]; done) | rfl

def q_X4_add_24 (S : gSc) (p1 : Int32) : gSc := (if (S.1 24 0) = 0 then (if (S.1 24 0) = 0 then pI (pI (pI S 24 1 p1) 24 2 p1) 24 0 ((S.1 24 0) + 1) else (if p1 ≤ (S.1 24 2) then pI (pI S 24 1 p1) 24 0 ((S.1 24 0) + 1) else pI (pI (pI S 24 1 p1) 24 2 p1) 24 0 ((S.1 24 0) + 1))) else (if (S.1 24 1) ≤ p1 then (if (S.1 24 0) = 0 then pI (pI S 24 2 p1) 24 0 ((S.1 24 0) + 1) else (if p1 ≤ (S.1 24 2) then pI S 24 0 ((S.1 24 0) + 1) else pI (pI S 24 2 p1) 24 0 ((S.1 24 0) + 1))) else (if (S.1 24 0) = 0 then pI (pI (pI S 24 1 p1) 24 2 p1) 24 0 ((S.1 24 0) + 1) else (if p1 ≤ (S.1 24 2) then pI (pI S 24 1 p1) 24 0 ((S.1 24 0) + 1) else pI (pI (pI S 24 1 p1) 24 2 p1) 24 0 ((S.1 24 0) + 1)))))
set_option maxHeartbeats 4000000 in
set_option maxRecDepth 100000 in
theorem c_X4_add_24 (l : Launch) (E : gEE) (M : gSm) (S : gSc) (p1 : Int32)  : Met l yX4_add wsX4_add ({ frames := 0, cells := 0, slots := 0, locals := 0 }) (va_Pc [.ref (eC E 24), .int (p1)] (gP E M S)) (va_Qv (fun u : gSc => u = q_X4_add_24 S p1) (fun u t => gW E M u t.heap) (eA E)) 0 0 (eA E) := by
  refine Met.ofW (cc := cX4_add) (maxL := 2) (ret := none) (by decide) rfl ?_
  intro p e s m args below meth c s₁ B hml hv
  obtain ⟨rfl, hE, hW⟩ := hv
  have hx := B.exec
  have hb := B.bytes
  have hr := B.returns
  have hts := atoms_spec (ws := wsX4_add) B.pre
  have hown : s.vm.findClass RX4 = some m.cls := findClass_of_methodNamed B.named
  have hlocks := B.notSynchronized
  have hinX4 : ∀ w ∈ wsX40, w ∈ wsX4_add := by decide +kernel
  have hS : va_S (eA E) s.heap s.heap [] := va_S.rf
  have hl := lv_entry ([.ref (eC E 24), .int (p1)]) (n := 2) (Nat.le_of_ble_eq_true rfl)
  rw [lg_entry_eq]
  generalize (lg_sl ([.ref (eC E 24), .int (p1)]) ++ List.replicate (2 - (lg_sl ([.ref (eC E 24), .int (p1)])).length) Slot.unset).toArray = ls at hl ⊢
  have hl : lv_has ls 2 [(0, .ref (eC E 24)), (1, .int (p1))] := hl
  have hS : ∃ (H : Heap) (locs : List Loc), H = s.heap ∧ locs = [] ∧ gW E M S H ∧ va_S (eA E) s.heap H locs := ⟨_, _, rfl, rfl, hW, hS⟩
  clear hW
  obtain ⟨H, locs, eH, el, hW, hS⟩ := hS
  rw [← eH, ← el]
  clear eH el
  refine lv_aload_n hx hb dX4_add_0 rfl (lv_at hl 0 rfl) ?_
  refine va_get (D := eD E) (cl := vwCl) (tys := eT E) (ci := 4) (C := RX4) (T := TX4) (N := 3) (v := .int (S.1 24 0)) hx hb hts hinX4 hown hE.1 hW.1 35 rfl rfl 0 (by decide) (hts (.fieldLink RX4 9 "DialGarden$Range" "size" "I") (by decide +kernel)) (fun _ h9 => h9) rfl dX4_add_1 ?_
  refine lv_if_eq (tgt := 15) hx hb dX4_add_4 (by decide) (fun c4 => ?_) (fun c4 => ?_)
  · refine lv_aload_n hx hb dX4_add_15 rfl (lv_at hl 0 rfl) ?_
    refine lv_iload_n hx hb dX4_add_16 rfl (lv_at hl 1 rfl) ?_
    refine va_put (D := eD E) (cl := vwCl) (tys := eT E) (A := eA E) (ci := 4) (C := RX4) (T := TX4) (N := 3) (v := .int (p1)) (ty := .int) hx hb hts hinX4 tyX4 tyX4_ok nmX4 hown hE.1 hW.1 hW.2 hS 35 rfl rfl 1 (by decide) (hts (.fieldLink RX4 15 "DialGarden$Range" "least" "I") (by decide +kernel)) (fun _ h9 => h9) rfl (by decide +kernel) rfl rfl (Nat.le_of_ble_eq_true rfl) dX4_add_17 (fun H locs hP hD hS => ?_)
    have hW : gW E M (pI S 24 1 p1) H := gW.of (uC_24_1 E M S p1) hP hD
    refine lv_aload_n hx hb dX4_add_20 rfl (lv_at hl 0 rfl) ?_
    refine va_get (D := eD E) (cl := vwCl) (tys := eT E) (ci := 4) (C := RX4) (T := TX4) (N := 3) (v := .int (S.1 24 0)) hx hb hts hinX4 hown hE.1 hW.1 35 rfl rfl 0 (by decide) (hts (.fieldLink RX4 9 "DialGarden$Range" "size" "I") (by decide +kernel)) (fun _ h9 => h9) rfl dX4_add_21 ?_
    refine lv_if_eq (tgt := 35) hx hb dX4_add_24 (by decide) (fun c24 => ?_) (fun c24 => ?_)
    · refine lv_aload_n hx hb dX4_add_35 rfl (lv_at hl 0 rfl) ?_
      refine lv_iload_n hx hb dX4_add_36 rfl (lv_at hl 1 rfl) ?_
      refine va_put (D := eD E) (cl := vwCl) (tys := eT E) (A := eA E) (ci := 4) (C := RX4) (T := TX4) (N := 3) (v := .int (p1)) (ty := .int) hx hb hts hinX4 tyX4 tyX4_ok nmX4 hown hE.1 hW.1 hW.2 hS 35 rfl rfl 2 (by decide) (hts (.fieldLink RX4 18 "DialGarden$Range" "greatest" "I") (by decide +kernel)) (fun _ h9 => h9) rfl (by decide +kernel) rfl rfl (Nat.le_of_ble_eq_true rfl) dX4_add_37 (fun H locs hP hD hS => ?_)
      have hW : gW E M (pI (pI S 24 1 p1) 24 2 p1) H := gW.of (uC_24_2 E M (pI S 24 1 p1) p1) hP hD
      refine lv_aload_n hx hb dX4_add_40 rfl (lv_at hl 0 rfl) ?_
      refine lv_dup hx hb dX4_add_41 rfl ?_
      refine va_get (D := eD E) (cl := vwCl) (tys := eT E) (ci := 4) (C := RX4) (T := TX4) (N := 3) (v := .int (S.1 24 0)) hx hb hts hinX4 hown hE.1 hW.1 35 rfl rfl 0 (by decide) (hts (.fieldLink RX4 9 "DialGarden$Range" "size" "I") (by decide +kernel)) (fun _ h9 => h9) rfl dX4_add_42 ?_
      refine lv_iconst (v := 1) hx hb dX4_add_45 (by decide) ?_
      refine lv_iadd hx hb dX4_add_46 ?_
      refine va_put (D := eD E) (cl := vwCl) (tys := eT E) (A := eA E) (ci := 4) (C := RX4) (T := TX4) (N := 3) (v := .int ((S.1 24 0) + 1)) (ty := .int) hx hb hts hinX4 tyX4 tyX4_ok nmX4 hown hE.1 hW.1 hW.2 hS 35 rfl rfl 0 (by decide) (hts (.fieldLink RX4 9 "DialGarden$Range" "size" "I") (by decide +kernel)) (fun _ h9 => h9) rfl (by decide +kernel) rfl rfl (Nat.le_of_ble_eq_true rfl) dX4_add_47 (fun H locs hP hD hS => ?_)
      have hW : gW E M (pI (pI (pI S 24 1 p1) 24 2 p1) 24 0 ((S.1 24 0) + 1)) H := gW.of (uC_24_0 E M (pI (pI S 24 1 p1) 24 2 p1) ((S.1 24 0) + 1)) hP hD
      exact W.vret hx hb hr (fun t ht _ => ⟨⟨pI (pI (pI S 24 1 p1) 24 2 p1) 24 0 ((S.1 24 0) + 1), rfl, by first | (simp only [q_X4_add_24, if_pos c4, if_pos c24]; done) | contradiction, by dsimp only; rw [ht]; exact hW⟩, hS.F ht⟩) hS.2.2 dX4_add_50
    · refine lv_iload_n hx hb dX4_add_27 rfl (lv_at hl 1 rfl) ?_
      refine lv_aload_n hx hb dX4_add_28 rfl (lv_at hl 0 rfl) ?_
      refine va_get (D := eD E) (cl := vwCl) (tys := eT E) (ci := 4) (C := RX4) (T := TX4) (N := 3) (v := .int (S.1 24 2)) hx hb hts hinX4 hown hE.1 hW.1 35 rfl rfl 2 (by decide) (hts (.fieldLink RX4 18 "DialGarden$Range" "greatest" "I") (by decide +kernel)) (fun _ h9 => h9) rfl dX4_add_29 ?_
      refine lv_icmp_le (tgt := 40) hx hb dX4_add_32 (by decide) (fun c32 => ?_) (fun c32 => ?_)
      · refine lv_aload_n hx hb dX4_add_40 rfl (lv_at hl 0 rfl) ?_
        refine lv_dup hx hb dX4_add_41 rfl ?_
        refine va_get (D := eD E) (cl := vwCl) (tys := eT E) (ci := 4) (C := RX4) (T := TX4) (N := 3) (v := .int (S.1 24 0)) hx hb hts hinX4 hown hE.1 hW.1 35 rfl rfl 0 (by decide) (hts (.fieldLink RX4 9 "DialGarden$Range" "size" "I") (by decide +kernel)) (fun _ h9 => h9) rfl dX4_add_42 ?_
        refine lv_iconst (v := 1) hx hb dX4_add_45 (by decide) ?_
        refine lv_iadd hx hb dX4_add_46 ?_
        refine va_put (D := eD E) (cl := vwCl) (tys := eT E) (A := eA E) (ci := 4) (C := RX4) (T := TX4) (N := 3) (v := .int ((S.1 24 0) + 1)) (ty := .int) hx hb hts hinX4 tyX4 tyX4_ok nmX4 hown hE.1 hW.1 hW.2 hS 35 rfl rfl 0 (by decide) (hts (.fieldLink RX4 9 "DialGarden$Range" "size" "I") (by decide +kernel)) (fun _ h9 => h9) rfl (by decide +kernel) rfl rfl (Nat.le_of_ble_eq_true rfl) dX4_add_47 (fun H locs hP hD hS => ?_)
        have hW : gW E M (pI (pI S 24 1 p1) 24 0 ((S.1 24 0) + 1)) H := gW.of (uC_24_0 E M (pI S 24 1 p1) ((S.1 24 0) + 1)) hP hD
        exact W.vret hx hb hr (fun t ht _ => ⟨⟨pI (pI S 24 1 p1) 24 0 ((S.1 24 0) + 1), rfl, by first | (simp only [q_X4_add_24, if_pos c4, if_neg c24, if_pos c32]; done) | contradiction, by dsimp only; rw [ht]; exact hW⟩, hS.F ht⟩) hS.2.2 dX4_add_50
      · refine lv_aload_n hx hb dX4_add_35 rfl (lv_at hl 0 rfl) ?_
        refine lv_iload_n hx hb dX4_add_36 rfl (lv_at hl 1 rfl) ?_
        refine va_put (D := eD E) (cl := vwCl) (tys := eT E) (A := eA E) (ci := 4) (C := RX4) (T := TX4) (N := 3) (v := .int (p1)) (ty := .int) hx hb hts hinX4 tyX4 tyX4_ok nmX4 hown hE.1 hW.1 hW.2 hS 35 rfl rfl 2 (by decide) (hts (.fieldLink RX4 18 "DialGarden$Range" "greatest" "I") (by decide +kernel)) (fun _ h9 => h9) rfl (by decide +kernel) rfl rfl (Nat.le_of_ble_eq_true rfl) dX4_add_37 (fun H locs hP hD hS => ?_)
        have hW : gW E M (pI (pI S 24 1 p1) 24 2 p1) H := gW.of (uC_24_2 E M (pI S 24 1 p1) p1) hP hD
        refine lv_aload_n hx hb dX4_add_40 rfl (lv_at hl 0 rfl) ?_
        refine lv_dup hx hb dX4_add_41 rfl ?_
        refine va_get (D := eD E) (cl := vwCl) (tys := eT E) (ci := 4) (C := RX4) (T := TX4) (N := 3) (v := .int (S.1 24 0)) hx hb hts hinX4 hown hE.1 hW.1 35 rfl rfl 0 (by decide) (hts (.fieldLink RX4 9 "DialGarden$Range" "size" "I") (by decide +kernel)) (fun _ h9 => h9) rfl dX4_add_42 ?_
        refine lv_iconst (v := 1) hx hb dX4_add_45 (by decide) ?_
        refine lv_iadd hx hb dX4_add_46 ?_
        refine va_put (D := eD E) (cl := vwCl) (tys := eT E) (A := eA E) (ci := 4) (C := RX4) (T := TX4) (N := 3) (v := .int ((S.1 24 0) + 1)) (ty := .int) hx hb hts hinX4 tyX4 tyX4_ok nmX4 hown hE.1 hW.1 hW.2 hS 35 rfl rfl 0 (by decide) (hts (.fieldLink RX4 9 "DialGarden$Range" "size" "I") (by decide +kernel)) (fun _ h9 => h9) rfl (by decide +kernel) rfl rfl (Nat.le_of_ble_eq_true rfl) dX4_add_47 (fun H locs hP hD hS => ?_)
        have hW : gW E M (pI (pI (pI S 24 1 p1) 24 2 p1) 24 0 ((S.1 24 0) + 1)) H := gW.of (uC_24_0 E M (pI (pI S 24 1 p1) 24 2 p1) ((S.1 24 0) + 1)) hP hD
        exact W.vret hx hb hr (fun t ht _ => ⟨⟨pI (pI (pI S 24 1 p1) 24 2 p1) 24 0 ((S.1 24 0) + 1), rfl, by first | (simp only [q_X4_add_24, if_pos c4, if_neg c24, if_neg c32]; done) | contradiction, by dsimp only; rw [ht]; exact hW⟩, hS.F ht⟩) hS.2.2 dX4_add_50
  · refine lv_iload_n hx hb dX4_add_7 rfl (lv_at hl 1 rfl) ?_
    refine lv_aload_n hx hb dX4_add_8 rfl (lv_at hl 0 rfl) ?_
    refine va_get (D := eD E) (cl := vwCl) (tys := eT E) (ci := 4) (C := RX4) (T := TX4) (N := 3) (v := .int (S.1 24 1)) hx hb hts hinX4 hown hE.1 hW.1 35 rfl rfl 1 (by decide) (hts (.fieldLink RX4 15 "DialGarden$Range" "least" "I") (by decide +kernel)) (fun _ h9 => h9) rfl dX4_add_9 ?_
    refine lv_icmp_ge (tgt := 20) hx hb dX4_add_12 (by decide) (fun c12 => ?_) (fun c12 => ?_)
    · refine lv_aload_n hx hb dX4_add_20 rfl (lv_at hl 0 rfl) ?_
      refine va_get (D := eD E) (cl := vwCl) (tys := eT E) (ci := 4) (C := RX4) (T := TX4) (N := 3) (v := .int (S.1 24 0)) hx hb hts hinX4 hown hE.1 hW.1 35 rfl rfl 0 (by decide) (hts (.fieldLink RX4 9 "DialGarden$Range" "size" "I") (by decide +kernel)) (fun _ h9 => h9) rfl dX4_add_21 ?_
      refine lv_if_eq (tgt := 35) hx hb dX4_add_24 (by decide) (fun c24 => ?_) (fun c24 => ?_)
      · refine lv_aload_n hx hb dX4_add_35 rfl (lv_at hl 0 rfl) ?_
        refine lv_iload_n hx hb dX4_add_36 rfl (lv_at hl 1 rfl) ?_
        refine va_put (D := eD E) (cl := vwCl) (tys := eT E) (A := eA E) (ci := 4) (C := RX4) (T := TX4) (N := 3) (v := .int (p1)) (ty := .int) hx hb hts hinX4 tyX4 tyX4_ok nmX4 hown hE.1 hW.1 hW.2 hS 35 rfl rfl 2 (by decide) (hts (.fieldLink RX4 18 "DialGarden$Range" "greatest" "I") (by decide +kernel)) (fun _ h9 => h9) rfl (by decide +kernel) rfl rfl (Nat.le_of_ble_eq_true rfl) dX4_add_37 (fun H locs hP hD hS => ?_)
        have hW : gW E M (pI S 24 2 p1) H := gW.of (uC_24_2 E M S p1) hP hD
        refine lv_aload_n hx hb dX4_add_40 rfl (lv_at hl 0 rfl) ?_
        refine lv_dup hx hb dX4_add_41 rfl ?_
        refine va_get (D := eD E) (cl := vwCl) (tys := eT E) (ci := 4) (C := RX4) (T := TX4) (N := 3) (v := .int (S.1 24 0)) hx hb hts hinX4 hown hE.1 hW.1 35 rfl rfl 0 (by decide) (hts (.fieldLink RX4 9 "DialGarden$Range" "size" "I") (by decide +kernel)) (fun _ h9 => h9) rfl dX4_add_42 ?_
        refine lv_iconst (v := 1) hx hb dX4_add_45 (by decide) ?_
        refine lv_iadd hx hb dX4_add_46 ?_
        refine va_put (D := eD E) (cl := vwCl) (tys := eT E) (A := eA E) (ci := 4) (C := RX4) (T := TX4) (N := 3) (v := .int ((S.1 24 0) + 1)) (ty := .int) hx hb hts hinX4 tyX4 tyX4_ok nmX4 hown hE.1 hW.1 hW.2 hS 35 rfl rfl 0 (by decide) (hts (.fieldLink RX4 9 "DialGarden$Range" "size" "I") (by decide +kernel)) (fun _ h9 => h9) rfl (by decide +kernel) rfl rfl (Nat.le_of_ble_eq_true rfl) dX4_add_47 (fun H locs hP hD hS => ?_)
        have hW : gW E M (pI (pI S 24 2 p1) 24 0 ((S.1 24 0) + 1)) H := gW.of (uC_24_0 E M (pI S 24 2 p1) ((S.1 24 0) + 1)) hP hD
        exact W.vret hx hb hr (fun t ht _ => ⟨⟨pI (pI S 24 2 p1) 24 0 ((S.1 24 0) + 1), rfl, by first | (simp only [q_X4_add_24, if_neg c4, if_pos c12, if_pos c24]; done) | contradiction, by dsimp only; rw [ht]; exact hW⟩, hS.F ht⟩) hS.2.2 dX4_add_50
      · refine lv_iload_n hx hb dX4_add_27 rfl (lv_at hl 1 rfl) ?_
        refine lv_aload_n hx hb dX4_add_28 rfl (lv_at hl 0 rfl) ?_
        refine va_get (D := eD E) (cl := vwCl) (tys := eT E) (ci := 4) (C := RX4) (T := TX4) (N := 3) (v := .int (S.1 24 2)) hx hb hts hinX4 hown hE.1 hW.1 35 rfl rfl 2 (by decide) (hts (.fieldLink RX4 18 "DialGarden$Range" "greatest" "I") (by decide +kernel)) (fun _ h9 => h9) rfl dX4_add_29 ?_
        refine lv_icmp_le (tgt := 40) hx hb dX4_add_32 (by decide) (fun c32 => ?_) (fun c32 => ?_)
        · refine lv_aload_n hx hb dX4_add_40 rfl (lv_at hl 0 rfl) ?_
          refine lv_dup hx hb dX4_add_41 rfl ?_
          refine va_get (D := eD E) (cl := vwCl) (tys := eT E) (ci := 4) (C := RX4) (T := TX4) (N := 3) (v := .int (S.1 24 0)) hx hb hts hinX4 hown hE.1 hW.1 35 rfl rfl 0 (by decide) (hts (.fieldLink RX4 9 "DialGarden$Range" "size" "I") (by decide +kernel)) (fun _ h9 => h9) rfl dX4_add_42 ?_
          refine lv_iconst (v := 1) hx hb dX4_add_45 (by decide) ?_
          refine lv_iadd hx hb dX4_add_46 ?_
          refine va_put (D := eD E) (cl := vwCl) (tys := eT E) (A := eA E) (ci := 4) (C := RX4) (T := TX4) (N := 3) (v := .int ((S.1 24 0) + 1)) (ty := .int) hx hb hts hinX4 tyX4 tyX4_ok nmX4 hown hE.1 hW.1 hW.2 hS 35 rfl rfl 0 (by decide) (hts (.fieldLink RX4 9 "DialGarden$Range" "size" "I") (by decide +kernel)) (fun _ h9 => h9) rfl (by decide +kernel) rfl rfl (Nat.le_of_ble_eq_true rfl) dX4_add_47 (fun H locs hP hD hS => ?_)
          have hW : gW E M (pI S 24 0 ((S.1 24 0) + 1)) H := gW.of (uC_24_0 E M S ((S.1 24 0) + 1)) hP hD
          exact W.vret hx hb hr (fun t ht _ => ⟨⟨pI S 24 0 ((S.1 24 0) + 1), rfl, by first | (simp only [q_X4_add_24, if_neg c4, if_pos c12, if_neg c24, if_pos c32]; done) | contradiction, by dsimp only; rw [ht]; exact hW⟩, hS.F ht⟩) hS.2.2 dX4_add_50
        · refine lv_aload_n hx hb dX4_add_35 rfl (lv_at hl 0 rfl) ?_
          refine lv_iload_n hx hb dX4_add_36 rfl (lv_at hl 1 rfl) ?_
          refine va_put (D := eD E) (cl := vwCl) (tys := eT E) (A := eA E) (ci := 4) (C := RX4) (T := TX4) (N := 3) (v := .int (p1)) (ty := .int) hx hb hts hinX4 tyX4 tyX4_ok nmX4 hown hE.1 hW.1 hW.2 hS 35 rfl rfl 2 (by decide) (hts (.fieldLink RX4 18 "DialGarden$Range" "greatest" "I") (by decide +kernel)) (fun _ h9 => h9) rfl (by decide +kernel) rfl rfl (Nat.le_of_ble_eq_true rfl) dX4_add_37 (fun H locs hP hD hS => ?_)
          have hW : gW E M (pI S 24 2 p1) H := gW.of (uC_24_2 E M S p1) hP hD
          refine lv_aload_n hx hb dX4_add_40 rfl (lv_at hl 0 rfl) ?_
          refine lv_dup hx hb dX4_add_41 rfl ?_
          refine va_get (D := eD E) (cl := vwCl) (tys := eT E) (ci := 4) (C := RX4) (T := TX4) (N := 3) (v := .int (S.1 24 0)) hx hb hts hinX4 hown hE.1 hW.1 35 rfl rfl 0 (by decide) (hts (.fieldLink RX4 9 "DialGarden$Range" "size" "I") (by decide +kernel)) (fun _ h9 => h9) rfl dX4_add_42 ?_
          refine lv_iconst (v := 1) hx hb dX4_add_45 (by decide) ?_
          refine lv_iadd hx hb dX4_add_46 ?_
          refine va_put (D := eD E) (cl := vwCl) (tys := eT E) (A := eA E) (ci := 4) (C := RX4) (T := TX4) (N := 3) (v := .int ((S.1 24 0) + 1)) (ty := .int) hx hb hts hinX4 tyX4 tyX4_ok nmX4 hown hE.1 hW.1 hW.2 hS 35 rfl rfl 0 (by decide) (hts (.fieldLink RX4 9 "DialGarden$Range" "size" "I") (by decide +kernel)) (fun _ h9 => h9) rfl (by decide +kernel) rfl rfl (Nat.le_of_ble_eq_true rfl) dX4_add_47 (fun H locs hP hD hS => ?_)
          have hW : gW E M (pI (pI S 24 2 p1) 24 0 ((S.1 24 0) + 1)) H := gW.of (uC_24_0 E M (pI S 24 2 p1) ((S.1 24 0) + 1)) hP hD
          exact W.vret hx hb hr (fun t ht _ => ⟨⟨pI (pI S 24 2 p1) 24 0 ((S.1 24 0) + 1), rfl, by first | (simp only [q_X4_add_24, if_neg c4, if_pos c12, if_neg c24, if_neg c32]; done) | contradiction, by dsimp only; rw [ht]; exact hW⟩, hS.F ht⟩) hS.2.2 dX4_add_50
    · refine lv_aload_n hx hb dX4_add_15 rfl (lv_at hl 0 rfl) ?_
      refine lv_iload_n hx hb dX4_add_16 rfl (lv_at hl 1 rfl) ?_
      refine va_put (D := eD E) (cl := vwCl) (tys := eT E) (A := eA E) (ci := 4) (C := RX4) (T := TX4) (N := 3) (v := .int (p1)) (ty := .int) hx hb hts hinX4 tyX4 tyX4_ok nmX4 hown hE.1 hW.1 hW.2 hS 35 rfl rfl 1 (by decide) (hts (.fieldLink RX4 15 "DialGarden$Range" "least" "I") (by decide +kernel)) (fun _ h9 => h9) rfl (by decide +kernel) rfl rfl (Nat.le_of_ble_eq_true rfl) dX4_add_17 (fun H locs hP hD hS => ?_)
      have hW : gW E M (pI S 24 1 p1) H := gW.of (uC_24_1 E M S p1) hP hD
      refine lv_aload_n hx hb dX4_add_20 rfl (lv_at hl 0 rfl) ?_
      refine va_get (D := eD E) (cl := vwCl) (tys := eT E) (ci := 4) (C := RX4) (T := TX4) (N := 3) (v := .int (S.1 24 0)) hx hb hts hinX4 hown hE.1 hW.1 35 rfl rfl 0 (by decide) (hts (.fieldLink RX4 9 "DialGarden$Range" "size" "I") (by decide +kernel)) (fun _ h9 => h9) rfl dX4_add_21 ?_
      refine lv_if_eq (tgt := 35) hx hb dX4_add_24 (by decide) (fun c24 => ?_) (fun c24 => ?_)
      · refine lv_aload_n hx hb dX4_add_35 rfl (lv_at hl 0 rfl) ?_
        refine lv_iload_n hx hb dX4_add_36 rfl (lv_at hl 1 rfl) ?_
        refine va_put (D := eD E) (cl := vwCl) (tys := eT E) (A := eA E) (ci := 4) (C := RX4) (T := TX4) (N := 3) (v := .int (p1)) (ty := .int) hx hb hts hinX4 tyX4 tyX4_ok nmX4 hown hE.1 hW.1 hW.2 hS 35 rfl rfl 2 (by decide) (hts (.fieldLink RX4 18 "DialGarden$Range" "greatest" "I") (by decide +kernel)) (fun _ h9 => h9) rfl (by decide +kernel) rfl rfl (Nat.le_of_ble_eq_true rfl) dX4_add_37 (fun H locs hP hD hS => ?_)
        have hW : gW E M (pI (pI S 24 1 p1) 24 2 p1) H := gW.of (uC_24_2 E M (pI S 24 1 p1) p1) hP hD
        refine lv_aload_n hx hb dX4_add_40 rfl (lv_at hl 0 rfl) ?_
        refine lv_dup hx hb dX4_add_41 rfl ?_
        refine va_get (D := eD E) (cl := vwCl) (tys := eT E) (ci := 4) (C := RX4) (T := TX4) (N := 3) (v := .int (S.1 24 0)) hx hb hts hinX4 hown hE.1 hW.1 35 rfl rfl 0 (by decide) (hts (.fieldLink RX4 9 "DialGarden$Range" "size" "I") (by decide +kernel)) (fun _ h9 => h9) rfl dX4_add_42 ?_
        refine lv_iconst (v := 1) hx hb dX4_add_45 (by decide) ?_
        refine lv_iadd hx hb dX4_add_46 ?_
        refine va_put (D := eD E) (cl := vwCl) (tys := eT E) (A := eA E) (ci := 4) (C := RX4) (T := TX4) (N := 3) (v := .int ((S.1 24 0) + 1)) (ty := .int) hx hb hts hinX4 tyX4 tyX4_ok nmX4 hown hE.1 hW.1 hW.2 hS 35 rfl rfl 0 (by decide) (hts (.fieldLink RX4 9 "DialGarden$Range" "size" "I") (by decide +kernel)) (fun _ h9 => h9) rfl (by decide +kernel) rfl rfl (Nat.le_of_ble_eq_true rfl) dX4_add_47 (fun H locs hP hD hS => ?_)
        have hW : gW E M (pI (pI (pI S 24 1 p1) 24 2 p1) 24 0 ((S.1 24 0) + 1)) H := gW.of (uC_24_0 E M (pI (pI S 24 1 p1) 24 2 p1) ((S.1 24 0) + 1)) hP hD
        exact W.vret hx hb hr (fun t ht _ => ⟨⟨pI (pI (pI S 24 1 p1) 24 2 p1) 24 0 ((S.1 24 0) + 1), rfl, by first | (simp only [q_X4_add_24, if_neg c4, if_neg c12, if_pos c24]; done) | contradiction, by dsimp only; rw [ht]; exact hW⟩, hS.F ht⟩) hS.2.2 dX4_add_50
      · refine lv_iload_n hx hb dX4_add_27 rfl (lv_at hl 1 rfl) ?_
        refine lv_aload_n hx hb dX4_add_28 rfl (lv_at hl 0 rfl) ?_
        refine va_get (D := eD E) (cl := vwCl) (tys := eT E) (ci := 4) (C := RX4) (T := TX4) (N := 3) (v := .int (S.1 24 2)) hx hb hts hinX4 hown hE.1 hW.1 35 rfl rfl 2 (by decide) (hts (.fieldLink RX4 18 "DialGarden$Range" "greatest" "I") (by decide +kernel)) (fun _ h9 => h9) rfl dX4_add_29 ?_
        refine lv_icmp_le (tgt := 40) hx hb dX4_add_32 (by decide) (fun c32 => ?_) (fun c32 => ?_)
        · refine lv_aload_n hx hb dX4_add_40 rfl (lv_at hl 0 rfl) ?_
          refine lv_dup hx hb dX4_add_41 rfl ?_
          refine va_get (D := eD E) (cl := vwCl) (tys := eT E) (ci := 4) (C := RX4) (T := TX4) (N := 3) (v := .int (S.1 24 0)) hx hb hts hinX4 hown hE.1 hW.1 35 rfl rfl 0 (by decide) (hts (.fieldLink RX4 9 "DialGarden$Range" "size" "I") (by decide +kernel)) (fun _ h9 => h9) rfl dX4_add_42 ?_
          refine lv_iconst (v := 1) hx hb dX4_add_45 (by decide) ?_
          refine lv_iadd hx hb dX4_add_46 ?_
          refine va_put (D := eD E) (cl := vwCl) (tys := eT E) (A := eA E) (ci := 4) (C := RX4) (T := TX4) (N := 3) (v := .int ((S.1 24 0) + 1)) (ty := .int) hx hb hts hinX4 tyX4 tyX4_ok nmX4 hown hE.1 hW.1 hW.2 hS 35 rfl rfl 0 (by decide) (hts (.fieldLink RX4 9 "DialGarden$Range" "size" "I") (by decide +kernel)) (fun _ h9 => h9) rfl (by decide +kernel) rfl rfl (Nat.le_of_ble_eq_true rfl) dX4_add_47 (fun H locs hP hD hS => ?_)
          have hW : gW E M (pI (pI S 24 1 p1) 24 0 ((S.1 24 0) + 1)) H := gW.of (uC_24_0 E M (pI S 24 1 p1) ((S.1 24 0) + 1)) hP hD
          exact W.vret hx hb hr (fun t ht _ => ⟨⟨pI (pI S 24 1 p1) 24 0 ((S.1 24 0) + 1), rfl, by first | (simp only [q_X4_add_24, if_neg c4, if_neg c12, if_neg c24, if_pos c32]; done) | contradiction, by dsimp only; rw [ht]; exact hW⟩, hS.F ht⟩) hS.2.2 dX4_add_50
        · refine lv_aload_n hx hb dX4_add_35 rfl (lv_at hl 0 rfl) ?_
          refine lv_iload_n hx hb dX4_add_36 rfl (lv_at hl 1 rfl) ?_
          refine va_put (D := eD E) (cl := vwCl) (tys := eT E) (A := eA E) (ci := 4) (C := RX4) (T := TX4) (N := 3) (v := .int (p1)) (ty := .int) hx hb hts hinX4 tyX4 tyX4_ok nmX4 hown hE.1 hW.1 hW.2 hS 35 rfl rfl 2 (by decide) (hts (.fieldLink RX4 18 "DialGarden$Range" "greatest" "I") (by decide +kernel)) (fun _ h9 => h9) rfl (by decide +kernel) rfl rfl (Nat.le_of_ble_eq_true rfl) dX4_add_37 (fun H locs hP hD hS => ?_)
          have hW : gW E M (pI (pI S 24 1 p1) 24 2 p1) H := gW.of (uC_24_2 E M (pI S 24 1 p1) p1) hP hD
          refine lv_aload_n hx hb dX4_add_40 rfl (lv_at hl 0 rfl) ?_
          refine lv_dup hx hb dX4_add_41 rfl ?_
          refine va_get (D := eD E) (cl := vwCl) (tys := eT E) (ci := 4) (C := RX4) (T := TX4) (N := 3) (v := .int (S.1 24 0)) hx hb hts hinX4 hown hE.1 hW.1 35 rfl rfl 0 (by decide) (hts (.fieldLink RX4 9 "DialGarden$Range" "size" "I") (by decide +kernel)) (fun _ h9 => h9) rfl dX4_add_42 ?_
          refine lv_iconst (v := 1) hx hb dX4_add_45 (by decide) ?_
          refine lv_iadd hx hb dX4_add_46 ?_
          refine va_put (D := eD E) (cl := vwCl) (tys := eT E) (A := eA E) (ci := 4) (C := RX4) (T := TX4) (N := 3) (v := .int ((S.1 24 0) + 1)) (ty := .int) hx hb hts hinX4 tyX4 tyX4_ok nmX4 hown hE.1 hW.1 hW.2 hS 35 rfl rfl 0 (by decide) (hts (.fieldLink RX4 9 "DialGarden$Range" "size" "I") (by decide +kernel)) (fun _ h9 => h9) rfl (by decide +kernel) rfl rfl (Nat.le_of_ble_eq_true rfl) dX4_add_47 (fun H locs hP hD hS => ?_)
          have hW : gW E M (pI (pI (pI S 24 1 p1) 24 2 p1) 24 0 ((S.1 24 0) + 1)) H := gW.of (uC_24_0 E M (pI (pI S 24 1 p1) 24 2 p1) ((S.1 24 0) + 1)) hP hD
          exact W.vret hx hb hr (fun t ht _ => ⟨⟨pI (pI (pI S 24 1 p1) 24 2 p1) 24 0 ((S.1 24 0) + 1), rfl, by first | (simp only [q_X4_add_24, if_neg c4, if_neg c12, if_neg c24, if_neg c32]; done) | contradiction, by dsimp only; rw [ht]; exact hW⟩, hS.F ht⟩) hS.2.2 dX4_add_50
theorem qp_X4_add_24 (S : gSc) (p1 : Int32) : (q_X4_add_24 S p1).2.2 = S.2.2 := by
  unfold q_X4_add_24
  try dsimp only
  (repeat' split) <;> first | (simp only [pI_2, sR_22]; done) | rfl

def q_X4_leastOrNone_24 (S : gSc)  : Int32 := (if (S.1 24 0) = 0 then (-2000000005) else S.1 24 1)
set_option maxHeartbeats 4000000 in
set_option maxRecDepth 100000 in
theorem c_X4_leastOrNone_24 (l : Launch) (E : gEE) (M : gSm) (S : gSc)   : Met l yX4_leastOrNone wsX4_leastOrNone ({ frames := 0, cells := 0, slots := 0, locals := 0 }) (va_Pc [.ref (eC E 24)] (gP E M S)) (vp_Si (fun r => r = q_X4_leastOrNone_24 S)) 0 0 (fun _ => False) := by
  refine Met.ofW (cc := cX4_leastOrNone) (maxL := 1) (ret := (some .int)) (by decide) rfl ?_
  intro p e s m args below meth c s₁ B hml hv
  obtain ⟨rfl, hE, hW⟩ := hv
  have hx := B.exec
  have hb := B.bytes
  have hr := B.returns
  have hts := atoms_spec (ws := wsX4_leastOrNone) B.pre
  have hown : s.vm.findClass RX4 = some m.cls := findClass_of_methodNamed B.named
  have hlocks := B.notSynchronized
  have hinX4 : ∀ w ∈ wsX40, w ∈ wsX4_leastOrNone := by decide +kernel
  have hS : va_S (eA E) s.heap s.heap [] := va_S.rf
  have hl := lv_entry ([.ref (eC E 24)]) (n := 1) (Nat.le_of_ble_eq_true rfl)
  rw [lg_entry_eq]
  generalize (lg_sl ([.ref (eC E 24)]) ++ List.replicate (1 - (lg_sl ([.ref (eC E 24)])).length) Slot.unset).toArray = ls at hl ⊢
  have hl : lv_has ls 1 [(0, .ref (eC E 24))] := hl
  refine lv_aload_n hx hb dX4_leastOrNone_0 rfl (lv_at hl 0 rfl) ?_
  refine va_get (D := eD E) (cl := vwCl) (tys := eT E) (ci := 4) (C := RX4) (T := TX4) (N := 3) (v := .int (S.1 24 0)) hx hb hts hinX4 hown hE.1 hW.1 35 rfl rfl 0 (by decide) (hts (.fieldLink RX4 9 "DialGarden$Range" "size" "I") (by decide +kernel)) (fun _ h9 => h9) rfl dX4_leastOrNone_1 ?_
  refine lv_if_ne (tgt := 12) hx hb dX4_leastOrNone_4 (by decide) (fun c4 => ?_) (fun c4 => ?_)
  · refine lv_aload_n hx hb dX4_leastOrNone_12 rfl (lv_at hl 0 rfl) ?_
    refine va_get (D := eD E) (cl := vwCl) (tys := eT E) (ci := 4) (C := RX4) (T := TX4) (N := 3) (v := .int (S.1 24 1)) hx hb hts hinX4 hown hE.1 hW.1 35 rfl rfl 1 (by decide) (hts (.fieldLink RX4 15 "DialGarden$Range" "least" "I") (by decide +kernel)) (fun _ h9 => h9) rfl dX4_leastOrNone_13 ?_
    exact W.iret (v := S.1 24 1) hx hb hr (fun t ht _ => ⟨S.1 24 1, rfl, by first | (simp only [q_X4_leastOrNone_24, if_neg c4]; done) | contradiction, ht⟩) (fun _ h => nomatch h) dX4_leastOrNone_16
  · refine lv_ldc hx hb (v := (-2000000005)) hown (hts (.constant RX4 21 (-2000000005)) (by decide +kernel)) dX4_leastOrNone_7 ?_
    refine lv_goto (tgt := 16) hx hb dX4_leastOrNone_9 (by decide) ?_
    exact W.iret (v := (-2000000005)) hx hb hr (fun t ht _ => ⟨(-2000000005), rfl, by first | (simp only [q_X4_leastOrNone_24, if_pos c4]; done) | contradiction, ht⟩) (fun _ h => nomatch h) dX4_leastOrNone_16

def q_X4_greatestOrNone_24 (S : gSc)  : Int32 := (if (S.1 24 0) = 0 then (-2000000005) else S.1 24 2)
set_option maxHeartbeats 4000000 in
set_option maxRecDepth 100000 in
theorem c_X4_greatestOrNone_24 (l : Launch) (E : gEE) (M : gSm) (S : gSc)   : Met l yX4_greatestOrNone wsX4_greatestOrNone ({ frames := 0, cells := 0, slots := 0, locals := 0 }) (va_Pc [.ref (eC E 24)] (gP E M S)) (vp_Si (fun r => r = q_X4_greatestOrNone_24 S)) 0 0 (fun _ => False) := by
  refine Met.ofW (cc := cX4_greatestOrNone) (maxL := 1) (ret := (some .int)) (by decide) rfl ?_
  intro p e s m args below meth c s₁ B hml hv
  obtain ⟨rfl, hE, hW⟩ := hv
  have hx := B.exec
  have hb := B.bytes
  have hr := B.returns
  have hts := atoms_spec (ws := wsX4_greatestOrNone) B.pre
  have hown : s.vm.findClass RX4 = some m.cls := findClass_of_methodNamed B.named
  have hlocks := B.notSynchronized
  have hinX4 : ∀ w ∈ wsX40, w ∈ wsX4_greatestOrNone := by decide +kernel
  have hS : va_S (eA E) s.heap s.heap [] := va_S.rf
  have hl := lv_entry ([.ref (eC E 24)]) (n := 1) (Nat.le_of_ble_eq_true rfl)
  rw [lg_entry_eq]
  generalize (lg_sl ([.ref (eC E 24)]) ++ List.replicate (1 - (lg_sl ([.ref (eC E 24)])).length) Slot.unset).toArray = ls at hl ⊢
  have hl : lv_has ls 1 [(0, .ref (eC E 24))] := hl
  refine lv_aload_n hx hb dX4_greatestOrNone_0 rfl (lv_at hl 0 rfl) ?_
  refine va_get (D := eD E) (cl := vwCl) (tys := eT E) (ci := 4) (C := RX4) (T := TX4) (N := 3) (v := .int (S.1 24 0)) hx hb hts hinX4 hown hE.1 hW.1 35 rfl rfl 0 (by decide) (hts (.fieldLink RX4 9 "DialGarden$Range" "size" "I") (by decide +kernel)) (fun _ h9 => h9) rfl dX4_greatestOrNone_1 ?_
  refine lv_if_ne (tgt := 12) hx hb dX4_greatestOrNone_4 (by decide) (fun c4 => ?_) (fun c4 => ?_)
  · refine lv_aload_n hx hb dX4_greatestOrNone_12 rfl (lv_at hl 0 rfl) ?_
    refine va_get (D := eD E) (cl := vwCl) (tys := eT E) (ci := 4) (C := RX4) (T := TX4) (N := 3) (v := .int (S.1 24 2)) hx hb hts hinX4 hown hE.1 hW.1 35 rfl rfl 2 (by decide) (hts (.fieldLink RX4 18 "DialGarden$Range" "greatest" "I") (by decide +kernel)) (fun _ h9 => h9) rfl dX4_greatestOrNone_13 ?_
    exact W.iret (v := S.1 24 2) hx hb hr (fun t ht _ => ⟨S.1 24 2, rfl, by first | (simp only [q_X4_greatestOrNone_24, if_neg c4]; done) | contradiction, ht⟩) (fun _ h => nomatch h) dX4_greatestOrNone_16
  · refine lv_ldc hx hb (v := (-2000000005)) hown (hts (.constant RX4 21 (-2000000005)) (by decide +kernel)) dX4_greatestOrNone_7 ?_
    refine lv_goto (tgt := 16) hx hb dX4_greatestOrNone_9 (by decide) ?_
    exact W.iret (v := (-2000000005)) hx hb hr (fun t ht _ => ⟨(-2000000005), rfl, by first | (simp only [q_X4_greatestOrNone_24, if_pos c4]; done) | contradiction, ht⟩) (fun _ h => nomatch h) dX4_greatestOrNone_16

def q_X4_clear_25 (S : gSc)  : gSc := pI S 25 0 0
set_option maxHeartbeats 4000000 in
set_option maxRecDepth 100000 in
theorem c_X4_clear_25 (l : Launch) (E : gEE) (M : gSm) (S : gSc)   : Met l yX4_clear wsX4_clear ({ frames := 0, cells := 0, slots := 0, locals := 0 }) (va_Pc [.ref (eC E 25)] (gP E M S)) (va_Qv (fun u : gSc => u = q_X4_clear_25 S) (fun u t => gW E M u t.heap) (eA E)) 0 0 (eA E) := by
  refine Met.ofW (cc := cX4_clear) (maxL := 1) (ret := none) (by decide) rfl ?_
  intro p e s m args below meth c s₁ B hml hv
  obtain ⟨rfl, hE, hW⟩ := hv
  have hx := B.exec
  have hb := B.bytes
  have hr := B.returns
  have hts := atoms_spec (ws := wsX4_clear) B.pre
  have hown : s.vm.findClass RX4 = some m.cls := findClass_of_methodNamed B.named
  have hlocks := B.notSynchronized
  have hinX4 : ∀ w ∈ wsX40, w ∈ wsX4_clear := by decide +kernel
  have hS : va_S (eA E) s.heap s.heap [] := va_S.rf
  have hl := lv_entry ([.ref (eC E 25)]) (n := 1) (Nat.le_of_ble_eq_true rfl)
  rw [lg_entry_eq]
  generalize (lg_sl ([.ref (eC E 25)]) ++ List.replicate (1 - (lg_sl ([.ref (eC E 25)])).length) Slot.unset).toArray = ls at hl ⊢
  have hl : lv_has ls 1 [(0, .ref (eC E 25))] := hl
  have hS : ∃ (H : Heap) (locs : List Loc), H = s.heap ∧ locs = [] ∧ gW E M S H ∧ va_S (eA E) s.heap H locs := ⟨_, _, rfl, rfl, hW, hS⟩
  clear hW
  obtain ⟨H, locs, eH, el, hW, hS⟩ := hS
  rw [← eH, ← el]
  clear eH el
  refine lv_aload_n hx hb dX4_clear_0 rfl (lv_at hl 0 rfl) ?_
  refine lv_iconst (v := 0) hx hb dX4_clear_1 (by decide) ?_
  refine va_put (D := eD E) (cl := vwCl) (tys := eT E) (A := eA E) (ci := 4) (C := RX4) (T := TX4) (N := 3) (v := .int (0)) (ty := .int) hx hb hts hinX4 tyX4 tyX4_ok nmX4 hown hE.1 hW.1 hW.2 hS 36 rfl rfl 0 (by decide) (hts (.fieldLink RX4 9 "DialGarden$Range" "size" "I") (by decide +kernel)) (fun _ h9 => h9) rfl (by decide +kernel) rfl rfl (Nat.le_of_ble_eq_true rfl) dX4_clear_2 (fun H locs hP hD hS => ?_)
  have hW : gW E M (pI S 25 0 0) H := gW.of (uC_25_0 E M S 0) hP hD
  exact W.vret hx hb hr (fun t ht _ => ⟨⟨pI S 25 0 0, rfl, by first | (simp only [q_X4_clear_25]; done) | contradiction, by dsimp only; rw [ht]; exact hW⟩, hS.F ht⟩) hS.2.2 dX4_clear_5
theorem qp_X4_clear_25 (S : gSc)  : (q_X4_clear_25 S).2.2 = S.2.2 := by
  unfold q_X4_clear_25
  try dsimp only
  (repeat' split) <;> first | (simp only [pI_2, sR_22]; done) | rfl

def q_X4_add_25 (S : gSc) (p1 : Int32) : gSc := (if (S.1 25 0) = 0 then (if (S.1 25 0) = 0 then pI (pI (pI S 25 1 p1) 25 2 p1) 25 0 ((S.1 25 0) + 1) else (if p1 ≤ (S.1 25 2) then pI (pI S 25 1 p1) 25 0 ((S.1 25 0) + 1) else pI (pI (pI S 25 1 p1) 25 2 p1) 25 0 ((S.1 25 0) + 1))) else (if (S.1 25 1) ≤ p1 then (if (S.1 25 0) = 0 then pI (pI S 25 2 p1) 25 0 ((S.1 25 0) + 1) else (if p1 ≤ (S.1 25 2) then pI S 25 0 ((S.1 25 0) + 1) else pI (pI S 25 2 p1) 25 0 ((S.1 25 0) + 1))) else (if (S.1 25 0) = 0 then pI (pI (pI S 25 1 p1) 25 2 p1) 25 0 ((S.1 25 0) + 1) else (if p1 ≤ (S.1 25 2) then pI (pI S 25 1 p1) 25 0 ((S.1 25 0) + 1) else pI (pI (pI S 25 1 p1) 25 2 p1) 25 0 ((S.1 25 0) + 1)))))
set_option maxHeartbeats 4000000 in
set_option maxRecDepth 100000 in
theorem c_X4_add_25 (l : Launch) (E : gEE) (M : gSm) (S : gSc) (p1 : Int32)  : Met l yX4_add wsX4_add ({ frames := 0, cells := 0, slots := 0, locals := 0 }) (va_Pc [.ref (eC E 25), .int (p1)] (gP E M S)) (va_Qv (fun u : gSc => u = q_X4_add_25 S p1) (fun u t => gW E M u t.heap) (eA E)) 0 0 (eA E) := by
  refine Met.ofW (cc := cX4_add) (maxL := 2) (ret := none) (by decide) rfl ?_
  intro p e s m args below meth c s₁ B hml hv
  obtain ⟨rfl, hE, hW⟩ := hv
  have hx := B.exec
  have hb := B.bytes
  have hr := B.returns
  have hts := atoms_spec (ws := wsX4_add) B.pre
  have hown : s.vm.findClass RX4 = some m.cls := findClass_of_methodNamed B.named
  have hlocks := B.notSynchronized
  have hinX4 : ∀ w ∈ wsX40, w ∈ wsX4_add := by decide +kernel
  have hS : va_S (eA E) s.heap s.heap [] := va_S.rf
  have hl := lv_entry ([.ref (eC E 25), .int (p1)]) (n := 2) (Nat.le_of_ble_eq_true rfl)
  rw [lg_entry_eq]
  generalize (lg_sl ([.ref (eC E 25), .int (p1)]) ++ List.replicate (2 - (lg_sl ([.ref (eC E 25), .int (p1)])).length) Slot.unset).toArray = ls at hl ⊢
  have hl : lv_has ls 2 [(0, .ref (eC E 25)), (1, .int (p1))] := hl
  have hS : ∃ (H : Heap) (locs : List Loc), H = s.heap ∧ locs = [] ∧ gW E M S H ∧ va_S (eA E) s.heap H locs := ⟨_, _, rfl, rfl, hW, hS⟩
  clear hW
  obtain ⟨H, locs, eH, el, hW, hS⟩ := hS
  rw [← eH, ← el]
  clear eH el
  refine lv_aload_n hx hb dX4_add_0 rfl (lv_at hl 0 rfl) ?_
  refine va_get (D := eD E) (cl := vwCl) (tys := eT E) (ci := 4) (C := RX4) (T := TX4) (N := 3) (v := .int (S.1 25 0)) hx hb hts hinX4 hown hE.1 hW.1 36 rfl rfl 0 (by decide) (hts (.fieldLink RX4 9 "DialGarden$Range" "size" "I") (by decide +kernel)) (fun _ h9 => h9) rfl dX4_add_1 ?_
  refine lv_if_eq (tgt := 15) hx hb dX4_add_4 (by decide) (fun c4 => ?_) (fun c4 => ?_)
  · refine lv_aload_n hx hb dX4_add_15 rfl (lv_at hl 0 rfl) ?_
    refine lv_iload_n hx hb dX4_add_16 rfl (lv_at hl 1 rfl) ?_
    refine va_put (D := eD E) (cl := vwCl) (tys := eT E) (A := eA E) (ci := 4) (C := RX4) (T := TX4) (N := 3) (v := .int (p1)) (ty := .int) hx hb hts hinX4 tyX4 tyX4_ok nmX4 hown hE.1 hW.1 hW.2 hS 36 rfl rfl 1 (by decide) (hts (.fieldLink RX4 15 "DialGarden$Range" "least" "I") (by decide +kernel)) (fun _ h9 => h9) rfl (by decide +kernel) rfl rfl (Nat.le_of_ble_eq_true rfl) dX4_add_17 (fun H locs hP hD hS => ?_)
    have hW : gW E M (pI S 25 1 p1) H := gW.of (uC_25_1 E M S p1) hP hD
    refine lv_aload_n hx hb dX4_add_20 rfl (lv_at hl 0 rfl) ?_
    refine va_get (D := eD E) (cl := vwCl) (tys := eT E) (ci := 4) (C := RX4) (T := TX4) (N := 3) (v := .int (S.1 25 0)) hx hb hts hinX4 hown hE.1 hW.1 36 rfl rfl 0 (by decide) (hts (.fieldLink RX4 9 "DialGarden$Range" "size" "I") (by decide +kernel)) (fun _ h9 => h9) rfl dX4_add_21 ?_
    refine lv_if_eq (tgt := 35) hx hb dX4_add_24 (by decide) (fun c24 => ?_) (fun c24 => ?_)
    · refine lv_aload_n hx hb dX4_add_35 rfl (lv_at hl 0 rfl) ?_
      refine lv_iload_n hx hb dX4_add_36 rfl (lv_at hl 1 rfl) ?_
      refine va_put (D := eD E) (cl := vwCl) (tys := eT E) (A := eA E) (ci := 4) (C := RX4) (T := TX4) (N := 3) (v := .int (p1)) (ty := .int) hx hb hts hinX4 tyX4 tyX4_ok nmX4 hown hE.1 hW.1 hW.2 hS 36 rfl rfl 2 (by decide) (hts (.fieldLink RX4 18 "DialGarden$Range" "greatest" "I") (by decide +kernel)) (fun _ h9 => h9) rfl (by decide +kernel) rfl rfl (Nat.le_of_ble_eq_true rfl) dX4_add_37 (fun H locs hP hD hS => ?_)
      have hW : gW E M (pI (pI S 25 1 p1) 25 2 p1) H := gW.of (uC_25_2 E M (pI S 25 1 p1) p1) hP hD
      refine lv_aload_n hx hb dX4_add_40 rfl (lv_at hl 0 rfl) ?_
      refine lv_dup hx hb dX4_add_41 rfl ?_
      refine va_get (D := eD E) (cl := vwCl) (tys := eT E) (ci := 4) (C := RX4) (T := TX4) (N := 3) (v := .int (S.1 25 0)) hx hb hts hinX4 hown hE.1 hW.1 36 rfl rfl 0 (by decide) (hts (.fieldLink RX4 9 "DialGarden$Range" "size" "I") (by decide +kernel)) (fun _ h9 => h9) rfl dX4_add_42 ?_
      refine lv_iconst (v := 1) hx hb dX4_add_45 (by decide) ?_
      refine lv_iadd hx hb dX4_add_46 ?_
      refine va_put (D := eD E) (cl := vwCl) (tys := eT E) (A := eA E) (ci := 4) (C := RX4) (T := TX4) (N := 3) (v := .int ((S.1 25 0) + 1)) (ty := .int) hx hb hts hinX4 tyX4 tyX4_ok nmX4 hown hE.1 hW.1 hW.2 hS 36 rfl rfl 0 (by decide) (hts (.fieldLink RX4 9 "DialGarden$Range" "size" "I") (by decide +kernel)) (fun _ h9 => h9) rfl (by decide +kernel) rfl rfl (Nat.le_of_ble_eq_true rfl) dX4_add_47 (fun H locs hP hD hS => ?_)
      have hW : gW E M (pI (pI (pI S 25 1 p1) 25 2 p1) 25 0 ((S.1 25 0) + 1)) H := gW.of (uC_25_0 E M (pI (pI S 25 1 p1) 25 2 p1) ((S.1 25 0) + 1)) hP hD
      exact W.vret hx hb hr (fun t ht _ => ⟨⟨pI (pI (pI S 25 1 p1) 25 2 p1) 25 0 ((S.1 25 0) + 1), rfl, by first | (simp only [q_X4_add_25, if_pos c4, if_pos c24]; done) | contradiction, by dsimp only; rw [ht]; exact hW⟩, hS.F ht⟩) hS.2.2 dX4_add_50
    · refine lv_iload_n hx hb dX4_add_27 rfl (lv_at hl 1 rfl) ?_
      refine lv_aload_n hx hb dX4_add_28 rfl (lv_at hl 0 rfl) ?_
      refine va_get (D := eD E) (cl := vwCl) (tys := eT E) (ci := 4) (C := RX4) (T := TX4) (N := 3) (v := .int (S.1 25 2)) hx hb hts hinX4 hown hE.1 hW.1 36 rfl rfl 2 (by decide) (hts (.fieldLink RX4 18 "DialGarden$Range" "greatest" "I") (by decide +kernel)) (fun _ h9 => h9) rfl dX4_add_29 ?_
      refine lv_icmp_le (tgt := 40) hx hb dX4_add_32 (by decide) (fun c32 => ?_) (fun c32 => ?_)
      · refine lv_aload_n hx hb dX4_add_40 rfl (lv_at hl 0 rfl) ?_
        refine lv_dup hx hb dX4_add_41 rfl ?_
        refine va_get (D := eD E) (cl := vwCl) (tys := eT E) (ci := 4) (C := RX4) (T := TX4) (N := 3) (v := .int (S.1 25 0)) hx hb hts hinX4 hown hE.1 hW.1 36 rfl rfl 0 (by decide) (hts (.fieldLink RX4 9 "DialGarden$Range" "size" "I") (by decide +kernel)) (fun _ h9 => h9) rfl dX4_add_42 ?_
        refine lv_iconst (v := 1) hx hb dX4_add_45 (by decide) ?_
        refine lv_iadd hx hb dX4_add_46 ?_
        refine va_put (D := eD E) (cl := vwCl) (tys := eT E) (A := eA E) (ci := 4) (C := RX4) (T := TX4) (N := 3) (v := .int ((S.1 25 0) + 1)) (ty := .int) hx hb hts hinX4 tyX4 tyX4_ok nmX4 hown hE.1 hW.1 hW.2 hS 36 rfl rfl 0 (by decide) (hts (.fieldLink RX4 9 "DialGarden$Range" "size" "I") (by decide +kernel)) (fun _ h9 => h9) rfl (by decide +kernel) rfl rfl (Nat.le_of_ble_eq_true rfl) dX4_add_47 (fun H locs hP hD hS => ?_)
        have hW : gW E M (pI (pI S 25 1 p1) 25 0 ((S.1 25 0) + 1)) H := gW.of (uC_25_0 E M (pI S 25 1 p1) ((S.1 25 0) + 1)) hP hD
        exact W.vret hx hb hr (fun t ht _ => ⟨⟨pI (pI S 25 1 p1) 25 0 ((S.1 25 0) + 1), rfl, by first | (simp only [q_X4_add_25, if_pos c4, if_neg c24, if_pos c32]; done) | contradiction, by dsimp only; rw [ht]; exact hW⟩, hS.F ht⟩) hS.2.2 dX4_add_50
      · refine lv_aload_n hx hb dX4_add_35 rfl (lv_at hl 0 rfl) ?_
        refine lv_iload_n hx hb dX4_add_36 rfl (lv_at hl 1 rfl) ?_
        refine va_put (D := eD E) (cl := vwCl) (tys := eT E) (A := eA E) (ci := 4) (C := RX4) (T := TX4) (N := 3) (v := .int (p1)) (ty := .int) hx hb hts hinX4 tyX4 tyX4_ok nmX4 hown hE.1 hW.1 hW.2 hS 36 rfl rfl 2 (by decide) (hts (.fieldLink RX4 18 "DialGarden$Range" "greatest" "I") (by decide +kernel)) (fun _ h9 => h9) rfl (by decide +kernel) rfl rfl (Nat.le_of_ble_eq_true rfl) dX4_add_37 (fun H locs hP hD hS => ?_)
        have hW : gW E M (pI (pI S 25 1 p1) 25 2 p1) H := gW.of (uC_25_2 E M (pI S 25 1 p1) p1) hP hD
        refine lv_aload_n hx hb dX4_add_40 rfl (lv_at hl 0 rfl) ?_
        refine lv_dup hx hb dX4_add_41 rfl ?_
        refine va_get (D := eD E) (cl := vwCl) (tys := eT E) (ci := 4) (C := RX4) (T := TX4) (N := 3) (v := .int (S.1 25 0)) hx hb hts hinX4 hown hE.1 hW.1 36 rfl rfl 0 (by decide) (hts (.fieldLink RX4 9 "DialGarden$Range" "size" "I") (by decide +kernel)) (fun _ h9 => h9) rfl dX4_add_42 ?_
        refine lv_iconst (v := 1) hx hb dX4_add_45 (by decide) ?_
        refine lv_iadd hx hb dX4_add_46 ?_
        refine va_put (D := eD E) (cl := vwCl) (tys := eT E) (A := eA E) (ci := 4) (C := RX4) (T := TX4) (N := 3) (v := .int ((S.1 25 0) + 1)) (ty := .int) hx hb hts hinX4 tyX4 tyX4_ok nmX4 hown hE.1 hW.1 hW.2 hS 36 rfl rfl 0 (by decide) (hts (.fieldLink RX4 9 "DialGarden$Range" "size" "I") (by decide +kernel)) (fun _ h9 => h9) rfl (by decide +kernel) rfl rfl (Nat.le_of_ble_eq_true rfl) dX4_add_47 (fun H locs hP hD hS => ?_)
        have hW : gW E M (pI (pI (pI S 25 1 p1) 25 2 p1) 25 0 ((S.1 25 0) + 1)) H := gW.of (uC_25_0 E M (pI (pI S 25 1 p1) 25 2 p1) ((S.1 25 0) + 1)) hP hD
        exact W.vret hx hb hr (fun t ht _ => ⟨⟨pI (pI (pI S 25 1 p1) 25 2 p1) 25 0 ((S.1 25 0) + 1), rfl, by first | (simp only [q_X4_add_25, if_pos c4, if_neg c24, if_neg c32]; done) | contradiction, by dsimp only; rw [ht]; exact hW⟩, hS.F ht⟩) hS.2.2 dX4_add_50
  · refine lv_iload_n hx hb dX4_add_7 rfl (lv_at hl 1 rfl) ?_
    refine lv_aload_n hx hb dX4_add_8 rfl (lv_at hl 0 rfl) ?_
    refine va_get (D := eD E) (cl := vwCl) (tys := eT E) (ci := 4) (C := RX4) (T := TX4) (N := 3) (v := .int (S.1 25 1)) hx hb hts hinX4 hown hE.1 hW.1 36 rfl rfl 1 (by decide) (hts (.fieldLink RX4 15 "DialGarden$Range" "least" "I") (by decide +kernel)) (fun _ h9 => h9) rfl dX4_add_9 ?_
    refine lv_icmp_ge (tgt := 20) hx hb dX4_add_12 (by decide) (fun c12 => ?_) (fun c12 => ?_)
    · refine lv_aload_n hx hb dX4_add_20 rfl (lv_at hl 0 rfl) ?_
      refine va_get (D := eD E) (cl := vwCl) (tys := eT E) (ci := 4) (C := RX4) (T := TX4) (N := 3) (v := .int (S.1 25 0)) hx hb hts hinX4 hown hE.1 hW.1 36 rfl rfl 0 (by decide) (hts (.fieldLink RX4 9 "DialGarden$Range" "size" "I") (by decide +kernel)) (fun _ h9 => h9) rfl dX4_add_21 ?_
      refine lv_if_eq (tgt := 35) hx hb dX4_add_24 (by decide) (fun c24 => ?_) (fun c24 => ?_)
      · refine lv_aload_n hx hb dX4_add_35 rfl (lv_at hl 0 rfl) ?_
        refine lv_iload_n hx hb dX4_add_36 rfl (lv_at hl 1 rfl) ?_
        refine va_put (D := eD E) (cl := vwCl) (tys := eT E) (A := eA E) (ci := 4) (C := RX4) (T := TX4) (N := 3) (v := .int (p1)) (ty := .int) hx hb hts hinX4 tyX4 tyX4_ok nmX4 hown hE.1 hW.1 hW.2 hS 36 rfl rfl 2 (by decide) (hts (.fieldLink RX4 18 "DialGarden$Range" "greatest" "I") (by decide +kernel)) (fun _ h9 => h9) rfl (by decide +kernel) rfl rfl (Nat.le_of_ble_eq_true rfl) dX4_add_37 (fun H locs hP hD hS => ?_)
        have hW : gW E M (pI S 25 2 p1) H := gW.of (uC_25_2 E M S p1) hP hD
        refine lv_aload_n hx hb dX4_add_40 rfl (lv_at hl 0 rfl) ?_
        refine lv_dup hx hb dX4_add_41 rfl ?_
        refine va_get (D := eD E) (cl := vwCl) (tys := eT E) (ci := 4) (C := RX4) (T := TX4) (N := 3) (v := .int (S.1 25 0)) hx hb hts hinX4 hown hE.1 hW.1 36 rfl rfl 0 (by decide) (hts (.fieldLink RX4 9 "DialGarden$Range" "size" "I") (by decide +kernel)) (fun _ h9 => h9) rfl dX4_add_42 ?_
        refine lv_iconst (v := 1) hx hb dX4_add_45 (by decide) ?_
        refine lv_iadd hx hb dX4_add_46 ?_
        refine va_put (D := eD E) (cl := vwCl) (tys := eT E) (A := eA E) (ci := 4) (C := RX4) (T := TX4) (N := 3) (v := .int ((S.1 25 0) + 1)) (ty := .int) hx hb hts hinX4 tyX4 tyX4_ok nmX4 hown hE.1 hW.1 hW.2 hS 36 rfl rfl 0 (by decide) (hts (.fieldLink RX4 9 "DialGarden$Range" "size" "I") (by decide +kernel)) (fun _ h9 => h9) rfl (by decide +kernel) rfl rfl (Nat.le_of_ble_eq_true rfl) dX4_add_47 (fun H locs hP hD hS => ?_)
        have hW : gW E M (pI (pI S 25 2 p1) 25 0 ((S.1 25 0) + 1)) H := gW.of (uC_25_0 E M (pI S 25 2 p1) ((S.1 25 0) + 1)) hP hD
        exact W.vret hx hb hr (fun t ht _ => ⟨⟨pI (pI S 25 2 p1) 25 0 ((S.1 25 0) + 1), rfl, by first | (simp only [q_X4_add_25, if_neg c4, if_pos c12, if_pos c24]; done) | contradiction, by dsimp only; rw [ht]; exact hW⟩, hS.F ht⟩) hS.2.2 dX4_add_50
      · refine lv_iload_n hx hb dX4_add_27 rfl (lv_at hl 1 rfl) ?_
        refine lv_aload_n hx hb dX4_add_28 rfl (lv_at hl 0 rfl) ?_
        refine va_get (D := eD E) (cl := vwCl) (tys := eT E) (ci := 4) (C := RX4) (T := TX4) (N := 3) (v := .int (S.1 25 2)) hx hb hts hinX4 hown hE.1 hW.1 36 rfl rfl 2 (by decide) (hts (.fieldLink RX4 18 "DialGarden$Range" "greatest" "I") (by decide +kernel)) (fun _ h9 => h9) rfl dX4_add_29 ?_
        refine lv_icmp_le (tgt := 40) hx hb dX4_add_32 (by decide) (fun c32 => ?_) (fun c32 => ?_)
        · refine lv_aload_n hx hb dX4_add_40 rfl (lv_at hl 0 rfl) ?_
          refine lv_dup hx hb dX4_add_41 rfl ?_
          refine va_get (D := eD E) (cl := vwCl) (tys := eT E) (ci := 4) (C := RX4) (T := TX4) (N := 3) (v := .int (S.1 25 0)) hx hb hts hinX4 hown hE.1 hW.1 36 rfl rfl 0 (by decide) (hts (.fieldLink RX4 9 "DialGarden$Range" "size" "I") (by decide +kernel)) (fun _ h9 => h9) rfl dX4_add_42 ?_
          refine lv_iconst (v := 1) hx hb dX4_add_45 (by decide) ?_
          refine lv_iadd hx hb dX4_add_46 ?_
          refine va_put (D := eD E) (cl := vwCl) (tys := eT E) (A := eA E) (ci := 4) (C := RX4) (T := TX4) (N := 3) (v := .int ((S.1 25 0) + 1)) (ty := .int) hx hb hts hinX4 tyX4 tyX4_ok nmX4 hown hE.1 hW.1 hW.2 hS 36 rfl rfl 0 (by decide) (hts (.fieldLink RX4 9 "DialGarden$Range" "size" "I") (by decide +kernel)) (fun _ h9 => h9) rfl (by decide +kernel) rfl rfl (Nat.le_of_ble_eq_true rfl) dX4_add_47 (fun H locs hP hD hS => ?_)
          have hW : gW E M (pI S 25 0 ((S.1 25 0) + 1)) H := gW.of (uC_25_0 E M S ((S.1 25 0) + 1)) hP hD
          exact W.vret hx hb hr (fun t ht _ => ⟨⟨pI S 25 0 ((S.1 25 0) + 1), rfl, by first | (simp only [q_X4_add_25, if_neg c4, if_pos c12, if_neg c24, if_pos c32]; done) | contradiction, by dsimp only; rw [ht]; exact hW⟩, hS.F ht⟩) hS.2.2 dX4_add_50
        · refine lv_aload_n hx hb dX4_add_35 rfl (lv_at hl 0 rfl) ?_
          refine lv_iload_n hx hb dX4_add_36 rfl (lv_at hl 1 rfl) ?_
          refine va_put (D := eD E) (cl := vwCl) (tys := eT E) (A := eA E) (ci := 4) (C := RX4) (T := TX4) (N := 3) (v := .int (p1)) (ty := .int) hx hb hts hinX4 tyX4 tyX4_ok nmX4 hown hE.1 hW.1 hW.2 hS 36 rfl rfl 2 (by decide) (hts (.fieldLink RX4 18 "DialGarden$Range" "greatest" "I") (by decide +kernel)) (fun _ h9 => h9) rfl (by decide +kernel) rfl rfl (Nat.le_of_ble_eq_true rfl) dX4_add_37 (fun H locs hP hD hS => ?_)
          have hW : gW E M (pI S 25 2 p1) H := gW.of (uC_25_2 E M S p1) hP hD
          refine lv_aload_n hx hb dX4_add_40 rfl (lv_at hl 0 rfl) ?_
          refine lv_dup hx hb dX4_add_41 rfl ?_
          refine va_get (D := eD E) (cl := vwCl) (tys := eT E) (ci := 4) (C := RX4) (T := TX4) (N := 3) (v := .int (S.1 25 0)) hx hb hts hinX4 hown hE.1 hW.1 36 rfl rfl 0 (by decide) (hts (.fieldLink RX4 9 "DialGarden$Range" "size" "I") (by decide +kernel)) (fun _ h9 => h9) rfl dX4_add_42 ?_
          refine lv_iconst (v := 1) hx hb dX4_add_45 (by decide) ?_
          refine lv_iadd hx hb dX4_add_46 ?_
          refine va_put (D := eD E) (cl := vwCl) (tys := eT E) (A := eA E) (ci := 4) (C := RX4) (T := TX4) (N := 3) (v := .int ((S.1 25 0) + 1)) (ty := .int) hx hb hts hinX4 tyX4 tyX4_ok nmX4 hown hE.1 hW.1 hW.2 hS 36 rfl rfl 0 (by decide) (hts (.fieldLink RX4 9 "DialGarden$Range" "size" "I") (by decide +kernel)) (fun _ h9 => h9) rfl (by decide +kernel) rfl rfl (Nat.le_of_ble_eq_true rfl) dX4_add_47 (fun H locs hP hD hS => ?_)
          have hW : gW E M (pI (pI S 25 2 p1) 25 0 ((S.1 25 0) + 1)) H := gW.of (uC_25_0 E M (pI S 25 2 p1) ((S.1 25 0) + 1)) hP hD
          exact W.vret hx hb hr (fun t ht _ => ⟨⟨pI (pI S 25 2 p1) 25 0 ((S.1 25 0) + 1), rfl, by first | (simp only [q_X4_add_25, if_neg c4, if_pos c12, if_neg c24, if_neg c32]; done) | contradiction, by dsimp only; rw [ht]; exact hW⟩, hS.F ht⟩) hS.2.2 dX4_add_50
    · refine lv_aload_n hx hb dX4_add_15 rfl (lv_at hl 0 rfl) ?_
      refine lv_iload_n hx hb dX4_add_16 rfl (lv_at hl 1 rfl) ?_
      refine va_put (D := eD E) (cl := vwCl) (tys := eT E) (A := eA E) (ci := 4) (C := RX4) (T := TX4) (N := 3) (v := .int (p1)) (ty := .int) hx hb hts hinX4 tyX4 tyX4_ok nmX4 hown hE.1 hW.1 hW.2 hS 36 rfl rfl 1 (by decide) (hts (.fieldLink RX4 15 "DialGarden$Range" "least" "I") (by decide +kernel)) (fun _ h9 => h9) rfl (by decide +kernel) rfl rfl (Nat.le_of_ble_eq_true rfl) dX4_add_17 (fun H locs hP hD hS => ?_)
      have hW : gW E M (pI S 25 1 p1) H := gW.of (uC_25_1 E M S p1) hP hD
      refine lv_aload_n hx hb dX4_add_20 rfl (lv_at hl 0 rfl) ?_
      refine va_get (D := eD E) (cl := vwCl) (tys := eT E) (ci := 4) (C := RX4) (T := TX4) (N := 3) (v := .int (S.1 25 0)) hx hb hts hinX4 hown hE.1 hW.1 36 rfl rfl 0 (by decide) (hts (.fieldLink RX4 9 "DialGarden$Range" "size" "I") (by decide +kernel)) (fun _ h9 => h9) rfl dX4_add_21 ?_
      refine lv_if_eq (tgt := 35) hx hb dX4_add_24 (by decide) (fun c24 => ?_) (fun c24 => ?_)
      · refine lv_aload_n hx hb dX4_add_35 rfl (lv_at hl 0 rfl) ?_
        refine lv_iload_n hx hb dX4_add_36 rfl (lv_at hl 1 rfl) ?_
        refine va_put (D := eD E) (cl := vwCl) (tys := eT E) (A := eA E) (ci := 4) (C := RX4) (T := TX4) (N := 3) (v := .int (p1)) (ty := .int) hx hb hts hinX4 tyX4 tyX4_ok nmX4 hown hE.1 hW.1 hW.2 hS 36 rfl rfl 2 (by decide) (hts (.fieldLink RX4 18 "DialGarden$Range" "greatest" "I") (by decide +kernel)) (fun _ h9 => h9) rfl (by decide +kernel) rfl rfl (Nat.le_of_ble_eq_true rfl) dX4_add_37 (fun H locs hP hD hS => ?_)
        have hW : gW E M (pI (pI S 25 1 p1) 25 2 p1) H := gW.of (uC_25_2 E M (pI S 25 1 p1) p1) hP hD
        refine lv_aload_n hx hb dX4_add_40 rfl (lv_at hl 0 rfl) ?_
        refine lv_dup hx hb dX4_add_41 rfl ?_
        refine va_get (D := eD E) (cl := vwCl) (tys := eT E) (ci := 4) (C := RX4) (T := TX4) (N := 3) (v := .int (S.1 25 0)) hx hb hts hinX4 hown hE.1 hW.1 36 rfl rfl 0 (by decide) (hts (.fieldLink RX4 9 "DialGarden$Range" "size" "I") (by decide +kernel)) (fun _ h9 => h9) rfl dX4_add_42 ?_
        refine lv_iconst (v := 1) hx hb dX4_add_45 (by decide) ?_
        refine lv_iadd hx hb dX4_add_46 ?_
        refine va_put (D := eD E) (cl := vwCl) (tys := eT E) (A := eA E) (ci := 4) (C := RX4) (T := TX4) (N := 3) (v := .int ((S.1 25 0) + 1)) (ty := .int) hx hb hts hinX4 tyX4 tyX4_ok nmX4 hown hE.1 hW.1 hW.2 hS 36 rfl rfl 0 (by decide) (hts (.fieldLink RX4 9 "DialGarden$Range" "size" "I") (by decide +kernel)) (fun _ h9 => h9) rfl (by decide +kernel) rfl rfl (Nat.le_of_ble_eq_true rfl) dX4_add_47 (fun H locs hP hD hS => ?_)
        have hW : gW E M (pI (pI (pI S 25 1 p1) 25 2 p1) 25 0 ((S.1 25 0) + 1)) H := gW.of (uC_25_0 E M (pI (pI S 25 1 p1) 25 2 p1) ((S.1 25 0) + 1)) hP hD
        exact W.vret hx hb hr (fun t ht _ => ⟨⟨pI (pI (pI S 25 1 p1) 25 2 p1) 25 0 ((S.1 25 0) + 1), rfl, by first | (simp only [q_X4_add_25, if_neg c4, if_neg c12, if_pos c24]; done) | contradiction, by dsimp only; rw [ht]; exact hW⟩, hS.F ht⟩) hS.2.2 dX4_add_50
      · refine lv_iload_n hx hb dX4_add_27 rfl (lv_at hl 1 rfl) ?_
        refine lv_aload_n hx hb dX4_add_28 rfl (lv_at hl 0 rfl) ?_
        refine va_get (D := eD E) (cl := vwCl) (tys := eT E) (ci := 4) (C := RX4) (T := TX4) (N := 3) (v := .int (S.1 25 2)) hx hb hts hinX4 hown hE.1 hW.1 36 rfl rfl 2 (by decide) (hts (.fieldLink RX4 18 "DialGarden$Range" "greatest" "I") (by decide +kernel)) (fun _ h9 => h9) rfl dX4_add_29 ?_
        refine lv_icmp_le (tgt := 40) hx hb dX4_add_32 (by decide) (fun c32 => ?_) (fun c32 => ?_)
        · refine lv_aload_n hx hb dX4_add_40 rfl (lv_at hl 0 rfl) ?_
          refine lv_dup hx hb dX4_add_41 rfl ?_
          refine va_get (D := eD E) (cl := vwCl) (tys := eT E) (ci := 4) (C := RX4) (T := TX4) (N := 3) (v := .int (S.1 25 0)) hx hb hts hinX4 hown hE.1 hW.1 36 rfl rfl 0 (by decide) (hts (.fieldLink RX4 9 "DialGarden$Range" "size" "I") (by decide +kernel)) (fun _ h9 => h9) rfl dX4_add_42 ?_
          refine lv_iconst (v := 1) hx hb dX4_add_45 (by decide) ?_
          refine lv_iadd hx hb dX4_add_46 ?_
          refine va_put (D := eD E) (cl := vwCl) (tys := eT E) (A := eA E) (ci := 4) (C := RX4) (T := TX4) (N := 3) (v := .int ((S.1 25 0) + 1)) (ty := .int) hx hb hts hinX4 tyX4 tyX4_ok nmX4 hown hE.1 hW.1 hW.2 hS 36 rfl rfl 0 (by decide) (hts (.fieldLink RX4 9 "DialGarden$Range" "size" "I") (by decide +kernel)) (fun _ h9 => h9) rfl (by decide +kernel) rfl rfl (Nat.le_of_ble_eq_true rfl) dX4_add_47 (fun H locs hP hD hS => ?_)
          have hW : gW E M (pI (pI S 25 1 p1) 25 0 ((S.1 25 0) + 1)) H := gW.of (uC_25_0 E M (pI S 25 1 p1) ((S.1 25 0) + 1)) hP hD
          exact W.vret hx hb hr (fun t ht _ => ⟨⟨pI (pI S 25 1 p1) 25 0 ((S.1 25 0) + 1), rfl, by first | (simp only [q_X4_add_25, if_neg c4, if_neg c12, if_neg c24, if_pos c32]; done) | contradiction, by dsimp only; rw [ht]; exact hW⟩, hS.F ht⟩) hS.2.2 dX4_add_50
        · refine lv_aload_n hx hb dX4_add_35 rfl (lv_at hl 0 rfl) ?_
          refine lv_iload_n hx hb dX4_add_36 rfl (lv_at hl 1 rfl) ?_
          refine va_put (D := eD E) (cl := vwCl) (tys := eT E) (A := eA E) (ci := 4) (C := RX4) (T := TX4) (N := 3) (v := .int (p1)) (ty := .int) hx hb hts hinX4 tyX4 tyX4_ok nmX4 hown hE.1 hW.1 hW.2 hS 36 rfl rfl 2 (by decide) (hts (.fieldLink RX4 18 "DialGarden$Range" "greatest" "I") (by decide +kernel)) (fun _ h9 => h9) rfl (by decide +kernel) rfl rfl (Nat.le_of_ble_eq_true rfl) dX4_add_37 (fun H locs hP hD hS => ?_)
          have hW : gW E M (pI (pI S 25 1 p1) 25 2 p1) H := gW.of (uC_25_2 E M (pI S 25 1 p1) p1) hP hD
          refine lv_aload_n hx hb dX4_add_40 rfl (lv_at hl 0 rfl) ?_
          refine lv_dup hx hb dX4_add_41 rfl ?_
          refine va_get (D := eD E) (cl := vwCl) (tys := eT E) (ci := 4) (C := RX4) (T := TX4) (N := 3) (v := .int (S.1 25 0)) hx hb hts hinX4 hown hE.1 hW.1 36 rfl rfl 0 (by decide) (hts (.fieldLink RX4 9 "DialGarden$Range" "size" "I") (by decide +kernel)) (fun _ h9 => h9) rfl dX4_add_42 ?_
          refine lv_iconst (v := 1) hx hb dX4_add_45 (by decide) ?_
          refine lv_iadd hx hb dX4_add_46 ?_
          refine va_put (D := eD E) (cl := vwCl) (tys := eT E) (A := eA E) (ci := 4) (C := RX4) (T := TX4) (N := 3) (v := .int ((S.1 25 0) + 1)) (ty := .int) hx hb hts hinX4 tyX4 tyX4_ok nmX4 hown hE.1 hW.1 hW.2 hS 36 rfl rfl 0 (by decide) (hts (.fieldLink RX4 9 "DialGarden$Range" "size" "I") (by decide +kernel)) (fun _ h9 => h9) rfl (by decide +kernel) rfl rfl (Nat.le_of_ble_eq_true rfl) dX4_add_47 (fun H locs hP hD hS => ?_)
          have hW : gW E M (pI (pI (pI S 25 1 p1) 25 2 p1) 25 0 ((S.1 25 0) + 1)) H := gW.of (uC_25_0 E M (pI (pI S 25 1 p1) 25 2 p1) ((S.1 25 0) + 1)) hP hD
          exact W.vret hx hb hr (fun t ht _ => ⟨⟨pI (pI (pI S 25 1 p1) 25 2 p1) 25 0 ((S.1 25 0) + 1), rfl, by first | (simp only [q_X4_add_25, if_neg c4, if_neg c12, if_neg c24, if_neg c32]; done) | contradiction, by dsimp only; rw [ht]; exact hW⟩, hS.F ht⟩) hS.2.2 dX4_add_50
theorem qp_X4_add_25 (S : gSc) (p1 : Int32) : (q_X4_add_25 S p1).2.2 = S.2.2 := by
  unfold q_X4_add_25
  try dsimp only
  (repeat' split) <;> first | (simp only [pI_2, sR_22]; done) | rfl

def q_X4_leastOrNone_25 (S : gSc)  : Int32 := (if (S.1 25 0) = 0 then (-2000000005) else S.1 25 1)
set_option maxHeartbeats 4000000 in
set_option maxRecDepth 100000 in
theorem c_X4_leastOrNone_25 (l : Launch) (E : gEE) (M : gSm) (S : gSc)   : Met l yX4_leastOrNone wsX4_leastOrNone ({ frames := 0, cells := 0, slots := 0, locals := 0 }) (va_Pc [.ref (eC E 25)] (gP E M S)) (vp_Si (fun r => r = q_X4_leastOrNone_25 S)) 0 0 (fun _ => False) := by
  refine Met.ofW (cc := cX4_leastOrNone) (maxL := 1) (ret := (some .int)) (by decide) rfl ?_
  intro p e s m args below meth c s₁ B hml hv
  obtain ⟨rfl, hE, hW⟩ := hv
  have hx := B.exec
  have hb := B.bytes
  have hr := B.returns
  have hts := atoms_spec (ws := wsX4_leastOrNone) B.pre
  have hown : s.vm.findClass RX4 = some m.cls := findClass_of_methodNamed B.named
  have hlocks := B.notSynchronized
  have hinX4 : ∀ w ∈ wsX40, w ∈ wsX4_leastOrNone := by decide +kernel
  have hS : va_S (eA E) s.heap s.heap [] := va_S.rf
  have hl := lv_entry ([.ref (eC E 25)]) (n := 1) (Nat.le_of_ble_eq_true rfl)
  rw [lg_entry_eq]
  generalize (lg_sl ([.ref (eC E 25)]) ++ List.replicate (1 - (lg_sl ([.ref (eC E 25)])).length) Slot.unset).toArray = ls at hl ⊢
  have hl : lv_has ls 1 [(0, .ref (eC E 25))] := hl
  refine lv_aload_n hx hb dX4_leastOrNone_0 rfl (lv_at hl 0 rfl) ?_
  refine va_get (D := eD E) (cl := vwCl) (tys := eT E) (ci := 4) (C := RX4) (T := TX4) (N := 3) (v := .int (S.1 25 0)) hx hb hts hinX4 hown hE.1 hW.1 36 rfl rfl 0 (by decide) (hts (.fieldLink RX4 9 "DialGarden$Range" "size" "I") (by decide +kernel)) (fun _ h9 => h9) rfl dX4_leastOrNone_1 ?_
  refine lv_if_ne (tgt := 12) hx hb dX4_leastOrNone_4 (by decide) (fun c4 => ?_) (fun c4 => ?_)
  · refine lv_aload_n hx hb dX4_leastOrNone_12 rfl (lv_at hl 0 rfl) ?_
    refine va_get (D := eD E) (cl := vwCl) (tys := eT E) (ci := 4) (C := RX4) (T := TX4) (N := 3) (v := .int (S.1 25 1)) hx hb hts hinX4 hown hE.1 hW.1 36 rfl rfl 1 (by decide) (hts (.fieldLink RX4 15 "DialGarden$Range" "least" "I") (by decide +kernel)) (fun _ h9 => h9) rfl dX4_leastOrNone_13 ?_
    exact W.iret (v := S.1 25 1) hx hb hr (fun t ht _ => ⟨S.1 25 1, rfl, by first | (simp only [q_X4_leastOrNone_25, if_neg c4]; done) | contradiction, ht⟩) (fun _ h => nomatch h) dX4_leastOrNone_16
  · refine lv_ldc hx hb (v := (-2000000005)) hown (hts (.constant RX4 21 (-2000000005)) (by decide +kernel)) dX4_leastOrNone_7 ?_
    refine lv_goto (tgt := 16) hx hb dX4_leastOrNone_9 (by decide) ?_
    exact W.iret (v := (-2000000005)) hx hb hr (fun t ht _ => ⟨(-2000000005), rfl, by first | (simp only [q_X4_leastOrNone_25, if_pos c4]; done) | contradiction, ht⟩) (fun _ h => nomatch h) dX4_leastOrNone_16

def q_X4_greatestOrNone_25 (S : gSc)  : Int32 := (if (S.1 25 0) = 0 then (-2000000005) else S.1 25 2)
set_option maxHeartbeats 4000000 in
set_option maxRecDepth 100000 in
theorem c_X4_greatestOrNone_25 (l : Launch) (E : gEE) (M : gSm) (S : gSc)   : Met l yX4_greatestOrNone wsX4_greatestOrNone ({ frames := 0, cells := 0, slots := 0, locals := 0 }) (va_Pc [.ref (eC E 25)] (gP E M S)) (vp_Si (fun r => r = q_X4_greatestOrNone_25 S)) 0 0 (fun _ => False) := by
  refine Met.ofW (cc := cX4_greatestOrNone) (maxL := 1) (ret := (some .int)) (by decide) rfl ?_
  intro p e s m args below meth c s₁ B hml hv
  obtain ⟨rfl, hE, hW⟩ := hv
  have hx := B.exec
  have hb := B.bytes
  have hr := B.returns
  have hts := atoms_spec (ws := wsX4_greatestOrNone) B.pre
  have hown : s.vm.findClass RX4 = some m.cls := findClass_of_methodNamed B.named
  have hlocks := B.notSynchronized
  have hinX4 : ∀ w ∈ wsX40, w ∈ wsX4_greatestOrNone := by decide +kernel
  have hS : va_S (eA E) s.heap s.heap [] := va_S.rf
  have hl := lv_entry ([.ref (eC E 25)]) (n := 1) (Nat.le_of_ble_eq_true rfl)
  rw [lg_entry_eq]
  generalize (lg_sl ([.ref (eC E 25)]) ++ List.replicate (1 - (lg_sl ([.ref (eC E 25)])).length) Slot.unset).toArray = ls at hl ⊢
  have hl : lv_has ls 1 [(0, .ref (eC E 25))] := hl
  refine lv_aload_n hx hb dX4_greatestOrNone_0 rfl (lv_at hl 0 rfl) ?_
  refine va_get (D := eD E) (cl := vwCl) (tys := eT E) (ci := 4) (C := RX4) (T := TX4) (N := 3) (v := .int (S.1 25 0)) hx hb hts hinX4 hown hE.1 hW.1 36 rfl rfl 0 (by decide) (hts (.fieldLink RX4 9 "DialGarden$Range" "size" "I") (by decide +kernel)) (fun _ h9 => h9) rfl dX4_greatestOrNone_1 ?_
  refine lv_if_ne (tgt := 12) hx hb dX4_greatestOrNone_4 (by decide) (fun c4 => ?_) (fun c4 => ?_)
  · refine lv_aload_n hx hb dX4_greatestOrNone_12 rfl (lv_at hl 0 rfl) ?_
    refine va_get (D := eD E) (cl := vwCl) (tys := eT E) (ci := 4) (C := RX4) (T := TX4) (N := 3) (v := .int (S.1 25 2)) hx hb hts hinX4 hown hE.1 hW.1 36 rfl rfl 2 (by decide) (hts (.fieldLink RX4 18 "DialGarden$Range" "greatest" "I") (by decide +kernel)) (fun _ h9 => h9) rfl dX4_greatestOrNone_13 ?_
    exact W.iret (v := S.1 25 2) hx hb hr (fun t ht _ => ⟨S.1 25 2, rfl, by first | (simp only [q_X4_greatestOrNone_25, if_neg c4]; done) | contradiction, ht⟩) (fun _ h => nomatch h) dX4_greatestOrNone_16
  · refine lv_ldc hx hb (v := (-2000000005)) hown (hts (.constant RX4 21 (-2000000005)) (by decide +kernel)) dX4_greatestOrNone_7 ?_
    refine lv_goto (tgt := 16) hx hb dX4_greatestOrNone_9 (by decide) ?_
    exact W.iret (v := (-2000000005)) hx hb hr (fun t ht _ => ⟨(-2000000005), rfl, by first | (simp only [q_X4_greatestOrNone_25, if_pos c4]; done) | contradiction, ht⟩) (fun _ h => nomatch h) dX4_greatestOrNone_16

def q_X4_clear_26 (S : gSc)  : gSc := pI S 26 0 0
set_option maxHeartbeats 4000000 in
set_option maxRecDepth 100000 in
theorem c_X4_clear_26 (l : Launch) (E : gEE) (M : gSm) (S : gSc)   : Met l yX4_clear wsX4_clear ({ frames := 0, cells := 0, slots := 0, locals := 0 }) (va_Pc [.ref (eC E 26)] (gP E M S)) (va_Qv (fun u : gSc => u = q_X4_clear_26 S) (fun u t => gW E M u t.heap) (eA E)) 0 0 (eA E) := by
  refine Met.ofW (cc := cX4_clear) (maxL := 1) (ret := none) (by decide) rfl ?_
  intro p e s m args below meth c s₁ B hml hv
  obtain ⟨rfl, hE, hW⟩ := hv
  have hx := B.exec
  have hb := B.bytes
  have hr := B.returns
  have hts := atoms_spec (ws := wsX4_clear) B.pre
  have hown : s.vm.findClass RX4 = some m.cls := findClass_of_methodNamed B.named
  have hlocks := B.notSynchronized
  have hinX4 : ∀ w ∈ wsX40, w ∈ wsX4_clear := by decide +kernel
  have hS : va_S (eA E) s.heap s.heap [] := va_S.rf
  have hl := lv_entry ([.ref (eC E 26)]) (n := 1) (Nat.le_of_ble_eq_true rfl)
  rw [lg_entry_eq]
  generalize (lg_sl ([.ref (eC E 26)]) ++ List.replicate (1 - (lg_sl ([.ref (eC E 26)])).length) Slot.unset).toArray = ls at hl ⊢
  have hl : lv_has ls 1 [(0, .ref (eC E 26))] := hl
  have hS : ∃ (H : Heap) (locs : List Loc), H = s.heap ∧ locs = [] ∧ gW E M S H ∧ va_S (eA E) s.heap H locs := ⟨_, _, rfl, rfl, hW, hS⟩
  clear hW
  obtain ⟨H, locs, eH, el, hW, hS⟩ := hS
  rw [← eH, ← el]
  clear eH el
  refine lv_aload_n hx hb dX4_clear_0 rfl (lv_at hl 0 rfl) ?_
  refine lv_iconst (v := 0) hx hb dX4_clear_1 (by decide) ?_
  refine va_put (D := eD E) (cl := vwCl) (tys := eT E) (A := eA E) (ci := 4) (C := RX4) (T := TX4) (N := 3) (v := .int (0)) (ty := .int) hx hb hts hinX4 tyX4 tyX4_ok nmX4 hown hE.1 hW.1 hW.2 hS 37 rfl rfl 0 (by decide) (hts (.fieldLink RX4 9 "DialGarden$Range" "size" "I") (by decide +kernel)) (fun _ h9 => h9) rfl (by decide +kernel) rfl rfl (Nat.le_of_ble_eq_true rfl) dX4_clear_2 (fun H locs hP hD hS => ?_)
  have hW : gW E M (pI S 26 0 0) H := gW.of (uC_26_0 E M S 0) hP hD
  exact W.vret hx hb hr (fun t ht _ => ⟨⟨pI S 26 0 0, rfl, by first | (simp only [q_X4_clear_26]; done) | contradiction, by dsimp only; rw [ht]; exact hW⟩, hS.F ht⟩) hS.2.2 dX4_clear_5
theorem qp_X4_clear_26 (S : gSc)  : (q_X4_clear_26 S).2.2 = S.2.2 := by
  unfold q_X4_clear_26
  try dsimp only
  (repeat' split) <;> first | (simp only [pI_2, sR_22]; done) | rfl

def q_X4_add_26 (S : gSc) (p1 : Int32) : gSc := (if (S.1 26 0) = 0 then (if (S.1 26 0) = 0 then pI (pI (pI S 26 1 p1) 26 2 p1) 26 0 ((S.1 26 0) + 1) else (if p1 ≤ (S.1 26 2) then pI (pI S 26 1 p1) 26 0 ((S.1 26 0) + 1) else pI (pI (pI S 26 1 p1) 26 2 p1) 26 0 ((S.1 26 0) + 1))) else (if (S.1 26 1) ≤ p1 then (if (S.1 26 0) = 0 then pI (pI S 26 2 p1) 26 0 ((S.1 26 0) + 1) else (if p1 ≤ (S.1 26 2) then pI S 26 0 ((S.1 26 0) + 1) else pI (pI S 26 2 p1) 26 0 ((S.1 26 0) + 1))) else (if (S.1 26 0) = 0 then pI (pI (pI S 26 1 p1) 26 2 p1) 26 0 ((S.1 26 0) + 1) else (if p1 ≤ (S.1 26 2) then pI (pI S 26 1 p1) 26 0 ((S.1 26 0) + 1) else pI (pI (pI S 26 1 p1) 26 2 p1) 26 0 ((S.1 26 0) + 1)))))
set_option maxHeartbeats 4000000 in
set_option maxRecDepth 100000 in
theorem c_X4_add_26 (l : Launch) (E : gEE) (M : gSm) (S : gSc) (p1 : Int32)  : Met l yX4_add wsX4_add ({ frames := 0, cells := 0, slots := 0, locals := 0 }) (va_Pc [.ref (eC E 26), .int (p1)] (gP E M S)) (va_Qv (fun u : gSc => u = q_X4_add_26 S p1) (fun u t => gW E M u t.heap) (eA E)) 0 0 (eA E) := by
  refine Met.ofW (cc := cX4_add) (maxL := 2) (ret := none) (by decide) rfl ?_
  intro p e s m args below meth c s₁ B hml hv
  obtain ⟨rfl, hE, hW⟩ := hv
  have hx := B.exec
  have hb := B.bytes
  have hr := B.returns
  have hts := atoms_spec (ws := wsX4_add) B.pre
  have hown : s.vm.findClass RX4 = some m.cls := findClass_of_methodNamed B.named
  have hlocks := B.notSynchronized
  have hinX4 : ∀ w ∈ wsX40, w ∈ wsX4_add := by decide +kernel
  have hS : va_S (eA E) s.heap s.heap [] := va_S.rf
  have hl := lv_entry ([.ref (eC E 26), .int (p1)]) (n := 2) (Nat.le_of_ble_eq_true rfl)
  rw [lg_entry_eq]
  generalize (lg_sl ([.ref (eC E 26), .int (p1)]) ++ List.replicate (2 - (lg_sl ([.ref (eC E 26), .int (p1)])).length) Slot.unset).toArray = ls at hl ⊢
  have hl : lv_has ls 2 [(0, .ref (eC E 26)), (1, .int (p1))] := hl
  have hS : ∃ (H : Heap) (locs : List Loc), H = s.heap ∧ locs = [] ∧ gW E M S H ∧ va_S (eA E) s.heap H locs := ⟨_, _, rfl, rfl, hW, hS⟩
  clear hW
  obtain ⟨H, locs, eH, el, hW, hS⟩ := hS
  rw [← eH, ← el]
  clear eH el
  refine lv_aload_n hx hb dX4_add_0 rfl (lv_at hl 0 rfl) ?_
  refine va_get (D := eD E) (cl := vwCl) (tys := eT E) (ci := 4) (C := RX4) (T := TX4) (N := 3) (v := .int (S.1 26 0)) hx hb hts hinX4 hown hE.1 hW.1 37 rfl rfl 0 (by decide) (hts (.fieldLink RX4 9 "DialGarden$Range" "size" "I") (by decide +kernel)) (fun _ h9 => h9) rfl dX4_add_1 ?_
  refine lv_if_eq (tgt := 15) hx hb dX4_add_4 (by decide) (fun c4 => ?_) (fun c4 => ?_)
  · refine lv_aload_n hx hb dX4_add_15 rfl (lv_at hl 0 rfl) ?_
    refine lv_iload_n hx hb dX4_add_16 rfl (lv_at hl 1 rfl) ?_
    refine va_put (D := eD E) (cl := vwCl) (tys := eT E) (A := eA E) (ci := 4) (C := RX4) (T := TX4) (N := 3) (v := .int (p1)) (ty := .int) hx hb hts hinX4 tyX4 tyX4_ok nmX4 hown hE.1 hW.1 hW.2 hS 37 rfl rfl 1 (by decide) (hts (.fieldLink RX4 15 "DialGarden$Range" "least" "I") (by decide +kernel)) (fun _ h9 => h9) rfl (by decide +kernel) rfl rfl (Nat.le_of_ble_eq_true rfl) dX4_add_17 (fun H locs hP hD hS => ?_)
    have hW : gW E M (pI S 26 1 p1) H := gW.of (uC_26_1 E M S p1) hP hD
    refine lv_aload_n hx hb dX4_add_20 rfl (lv_at hl 0 rfl) ?_
    refine va_get (D := eD E) (cl := vwCl) (tys := eT E) (ci := 4) (C := RX4) (T := TX4) (N := 3) (v := .int (S.1 26 0)) hx hb hts hinX4 hown hE.1 hW.1 37 rfl rfl 0 (by decide) (hts (.fieldLink RX4 9 "DialGarden$Range" "size" "I") (by decide +kernel)) (fun _ h9 => h9) rfl dX4_add_21 ?_
    refine lv_if_eq (tgt := 35) hx hb dX4_add_24 (by decide) (fun c24 => ?_) (fun c24 => ?_)
    · refine lv_aload_n hx hb dX4_add_35 rfl (lv_at hl 0 rfl) ?_
      refine lv_iload_n hx hb dX4_add_36 rfl (lv_at hl 1 rfl) ?_
      refine va_put (D := eD E) (cl := vwCl) (tys := eT E) (A := eA E) (ci := 4) (C := RX4) (T := TX4) (N := 3) (v := .int (p1)) (ty := .int) hx hb hts hinX4 tyX4 tyX4_ok nmX4 hown hE.1 hW.1 hW.2 hS 37 rfl rfl 2 (by decide) (hts (.fieldLink RX4 18 "DialGarden$Range" "greatest" "I") (by decide +kernel)) (fun _ h9 => h9) rfl (by decide +kernel) rfl rfl (Nat.le_of_ble_eq_true rfl) dX4_add_37 (fun H locs hP hD hS => ?_)
      have hW : gW E M (pI (pI S 26 1 p1) 26 2 p1) H := gW.of (uC_26_2 E M (pI S 26 1 p1) p1) hP hD
      refine lv_aload_n hx hb dX4_add_40 rfl (lv_at hl 0 rfl) ?_
      refine lv_dup hx hb dX4_add_41 rfl ?_
      refine va_get (D := eD E) (cl := vwCl) (tys := eT E) (ci := 4) (C := RX4) (T := TX4) (N := 3) (v := .int (S.1 26 0)) hx hb hts hinX4 hown hE.1 hW.1 37 rfl rfl 0 (by decide) (hts (.fieldLink RX4 9 "DialGarden$Range" "size" "I") (by decide +kernel)) (fun _ h9 => h9) rfl dX4_add_42 ?_
      refine lv_iconst (v := 1) hx hb dX4_add_45 (by decide) ?_
      refine lv_iadd hx hb dX4_add_46 ?_
      refine va_put (D := eD E) (cl := vwCl) (tys := eT E) (A := eA E) (ci := 4) (C := RX4) (T := TX4) (N := 3) (v := .int ((S.1 26 0) + 1)) (ty := .int) hx hb hts hinX4 tyX4 tyX4_ok nmX4 hown hE.1 hW.1 hW.2 hS 37 rfl rfl 0 (by decide) (hts (.fieldLink RX4 9 "DialGarden$Range" "size" "I") (by decide +kernel)) (fun _ h9 => h9) rfl (by decide +kernel) rfl rfl (Nat.le_of_ble_eq_true rfl) dX4_add_47 (fun H locs hP hD hS => ?_)
      have hW : gW E M (pI (pI (pI S 26 1 p1) 26 2 p1) 26 0 ((S.1 26 0) + 1)) H := gW.of (uC_26_0 E M (pI (pI S 26 1 p1) 26 2 p1) ((S.1 26 0) + 1)) hP hD
      exact W.vret hx hb hr (fun t ht _ => ⟨⟨pI (pI (pI S 26 1 p1) 26 2 p1) 26 0 ((S.1 26 0) + 1), rfl, by first | (simp only [q_X4_add_26, if_pos c4, if_pos c24]; done) | contradiction, by dsimp only; rw [ht]; exact hW⟩, hS.F ht⟩) hS.2.2 dX4_add_50
    · refine lv_iload_n hx hb dX4_add_27 rfl (lv_at hl 1 rfl) ?_
      refine lv_aload_n hx hb dX4_add_28 rfl (lv_at hl 0 rfl) ?_
      refine va_get (D := eD E) (cl := vwCl) (tys := eT E) (ci := 4) (C := RX4) (T := TX4) (N := 3) (v := .int (S.1 26 2)) hx hb hts hinX4 hown hE.1 hW.1 37 rfl rfl 2 (by decide) (hts (.fieldLink RX4 18 "DialGarden$Range" "greatest" "I") (by decide +kernel)) (fun _ h9 => h9) rfl dX4_add_29 ?_
      refine lv_icmp_le (tgt := 40) hx hb dX4_add_32 (by decide) (fun c32 => ?_) (fun c32 => ?_)
      · refine lv_aload_n hx hb dX4_add_40 rfl (lv_at hl 0 rfl) ?_
        refine lv_dup hx hb dX4_add_41 rfl ?_
        refine va_get (D := eD E) (cl := vwCl) (tys := eT E) (ci := 4) (C := RX4) (T := TX4) (N := 3) (v := .int (S.1 26 0)) hx hb hts hinX4 hown hE.1 hW.1 37 rfl rfl 0 (by decide) (hts (.fieldLink RX4 9 "DialGarden$Range" "size" "I") (by decide +kernel)) (fun _ h9 => h9) rfl dX4_add_42 ?_
        refine lv_iconst (v := 1) hx hb dX4_add_45 (by decide) ?_
        refine lv_iadd hx hb dX4_add_46 ?_
        refine va_put (D := eD E) (cl := vwCl) (tys := eT E) (A := eA E) (ci := 4) (C := RX4) (T := TX4) (N := 3) (v := .int ((S.1 26 0) + 1)) (ty := .int) hx hb hts hinX4 tyX4 tyX4_ok nmX4 hown hE.1 hW.1 hW.2 hS 37 rfl rfl 0 (by decide) (hts (.fieldLink RX4 9 "DialGarden$Range" "size" "I") (by decide +kernel)) (fun _ h9 => h9) rfl (by decide +kernel) rfl rfl (Nat.le_of_ble_eq_true rfl) dX4_add_47 (fun H locs hP hD hS => ?_)
        have hW : gW E M (pI (pI S 26 1 p1) 26 0 ((S.1 26 0) + 1)) H := gW.of (uC_26_0 E M (pI S 26 1 p1) ((S.1 26 0) + 1)) hP hD
        exact W.vret hx hb hr (fun t ht _ => ⟨⟨pI (pI S 26 1 p1) 26 0 ((S.1 26 0) + 1), rfl, by first | (simp only [q_X4_add_26, if_pos c4, if_neg c24, if_pos c32]; done) | contradiction, by dsimp only; rw [ht]; exact hW⟩, hS.F ht⟩) hS.2.2 dX4_add_50
      · refine lv_aload_n hx hb dX4_add_35 rfl (lv_at hl 0 rfl) ?_
        refine lv_iload_n hx hb dX4_add_36 rfl (lv_at hl 1 rfl) ?_
        refine va_put (D := eD E) (cl := vwCl) (tys := eT E) (A := eA E) (ci := 4) (C := RX4) (T := TX4) (N := 3) (v := .int (p1)) (ty := .int) hx hb hts hinX4 tyX4 tyX4_ok nmX4 hown hE.1 hW.1 hW.2 hS 37 rfl rfl 2 (by decide) (hts (.fieldLink RX4 18 "DialGarden$Range" "greatest" "I") (by decide +kernel)) (fun _ h9 => h9) rfl (by decide +kernel) rfl rfl (Nat.le_of_ble_eq_true rfl) dX4_add_37 (fun H locs hP hD hS => ?_)
        have hW : gW E M (pI (pI S 26 1 p1) 26 2 p1) H := gW.of (uC_26_2 E M (pI S 26 1 p1) p1) hP hD
        refine lv_aload_n hx hb dX4_add_40 rfl (lv_at hl 0 rfl) ?_
        refine lv_dup hx hb dX4_add_41 rfl ?_
        refine va_get (D := eD E) (cl := vwCl) (tys := eT E) (ci := 4) (C := RX4) (T := TX4) (N := 3) (v := .int (S.1 26 0)) hx hb hts hinX4 hown hE.1 hW.1 37 rfl rfl 0 (by decide) (hts (.fieldLink RX4 9 "DialGarden$Range" "size" "I") (by decide +kernel)) (fun _ h9 => h9) rfl dX4_add_42 ?_
        refine lv_iconst (v := 1) hx hb dX4_add_45 (by decide) ?_
        refine lv_iadd hx hb dX4_add_46 ?_
        refine va_put (D := eD E) (cl := vwCl) (tys := eT E) (A := eA E) (ci := 4) (C := RX4) (T := TX4) (N := 3) (v := .int ((S.1 26 0) + 1)) (ty := .int) hx hb hts hinX4 tyX4 tyX4_ok nmX4 hown hE.1 hW.1 hW.2 hS 37 rfl rfl 0 (by decide) (hts (.fieldLink RX4 9 "DialGarden$Range" "size" "I") (by decide +kernel)) (fun _ h9 => h9) rfl (by decide +kernel) rfl rfl (Nat.le_of_ble_eq_true rfl) dX4_add_47 (fun H locs hP hD hS => ?_)
        have hW : gW E M (pI (pI (pI S 26 1 p1) 26 2 p1) 26 0 ((S.1 26 0) + 1)) H := gW.of (uC_26_0 E M (pI (pI S 26 1 p1) 26 2 p1) ((S.1 26 0) + 1)) hP hD
        exact W.vret hx hb hr (fun t ht _ => ⟨⟨pI (pI (pI S 26 1 p1) 26 2 p1) 26 0 ((S.1 26 0) + 1), rfl, by first | (simp only [q_X4_add_26, if_pos c4, if_neg c24, if_neg c32]; done) | contradiction, by dsimp only; rw [ht]; exact hW⟩, hS.F ht⟩) hS.2.2 dX4_add_50
  · refine lv_iload_n hx hb dX4_add_7 rfl (lv_at hl 1 rfl) ?_
    refine lv_aload_n hx hb dX4_add_8 rfl (lv_at hl 0 rfl) ?_
    refine va_get (D := eD E) (cl := vwCl) (tys := eT E) (ci := 4) (C := RX4) (T := TX4) (N := 3) (v := .int (S.1 26 1)) hx hb hts hinX4 hown hE.1 hW.1 37 rfl rfl 1 (by decide) (hts (.fieldLink RX4 15 "DialGarden$Range" "least" "I") (by decide +kernel)) (fun _ h9 => h9) rfl dX4_add_9 ?_
    refine lv_icmp_ge (tgt := 20) hx hb dX4_add_12 (by decide) (fun c12 => ?_) (fun c12 => ?_)
    · refine lv_aload_n hx hb dX4_add_20 rfl (lv_at hl 0 rfl) ?_
      refine va_get (D := eD E) (cl := vwCl) (tys := eT E) (ci := 4) (C := RX4) (T := TX4) (N := 3) (v := .int (S.1 26 0)) hx hb hts hinX4 hown hE.1 hW.1 37 rfl rfl 0 (by decide) (hts (.fieldLink RX4 9 "DialGarden$Range" "size" "I") (by decide +kernel)) (fun _ h9 => h9) rfl dX4_add_21 ?_
      refine lv_if_eq (tgt := 35) hx hb dX4_add_24 (by decide) (fun c24 => ?_) (fun c24 => ?_)
      · refine lv_aload_n hx hb dX4_add_35 rfl (lv_at hl 0 rfl) ?_
        refine lv_iload_n hx hb dX4_add_36 rfl (lv_at hl 1 rfl) ?_
        refine va_put (D := eD E) (cl := vwCl) (tys := eT E) (A := eA E) (ci := 4) (C := RX4) (T := TX4) (N := 3) (v := .int (p1)) (ty := .int) hx hb hts hinX4 tyX4 tyX4_ok nmX4 hown hE.1 hW.1 hW.2 hS 37 rfl rfl 2 (by decide) (hts (.fieldLink RX4 18 "DialGarden$Range" "greatest" "I") (by decide +kernel)) (fun _ h9 => h9) rfl (by decide +kernel) rfl rfl (Nat.le_of_ble_eq_true rfl) dX4_add_37 (fun H locs hP hD hS => ?_)
        have hW : gW E M (pI S 26 2 p1) H := gW.of (uC_26_2 E M S p1) hP hD
        refine lv_aload_n hx hb dX4_add_40 rfl (lv_at hl 0 rfl) ?_
        refine lv_dup hx hb dX4_add_41 rfl ?_
        refine va_get (D := eD E) (cl := vwCl) (tys := eT E) (ci := 4) (C := RX4) (T := TX4) (N := 3) (v := .int (S.1 26 0)) hx hb hts hinX4 hown hE.1 hW.1 37 rfl rfl 0 (by decide) (hts (.fieldLink RX4 9 "DialGarden$Range" "size" "I") (by decide +kernel)) (fun _ h9 => h9) rfl dX4_add_42 ?_
        refine lv_iconst (v := 1) hx hb dX4_add_45 (by decide) ?_
        refine lv_iadd hx hb dX4_add_46 ?_
        refine va_put (D := eD E) (cl := vwCl) (tys := eT E) (A := eA E) (ci := 4) (C := RX4) (T := TX4) (N := 3) (v := .int ((S.1 26 0) + 1)) (ty := .int) hx hb hts hinX4 tyX4 tyX4_ok nmX4 hown hE.1 hW.1 hW.2 hS 37 rfl rfl 0 (by decide) (hts (.fieldLink RX4 9 "DialGarden$Range" "size" "I") (by decide +kernel)) (fun _ h9 => h9) rfl (by decide +kernel) rfl rfl (Nat.le_of_ble_eq_true rfl) dX4_add_47 (fun H locs hP hD hS => ?_)
        have hW : gW E M (pI (pI S 26 2 p1) 26 0 ((S.1 26 0) + 1)) H := gW.of (uC_26_0 E M (pI S 26 2 p1) ((S.1 26 0) + 1)) hP hD
        exact W.vret hx hb hr (fun t ht _ => ⟨⟨pI (pI S 26 2 p1) 26 0 ((S.1 26 0) + 1), rfl, by first | (simp only [q_X4_add_26, if_neg c4, if_pos c12, if_pos c24]; done) | contradiction, by dsimp only; rw [ht]; exact hW⟩, hS.F ht⟩) hS.2.2 dX4_add_50
      · refine lv_iload_n hx hb dX4_add_27 rfl (lv_at hl 1 rfl) ?_
        refine lv_aload_n hx hb dX4_add_28 rfl (lv_at hl 0 rfl) ?_
        refine va_get (D := eD E) (cl := vwCl) (tys := eT E) (ci := 4) (C := RX4) (T := TX4) (N := 3) (v := .int (S.1 26 2)) hx hb hts hinX4 hown hE.1 hW.1 37 rfl rfl 2 (by decide) (hts (.fieldLink RX4 18 "DialGarden$Range" "greatest" "I") (by decide +kernel)) (fun _ h9 => h9) rfl dX4_add_29 ?_
        refine lv_icmp_le (tgt := 40) hx hb dX4_add_32 (by decide) (fun c32 => ?_) (fun c32 => ?_)
        · refine lv_aload_n hx hb dX4_add_40 rfl (lv_at hl 0 rfl) ?_
          refine lv_dup hx hb dX4_add_41 rfl ?_
          refine va_get (D := eD E) (cl := vwCl) (tys := eT E) (ci := 4) (C := RX4) (T := TX4) (N := 3) (v := .int (S.1 26 0)) hx hb hts hinX4 hown hE.1 hW.1 37 rfl rfl 0 (by decide) (hts (.fieldLink RX4 9 "DialGarden$Range" "size" "I") (by decide +kernel)) (fun _ h9 => h9) rfl dX4_add_42 ?_
          refine lv_iconst (v := 1) hx hb dX4_add_45 (by decide) ?_
          refine lv_iadd hx hb dX4_add_46 ?_
          refine va_put (D := eD E) (cl := vwCl) (tys := eT E) (A := eA E) (ci := 4) (C := RX4) (T := TX4) (N := 3) (v := .int ((S.1 26 0) + 1)) (ty := .int) hx hb hts hinX4 tyX4 tyX4_ok nmX4 hown hE.1 hW.1 hW.2 hS 37 rfl rfl 0 (by decide) (hts (.fieldLink RX4 9 "DialGarden$Range" "size" "I") (by decide +kernel)) (fun _ h9 => h9) rfl (by decide +kernel) rfl rfl (Nat.le_of_ble_eq_true rfl) dX4_add_47 (fun H locs hP hD hS => ?_)
          have hW : gW E M (pI S 26 0 ((S.1 26 0) + 1)) H := gW.of (uC_26_0 E M S ((S.1 26 0) + 1)) hP hD
          exact W.vret hx hb hr (fun t ht _ => ⟨⟨pI S 26 0 ((S.1 26 0) + 1), rfl, by first | (simp only [q_X4_add_26, if_neg c4, if_pos c12, if_neg c24, if_pos c32]; done) | contradiction, by dsimp only; rw [ht]; exact hW⟩, hS.F ht⟩) hS.2.2 dX4_add_50
        · refine lv_aload_n hx hb dX4_add_35 rfl (lv_at hl 0 rfl) ?_
          refine lv_iload_n hx hb dX4_add_36 rfl (lv_at hl 1 rfl) ?_
          refine va_put (D := eD E) (cl := vwCl) (tys := eT E) (A := eA E) (ci := 4) (C := RX4) (T := TX4) (N := 3) (v := .int (p1)) (ty := .int) hx hb hts hinX4 tyX4 tyX4_ok nmX4 hown hE.1 hW.1 hW.2 hS 37 rfl rfl 2 (by decide) (hts (.fieldLink RX4 18 "DialGarden$Range" "greatest" "I") (by decide +kernel)) (fun _ h9 => h9) rfl (by decide +kernel) rfl rfl (Nat.le_of_ble_eq_true rfl) dX4_add_37 (fun H locs hP hD hS => ?_)
          have hW : gW E M (pI S 26 2 p1) H := gW.of (uC_26_2 E M S p1) hP hD
          refine lv_aload_n hx hb dX4_add_40 rfl (lv_at hl 0 rfl) ?_
          refine lv_dup hx hb dX4_add_41 rfl ?_
          refine va_get (D := eD E) (cl := vwCl) (tys := eT E) (ci := 4) (C := RX4) (T := TX4) (N := 3) (v := .int (S.1 26 0)) hx hb hts hinX4 hown hE.1 hW.1 37 rfl rfl 0 (by decide) (hts (.fieldLink RX4 9 "DialGarden$Range" "size" "I") (by decide +kernel)) (fun _ h9 => h9) rfl dX4_add_42 ?_
          refine lv_iconst (v := 1) hx hb dX4_add_45 (by decide) ?_
          refine lv_iadd hx hb dX4_add_46 ?_
          refine va_put (D := eD E) (cl := vwCl) (tys := eT E) (A := eA E) (ci := 4) (C := RX4) (T := TX4) (N := 3) (v := .int ((S.1 26 0) + 1)) (ty := .int) hx hb hts hinX4 tyX4 tyX4_ok nmX4 hown hE.1 hW.1 hW.2 hS 37 rfl rfl 0 (by decide) (hts (.fieldLink RX4 9 "DialGarden$Range" "size" "I") (by decide +kernel)) (fun _ h9 => h9) rfl (by decide +kernel) rfl rfl (Nat.le_of_ble_eq_true rfl) dX4_add_47 (fun H locs hP hD hS => ?_)
          have hW : gW E M (pI (pI S 26 2 p1) 26 0 ((S.1 26 0) + 1)) H := gW.of (uC_26_0 E M (pI S 26 2 p1) ((S.1 26 0) + 1)) hP hD
          exact W.vret hx hb hr (fun t ht _ => ⟨⟨pI (pI S 26 2 p1) 26 0 ((S.1 26 0) + 1), rfl, by first | (simp only [q_X4_add_26, if_neg c4, if_pos c12, if_neg c24, if_neg c32]; done) | contradiction, by dsimp only; rw [ht]; exact hW⟩, hS.F ht⟩) hS.2.2 dX4_add_50
    · refine lv_aload_n hx hb dX4_add_15 rfl (lv_at hl 0 rfl) ?_
      refine lv_iload_n hx hb dX4_add_16 rfl (lv_at hl 1 rfl) ?_
      refine va_put (D := eD E) (cl := vwCl) (tys := eT E) (A := eA E) (ci := 4) (C := RX4) (T := TX4) (N := 3) (v := .int (p1)) (ty := .int) hx hb hts hinX4 tyX4 tyX4_ok nmX4 hown hE.1 hW.1 hW.2 hS 37 rfl rfl 1 (by decide) (hts (.fieldLink RX4 15 "DialGarden$Range" "least" "I") (by decide +kernel)) (fun _ h9 => h9) rfl (by decide +kernel) rfl rfl (Nat.le_of_ble_eq_true rfl) dX4_add_17 (fun H locs hP hD hS => ?_)
      have hW : gW E M (pI S 26 1 p1) H := gW.of (uC_26_1 E M S p1) hP hD
      refine lv_aload_n hx hb dX4_add_20 rfl (lv_at hl 0 rfl) ?_
      refine va_get (D := eD E) (cl := vwCl) (tys := eT E) (ci := 4) (C := RX4) (T := TX4) (N := 3) (v := .int (S.1 26 0)) hx hb hts hinX4 hown hE.1 hW.1 37 rfl rfl 0 (by decide) (hts (.fieldLink RX4 9 "DialGarden$Range" "size" "I") (by decide +kernel)) (fun _ h9 => h9) rfl dX4_add_21 ?_
      refine lv_if_eq (tgt := 35) hx hb dX4_add_24 (by decide) (fun c24 => ?_) (fun c24 => ?_)
      · refine lv_aload_n hx hb dX4_add_35 rfl (lv_at hl 0 rfl) ?_
        refine lv_iload_n hx hb dX4_add_36 rfl (lv_at hl 1 rfl) ?_
        refine va_put (D := eD E) (cl := vwCl) (tys := eT E) (A := eA E) (ci := 4) (C := RX4) (T := TX4) (N := 3) (v := .int (p1)) (ty := .int) hx hb hts hinX4 tyX4 tyX4_ok nmX4 hown hE.1 hW.1 hW.2 hS 37 rfl rfl 2 (by decide) (hts (.fieldLink RX4 18 "DialGarden$Range" "greatest" "I") (by decide +kernel)) (fun _ h9 => h9) rfl (by decide +kernel) rfl rfl (Nat.le_of_ble_eq_true rfl) dX4_add_37 (fun H locs hP hD hS => ?_)
        have hW : gW E M (pI (pI S 26 1 p1) 26 2 p1) H := gW.of (uC_26_2 E M (pI S 26 1 p1) p1) hP hD
        refine lv_aload_n hx hb dX4_add_40 rfl (lv_at hl 0 rfl) ?_
        refine lv_dup hx hb dX4_add_41 rfl ?_
        refine va_get (D := eD E) (cl := vwCl) (tys := eT E) (ci := 4) (C := RX4) (T := TX4) (N := 3) (v := .int (S.1 26 0)) hx hb hts hinX4 hown hE.1 hW.1 37 rfl rfl 0 (by decide) (hts (.fieldLink RX4 9 "DialGarden$Range" "size" "I") (by decide +kernel)) (fun _ h9 => h9) rfl dX4_add_42 ?_
        refine lv_iconst (v := 1) hx hb dX4_add_45 (by decide) ?_
        refine lv_iadd hx hb dX4_add_46 ?_
        refine va_put (D := eD E) (cl := vwCl) (tys := eT E) (A := eA E) (ci := 4) (C := RX4) (T := TX4) (N := 3) (v := .int ((S.1 26 0) + 1)) (ty := .int) hx hb hts hinX4 tyX4 tyX4_ok nmX4 hown hE.1 hW.1 hW.2 hS 37 rfl rfl 0 (by decide) (hts (.fieldLink RX4 9 "DialGarden$Range" "size" "I") (by decide +kernel)) (fun _ h9 => h9) rfl (by decide +kernel) rfl rfl (Nat.le_of_ble_eq_true rfl) dX4_add_47 (fun H locs hP hD hS => ?_)
        have hW : gW E M (pI (pI (pI S 26 1 p1) 26 2 p1) 26 0 ((S.1 26 0) + 1)) H := gW.of (uC_26_0 E M (pI (pI S 26 1 p1) 26 2 p1) ((S.1 26 0) + 1)) hP hD
        exact W.vret hx hb hr (fun t ht _ => ⟨⟨pI (pI (pI S 26 1 p1) 26 2 p1) 26 0 ((S.1 26 0) + 1), rfl, by first | (simp only [q_X4_add_26, if_neg c4, if_neg c12, if_pos c24]; done) | contradiction, by dsimp only; rw [ht]; exact hW⟩, hS.F ht⟩) hS.2.2 dX4_add_50
      · refine lv_iload_n hx hb dX4_add_27 rfl (lv_at hl 1 rfl) ?_
        refine lv_aload_n hx hb dX4_add_28 rfl (lv_at hl 0 rfl) ?_
        refine va_get (D := eD E) (cl := vwCl) (tys := eT E) (ci := 4) (C := RX4) (T := TX4) (N := 3) (v := .int (S.1 26 2)) hx hb hts hinX4 hown hE.1 hW.1 37 rfl rfl 2 (by decide) (hts (.fieldLink RX4 18 "DialGarden$Range" "greatest" "I") (by decide +kernel)) (fun _ h9 => h9) rfl dX4_add_29 ?_
        refine lv_icmp_le (tgt := 40) hx hb dX4_add_32 (by decide) (fun c32 => ?_) (fun c32 => ?_)
        · refine lv_aload_n hx hb dX4_add_40 rfl (lv_at hl 0 rfl) ?_
          refine lv_dup hx hb dX4_add_41 rfl ?_
          refine va_get (D := eD E) (cl := vwCl) (tys := eT E) (ci := 4) (C := RX4) (T := TX4) (N := 3) (v := .int (S.1 26 0)) hx hb hts hinX4 hown hE.1 hW.1 37 rfl rfl 0 (by decide) (hts (.fieldLink RX4 9 "DialGarden$Range" "size" "I") (by decide +kernel)) (fun _ h9 => h9) rfl dX4_add_42 ?_
          refine lv_iconst (v := 1) hx hb dX4_add_45 (by decide) ?_
          refine lv_iadd hx hb dX4_add_46 ?_
          refine va_put (D := eD E) (cl := vwCl) (tys := eT E) (A := eA E) (ci := 4) (C := RX4) (T := TX4) (N := 3) (v := .int ((S.1 26 0) + 1)) (ty := .int) hx hb hts hinX4 tyX4 tyX4_ok nmX4 hown hE.1 hW.1 hW.2 hS 37 rfl rfl 0 (by decide) (hts (.fieldLink RX4 9 "DialGarden$Range" "size" "I") (by decide +kernel)) (fun _ h9 => h9) rfl (by decide +kernel) rfl rfl (Nat.le_of_ble_eq_true rfl) dX4_add_47 (fun H locs hP hD hS => ?_)
          have hW : gW E M (pI (pI S 26 1 p1) 26 0 ((S.1 26 0) + 1)) H := gW.of (uC_26_0 E M (pI S 26 1 p1) ((S.1 26 0) + 1)) hP hD
          exact W.vret hx hb hr (fun t ht _ => ⟨⟨pI (pI S 26 1 p1) 26 0 ((S.1 26 0) + 1), rfl, by first | (simp only [q_X4_add_26, if_neg c4, if_neg c12, if_neg c24, if_pos c32]; done) | contradiction, by dsimp only; rw [ht]; exact hW⟩, hS.F ht⟩) hS.2.2 dX4_add_50
        · refine lv_aload_n hx hb dX4_add_35 rfl (lv_at hl 0 rfl) ?_
          refine lv_iload_n hx hb dX4_add_36 rfl (lv_at hl 1 rfl) ?_
          refine va_put (D := eD E) (cl := vwCl) (tys := eT E) (A := eA E) (ci := 4) (C := RX4) (T := TX4) (N := 3) (v := .int (p1)) (ty := .int) hx hb hts hinX4 tyX4 tyX4_ok nmX4 hown hE.1 hW.1 hW.2 hS 37 rfl rfl 2 (by decide) (hts (.fieldLink RX4 18 "DialGarden$Range" "greatest" "I") (by decide +kernel)) (fun _ h9 => h9) rfl (by decide +kernel) rfl rfl (Nat.le_of_ble_eq_true rfl) dX4_add_37 (fun H locs hP hD hS => ?_)
          have hW : gW E M (pI (pI S 26 1 p1) 26 2 p1) H := gW.of (uC_26_2 E M (pI S 26 1 p1) p1) hP hD
          refine lv_aload_n hx hb dX4_add_40 rfl (lv_at hl 0 rfl) ?_
          refine lv_dup hx hb dX4_add_41 rfl ?_
          refine va_get (D := eD E) (cl := vwCl) (tys := eT E) (ci := 4) (C := RX4) (T := TX4) (N := 3) (v := .int (S.1 26 0)) hx hb hts hinX4 hown hE.1 hW.1 37 rfl rfl 0 (by decide) (hts (.fieldLink RX4 9 "DialGarden$Range" "size" "I") (by decide +kernel)) (fun _ h9 => h9) rfl dX4_add_42 ?_
          refine lv_iconst (v := 1) hx hb dX4_add_45 (by decide) ?_
          refine lv_iadd hx hb dX4_add_46 ?_
          refine va_put (D := eD E) (cl := vwCl) (tys := eT E) (A := eA E) (ci := 4) (C := RX4) (T := TX4) (N := 3) (v := .int ((S.1 26 0) + 1)) (ty := .int) hx hb hts hinX4 tyX4 tyX4_ok nmX4 hown hE.1 hW.1 hW.2 hS 37 rfl rfl 0 (by decide) (hts (.fieldLink RX4 9 "DialGarden$Range" "size" "I") (by decide +kernel)) (fun _ h9 => h9) rfl (by decide +kernel) rfl rfl (Nat.le_of_ble_eq_true rfl) dX4_add_47 (fun H locs hP hD hS => ?_)
          have hW : gW E M (pI (pI (pI S 26 1 p1) 26 2 p1) 26 0 ((S.1 26 0) + 1)) H := gW.of (uC_26_0 E M (pI (pI S 26 1 p1) 26 2 p1) ((S.1 26 0) + 1)) hP hD
          exact W.vret hx hb hr (fun t ht _ => ⟨⟨pI (pI (pI S 26 1 p1) 26 2 p1) 26 0 ((S.1 26 0) + 1), rfl, by first | (simp only [q_X4_add_26, if_neg c4, if_neg c12, if_neg c24, if_neg c32]; done) | contradiction, by dsimp only; rw [ht]; exact hW⟩, hS.F ht⟩) hS.2.2 dX4_add_50
theorem qp_X4_add_26 (S : gSc) (p1 : Int32) : (q_X4_add_26 S p1).2.2 = S.2.2 := by
  unfold q_X4_add_26
  try dsimp only
  (repeat' split) <;> first | (simp only [pI_2, sR_22]; done) | rfl

def q_X4_leastOrNone_26 (S : gSc)  : Int32 := (if (S.1 26 0) = 0 then (-2000000005) else S.1 26 1)
set_option maxHeartbeats 4000000 in
set_option maxRecDepth 100000 in
theorem c_X4_leastOrNone_26 (l : Launch) (E : gEE) (M : gSm) (S : gSc)   : Met l yX4_leastOrNone wsX4_leastOrNone ({ frames := 0, cells := 0, slots := 0, locals := 0 }) (va_Pc [.ref (eC E 26)] (gP E M S)) (vp_Si (fun r => r = q_X4_leastOrNone_26 S)) 0 0 (fun _ => False) := by
  refine Met.ofW (cc := cX4_leastOrNone) (maxL := 1) (ret := (some .int)) (by decide) rfl ?_
  intro p e s m args below meth c s₁ B hml hv
  obtain ⟨rfl, hE, hW⟩ := hv
  have hx := B.exec
  have hb := B.bytes
  have hr := B.returns
  have hts := atoms_spec (ws := wsX4_leastOrNone) B.pre
  have hown : s.vm.findClass RX4 = some m.cls := findClass_of_methodNamed B.named
  have hlocks := B.notSynchronized
  have hinX4 : ∀ w ∈ wsX40, w ∈ wsX4_leastOrNone := by decide +kernel
  have hS : va_S (eA E) s.heap s.heap [] := va_S.rf
  have hl := lv_entry ([.ref (eC E 26)]) (n := 1) (Nat.le_of_ble_eq_true rfl)
  rw [lg_entry_eq]
  generalize (lg_sl ([.ref (eC E 26)]) ++ List.replicate (1 - (lg_sl ([.ref (eC E 26)])).length) Slot.unset).toArray = ls at hl ⊢
  have hl : lv_has ls 1 [(0, .ref (eC E 26))] := hl
  refine lv_aload_n hx hb dX4_leastOrNone_0 rfl (lv_at hl 0 rfl) ?_
  refine va_get (D := eD E) (cl := vwCl) (tys := eT E) (ci := 4) (C := RX4) (T := TX4) (N := 3) (v := .int (S.1 26 0)) hx hb hts hinX4 hown hE.1 hW.1 37 rfl rfl 0 (by decide) (hts (.fieldLink RX4 9 "DialGarden$Range" "size" "I") (by decide +kernel)) (fun _ h9 => h9) rfl dX4_leastOrNone_1 ?_
  refine lv_if_ne (tgt := 12) hx hb dX4_leastOrNone_4 (by decide) (fun c4 => ?_) (fun c4 => ?_)
  · refine lv_aload_n hx hb dX4_leastOrNone_12 rfl (lv_at hl 0 rfl) ?_
    refine va_get (D := eD E) (cl := vwCl) (tys := eT E) (ci := 4) (C := RX4) (T := TX4) (N := 3) (v := .int (S.1 26 1)) hx hb hts hinX4 hown hE.1 hW.1 37 rfl rfl 1 (by decide) (hts (.fieldLink RX4 15 "DialGarden$Range" "least" "I") (by decide +kernel)) (fun _ h9 => h9) rfl dX4_leastOrNone_13 ?_
    exact W.iret (v := S.1 26 1) hx hb hr (fun t ht _ => ⟨S.1 26 1, rfl, by first | (simp only [q_X4_leastOrNone_26, if_neg c4]; done) | contradiction, ht⟩) (fun _ h => nomatch h) dX4_leastOrNone_16
  · refine lv_ldc hx hb (v := (-2000000005)) hown (hts (.constant RX4 21 (-2000000005)) (by decide +kernel)) dX4_leastOrNone_7 ?_
    refine lv_goto (tgt := 16) hx hb dX4_leastOrNone_9 (by decide) ?_
    exact W.iret (v := (-2000000005)) hx hb hr (fun t ht _ => ⟨(-2000000005), rfl, by first | (simp only [q_X4_leastOrNone_26, if_pos c4]; done) | contradiction, ht⟩) (fun _ h => nomatch h) dX4_leastOrNone_16

def q_X4_greatestOrNone_26 (S : gSc)  : Int32 := (if (S.1 26 0) = 0 then (-2000000005) else S.1 26 2)
set_option maxHeartbeats 4000000 in
set_option maxRecDepth 100000 in
theorem c_X4_greatestOrNone_26 (l : Launch) (E : gEE) (M : gSm) (S : gSc)   : Met l yX4_greatestOrNone wsX4_greatestOrNone ({ frames := 0, cells := 0, slots := 0, locals := 0 }) (va_Pc [.ref (eC E 26)] (gP E M S)) (vp_Si (fun r => r = q_X4_greatestOrNone_26 S)) 0 0 (fun _ => False) := by
  refine Met.ofW (cc := cX4_greatestOrNone) (maxL := 1) (ret := (some .int)) (by decide) rfl ?_
  intro p e s m args below meth c s₁ B hml hv
  obtain ⟨rfl, hE, hW⟩ := hv
  have hx := B.exec
  have hb := B.bytes
  have hr := B.returns
  have hts := atoms_spec (ws := wsX4_greatestOrNone) B.pre
  have hown : s.vm.findClass RX4 = some m.cls := findClass_of_methodNamed B.named
  have hlocks := B.notSynchronized
  have hinX4 : ∀ w ∈ wsX40, w ∈ wsX4_greatestOrNone := by decide +kernel
  have hS : va_S (eA E) s.heap s.heap [] := va_S.rf
  have hl := lv_entry ([.ref (eC E 26)]) (n := 1) (Nat.le_of_ble_eq_true rfl)
  rw [lg_entry_eq]
  generalize (lg_sl ([.ref (eC E 26)]) ++ List.replicate (1 - (lg_sl ([.ref (eC E 26)])).length) Slot.unset).toArray = ls at hl ⊢
  have hl : lv_has ls 1 [(0, .ref (eC E 26))] := hl
  refine lv_aload_n hx hb dX4_greatestOrNone_0 rfl (lv_at hl 0 rfl) ?_
  refine va_get (D := eD E) (cl := vwCl) (tys := eT E) (ci := 4) (C := RX4) (T := TX4) (N := 3) (v := .int (S.1 26 0)) hx hb hts hinX4 hown hE.1 hW.1 37 rfl rfl 0 (by decide) (hts (.fieldLink RX4 9 "DialGarden$Range" "size" "I") (by decide +kernel)) (fun _ h9 => h9) rfl dX4_greatestOrNone_1 ?_
  refine lv_if_ne (tgt := 12) hx hb dX4_greatestOrNone_4 (by decide) (fun c4 => ?_) (fun c4 => ?_)
  · refine lv_aload_n hx hb dX4_greatestOrNone_12 rfl (lv_at hl 0 rfl) ?_
    refine va_get (D := eD E) (cl := vwCl) (tys := eT E) (ci := 4) (C := RX4) (T := TX4) (N := 3) (v := .int (S.1 26 2)) hx hb hts hinX4 hown hE.1 hW.1 37 rfl rfl 2 (by decide) (hts (.fieldLink RX4 18 "DialGarden$Range" "greatest" "I") (by decide +kernel)) (fun _ h9 => h9) rfl dX4_greatestOrNone_13 ?_
    exact W.iret (v := S.1 26 2) hx hb hr (fun t ht _ => ⟨S.1 26 2, rfl, by first | (simp only [q_X4_greatestOrNone_26, if_neg c4]; done) | contradiction, ht⟩) (fun _ h => nomatch h) dX4_greatestOrNone_16
  · refine lv_ldc hx hb (v := (-2000000005)) hown (hts (.constant RX4 21 (-2000000005)) (by decide +kernel)) dX4_greatestOrNone_7 ?_
    refine lv_goto (tgt := 16) hx hb dX4_greatestOrNone_9 (by decide) ?_
    exact W.iret (v := (-2000000005)) hx hb hr (fun t ht _ => ⟨(-2000000005), rfl, by first | (simp only [q_X4_greatestOrNone_26, if_pos c4]; done) | contradiction, ht⟩) (fun _ h => nomatch h) dX4_greatestOrNone_16
