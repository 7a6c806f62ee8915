def q_X3_add (S : gSc) (p1 : Int32) (p2 : Int32) (p3 : Int32) : gSc := (if (S.1 13 3) < 24 then pI (pI (pI (pI S 14 ((S.1 13 3).toNatClampNeg) p1) 15 ((S.1 13 3).toNatClampNeg) p2) 16 ((S.1 13 3).toNatClampNeg) p3) 13 3 ((S.1 13 3) + 1) else S)
set_option maxHeartbeats 4000000 in
set_option maxRecDepth 100000 in
theorem c_X3_add (l : Launch) (E : gEE) (M : gSm) (S : gSc) (p1 : Int32) (p2 : Int32) (p3 : Int32) (hs0 : 0 ≤ (S.1 13 3).toInt) : Met l yX3_add wsX3_add ({ frames := 0, cells := 0, slots := 0, locals := 0 }) (va_Pc [.ref (eC E 13), .int (p1), .int (p2), .int (p3)] (gP E M S)) (va_Qv (fun u : gSc => u = q_X3_add S p1 p2 p3) (fun u t => gW E M u t.heap) (eA E)) 0 0 (eA E) := by
  refine Met.ofW (cc := cX3_add) (maxL := 4) (ret := none) (by decide) rfl ?_
  intro p e s m args below meth c s₁ B hml hv
  obtain ⟨rfl, hE, hW⟩ := hv
  have hx := B.exec
  have hb := B.bytes
  have hr := B.returns
  have hts := atoms_spec (ws := wsX3_add) B.pre
  have hown : s.vm.findClass RX3 = some m.cls := findClass_of_methodNamed B.named
  have hlocks := B.notSynchronized
  have hinX3 : ∀ w ∈ wsX30, w ∈ wsX3_add := by decide +kernel
  have hS : va_S (eA E) s.heap s.heap [] := va_S.rf
  have hl := lv_entry ([.ref (eC E 13), .int (p1), .int (p2), .int (p3)]) (n := 4) (Nat.le_of_ble_eq_true rfl)
  rw [lg_entry_eq]
  generalize (lg_sl ([.ref (eC E 13), .int (p1), .int (p2), .int (p3)]) ++ List.replicate (4 - (lg_sl ([.ref (eC E 13), .int (p1), .int (p2), .int (p3)])).length) Slot.unset).toArray = ls at hl ⊢
  have hl : lv_has ls 4 [(0, .ref (eC E 13)), (1, .int (p1)), (2, .int (p2)), (3, .int (p3))] := hl
  have hS : ∃ (H : Heap) (locs : List Loc), H = s.heap ∧ locs = [] ∧ gW E M S H ∧ va_S (eA E) s.heap H locs := ⟨_, _, rfl, rfl, hW, hS⟩
  clear hW
  obtain ⟨H, locs, eH, el, hW, hS⟩ := hS
  rw [← eH, ← el]
  clear eH el
  refine lv_aload_n hx hb dX3_add_0 rfl (lv_at hl 0 rfl) ?_
  refine va_get (D := eD E) (cl := vwCl) (tys := eT E) (ci := 3) (C := RX3) (T := TX3) (N := 7) (v := .int (S.1 13 3)) hx hb hts hinX3 hown hE.1 hW.1 24 rfl rfl 3 (by decide) (hts (.fieldLink RX3 21 "DialGarden$Marks" "size" "I") (by decide +kernel)) (fun _ h9 => h9) rfl dX3_add_1 ?_
  refine lv_bipush (v := 24) hx hb dX3_add_4 (by decide) ?_
  refine lv_icmp_lt (tgt := 10) hx hb dX3_add_6 (by decide) (fun c6 => ?_) (fun c6 => ?_)
  · refine lv_aload_n hx hb dX3_add_10 rfl (lv_at hl 0 rfl) ?_
    refine va_get (D := eD E) (cl := vwCl) (tys := eT E) (ci := 3) (C := RX3) (T := TX3) (N := 7) (v := .ref (eC E 14)) hx hb hts hinX3 hown hE.1 hW.1 24 rfl rfl 0 (by decide) (hts (.fieldLink RX3 9 "DialGarden$Marks" "hours" "[I") (by decide +kernel)) (fun _ h9 => h9) rfl dX3_add_11 ?_
    refine lv_aload_n hx hb dX3_add_14 rfl (lv_at hl 0 rfl) ?_
    refine va_get (D := eD E) (cl := vwCl) (tys := eT E) (ci := 3) (C := RX3) (T := TX3) (N := 7) (v := .int (S.1 13 3)) hx hb hts hinX3 hown hE.1 hW.1 24 rfl rfl 3 (by decide) (hts (.fieldLink RX3 21 "DialGarden$Marks" "size" "I") (by decide +kernel)) (fun _ h9 => h9) rfl dX3_add_15 ?_
    refine lv_iload_n hx hb dX3_add_18 rfl (lv_at hl 1 rfl) ?_
    refine va_iast (D := eD E) (cl := vwCl) (tys := eT E) (A := eA E) (f := S.1 14) (x := p1) hx hb hE.1 hW.1 hW.2 hS 25 0 rfl rfl (sz_in hs0 c6 (by decide)) dX3_add_19 (fun H locs hP hD hS => ?_)
    have hW : gW E M (pI S 14 ((S.1 13 3).toNatClampNeg) p1) H := gW.of (tC_I14 E M S (upd (S.1 14) ((S.1 13 3).toNatClampNeg) p1)) hP hD
    refine lv_aload_n hx hb dX3_add_20 rfl (lv_at hl 0 rfl) ?_
    refine va_get (D := eD E) (cl := vwCl) (tys := eT E) (ci := 3) (C := RX3) (T := TX3) (N := 7) (v := .ref (eC E 15)) hx hb hts hinX3 hown hE.1 hW.1 24 rfl rfl 1 (by decide) (hts (.fieldLink RX3 15 "DialGarden$Marks" "xs" "[I") (by decide +kernel)) (fun _ h9 => h9) rfl dX3_add_21 ?_
    refine lv_aload_n hx hb dX3_add_24 rfl (lv_at hl 0 rfl) ?_
    refine va_get (D := eD E) (cl := vwCl) (tys := eT E) (ci := 3) (C := RX3) (T := TX3) (N := 7) (v := .int (S.1 13 3)) hx hb hts hinX3 hown hE.1 hW.1 24 rfl rfl 3 (by decide) (hts (.fieldLink RX3 21 "DialGarden$Marks" "size" "I") (by decide +kernel)) (fun _ h9 => h9) rfl dX3_add_25 ?_
    refine lv_iload_n hx hb dX3_add_28 rfl (lv_at hl 2 rfl) ?_
    refine va_iast (D := eD E) (cl := vwCl) (tys := eT E) (A := eA E) (f := S.1 15) (x := p2) hx hb hE.1 hW.1 hW.2 hS 26 0 rfl rfl (sz_in hs0 c6 (by decide)) dX3_add_29 (fun H locs hP hD hS => ?_)
    have hW : gW E M (pI (pI S 14 ((S.1 13 3).toNatClampNeg) p1) 15 ((S.1 13 3).toNatClampNeg) p2) H := gW.of (tC_I15 E M (pI S 14 ((S.1 13 3).toNatClampNeg) p1) (upd (S.1 15) ((S.1 13 3).toNatClampNeg) p2)) hP hD
    refine lv_aload_n hx hb dX3_add_30 rfl (lv_at hl 0 rfl) ?_
    refine va_get (D := eD E) (cl := vwCl) (tys := eT E) (ci := 3) (C := RX3) (T := TX3) (N := 7) (v := .ref (eC E 16)) hx hb hts hinX3 hown hE.1 hW.1 24 rfl rfl 2 (by decide) (hts (.fieldLink RX3 18 "DialGarden$Marks" "ys" "[I") (by decide +kernel)) (fun _ h9 => h9) rfl dX3_add_31 ?_
    refine lv_aload_n hx hb dX3_add_34 rfl (lv_at hl 0 rfl) ?_
    refine va_get (D := eD E) (cl := vwCl) (tys := eT E) (ci := 3) (C := RX3) (T := TX3) (N := 7) (v := .int (S.1 13 3)) hx hb hts hinX3 hown hE.1 hW.1 24 rfl rfl 3 (by decide) (hts (.fieldLink RX3 21 "DialGarden$Marks" "size" "I") (by decide +kernel)) (fun _ h9 => h9) rfl dX3_add_35 ?_
    refine lv_iload_n hx hb dX3_add_38 rfl (lv_at hl 3 rfl) ?_
    refine va_iast (D := eD E) (cl := vwCl) (tys := eT E) (A := eA E) (f := S.1 16) (x := p3) hx hb hE.1 hW.1 hW.2 hS 27 0 rfl rfl (sz_in hs0 c6 (by decide)) dX3_add_39 (fun H locs hP hD hS => ?_)
    have hW : gW E M (pI (pI (pI S 14 ((S.1 13 3).toNatClampNeg) p1) 15 ((S.1 13 3).toNatClampNeg) p2) 16 ((S.1 13 3).toNatClampNeg) p3) H := gW.of (tC_I16 E M (pI (pI S 14 ((S.1 13 3).toNatClampNeg) p1) 15 ((S.1 13 3).toNatClampNeg) p2) (upd (S.1 16) ((S.1 13 3).toNatClampNeg) p3)) hP hD
    refine lv_aload_n hx hb dX3_add_40 rfl (lv_at hl 0 rfl) ?_
    refine lv_dup hx hb dX3_add_41 rfl ?_
    refine va_get (D := eD E) (cl := vwCl) (tys := eT E) (ci := 3) (C := RX3) (T := TX3) (N := 7) (v := .int (S.1 13 3)) hx hb hts hinX3 hown hE.1 hW.1 24 rfl rfl 3 (by decide) (hts (.fieldLink RX3 21 "DialGarden$Marks" "size" "I") (by decide +kernel)) (fun _ h9 => h9) rfl dX3_add_42 ?_
    refine lv_iconst (v := 1) hx hb dX3_add_45 (by decide) ?_
    refine lv_iadd hx hb dX3_add_46 ?_
    refine va_put (D := eD E) (cl := vwCl) (tys := eT E) (A := eA E) (ci := 3) (C := RX3) (T := TX3) (N := 7) (v := .int ((S.1 13 3) + 1)) (ty := .int) hx hb hts hinX3 tyX3 tyX3_ok nmX3 hown hE.1 hW.1 hW.2 hS 24 rfl rfl 3 (by decide) (hts (.fieldLink RX3 21 "DialGarden$Marks" "size" "I") (by decide +kernel)) (fun _ h9 => h9) rfl (by decide +kernel) rfl rfl (Nat.le_of_ble_eq_true rfl) dX3_add_47 (fun H locs hP hD hS => ?_)
    have hW : gW E M (pI (pI (pI (pI S 14 ((S.1 13 3).toNatClampNeg) p1) 15 ((S.1 13 3).toNatClampNeg) p2) 16 ((S.1 13 3).toNatClampNeg) p3) 13 3 ((S.1 13 3) + 1)) H := gW.of (uC_13_3 E M (pI (pI (pI S 14 ((S.1 13 3).toNatClampNeg) p1) 15 ((S.1 13 3).toNatClampNeg) p2) 16 ((S.1 13 3).toNatClampNeg) p3) ((S.1 13 3) + 1)) hP hD
    exact W.vret hx hb hr (fun t ht _ => ⟨⟨pI (pI (pI (pI S 14 ((S.1 13 3).toNatClampNeg) p1) 15 ((S.1 13 3).toNatClampNeg) p2) 16 ((S.1 13 3).toNatClampNeg) p3) 13 3 ((S.1 13 3) + 1), rfl, by first | (simp only [q_X3_add, if_pos c6]; done) | contradiction, by dsimp only; rw [ht]; exact hW⟩, hS.F ht⟩) hS.2.2 dX3_add_50
  · exact W.vret hx hb hr (fun t ht _ => ⟨⟨S, rfl, by first | (simp only [q_X3_add, if_neg c6]; done) | contradiction, by dsimp only; rw [ht]; exact hW⟩, hS.F ht⟩) hS.2.2 dX3_add_9
theorem qp_X3_add (S : gSc) (p1 : Int32) (p2 : Int32) (p3 : Int32) : (q_X3_add S p1 p2 p3).2.2 = S.2.2 := by
  unfold q_X3_add
  try dsimp only
  (repeat' split) <;> first | (simp only [pI_2, sR_22]; done) | rfl

def q_X3_showBetween (S : gSc) (p1 : Int32) (p2 : Int32) (p3 : Int64) (p4 : Int64) : Int32 × gSc := (let r10 := q_X10_within (p1.toInt64) 0 (((S.1 13 3) - 1).toInt64); (if r10 = 0 then (0, S) else (let r26 := q_X10_within (p2.toInt64) 0 (((S.1 13 3) - 1).toInt64); (if r26 = 0 then (0, S) else (let x48 := ((S.1 15 (p2.toNatClampNeg)) - (S.1 15 (p1.toNatClampNeg))).toInt64; (let x64 := ((S.1 16 (p2.toNatClampNeg)) - (S.1 16 (p1.toNatClampNeg))).toInt64; (let x77 := (x48 * x48) + (x64 * x64); (let x105 := ((p3 - ((S.1 15 (p1.toNatClampNeg)).toInt64)) * x48) + ((p4 - ((S.1 16 (p1.toNatClampNeg)).toInt64)) * x64); (if x105 < 0 then (0, S) else (if x105 < x77 then (let x156 := 60 * ((S.1 14 (p2.toNatClampNeg)) - (S.1 14 (p1.toNatClampNeg))); (1, pI (pI (pI S 13 4 (S.1 14 (p1.toNatClampNeg))) 13 5 (S.1 14 (p2.toNatClampNeg))) 13 6 ((60 * (S.1 14 (p1.toNatClampNeg))) + ((((x156.toInt64) * x105) / x77).toInt32)))) else (0, S)))))))))))
set_option maxHeartbeats 4000000 in
set_option maxRecDepth 100000 in
theorem c_X3_showBetween (l : Launch) (E : gEE) (M : gSm) (S : gSc) (p1 : Int32) (p2 : Int32) (p3 : Int64) (p4 : Int64) (hs0 : 0 ≤ (S.1 13 3).toInt) (hs : (S.1 13 3).toInt ≤ 24) : Met l yX3_showBetween wsX3_showBetween ({ frames := 1, cells := 0, slots := 0, locals := 25 }) (va_Pc [.ref (eC E 13), .int (p1), .int (p2), .long (p3), .long (p4)] (gP E M S)) (va_Qi (fun r (u : gSc) => (r, u) = q_X3_showBetween S p1 p2 p3 p4) (fun u t => gW E M u t.heap) (eA E)) 0 0 (eA E) := by
  refine Met.ofW (cc := cX3_showBetween) (maxL := 16) (ret := (some .boolean)) (by decide) rfl ?_
  intro p e s m args below meth c s₁ B hml hv
  obtain ⟨rfl, hE, hW⟩ := hv
  have hx := B.exec
  have hb := B.bytes
  have hr := B.returns
  have hts := atoms_spec (ws := wsX3_showBetween) B.pre
  have hown : s.vm.findClass RX3 = some m.cls := findClass_of_methodNamed B.named
  have hlocks := B.notSynchronized
  have hinX3 : ∀ w ∈ wsX30, w ∈ wsX3_showBetween := by decide +kernel
  have hS : va_S (eA E) s.heap s.heap [] := va_S.rf
  have hl := lv_entry ([.ref (eC E 13), .int (p1), .int (p2), .long (p3), .long (p4)]) (n := 16) (Nat.le_of_ble_eq_true rfl)
  rw [lg_entry_eq]
  generalize (lg_sl ([.ref (eC E 13), .int (p1), .int (p2), .long (p3), .long (p4)]) ++ List.replicate (16 - (lg_sl ([.ref (eC E 13), .int (p1), .int (p2), .long (p3), .long (p4)])).length) Slot.unset).toArray = ls at hl ⊢
  have hl : lv_has ls 16 [(0, .ref (eC E 13)), (1, .int (p1)), (2, .int (p2)), (3, .long (p3)), (5, .long (p4))] := hl
  have hS : ∃ (H : Heap) (locs : List Loc), H = s.heap ∧ locs = [] ∧ gW E M S H ∧ va_S (eA E) s.heap H locs := ⟨_, _, rfl, rfl, hW, hS⟩
  clear hW
  obtain ⟨H, locs, eH, el, hW, hS⟩ := hS
  rw [← eH, ← el]
  clear eH el
  refine lv_iload_n hx hb dX3_showBetween_0 rfl (lv_at hl 1 rfl) ?_
  refine lv_i2l (v := p1.toInt64) hx hb dX3_showBetween_1 rfl ?_
  refine lv_lconst (v := 0) hx hb dX3_showBetween_2 (by decide) ?_
  refine lv_aload_n hx hb dX3_showBetween_3 rfl (lv_at hl 0 rfl) ?_
  refine va_get (D := eD E) (cl := vwCl) (tys := eT E) (ci := 3) (C := RX3) (T := TX3) (N := 7) (v := .int (S.1 13 3)) hx hb hts hinX3 hown hE.1 hW.1 24 rfl rfl 3 (by decide) (hts (.fieldLink RX3 21 "DialGarden$Marks" "size" "I") (by decide +kernel)) (fun _ h9 => h9) rfl dX3_showBetween_4 ?_
  refine lv_iconst (v := 1) hx hb dX3_showBetween_7 (by decide) ?_
  refine lv_isub hx hb dX3_showBetween_8 ?_
  refine lv_i2l (v := ((S.1 13 3) - 1).toInt64) hx hb dX3_showBetween_9 rfl ?_
  refine k_Si (va_runSN (As := [.long (p1.toInt64), .long (0), .long (((S.1 13 3) - 1).toInt64)]) (rest := []) ⟨hx, hb, hml, hown, hts⟩ (c_X10_within l (p1.toInt64) 0 (((S.1 13 3) - 1).toInt64)) ⟨va_cnB 3 hts gX3_showBetween_X10_within_n39 rfl rfl rfl (hE.2.2.1 (.methodLinkNest "DialGarden$Marks" 39 ⟨"DialGarden", "within", "(JJJ)Z"⟩ "DialGarden") (by decide +kernel)) (hts (.initialized RX10) (by decide +kernel)) (by decide +kernel) ⟨Nat.le_of_ble_eq_true rfl, Nat.le_of_ble_eq_true rfl⟩, hts (.static yX10_within) (by decide +kernel), trivial⟩ gP0 rfl rfl hl.1 rfl (lv_room (Nat.le_of_ble_eq_true rfl)) dX3_showBetween_10 ⟨Nat.le_of_ble_eq_true rfl, Nat.le_of_ble_eq_true rfl⟩) (fun r10 er10 => ?_)
  refine lv_if_eq (tgt := 32) hx hb dX3_showBetween_13 (by decide) (fun c13 => ?_) (fun c13 => ?_)
  · refine lv_iconst (v := 0) hx hb dX3_showBetween_32 (by decide) ?_
    exact W.zret (v := 0) hx hb hr rfl (fun t ht _ => ⟨⟨0, S, rfl, by subst er10; first | (simp only [q_X3_showBetween, if_pos c13]; done) | contradiction, by dsimp only; rw [ht]; exact hW⟩, hS.F ht⟩) hS.2.2 dX3_showBetween_33
  · refine lv_iload_n hx hb dX3_showBetween_16 rfl (lv_at hl 2 rfl) ?_
    refine lv_i2l (v := p2.toInt64) hx hb dX3_showBetween_17 rfl ?_
    refine lv_lconst (v := 0) hx hb dX3_showBetween_18 (by decide) ?_
    refine lv_aload_n hx hb dX3_showBetween_19 rfl (lv_at hl 0 rfl) ?_
    refine va_get (D := eD E) (cl := vwCl) (tys := eT E) (ci := 3) (C := RX3) (T := TX3) (N := 7) (v := .int (S.1 13 3)) hx hb hts hinX3 hown hE.1 hW.1 24 rfl rfl 3 (by decide) (hts (.fieldLink RX3 21 "DialGarden$Marks" "size" "I") (by decide +kernel)) (fun _ h9 => h9) rfl dX3_showBetween_20 ?_
    refine lv_iconst (v := 1) hx hb dX3_showBetween_23 (by decide) ?_
    refine lv_isub hx hb dX3_showBetween_24 ?_
    refine lv_i2l (v := ((S.1 13 3) - 1).toInt64) hx hb dX3_showBetween_25 rfl ?_
    refine k_Si (va_runSN (As := [.long (p2.toInt64), .long (0), .long (((S.1 13 3) - 1).toInt64)]) (rest := []) ⟨hx, hb, hml, hown, hts⟩ (c_X10_within l (p2.toInt64) 0 (((S.1 13 3) - 1).toInt64)) ⟨va_cnB 3 hts gX3_showBetween_X10_within_n39 rfl rfl rfl (hE.2.2.1 (.methodLinkNest "DialGarden$Marks" 39 ⟨"DialGarden", "within", "(JJJ)Z"⟩ "DialGarden") (by decide +kernel)) (hts (.initialized RX10) (by decide +kernel)) (by decide +kernel) ⟨Nat.le_of_ble_eq_true rfl, Nat.le_of_ble_eq_true rfl⟩, hts (.static yX10_within) (by decide +kernel), trivial⟩ gP0 rfl rfl hl.1 rfl (lv_room (Nat.le_of_ble_eq_true rfl)) dX3_showBetween_26 ⟨Nat.le_of_ble_eq_true rfl, Nat.le_of_ble_eq_true rfl⟩) (fun r26 er26 => ?_)
    refine lv_if_ne (tgt := 34) hx hb dX3_showBetween_29 (by decide) (fun c29 => ?_) (fun c29 => ?_)
    · refine lv_aload_n hx hb dX3_showBetween_34 rfl (lv_at hl 0 rfl) ?_
      refine va_get (D := eD E) (cl := vwCl) (tys := eT E) (ci := 3) (C := RX3) (T := TX3) (N := 7) (v := .ref (eC E 15)) hx hb hts hinX3 hown hE.1 hW.1 24 rfl rfl 1 (by decide) (hts (.fieldLink RX3 15 "DialGarden$Marks" "xs" "[I") (by decide +kernel)) (fun _ h9 => h9) rfl dX3_showBetween_35 ?_
      refine lv_iload_n hx hb dX3_showBetween_38 rfl (lv_at hl 2 rfl) ?_
      refine va_iald (D := eD E) (cl := vwCl) (tys := eT E) (f := S.1 15) hx hb hE.1 hW.1 26 0 rfl rfl (wi_in er26 c29 hs0 hs) dX3_showBetween_39 ?_
      refine lv_aload_n hx hb dX3_showBetween_40 rfl (lv_at hl 0 rfl) ?_
      refine va_get (D := eD E) (cl := vwCl) (tys := eT E) (ci := 3) (C := RX3) (T := TX3) (N := 7) (v := .ref (eC E 15)) hx hb hts hinX3 hown hE.1 hW.1 24 rfl rfl 1 (by decide) (hts (.fieldLink RX3 15 "DialGarden$Marks" "xs" "[I") (by decide +kernel)) (fun _ h9 => h9) rfl dX3_showBetween_41 ?_
      refine lv_iload_n hx hb dX3_showBetween_44 rfl (lv_at hl 1 rfl) ?_
      refine va_iald (D := eD E) (cl := vwCl) (tys := eT E) (f := S.1 15) hx hb hE.1 hW.1 26 0 rfl rfl (wi_in er10 c13 hs0 hs) dX3_showBetween_45 ?_
      refine lv_isub hx hb dX3_showBetween_46 ?_
      refine lv_i2l (v := ((S.1 15 (p2.toNatClampNeg)) - (S.1 15 (p1.toNatClampNeg))).toInt64) hx hb dX3_showBetween_47 rfl ?_
      refine lv_topl (fun x48 ex48 => ?_)
      refine lv_lstore (lv' := [(7, .long (x48)), (0, .ref (eC E 13)), (1, .int (p1)), (2, .int (p2)), (3, .long (p3)), (5, .long (p4))]) hx hb dX3_showBetween_48 hl (by decide) rfl (fun ls hl => ?_)
      refine lv_aload_n hx hb dX3_showBetween_50 rfl (lv_at hl 1 rfl) ?_
      refine va_get (D := eD E) (cl := vwCl) (tys := eT E) (ci := 3) (C := RX3) (T := TX3) (N := 7) (v := .ref (eC E 16)) hx hb hts hinX3 hown hE.1 hW.1 24 rfl rfl 2 (by decide) (hts (.fieldLink RX3 18 "DialGarden$Marks" "ys" "[I") (by decide +kernel)) (fun _ h9 => h9) rfl dX3_showBetween_51 ?_
      refine lv_iload_n hx hb dX3_showBetween_54 rfl (lv_at hl 3 rfl) ?_
      refine va_iald (D := eD E) (cl := vwCl) (tys := eT E) (f := S.1 16) hx hb hE.1 hW.1 27 0 rfl rfl (wi_in er26 c29 hs0 hs) dX3_showBetween_55 ?_
      refine lv_aload_n hx hb dX3_showBetween_56 rfl (lv_at hl 1 rfl) ?_
      refine va_get (D := eD E) (cl := vwCl) (tys := eT E) (ci := 3) (C := RX3) (T := TX3) (N := 7) (v := .ref (eC E 16)) hx hb hts hinX3 hown hE.1 hW.1 24 rfl rfl 2 (by decide) (hts (.fieldLink RX3 18 "DialGarden$Marks" "ys" "[I") (by decide +kernel)) (fun _ h9 => h9) rfl dX3_showBetween_57 ?_
      refine lv_iload_n hx hb dX3_showBetween_60 rfl (lv_at hl 2 rfl) ?_
      refine va_iald (D := eD E) (cl := vwCl) (tys := eT E) (f := S.1 16) hx hb hE.1 hW.1 27 0 rfl rfl (wi_in er10 c13 hs0 hs) dX3_showBetween_61 ?_
      refine lv_isub hx hb dX3_showBetween_62 ?_
      refine lv_i2l (v := ((S.1 16 (p2.toNatClampNeg)) - (S.1 16 (p1.toNatClampNeg))).toInt64) hx hb dX3_showBetween_63 rfl ?_
      refine lv_topl (fun x64 ex64 => ?_)
      refine lv_lstore (lv' := [(9, .long (x64)), (7, .long (x48)), (0, .ref (eC E 13)), (1, .int (p1)), (2, .int (p2)), (3, .long (p3)), (5, .long (p4))]) hx hb dX3_showBetween_64 hl (by decide) rfl (fun ls hl => ?_)
      refine lv_lload hx hb dX3_showBetween_66 (lv_at hl 1 rfl) ?_
      refine lv_lload hx hb dX3_showBetween_68 (lv_at hl 1 rfl) ?_
      refine lv_lmul hx hb dX3_showBetween_70 ?_
      refine lv_lload hx hb dX3_showBetween_71 (lv_at hl 0 rfl) ?_
      refine lv_lload hx hb dX3_showBetween_73 (lv_at hl 0 rfl) ?_
      refine lv_lmul hx hb dX3_showBetween_75 ?_
      refine lv_ladd hx hb dX3_showBetween_76 ?_
      refine lv_topl (fun x77 ex77 => ?_)
      refine lv_lstore (lv' := [(11, .long (x77)), (9, .long (x64)), (7, .long (x48)), (0, .ref (eC E 13)), (1, .int (p1)), (2, .int (p2)), (3, .long (p3)), (5, .long (p4))]) hx hb dX3_showBetween_77 hl (by decide) rfl (fun ls hl => ?_)
      refine lv_lload_n hx hb dX3_showBetween_79 rfl (lv_at hl 6 rfl) ?_
      refine lv_aload_n hx hb dX3_showBetween_80 rfl (lv_at hl 3 rfl) ?_
      refine va_get (D := eD E) (cl := vwCl) (tys := eT E) (ci := 3) (C := RX3) (T := TX3) (N := 7) (v := .ref (eC E 15)) hx hb hts hinX3 hown hE.1 hW.1 24 rfl rfl 1 (by decide) (hts (.fieldLink RX3 15 "DialGarden$Marks" "xs" "[I") (by decide +kernel)) (fun _ h9 => h9) rfl dX3_showBetween_81 ?_
      refine lv_iload_n hx hb dX3_showBetween_84 rfl (lv_at hl 4 rfl) ?_
      refine va_iald (D := eD E) (cl := vwCl) (tys := eT E) (f := S.1 15) hx hb hE.1 hW.1 26 0 rfl rfl (wi_in er10 c13 hs0 hs) dX3_showBetween_85 ?_
      refine lv_i2l (v := (S.1 15 (p1.toNatClampNeg)).toInt64) hx hb dX3_showBetween_86 rfl ?_
      refine lv_lsub hx hb dX3_showBetween_87 ?_
      refine lv_lload hx hb dX3_showBetween_88 (lv_at hl 2 rfl) ?_
      refine lv_lmul hx hb dX3_showBetween_90 ?_
      refine lv_lload hx hb dX3_showBetween_91 (lv_at hl 7 rfl) ?_
      refine lv_aload_n hx hb dX3_showBetween_93 rfl (lv_at hl 3 rfl) ?_
      refine va_get (D := eD E) (cl := vwCl) (tys := eT E) (ci := 3) (C := RX3) (T := TX3) (N := 7) (v := .ref (eC E 16)) hx hb hts hinX3 hown hE.1 hW.1 24 rfl rfl 2 (by decide) (hts (.fieldLink RX3 18 "DialGarden$Marks" "ys" "[I") (by decide +kernel)) (fun _ h9 => h9) rfl dX3_showBetween_94 ?_
      refine lv_iload_n hx hb dX3_showBetween_97 rfl (lv_at hl 4 rfl) ?_
      refine va_iald (D := eD E) (cl := vwCl) (tys := eT E) (f := S.1 16) hx hb hE.1 hW.1 27 0 rfl rfl (wi_in er10 c13 hs0 hs) dX3_showBetween_98 ?_
      refine lv_i2l (v := (S.1 16 (p1.toNatClampNeg)).toInt64) hx hb dX3_showBetween_99 rfl ?_
      refine lv_lsub hx hb dX3_showBetween_100 ?_
      refine lv_lload hx hb dX3_showBetween_101 (lv_at hl 1 rfl) ?_
      refine lv_lmul hx hb dX3_showBetween_103 ?_
      refine lv_ladd hx hb dX3_showBetween_104 ?_
      refine lv_topl (fun x105 ex105 => ?_)
      refine lv_lstore (lv' := [(13, .long (x105)), (11, .long (x77)), (9, .long (x64)), (7, .long (x48)), (0, .ref (eC E 13)), (1, .int (p1)), (2, .int (p2)), (3, .long (p3)), (5, .long (p4))]) hx hb dX3_showBetween_105 hl (by decide) rfl (fun ls hl => ?_)
      refine lv_lload hx hb dX3_showBetween_107 (lv_at hl 0 rfl) ?_
      refine lv_lconst (v := 0) hx hb dX3_showBetween_109 (by decide) ?_
      refine k_llt (tgt := 122) hx hb dX3_showBetween_110 dX3_showBetween_111 (by decide) (fun c110 => ?_) (fun c110 => ?_)
      · refine lv_iconst (v := 0) hx hb dX3_showBetween_122 (by decide) ?_
        exact W.zret (v := 0) hx hb hr rfl (fun t ht _ => ⟨⟨0, S, rfl, by subst ex105; subst ex77; subst ex64; subst ex48; subst er26; subst er10; first | (simp only [q_X3_showBetween, if_neg c13, if_neg c29, if_pos c110]; done) | contradiction, by dsimp only; rw [ht]; exact hW⟩, hS.F ht⟩) hS.2.2 dX3_showBetween_123
      · refine lv_lload hx hb dX3_showBetween_114 (lv_at hl 0 rfl) ?_
        refine lv_lload hx hb dX3_showBetween_116 (lv_at hl 1 rfl) ?_
        refine k_llt (tgt := 124) hx hb dX3_showBetween_118 dX3_showBetween_119 (by decide) (fun c118 => ?_) (fun c118 => ?_)
        · refine lv_aload_n hx hb dX3_showBetween_124 rfl (lv_at hl 4 rfl) ?_
          refine lv_aload_n hx hb dX3_showBetween_125 rfl (lv_at hl 4 rfl) ?_
          refine va_get (D := eD E) (cl := vwCl) (tys := eT E) (ci := 3) (C := RX3) (T := TX3) (N := 7) (v := .ref (eC E 14)) hx hb hts hinX3 hown hE.1 hW.1 24 rfl rfl 0 (by decide) (hts (.fieldLink RX3 9 "DialGarden$Marks" "hours" "[I") (by decide +kernel)) (fun _ h9 => h9) rfl dX3_showBetween_126 ?_
          refine lv_iload_n hx hb dX3_showBetween_129 rfl (lv_at hl 5 rfl) ?_
          refine va_iald (D := eD E) (cl := vwCl) (tys := eT E) (f := S.1 14) hx hb hE.1 hW.1 25 0 rfl rfl (wi_in er10 c13 hs0 hs) dX3_showBetween_130 ?_
          refine va_put (D := eD E) (cl := vwCl) (tys := eT E) (A := eA E) (ci := 3) (C := RX3) (T := TX3) (N := 7) (v := .int (S.1 14 (p1.toNatClampNeg))) (ty := .int) hx hb hts hinX3 tyX3 tyX3_ok nmX3 hown hE.1 hW.1 hW.2 hS 24 rfl rfl 4 (by decide) (hts (.fieldLink RX3 25 "DialGarden$Marks" "hourBefore" "I") (by decide +kernel)) (fun _ h9 => h9) rfl (by decide +kernel) rfl rfl (Nat.le_of_ble_eq_true rfl) dX3_showBetween_131 (fun H locs hP hD hS => ?_)
          have hW : gW E M (pI S 13 4 (S.1 14 (p1.toNatClampNeg))) H := gW.of (uC_13_4 E M S (S.1 14 (p1.toNatClampNeg))) hP hD
          refine lv_aload_n hx hb dX3_showBetween_134 rfl (lv_at hl 4 rfl) ?_
          refine lv_aload_n hx hb dX3_showBetween_135 rfl (lv_at hl 4 rfl) ?_
          refine va_get (D := eD E) (cl := vwCl) (tys := eT E) (ci := 3) (C := RX3) (T := TX3) (N := 7) (v := .ref (eC E 14)) hx hb hts hinX3 hown hE.1 hW.1 24 rfl rfl 0 (by decide) (hts (.fieldLink RX3 9 "DialGarden$Marks" "hours" "[I") (by decide +kernel)) (fun _ h9 => h9) rfl dX3_showBetween_136 ?_
          refine lv_iload_n hx hb dX3_showBetween_139 rfl (lv_at hl 6 rfl) ?_
          refine va_iald (D := eD E) (cl := vwCl) (tys := eT E) (f := S.1 14) hx hb hE.1 hW.1 25 0 rfl rfl (wi_in er26 c29 hs0 hs) dX3_showBetween_140 ?_
          refine va_put (D := eD E) (cl := vwCl) (tys := eT E) (A := eA E) (ci := 3) (C := RX3) (T := TX3) (N := 7) (v := .int (S.1 14 (p2.toNatClampNeg))) (ty := .int) hx hb hts hinX3 tyX3 tyX3_ok nmX3 hown hE.1 hW.1 hW.2 hS 24 rfl rfl 5 (by decide) (hts (.fieldLink RX3 28 "DialGarden$Marks" "hourBehind" "I") (by decide +kernel)) (fun _ h9 => h9) rfl (by decide +kernel) rfl rfl (Nat.le_of_ble_eq_true rfl) dX3_showBetween_141 (fun H locs hP hD hS => ?_)
          have hW : gW E M (pI (pI S 13 4 (S.1 14 (p1.toNatClampNeg))) 13 5 (S.1 14 (p2.toNatClampNeg))) H := gW.of (uC_13_5 E M (pI S 13 4 (S.1 14 (p1.toNatClampNeg))) (S.1 14 (p2.toNatClampNeg))) hP hD
          refine lv_bipush (v := 60) hx hb dX3_showBetween_144 (by decide) ?_
          refine lv_aload_n hx hb dX3_showBetween_146 rfl (lv_at hl 4 rfl) ?_
          refine va_get (D := eD E) (cl := vwCl) (tys := eT E) (ci := 3) (C := RX3) (T := TX3) (N := 7) (v := .int (S.1 14 (p2.toNatClampNeg))) hx hb hts hinX3 hown hE.1 hW.1 24 rfl rfl 5 (by decide) (hts (.fieldLink RX3 28 "DialGarden$Marks" "hourBehind" "I") (by decide +kernel)) (fun _ h9 => h9) rfl dX3_showBetween_147 ?_
          refine lv_aload_n hx hb dX3_showBetween_150 rfl (lv_at hl 4 rfl) ?_
          refine va_get (D := eD E) (cl := vwCl) (tys := eT E) (ci := 3) (C := RX3) (T := TX3) (N := 7) (v := .int (S.1 14 (p1.toNatClampNeg))) hx hb hts hinX3 hown hE.1 hW.1 24 rfl rfl 4 (by decide) (hts (.fieldLink RX3 25 "DialGarden$Marks" "hourBefore" "I") (by decide +kernel)) (fun _ h9 => h9) rfl dX3_showBetween_151 ?_
          refine lv_isub hx hb dX3_showBetween_154 ?_
          refine lv_imul hx hb dX3_showBetween_155 ?_
          refine lv_topi (fun x156 ex156 => ?_)
          refine lv_istore (lv' := [(15, .int (x156)), (13, .long (x105)), (11, .long (x77)), (9, .long (x64)), (7, .long (x48)), (0, .ref (eC E 13)), (1, .int (p1)), (2, .int (p2)), (3, .long (p3)), (5, .long (p4))]) hx hb dX3_showBetween_156 hl (by decide) rfl (fun ls hl => ?_)
          refine lv_aload_n hx hb dX3_showBetween_158 rfl (lv_at hl 5 rfl) ?_
          refine lv_bipush (v := 60) hx hb dX3_showBetween_159 (by decide) ?_
          refine lv_aload_n hx hb dX3_showBetween_161 rfl (lv_at hl 5 rfl) ?_
          refine va_get (D := eD E) (cl := vwCl) (tys := eT E) (ci := 3) (C := RX3) (T := TX3) (N := 7) (v := .int (S.1 14 (p1.toNatClampNeg))) hx hb hts hinX3 hown hE.1 hW.1 24 rfl rfl 4 (by decide) (hts (.fieldLink RX3 25 "DialGarden$Marks" "hourBefore" "I") (by decide +kernel)) (fun _ h9 => h9) rfl dX3_showBetween_162 ?_
          refine lv_imul hx hb dX3_showBetween_165 ?_
          refine lv_iload hx hb dX3_showBetween_166 (lv_at hl 0 rfl) ?_
          refine lv_i2l (v := x156.toInt64) hx hb dX3_showBetween_168 rfl ?_
          refine lv_lload hx hb dX3_showBetween_169 (lv_at hl 1 rfl) ?_
          refine lv_lmul hx hb dX3_showBetween_171 ?_
          refine lv_lload hx hb dX3_showBetween_172 (lv_at hl 2 rfl) ?_
          refine lv_ldiv hx hb dX3_showBetween_174 (li_ne c110 c118) ?_
          refine lv_l2i (v := (((x156.toInt64) * x105) / x77).toInt32) hx hb dX3_showBetween_175 rfl ?_
          refine lv_iadd hx hb dX3_showBetween_176 ?_
          refine va_put (D := eD E) (cl := vwCl) (tys := eT E) (A := eA E) (ci := 3) (C := RX3) (T := TX3) (N := 7) (v := .int ((60 * (S.1 14 (p1.toNatClampNeg))) + ((((x156.toInt64) * x105) / x77).toInt32))) (ty := .int) hx hb hts hinX3 tyX3 tyX3_ok nmX3 hown hE.1 hW.1 hW.2 hS 24 rfl rfl 6 (by decide) (hts (.fieldLink RX3 31 "DialGarden$Marks" "shown" "I") (by decide +kernel)) (fun _ h9 => h9) rfl (by decide +kernel) rfl rfl (Nat.le_of_ble_eq_true rfl) dX3_showBetween_177 (fun H locs hP hD hS => ?_)
          have hW : gW E M (pI (pI (pI S 13 4 (S.1 14 (p1.toNatClampNeg))) 13 5 (S.1 14 (p2.toNatClampNeg))) 13 6 ((60 * (S.1 14 (p1.toNatClampNeg))) + ((((x156.toInt64) * x105) / x77).toInt32))) H := gW.of (uC_13_6 E M (pI (pI S 13 4 (S.1 14 (p1.toNatClampNeg))) 13 5 (S.1 14 (p2.toNatClampNeg))) ((60 * (S.1 14 (p1.toNatClampNeg))) + ((((x156.toInt64) * x105) / x77).toInt32))) hP hD
          refine lv_iconst (v := 1) hx hb dX3_showBetween_180 (by decide) ?_
          exact W.zret (v := 1) hx hb hr rfl (fun t ht _ => ⟨⟨1, pI (pI (pI S 13 4 (S.1 14 (p1.toNatClampNeg))) 13 5 (S.1 14 (p2.toNatClampNeg))) 13 6 ((60 * (S.1 14 (p1.toNatClampNeg))) + ((((x156.toInt64) * x105) / x77).toInt32)), rfl, by subst ex156; subst ex105; subst ex77; subst ex64; subst ex48; subst er26; subst er10; first | (simp only [q_X3_showBetween, if_neg c13, if_neg c29, if_neg c110, if_pos c118]; done) | contradiction, by dsimp only; rw [ht]; exact hW⟩, hS.F ht⟩) hS.2.2 dX3_showBetween_181
        · refine lv_iconst (v := 0) hx hb dX3_showBetween_122 (by decide) ?_
          exact W.zret (v := 0) hx hb hr rfl (fun t ht _ => ⟨⟨0, S, rfl, by subst ex105; subst ex77; subst ex64; subst ex48; subst er26; subst er10; first | (simp only [q_X3_showBetween, if_neg c13, if_neg c29, if_neg c110, if_neg c118]; done) | contradiction, by dsimp only; rw [ht]; exact hW⟩, hS.F ht⟩) hS.2.2 dX3_showBetween_123
    · refine lv_iconst (v := 0) hx hb dX3_showBetween_32 (by decide) ?_
      exact W.zret (v := 0) hx hb hr rfl (fun t ht _ => ⟨⟨0, S, rfl, by subst er26; subst er10; first | (simp only [q_X3_showBetween, if_neg c13, if_pos c29]; done) | contradiction, by dsimp only; rw [ht]; exact hW⟩, hS.F ht⟩) hS.2.2 dX3_showBetween_33
theorem qp_X3_showBetween (S : gSc) (p1 : Int32) (p2 : Int32) (p3 : Int64) (p4 : Int64) : (q_X3_showBetween S p1 p2 p3 p4).2.2.2 = S.2.2 := by
  unfold q_X3_showBetween
  try dsimp only
  (repeat' split) <;> first | (simp only [pI_2, sR_22]; done) | rfl

def q_X7_add (S : gSc) (p1 : Int32) (p2 : Int32) (p3 : Int32) (p4 : Int32) : gSc := (if (S.1 17 4) < 20 then pI (pI (pI (pI (pI S 18 ((S.1 17 4).toNatClampNeg) p1) 19 ((S.1 17 4).toNatClampNeg) p2) 20 ((S.1 17 4).toNatClampNeg) p3) 21 ((S.1 17 4).toNatClampNeg) p4) 17 4 ((S.1 17 4) + 1) else S)
set_option maxHeartbeats 4000000 in
set_option maxRecDepth 100000 in
theorem c_X7_add (l : Launch) (E : gEE) (M : gSm) (S : gSc) (p1 : Int32) (p2 : Int32) (p3 : Int32) (p4 : Int32) (hs0 : 0 ≤ (S.1 17 4).toInt) : Met l yX7_add wsX7_add ({ frames := 0, cells := 0, slots := 0, locals := 0 }) (va_Pc [.ref (eC E 17), .int (p1), .int (p2), .int (p3), .int (p4)] (gP E M S)) (va_Qv (fun u : gSc => u = q_X7_add S p1 p2 p3 p4) (fun u t => gW E M u t.heap) (eA E)) 0 0 (eA E) := by
  refine Met.ofW (cc := cX7_add) (maxL := 5) (ret := none) (by decide) rfl ?_
  intro p e s m args below meth c s₁ B hml hv
  obtain ⟨rfl, hE, hW⟩ := hv
  have hx := B.exec
  have hb := B.bytes
  have hr := B.returns
  have hts := atoms_spec (ws := wsX7_add) B.pre
  have hown : s.vm.findClass RX7 = some m.cls := findClass_of_methodNamed B.named
  have hlocks := B.notSynchronized
  have hinX7 : ∀ w ∈ wsX70, w ∈ wsX7_add := by decide +kernel
  have hS : va_S (eA E) s.heap s.heap [] := va_S.rf
  have hl := lv_entry ([.ref (eC E 17), .int (p1), .int (p2), .int (p3), .int (p4)]) (n := 5) (Nat.le_of_ble_eq_true rfl)
  rw [lg_entry_eq]
  generalize (lg_sl ([.ref (eC E 17), .int (p1), .int (p2), .int (p3), .int (p4)]) ++ List.replicate (5 - (lg_sl ([.ref (eC E 17), .int (p1), .int (p2), .int (p3), .int (p4)])).length) Slot.unset).toArray = ls at hl ⊢
  have hl : lv_has ls 5 [(0, .ref (eC E 17)), (1, .int (p1)), (2, .int (p2)), (3, .int (p3)), (4, .int (p4))] := hl
  have hS : ∃ (H : Heap) (locs : List Loc), H = s.heap ∧ locs = [] ∧ gW E M S H ∧ va_S (eA E) s.heap H locs := ⟨_, _, rfl, rfl, hW, hS⟩
  clear hW
  obtain ⟨H, locs, eH, el, hW, hS⟩ := hS
  rw [← eH, ← el]
  clear eH el
  refine lv_aload_n hx hb dX7_add_0 rfl (lv_at hl 0 rfl) ?_
  refine va_get (D := eD E) (cl := vwCl) (tys := eT E) (ci := 7) (C := RX7) (T := TX7) (N := 5) (v := .int (S.1 17 4)) hx hb hts hinX7 hown hE.1 hW.1 28 rfl rfl 4 (by decide) (hts (.fieldLink RX7 24 "DialGarden$Sights" "size" "I") (by decide +kernel)) (fun _ h9 => h9) rfl dX7_add_1 ?_
  refine lv_bipush (v := 20) hx hb dX7_add_4 (by decide) ?_
  refine lv_icmp_lt (tgt := 10) hx hb dX7_add_6 (by decide) (fun c6 => ?_) (fun c6 => ?_)
  · refine lv_aload_n hx hb dX7_add_10 rfl (lv_at hl 0 rfl) ?_
    refine va_get (D := eD E) (cl := vwCl) (tys := eT E) (ci := 7) (C := RX7) (T := TX7) (N := 5) (v := .ref (eC E 18)) hx hb hts hinX7 hown hE.1 hW.1 28 rfl rfl 0 (by decide) (hts (.fieldLink RX7 9 "DialGarden$Sights" "days" "[I") (by decide +kernel)) (fun _ h9 => h9) rfl dX7_add_11 ?_
    refine lv_aload_n hx hb dX7_add_14 rfl (lv_at hl 0 rfl) ?_
    refine va_get (D := eD E) (cl := vwCl) (tys := eT E) (ci := 7) (C := RX7) (T := TX7) (N := 5) (v := .int (S.1 17 4)) hx hb hts hinX7 hown hE.1 hW.1 28 rfl rfl 4 (by decide) (hts (.fieldLink RX7 24 "DialGarden$Sights" "size" "I") (by decide +kernel)) (fun _ h9 => h9) rfl dX7_add_15 ?_
    refine lv_iload_n hx hb dX7_add_18 rfl (lv_at hl 1 rfl) ?_
    refine va_iast (D := eD E) (cl := vwCl) (tys := eT E) (A := eA E) (f := S.1 18) (x := p1) hx hb hE.1 hW.1 hW.2 hS 29 0 rfl rfl (sz_in hs0 c6 (by decide)) dX7_add_19 (fun H locs hP hD hS => ?_)
    have hW : gW E M (pI S 18 ((S.1 17 4).toNatClampNeg) p1) H := gW.of (tC_I18 E M S (upd (S.1 18) ((S.1 17 4).toNatClampNeg) p1)) hP hD
    refine lv_aload_n hx hb dX7_add_20 rfl (lv_at hl 0 rfl) ?_
    refine va_get (D := eD E) (cl := vwCl) (tys := eT E) (ci := 7) (C := RX7) (T := TX7) (N := 5) (v := .ref (eC E 19)) hx hb hts hinX7 hown hE.1 hW.1 28 rfl rfl 1 (by decide) (hts (.fieldLink RX7 15 "DialGarden$Sights" "minutes" "[I") (by decide +kernel)) (fun _ h9 => h9) rfl dX7_add_21 ?_
    refine lv_aload_n hx hb dX7_add_24 rfl (lv_at hl 0 rfl) ?_
    refine va_get (D := eD E) (cl := vwCl) (tys := eT E) (ci := 7) (C := RX7) (T := TX7) (N := 5) (v := .int (S.1 17 4)) hx hb hts hinX7 hown hE.1 hW.1 28 rfl rfl 4 (by decide) (hts (.fieldLink RX7 24 "DialGarden$Sights" "size" "I") (by decide +kernel)) (fun _ h9 => h9) rfl dX7_add_25 ?_
    refine lv_iload_n hx hb dX7_add_28 rfl (lv_at hl 2 rfl) ?_
    refine va_iast (D := eD E) (cl := vwCl) (tys := eT E) (A := eA E) (f := S.1 19) (x := p2) hx hb hE.1 hW.1 hW.2 hS 30 0 rfl rfl (sz_in hs0 c6 (by decide)) dX7_add_29 (fun H locs hP hD hS => ?_)
    have hW : gW E M (pI (pI S 18 ((S.1 17 4).toNatClampNeg) p1) 19 ((S.1 17 4).toNatClampNeg) p2) H := gW.of (tC_I19 E M (pI S 18 ((S.1 17 4).toNatClampNeg) p1) (upd (S.1 19) ((S.1 17 4).toNatClampNeg) p2)) hP hD
    refine lv_aload_n hx hb dX7_add_30 rfl (lv_at hl 0 rfl) ?_
    refine va_get (D := eD E) (cl := vwCl) (tys := eT E) (ci := 7) (C := RX7) (T := TX7) (N := 5) (v := .ref (eC E 20)) hx hb hts hinX7 hown hE.1 hW.1 28 rfl rfl 2 (by decide) (hts (.fieldLink RX7 18 "DialGarden$Sights" "xs" "[I") (by decide +kernel)) (fun _ h9 => h9) rfl dX7_add_31 ?_
    refine lv_aload_n hx hb dX7_add_34 rfl (lv_at hl 0 rfl) ?_
    refine va_get (D := eD E) (cl := vwCl) (tys := eT E) (ci := 7) (C := RX7) (T := TX7) (N := 5) (v := .int (S.1 17 4)) hx hb hts hinX7 hown hE.1 hW.1 28 rfl rfl 4 (by decide) (hts (.fieldLink RX7 24 "DialGarden$Sights" "size" "I") (by decide +kernel)) (fun _ h9 => h9) rfl dX7_add_35 ?_
    refine lv_iload_n hx hb dX7_add_38 rfl (lv_at hl 3 rfl) ?_
    refine va_iast (D := eD E) (cl := vwCl) (tys := eT E) (A := eA E) (f := S.1 20) (x := p3) hx hb hE.1 hW.1 hW.2 hS 31 0 rfl rfl (sz_in hs0 c6 (by decide)) dX7_add_39 (fun H locs hP hD hS => ?_)
    have hW : gW E M (pI (pI (pI S 18 ((S.1 17 4).toNatClampNeg) p1) 19 ((S.1 17 4).toNatClampNeg) p2) 20 ((S.1 17 4).toNatClampNeg) p3) H := gW.of (tC_I20 E M (pI (pI S 18 ((S.1 17 4).toNatClampNeg) p1) 19 ((S.1 17 4).toNatClampNeg) p2) (upd (S.1 20) ((S.1 17 4).toNatClampNeg) p3)) hP hD
    refine lv_aload_n hx hb dX7_add_40 rfl (lv_at hl 0 rfl) ?_
    refine va_get (D := eD E) (cl := vwCl) (tys := eT E) (ci := 7) (C := RX7) (T := TX7) (N := 5) (v := .ref (eC E 21)) hx hb hts hinX7 hown hE.1 hW.1 28 rfl rfl 3 (by decide) (hts (.fieldLink RX7 21 "DialGarden$Sights" "ys" "[I") (by decide +kernel)) (fun _ h9 => h9) rfl dX7_add_41 ?_
    refine lv_aload_n hx hb dX7_add_44 rfl (lv_at hl 0 rfl) ?_
    refine va_get (D := eD E) (cl := vwCl) (tys := eT E) (ci := 7) (C := RX7) (T := TX7) (N := 5) (v := .int (S.1 17 4)) hx hb hts hinX7 hown hE.1 hW.1 28 rfl rfl 4 (by decide) (hts (.fieldLink RX7 24 "DialGarden$Sights" "size" "I") (by decide +kernel)) (fun _ h9 => h9) rfl dX7_add_45 ?_
    refine lv_iload hx hb dX7_add_48 (lv_at hl 4 rfl) ?_
    refine va_iast (D := eD E) (cl := vwCl) (tys := eT E) (A := eA E) (f := S.1 21) (x := p4) hx hb hE.1 hW.1 hW.2 hS 32 0 rfl rfl (sz_in hs0 c6 (by decide)) dX7_add_50 (fun H locs hP hD hS => ?_)
    have hW : gW E M (pI (pI (pI (pI S 18 ((S.1 17 4).toNatClampNeg) p1) 19 ((S.1 17 4).toNatClampNeg) p2) 20 ((S.1 17 4).toNatClampNeg) p3) 21 ((S.1 17 4).toNatClampNeg) p4) H := gW.of (tC_I21 E M (pI (pI (pI S 18 ((S.1 17 4).toNatClampNeg) p1) 19 ((S.1 17 4).toNatClampNeg) p2) 20 ((S.1 17 4).toNatClampNeg) p3) (upd (S.1 21) ((S.1 17 4).toNatClampNeg) p4)) hP hD
    refine lv_aload_n hx hb dX7_add_51 rfl (lv_at hl 0 rfl) ?_
    refine lv_dup hx hb dX7_add_52 rfl ?_
    refine va_get (D := eD E) (cl := vwCl) (tys := eT E) (ci := 7) (C := RX7) (T := TX7) (N := 5) (v := .int (S.1 17 4)) hx hb hts hinX7 hown hE.1 hW.1 28 rfl rfl 4 (by decide) (hts (.fieldLink RX7 24 "DialGarden$Sights" "size" "I") (by decide +kernel)) (fun _ h9 => h9) rfl dX7_add_53 ?_
    refine lv_iconst (v := 1) hx hb dX7_add_56 (by decide) ?_
    refine lv_iadd hx hb dX7_add_57 ?_
    refine va_put (D := eD E) (cl := vwCl) (tys := eT E) (A := eA E) (ci := 7) (C := RX7) (T := TX7) (N := 5) (v := .int ((S.1 17 4) + 1)) (ty := .int) hx hb hts hinX7 tyX7 tyX7_ok nmX7 hown hE.1 hW.1 hW.2 hS 28 rfl rfl 4 (by decide) (hts (.fieldLink RX7 24 "DialGarden$Sights" "size" "I") (by decide +kernel)) (fun _ h9 => h9) rfl (by decide +kernel) rfl rfl (Nat.le_of_ble_eq_true rfl) dX7_add_58 (fun H locs hP hD hS => ?_)
    have hW : gW E M (pI (pI (pI (pI (pI S 18 ((S.1 17 4).toNatClampNeg) p1) 19 ((S.1 17 4).toNatClampNeg) p2) 20 ((S.1 17 4).toNatClampNeg) p3) 21 ((S.1 17 4).toNatClampNeg) p4) 17 4 ((S.1 17 4) + 1)) H := gW.of (uC_17_4 E M (pI (pI (pI (pI S 18 ((S.1 17 4).toNatClampNeg) p1) 19 ((S.1 17 4).toNatClampNeg) p2) 20 ((S.1 17 4).toNatClampNeg) p3) 21 ((S.1 17 4).toNatClampNeg) p4) ((S.1 17 4) + 1)) hP hD
    exact W.vret hx hb hr (fun t ht _ => ⟨⟨pI (pI (pI (pI (pI S 18 ((S.1 17 4).toNatClampNeg) p1) 19 ((S.1 17 4).toNatClampNeg) p2) 20 ((S.1 17 4).toNatClampNeg) p3) 21 ((S.1 17 4).toNatClampNeg) p4) 17 4 ((S.1 17 4) + 1), rfl, by first | (simp only [q_X7_add, if_pos c6]; done) | contradiction, by dsimp only; rw [ht]; exact hW⟩, hS.F ht⟩) hS.2.2 dX7_add_61
  · exact W.vret hx hb hr (fun t ht _ => ⟨⟨S, rfl, by first | (simp only [q_X7_add, if_neg c6]; done) | contradiction, by dsimp only; rw [ht]; exact hW⟩, hS.F ht⟩) hS.2.2 dX7_add_9
theorem qp_X7_add (S : gSc) (p1 : Int32) (p2 : Int32) (p3 : Int32) (p4 : Int32) : (q_X7_add S p1 p2 p3 p4).2.2 = S.2.2 := by
  unfold q_X7_add
  try dsimp only
  (repeat' split) <;> first | (simp only [pI_2, sR_22]; done) | rfl

def q_X7_isCloseTo (S : gSc) (p1 : Int32) (p2 : Int32) (p3 : Int32) : Int32 := (let r10 := q_X10_within (p1.toInt64) 0 (((S.1 17 4) - 1).toInt64); (if r10 = 0 then 0 else (if 1 < (if 0 ≤ ((S.1 20 (p1.toNatClampNeg)) - p2) then ((S.1 20 (p1.toNatClampNeg)) - p2) else 0 - ((S.1 20 (p1.toNatClampNeg)) - p2)) then 0 else (if 1 < (if 0 ≤ ((S.1 21 (p1.toNatClampNeg)) - p3) then ((S.1 21 (p1.toNatClampNeg)) - p3) else 0 - ((S.1 21 (p1.toNatClampNeg)) - p3)) then 0 else 1))))
set_option maxHeartbeats 4000000 in
set_option maxRecDepth 100000 in
theorem c_X7_isCloseTo (l : Launch) (E : gEE) (M : gSm) (S : gSc) (p1 : Int32) (p2 : Int32) (p3 : Int32) (hs0 : 0 ≤ (S.1 17 4).toInt) (hs : (S.1 17 4).toInt ≤ 20) : Met l yX7_isCloseTo wsX7_isCloseTo ({ frames := 1, cells := 0, slots := 0, locals := 25 }) (va_Pc [.ref (eC E 17), .int (p1), .int (p2), .int (p3)] (gP E M S)) (vp_Si (fun r => r = q_X7_isCloseTo S p1 p2 p3)) 0 0 (fun _ => False) := by
  refine Met.ofW (cc := cX7_isCloseTo) (maxL := 4) (ret := (some .boolean)) (by decide) rfl ?_
  intro p e s m args below meth c s₁ B hml hv
  obtain ⟨rfl, hE, hW⟩ := hv
  have hx := B.exec
  have hb := B.bytes
  have hr := B.returns
  have hts := atoms_spec (ws := wsX7_isCloseTo) B.pre
  have hown : s.vm.findClass RX7 = some m.cls := findClass_of_methodNamed B.named
  have hlocks := B.notSynchronized
  have hinX7 : ∀ w ∈ wsX70, w ∈ wsX7_isCloseTo := by decide +kernel
  have hS : va_S (eA E) s.heap s.heap [] := va_S.rf
  have hl := lv_entry ([.ref (eC E 17), .int (p1), .int (p2), .int (p3)]) (n := 4) (Nat.le_of_ble_eq_true rfl)
  rw [lg_entry_eq]
  generalize (lg_sl ([.ref (eC E 17), .int (p1), .int (p2), .int (p3)]) ++ List.replicate (4 - (lg_sl ([.ref (eC E 17), .int (p1), .int (p2), .int (p3)])).length) Slot.unset).toArray = ls at hl ⊢
  have hl : lv_has ls 4 [(0, .ref (eC E 17)), (1, .int (p1)), (2, .int (p2)), (3, .int (p3))] := hl
  refine lv_iload_n hx hb dX7_isCloseTo_0 rfl (lv_at hl 1 rfl) ?_
  refine lv_i2l (v := p1.toInt64) hx hb dX7_isCloseTo_1 rfl ?_
  refine lv_lconst (v := 0) hx hb dX7_isCloseTo_2 (by decide) ?_
  refine lv_aload_n hx hb dX7_isCloseTo_3 rfl (lv_at hl 0 rfl) ?_
  refine va_get (D := eD E) (cl := vwCl) (tys := eT E) (ci := 7) (C := RX7) (T := TX7) (N := 5) (v := .int (S.1 17 4)) hx hb hts hinX7 hown hE.1 hW.1 28 rfl rfl 4 (by decide) (hts (.fieldLink RX7 24 "DialGarden$Sights" "size" "I") (by decide +kernel)) (fun _ h9 => h9) rfl dX7_isCloseTo_4 ?_
  refine lv_iconst (v := 1) hx hb dX7_isCloseTo_7 (by decide) ?_
  refine lv_isub hx hb dX7_isCloseTo_8 ?_
  refine lv_i2l (v := ((S.1 17 4) - 1).toInt64) hx hb dX7_isCloseTo_9 rfl ?_
  refine k_Si (va_runSN (As := [.long (p1.toInt64), .long (0), .long (((S.1 17 4) - 1).toInt64)]) (rest := []) ⟨hx, hb, hml, hown, hts⟩ (c_X10_within l (p1.toInt64) 0 (((S.1 17 4) - 1).toInt64)) ⟨va_cnB 3 hts gX7_isCloseTo_X10_within_n28 rfl rfl rfl (hE.2.2.1 (.methodLinkNest "DialGarden$Sights" 28 ⟨"DialGarden", "within", "(JJJ)Z"⟩ "DialGarden") (by decide +kernel)) (hts (.initialized RX10) (by decide +kernel)) (by decide +kernel) ⟨Nat.le_of_ble_eq_true rfl, Nat.le_of_ble_eq_true rfl⟩, hts (.static yX10_within) (by decide +kernel), trivial⟩ gP0 rfl rfl hl.1 rfl (lv_room (Nat.le_of_ble_eq_true rfl)) dX7_isCloseTo_10 ⟨Nat.le_of_ble_eq_true rfl, Nat.le_of_ble_eq_true rfl⟩) (fun r10 er10 => ?_)
  refine lv_if_eq (tgt := 50) hx hb dX7_isCloseTo_13 (by decide) (fun c13 => ?_) (fun c13 => ?_)
  · refine lv_iconst (v := 0) hx hb dX7_isCloseTo_50 (by decide) ?_
    exact W.zret (v := 0) hx hb hr rfl (fun t ht _ => ⟨0, rfl, by subst er10; first | (simp only [q_X7_isCloseTo, if_pos c13]; done) | contradiction, ht⟩) (fun _ h => nomatch h) dX7_isCloseTo_51
  · refine lv_aload_n hx hb dX7_isCloseTo_16 rfl (lv_at hl 0 rfl) ?_
    refine va_get (D := eD E) (cl := vwCl) (tys := eT E) (ci := 7) (C := RX7) (T := TX7) (N := 5) (v := .ref (eC E 20)) hx hb hts hinX7 hown hE.1 hW.1 28 rfl rfl 2 (by decide) (hts (.fieldLink RX7 18 "DialGarden$Sights" "xs" "[I") (by decide +kernel)) (fun _ h9 => h9) rfl dX7_isCloseTo_17 ?_
    refine lv_iload_n hx hb dX7_isCloseTo_20 rfl (lv_at hl 1 rfl) ?_
    refine va_iald (D := eD E) (cl := vwCl) (tys := eT E) (f := S.1 20) hx hb hE.1 hW.1 31 0 rfl rfl (wi_in er10 c13 hs0 hs) dX7_isCloseTo_21 ?_
    refine lv_iload_n hx hb dX7_isCloseTo_22 rfl (lv_at hl 2 rfl) ?_
    refine lv_isub hx hb dX7_isCloseTo_23 ?_
    refine va_mabs (rest := []) hx hb (hml.trans hl.1.symm) hown (hts (.methodLink RX7 32 Lib.Math.abs.name) (by decide +kernel)) (hts (.static Lib.Math.abs.name) (by decide +kernel)) (hts (.initialized "java/lang/Math") (by decide +kernel)) (hts (.code Lib.Math.abs.name Lib.Math.abs.code 1 (some .int)) (by decide +kernel)) (Nat.le_of_ble_eq_true rfl) (Nat.le_of_ble_eq_true rfl) (Nat.le_of_ble_eq_true rfl) (Nat.le_of_ble_eq_true rfl) dX7_isCloseTo_24 ?_
    refine lv_iconst (v := 1) hx hb dX7_isCloseTo_27 (by decide) ?_
    refine lv_icmp_gt (tgt := 50) hx hb dX7_isCloseTo_28 (by decide) (fun c28 => ?_) (fun c28 => ?_)
    · refine lv_iconst (v := 0) hx hb dX7_isCloseTo_50 (by decide) ?_
      exact W.zret (v := 0) hx hb hr rfl (fun t ht _ => ⟨0, rfl, by subst er10; first | (simp only [q_X7_isCloseTo, if_neg c13, if_pos c28]; done) | contradiction, ht⟩) (fun _ h => nomatch h) dX7_isCloseTo_51
    · refine lv_aload_n hx hb dX7_isCloseTo_31 rfl (lv_at hl 0 rfl) ?_
      refine va_get (D := eD E) (cl := vwCl) (tys := eT E) (ci := 7) (C := RX7) (T := TX7) (N := 5) (v := .ref (eC E 21)) hx hb hts hinX7 hown hE.1 hW.1 28 rfl rfl 3 (by decide) (hts (.fieldLink RX7 21 "DialGarden$Sights" "ys" "[I") (by decide +kernel)) (fun _ h9 => h9) rfl dX7_isCloseTo_32 ?_
      refine lv_iload_n hx hb dX7_isCloseTo_35 rfl (lv_at hl 1 rfl) ?_
      refine va_iald (D := eD E) (cl := vwCl) (tys := eT E) (f := S.1 21) hx hb hE.1 hW.1 32 0 rfl rfl (wi_in er10 c13 hs0 hs) dX7_isCloseTo_36 ?_
      refine lv_iload_n hx hb dX7_isCloseTo_37 rfl (lv_at hl 3 rfl) ?_
      refine lv_isub hx hb dX7_isCloseTo_38 ?_
      refine va_mabs (rest := []) hx hb (hml.trans hl.1.symm) hown (hts (.methodLink RX7 32 Lib.Math.abs.name) (by decide +kernel)) (hts (.static Lib.Math.abs.name) (by decide +kernel)) (hts (.initialized "java/lang/Math") (by decide +kernel)) (hts (.code Lib.Math.abs.name Lib.Math.abs.code 1 (some .int)) (by decide +kernel)) (Nat.le_of_ble_eq_true rfl) (Nat.le_of_ble_eq_true rfl) (Nat.le_of_ble_eq_true rfl) (Nat.le_of_ble_eq_true rfl) dX7_isCloseTo_39 ?_
      refine lv_iconst (v := 1) hx hb dX7_isCloseTo_42 (by decide) ?_
      refine lv_icmp_gt (tgt := 50) hx hb dX7_isCloseTo_43 (by decide) (fun c43 => ?_) (fun c43 => ?_)
      · refine lv_iconst (v := 0) hx hb dX7_isCloseTo_50 (by decide) ?_
        exact W.zret (v := 0) hx hb hr rfl (fun t ht _ => ⟨0, rfl, by subst er10; first | (simp only [q_X7_isCloseTo, if_neg c13, if_neg c28, if_pos c43]; done) | contradiction, ht⟩) (fun _ h => nomatch h) dX7_isCloseTo_51
      · refine lv_iconst (v := 1) hx hb dX7_isCloseTo_46 (by decide) ?_
        refine lv_goto (tgt := 51) hx hb dX7_isCloseTo_47 (by decide) ?_
        exact W.zret (v := 1) hx hb hr rfl (fun t ht _ => ⟨1, rfl, by subst er10; first | (simp only [q_X7_isCloseTo, if_neg c13, if_neg c28, if_neg c43]; done) | contradiction, ht⟩) (fun _ h => nomatch h) dX7_isCloseTo_51
