def q_X0_latestPlace (S : gSc)  : Int32 := S.1 5 ((S.1 4 2).toNatClampNeg)
set_option maxHeartbeats 4000000 in
set_option maxRecDepth 100000 in
theorem c_X0_latestPlace (l : Launch) (E : gEE) (M : gSm) (S : gSc)  (hl0 : 0 ≤ (S.1 4 2).toInt) (hl1 : (S.1 4 2).toInt < 16) : Met l yX0_latestPlace wsX0_latestPlace ({ frames := 0, cells := 0, slots := 0, locals := 0 }) (va_Pc [.ref (eC E 4)] (gP E M S)) (vp_Si (fun r => r = q_X0_latestPlace S)) 0 0 (fun _ => False) := by
  refine Met.ofW (cc := cX0_latestPlace) (maxL := 1) (ret := (some .int)) (by decide) rfl ?_
  intro p e s m args below meth c s₁ B hml hv
  obtain ⟨rfl, hE, hW⟩ := hv
  have hx := B.exec
  have hb := B.bytes
  have hr := B.returns
  have hts := atoms_spec (ws := wsX0_latestPlace) B.pre
  have hown : s.vm.findClass RX0 = some m.cls := findClass_of_methodNamed B.named
  have hlocks := B.notSynchronized
  have hinX0 : ∀ w ∈ wsX00, w ∈ wsX0_latestPlace := by decide +kernel
  have hS : va_S (eA E) s.heap s.heap [] := va_S.rf
  have hl := lv_entry ([.ref (eC E 4)]) (n := 1) (Nat.le_of_ble_eq_true rfl)
  rw [lg_entry_eq]
  generalize (lg_sl ([.ref (eC E 4)]) ++ List.replicate (1 - (lg_sl ([.ref (eC E 4)])).length) Slot.unset).toArray = ls at hl ⊢
  have hl : lv_has ls 1 [(0, .ref (eC E 4))] := hl
  refine lv_aload_n hx hb dX0_latestPlace_0 rfl (lv_at hl 0 rfl) ?_
  refine va_get (D := eD E) (cl := vwCl) (tys := eT E) (ci := 0) (C := RX0) (T := TX0) (N := 4) (v := .ref (eC E 5)) hx hb hts hinX0 hown hE.1 hW.1 15 rfl rfl 0 (by decide) (hts (.fieldLink RX0 9 "DialGarden$Changes" "places" "[I") (by decide +kernel)) (fun _ h9 => h9) rfl dX0_latestPlace_1 ?_
  refine lv_aload_n hx hb dX0_latestPlace_4 rfl (lv_at hl 0 rfl) ?_
  refine va_get (D := eD E) (cl := vwCl) (tys := eT E) (ci := 0) (C := RX0) (T := TX0) (N := 4) (v := .int (S.1 4 2)) hx hb hts hinX0 hown hE.1 hW.1 15 rfl rfl 2 (by decide) (hts (.fieldLink RX0 21 "DialGarden$Changes" "latest" "I") (by decide +kernel)) (fun _ h9 => h9) rfl dX0_latestPlace_5 ?_
  refine va_iald (D := eD E) (cl := vwCl) (tys := eT E) (f := S.1 5) hx hb hE.1 hW.1 16 0 rfl rfl (vx hl0 hl1) dX0_latestPlace_8 ?_
  exact W.iret (v := S.1 5 ((S.1 4 2).toNatClampNeg)) hx hb hr (fun t ht _ => ⟨S.1 5 ((S.1 4 2).toNatClampNeg), rfl, by first | (simp only [q_X0_latestPlace]; done) | contradiction, ht⟩) (fun _ h => nomatch h) dX0_latestPlace_9

def q_X0_latestThing (S : gSc)  : Option Nat := (match S.2.1 6 ((S.1 4 2).toNatClampNeg) with | none => none | some a8 => some a8)
set_option maxHeartbeats 4000000 in
set_option maxRecDepth 100000 in
theorem c_X0_latestThing (l : Launch) (E : gEE) (M : gSm) (S : gSc)  (hl0 : 0 ≤ (S.1 4 2).toInt) (hl1 : (S.1 4 2).toInt < 16) : Met l yX0_latestThing wsX0_latestThing ({ frames := 0, cells := 0, slots := 0, locals := 0 }) (va_Pc [.ref (eC E 4)] (gP E M S)) (va_Sq (fun r => r = q_X0_latestThing S)) 0 0 (fun _ => False) := by
  refine Met.ofW (cc := cX0_latestThing) (maxL := 1) (ret := (some (.object "DialGarden$Thing"))) (by decide) rfl ?_
  intro p e s m args below meth c s₁ B hml hv
  obtain ⟨rfl, hE, hW⟩ := hv
  have hx := B.exec
  have hb := B.bytes
  have hr := B.returns
  have hts := atoms_spec (ws := wsX0_latestThing) B.pre
  have hown : s.vm.findClass RX0 = some m.cls := findClass_of_methodNamed B.named
  have hlocks := B.notSynchronized
  have hinX0 : ∀ w ∈ wsX00, w ∈ wsX0_latestThing := by decide +kernel
  have hS : va_S (eA E) s.heap s.heap [] := va_S.rf
  have hl := lv_entry ([.ref (eC E 4)]) (n := 1) (Nat.le_of_ble_eq_true rfl)
  rw [lg_entry_eq]
  generalize (lg_sl ([.ref (eC E 4)]) ++ List.replicate (1 - (lg_sl ([.ref (eC E 4)])).length) Slot.unset).toArray = ls at hl ⊢
  have hl : lv_has ls 1 [(0, .ref (eC E 4))] := hl
  refine lv_aload_n hx hb dX0_latestThing_0 rfl (lv_at hl 0 rfl) ?_
  refine va_get (D := eD E) (cl := vwCl) (tys := eT E) (ci := 0) (C := RX0) (T := TX0) (N := 4) (v := .ref (eC E 6)) hx hb hts hinX0 hown hE.1 hW.1 15 rfl rfl 1 (by decide) (hts (.fieldLink RX0 17 "DialGarden$Changes" "things" "[LDialGarden$Thing;") (by decide +kernel)) (fun _ h9 => h9) rfl dX0_latestThing_1 ?_
  refine lv_aload_n hx hb dX0_latestThing_4 rfl (lv_at hl 0 rfl) ?_
  refine va_get (D := eD E) (cl := vwCl) (tys := eT E) (ci := 0) (C := RX0) (T := TX0) (N := 4) (v := .int (S.1 4 2)) hx hb hts hinX0 hown hE.1 hW.1 15 rfl rfl 2 (by decide) (hts (.fieldLink RX0 21 "DialGarden$Changes" "latest" "I") (by decide +kernel)) (fun _ h9 => h9) rfl dX0_latestThing_5 ?_
  refine va_aldq (D := eD E) (cl := vwCl) (tys := eT E) (f := S.2.1 6) hx hb hE.1 hW.1 17 4 rfl rfl (vx hl0 hl1) dX0_latestThing_8 ?_
  rcases ho8 : S.2.1 6 ((S.1 4 2).toNatClampNeg) with _ | a8
  · exact W.aret (v := .null) hx hb hr (Or.inl ⟨_, rfl⟩) (Or.inl rfl) (fun t ht _ => ⟨none, rfl, by first | (simp only [q_X0_latestThing, ho8]; done) | contradiction, ht⟩) (fun _ h => nomatch h) dX0_latestThing_9
  · exact W.aret (v := .ref (a8)) hx hb hr (Or.inl ⟨_, rfl⟩) (Or.inr ⟨_, rfl⟩) (fun t ht _ => ⟨some a8, rfl, by first | (simp only [q_X0_latestThing, ho8]; done) | contradiction, ht⟩) (fun _ h => nomatch h) dX0_latestThing_9

def q_X0_takeBack (S : gSc)  : gSc := (let r19 := q_J9_floorMod_7cf53 ((S.1 4 2) - 1) 16; pI (pI (sR S 6 (va_up (S.2.1 6) ((S.1 4 2).toNatClampNeg) none)) 4 2 r19) 4 3 ((S.1 4 3) - 1))
set_option maxHeartbeats 4000000 in
set_option maxRecDepth 100000 in
theorem c_X0_takeBack (l : Launch) (E : gEE) (M : gSm) (S : gSc)  (hl0 : 0 ≤ (S.1 4 2).toInt) (hl1 : (S.1 4 2).toInt < 16) : Met l yX0_takeBack wsX0_takeBack ({ frames := 1, cells := 0, slots := 0, locals := 22 }) (va_Pc [.ref (eC E 4)] (gP E M S)) (va_Qv (fun u : gSc => u = q_X0_takeBack S) (fun u t => gW E M u t.heap) (eA E)) 0 0 (eA E) := by
  refine Met.ofW (cc := cX0_takeBack) (maxL := 1) (ret := none) (by decide) rfl ?_
  intro p e s m args below meth c s₁ B hml hv
  obtain ⟨rfl, hE, hW⟩ := hv
  have hx := B.exec
  have hb := B.bytes
  have hr := B.returns
  have hts := atoms_spec (ws := wsX0_takeBack) B.pre
  have hown : s.vm.findClass RX0 = some m.cls := findClass_of_methodNamed B.named
  have hlocks := B.notSynchronized
  have hinX0 : ∀ w ∈ wsX00, w ∈ wsX0_takeBack := by decide +kernel
  have hS : va_S (eA E) s.heap s.heap [] := va_S.rf
  have hl := lv_entry ([.ref (eC E 4)]) (n := 1) (Nat.le_of_ble_eq_true rfl)
  rw [lg_entry_eq]
  generalize (lg_sl ([.ref (eC E 4)]) ++ List.replicate (1 - (lg_sl ([.ref (eC E 4)])).length) Slot.unset).toArray = ls at hl ⊢
  have hl : lv_has ls 1 [(0, .ref (eC E 4))] := hl
  have hS : ∃ (H : Heap) (locs : List Loc), H = s.heap ∧ locs = [] ∧ gW E M S H ∧ va_S (eA E) s.heap H locs := ⟨_, _, rfl, rfl, hW, hS⟩
  clear hW
  obtain ⟨H, locs, eH, el, hW, hS⟩ := hS
  rw [← eH, ← el]
  clear eH el
  refine lv_aload_n hx hb dX0_takeBack_0 rfl (lv_at hl 0 rfl) ?_
  refine va_get (D := eD E) (cl := vwCl) (tys := eT E) (ci := 0) (C := RX0) (T := TX0) (N := 4) (v := .ref (eC E 6)) hx hb hts hinX0 hown hE.1 hW.1 15 rfl rfl 1 (by decide) (hts (.fieldLink RX0 17 "DialGarden$Changes" "things" "[LDialGarden$Thing;") (by decide +kernel)) (fun _ h9 => h9) rfl dX0_takeBack_1 ?_
  refine lv_aload_n hx hb dX0_takeBack_4 rfl (lv_at hl 0 rfl) ?_
  refine va_get (D := eD E) (cl := vwCl) (tys := eT E) (ci := 0) (C := RX0) (T := TX0) (N := 4) (v := .int (S.1 4 2)) hx hb hts hinX0 hown hE.1 hW.1 15 rfl rfl 2 (by decide) (hts (.fieldLink RX0 21 "DialGarden$Changes" "latest" "I") (by decide +kernel)) (fun _ h9 => h9) rfl dX0_takeBack_5 ?_
  refine lv_null hx hb dX0_takeBack_8 ?_
  refine va_astqN (D := eD E) (cl := vwCl) (tys := eT E) (A := eA E) (f := S.2.1 6) hx hb hE.1 hW.1 hW.2 hS 17 4 rfl rfl (vx hl0 hl1) dX0_takeBack_9 (fun H locs hP hD hS => ?_)
  have hW : gW E M (sR S 6 (va_up (S.2.1 6) ((S.1 4 2).toNatClampNeg) none)) H := gW.of (tC_R6 E M S (va_up (S.2.1 6) ((S.1 4 2).toNatClampNeg) none)) hP hD
  refine lv_aload_n hx hb dX0_takeBack_10 rfl (lv_at hl 0 rfl) ?_
  refine lv_aload_n hx hb dX0_takeBack_11 rfl (lv_at hl 0 rfl) ?_
  refine va_get (D := eD E) (cl := vwCl) (tys := eT E) (ci := 0) (C := RX0) (T := TX0) (N := 4) (v := .int (S.1 4 2)) hx hb hts hinX0 hown hE.1 hW.1 15 rfl rfl 2 (by decide) (hts (.fieldLink RX0 21 "DialGarden$Changes" "latest" "I") (by decide +kernel)) (fun _ h9 => h9) rfl dX0_takeBack_12 ?_
  refine lv_iconst (v := 1) hx hb dX0_takeBack_15 (by decide) ?_
  refine lv_isub hx hb dX0_takeBack_16 ?_
  refine lv_bipush (v := 16) hx hb dX0_takeBack_17 (by decide) ?_
  refine k_Si (va_runS (As := [.int ((S.1 4 2) - 1), .int (16)]) (rest := [.ref (eC E 4)]) ⟨hx, hb, hml, hown, hts⟩ (c_J9_floorMod_7cf53 l ((S.1 4 2) - 1) 16 (by decide)) (va_cwS 2 hts gX0_takeBack_J9_floorMod_7cf53 rfl rfl rfl (by decide +kernel) ⟨Nat.le_of_ble_eq_true rfl, Nat.le_of_ble_eq_true rfl⟩) gP0 rfl rfl hl.1 rfl (lv_room (Nat.le_of_ble_eq_true rfl)) dX0_takeBack_19 ⟨Nat.le_of_ble_eq_true rfl, Nat.le_of_ble_eq_true rfl⟩) (fun r19 er19 => ?_)
  refine va_put (D := eD E) (cl := vwCl) (tys := eT E) (A := eA E) (ci := 0) (C := RX0) (T := TX0) (N := 4) (v := .int (r19)) (ty := .int) hx hb hts hinX0 tyX0 tyX0_ok nmX0 hown hE.1 hW.1 hW.2 hS 15 rfl rfl 2 (by decide) (hts (.fieldLink RX0 21 "DialGarden$Changes" "latest" "I") (by decide +kernel)) (fun _ h9 => h9) rfl (by decide +kernel) rfl rfl (Nat.le_of_ble_eq_true rfl) dX0_takeBack_22 (fun H locs hP hD hS => ?_)
  have hW : gW E M (pI (sR S 6 (va_up (S.2.1 6) ((S.1 4 2).toNatClampNeg) none)) 4 2 r19) H := gW.of (uC_4_2 E M (sR S 6 (va_up (S.2.1 6) ((S.1 4 2).toNatClampNeg) none)) r19) hP hD
  refine lv_aload_n hx hb dX0_takeBack_25 rfl (lv_at hl 0 rfl) ?_
  refine lv_dup hx hb dX0_takeBack_26 rfl ?_
  refine va_get (D := eD E) (cl := vwCl) (tys := eT E) (ci := 0) (C := RX0) (T := TX0) (N := 4) (v := .int (S.1 4 3)) hx hb hts hinX0 hown hE.1 hW.1 15 rfl rfl 3 (by decide) (hts (.fieldLink RX0 25 "DialGarden$Changes" "kept" "I") (by decide +kernel)) (fun _ h9 => h9) rfl dX0_takeBack_27 ?_
  refine lv_iconst (v := 1) hx hb dX0_takeBack_30 (by decide) ?_
  refine lv_isub hx hb dX0_takeBack_31 ?_
  refine va_put (D := eD E) (cl := vwCl) (tys := eT E) (A := eA E) (ci := 0) (C := RX0) (T := TX0) (N := 4) (v := .int ((S.1 4 3) - 1)) (ty := .int) hx hb hts hinX0 tyX0 tyX0_ok nmX0 hown hE.1 hW.1 hW.2 hS 15 rfl rfl 3 (by decide) (hts (.fieldLink RX0 25 "DialGarden$Changes" "kept" "I") (by decide +kernel)) (fun _ h9 => h9) rfl (by decide +kernel) rfl rfl (Nat.le_of_ble_eq_true rfl) dX0_takeBack_32 (fun H locs hP hD hS => ?_)
  have hW : gW E M (pI (pI (sR S 6 (va_up (S.2.1 6) ((S.1 4 2).toNatClampNeg) none)) 4 2 r19) 4 3 ((S.1 4 3) - 1)) H := gW.of (uC_4_3 E M (pI (sR S 6 (va_up (S.2.1 6) ((S.1 4 2).toNatClampNeg) none)) 4 2 r19) ((S.1 4 3) - 1)) hP hD
  exact W.vret hx hb hr (fun t ht _ => ⟨⟨pI (pI (sR S 6 (va_up (S.2.1 6) ((S.1 4 2).toNatClampNeg) none)) 4 2 r19) 4 3 ((S.1 4 3) - 1), rfl, by subst er19; first | (simp only [q_X0_takeBack]; done) | contradiction, by dsimp only; rw [ht]; exact hW⟩, hS.F ht⟩) hS.2.2 dX0_takeBack_35
theorem qp_X0_takeBack (S : gSc)  : (q_X0_takeBack S).2.2 = S.2.2 := by
  unfold q_X0_takeBack
  try dsimp only
  (repeat' split) <;> first | (simp only [pI_2, sR_22]; done) | rfl

def q_X0_keep (S : gSc) (p1 : Int32) (p2 : Option Nat) : gSc := (match p2 with | none => (let r9 := q_J9_floorMod_7cf53 ((S.1 4 2) + 1) 16; pI (sR (pI (pI S 4 2 r9) 5 (r9.toNatClampNeg) p1) 6 (va_up (S.2.1 6) (r9.toNatClampNeg) none)) 4 3 (if 16 < ((S.1 4 3) + 1) then 16 else ((S.1 4 3) + 1))) | some b2 => (let r9 := q_J9_floorMod_7cf53 ((S.1 4 2) + 1) 16; pI (sR (pI (pI S 4 2 r9) 5 (r9.toNatClampNeg) p1) 6 (va_up (S.2.1 6) (r9.toNatClampNeg) (some b2))) 4 3 (if 16 < ((S.1 4 3) + 1) then 16 else ((S.1 4 3) + 1))))
set_option maxHeartbeats 4000000 in
set_option maxRecDepth 100000 in
theorem c_X0_keep (l : Launch) (E : gEE) (M : gSm) (S : gSc) (p1 : Int32) (p2 : Option Nat) (ho2 : ∀ b, p2 = some b → b ∈ S.2.2.1) : Met l yX0_keep wsX0_keep ({ frames := 1, cells := 0, slots := 0, locals := 22 }) (va_Pc [.ref (eC E 4), .int (p1), va_rf p2] (gP E M S)) (va_Qv (fun u : gSc => u = q_X0_keep S p1 p2) (fun u t => gW E M u t.heap) (eA E)) 0 0 (eA E) := by
  refine Met.ofW (cc := cX0_keep) (maxL := 3) (ret := none) (by decide) rfl ?_
  intro p e s m args below meth c s₁ B hml hv
  obtain ⟨rfl, hE, hW⟩ := hv
  have hx := B.exec
  have hb := B.bytes
  have hr := B.returns
  have hts := atoms_spec (ws := wsX0_keep) B.pre
  have hown : s.vm.findClass RX0 = some m.cls := findClass_of_methodNamed B.named
  have hlocks := B.notSynchronized
  have hinX0 : ∀ w ∈ wsX00, w ∈ wsX0_keep := by decide +kernel
  have hS : va_S (eA E) s.heap s.heap [] := va_S.rf
  have hS : ∃ (H : Heap) (locs : List Loc), H = s.heap ∧ locs = [] ∧ gW E M S H ∧ va_S (eA E) s.heap H locs := ⟨_, _, rfl, rfl, hW, hS⟩
  clear hW
  obtain ⟨H, locs, eH, el, hW, hS⟩ := hS
  rw [← eH, ← el]
  clear eH el
  rcases p2 with _ | b2
  · have hl := lv_entry ([.ref (eC E 4), .int (p1), va_rf none]) (n := 3) (Nat.le_of_ble_eq_true rfl)
    rw [lg_entry_eq]
    generalize (lg_sl ([.ref (eC E 4), .int (p1), va_rf none]) ++ List.replicate (3 - (lg_sl ([.ref (eC E 4), .int (p1), va_rf none])).length) Slot.unset).toArray = ls at hl ⊢
    have hl : lv_has ls 3 [(0, .ref (eC E 4)), (1, .int (p1)), (2, .null)] := hl
    refine lv_aload_n hx hb dX0_keep_0 rfl (lv_at hl 0 rfl) ?_
    refine lv_aload_n hx hb dX0_keep_1 rfl (lv_at hl 0 rfl) ?_
    refine va_get (D := eD E) (cl := vwCl) (tys := eT E) (ci := 0) (C := RX0) (T := TX0) (N := 4) (v := .int (S.1 4 2)) hx hb hts hinX0 hown hE.1 hW.1 15 rfl rfl 2 (by decide) (hts (.fieldLink RX0 21 "DialGarden$Changes" "latest" "I") (by decide +kernel)) (fun _ h9 => h9) rfl dX0_keep_2 ?_
    refine lv_iconst (v := 1) hx hb dX0_keep_5 (by decide) ?_
    refine lv_iadd hx hb dX0_keep_6 ?_
    refine lv_bipush (v := 16) hx hb dX0_keep_7 (by decide) ?_
    refine k_Si (va_runS (As := [.int ((S.1 4 2) + 1), .int (16)]) (rest := [.ref (eC E 4)]) ⟨hx, hb, hml, hown, hts⟩ (c_J9_floorMod_7cf53 l ((S.1 4 2) + 1) 16 (by decide)) (va_cwS 2 hts gX0_keep_J9_floorMod_7cf53 rfl rfl rfl (by decide +kernel) ⟨Nat.le_of_ble_eq_true rfl, Nat.le_of_ble_eq_true rfl⟩) gP0 rfl rfl hl.1 rfl (lv_room (Nat.le_of_ble_eq_true rfl)) dX0_keep_9 ⟨Nat.le_of_ble_eq_true rfl, Nat.le_of_ble_eq_true rfl⟩) (fun r9 er9 => ?_)
    refine va_put (D := eD E) (cl := vwCl) (tys := eT E) (A := eA E) (ci := 0) (C := RX0) (T := TX0) (N := 4) (v := .int (r9)) (ty := .int) hx hb hts hinX0 tyX0 tyX0_ok nmX0 hown hE.1 hW.1 hW.2 hS 15 rfl rfl 2 (by decide) (hts (.fieldLink RX0 21 "DialGarden$Changes" "latest" "I") (by decide +kernel)) (fun _ h9 => h9) rfl (by decide +kernel) rfl rfl (Nat.le_of_ble_eq_true rfl) dX0_keep_12 (fun H locs hP hD hS => ?_)
    have hW : gW E M (pI S 4 2 r9) H := gW.of (uC_4_2 E M S r9) hP hD
    refine lv_aload_n hx hb dX0_keep_15 rfl (lv_at hl 0 rfl) ?_
    refine va_get (D := eD E) (cl := vwCl) (tys := eT E) (ci := 0) (C := RX0) (T := TX0) (N := 4) (v := .ref (eC E 5)) hx hb hts hinX0 hown hE.1 hW.1 15 rfl rfl 0 (by decide) (hts (.fieldLink RX0 9 "DialGarden$Changes" "places" "[I") (by decide +kernel)) (fun _ h9 => h9) rfl dX0_keep_16 ?_
    refine lv_aload_n hx hb dX0_keep_19 rfl (lv_at hl 0 rfl) ?_
    refine va_get (D := eD E) (cl := vwCl) (tys := eT E) (ci := 0) (C := RX0) (T := TX0) (N := 4) (v := .int (r9)) hx hb hts hinX0 hown hE.1 hW.1 15 rfl rfl 2 (by decide) (hts (.fieldLink RX0 21 "DialGarden$Changes" "latest" "I") (by decide +kernel)) (fun _ h9 => h9) rfl dX0_keep_20 ?_
    refine lv_iload_n hx hb dX0_keep_23 rfl (lv_at hl 1 rfl) ?_
    refine va_iast (D := eD E) (cl := vwCl) (tys := eT E) (A := eA E) (f := S.1 5) (x := p1) hx hb hE.1 hW.1 hW.2 hS 16 0 rfl rfl (by rw [er9]; exact fmod_in _) dX0_keep_24 (fun H locs hP hD hS => ?_)
    have hW : gW E M (pI (pI S 4 2 r9) 5 (r9.toNatClampNeg) p1) H := gW.of (tC_I5 E M (pI S 4 2 r9) (upd (S.1 5) (r9.toNatClampNeg) p1)) hP hD
    refine lv_aload_n hx hb dX0_keep_25 rfl (lv_at hl 0 rfl) ?_
    refine va_get (D := eD E) (cl := vwCl) (tys := eT E) (ci := 0) (C := RX0) (T := TX0) (N := 4) (v := .ref (eC E 6)) hx hb hts hinX0 hown hE.1 hW.1 15 rfl rfl 1 (by decide) (hts (.fieldLink RX0 17 "DialGarden$Changes" "things" "[LDialGarden$Thing;") (by decide +kernel)) (fun _ h9 => h9) rfl dX0_keep_26 ?_
    refine lv_aload_n hx hb dX0_keep_29 rfl (lv_at hl 0 rfl) ?_
    refine va_get (D := eD E) (cl := vwCl) (tys := eT E) (ci := 0) (C := RX0) (T := TX0) (N := 4) (v := .int (r9)) hx hb hts hinX0 hown hE.1 hW.1 15 rfl rfl 2 (by decide) (hts (.fieldLink RX0 21 "DialGarden$Changes" "latest" "I") (by decide +kernel)) (fun _ h9 => h9) rfl dX0_keep_30 ?_
    refine lv_aload_nN hx hb dX0_keep_33 rfl (lv_at hl 2 rfl) ?_
    refine va_astqN (D := eD E) (cl := vwCl) (tys := eT E) (A := eA E) (f := S.2.1 6) hx hb hE.1 hW.1 hW.2 hS 17 4 rfl rfl (by rw [er9]; exact fmod_in _) dX0_keep_34 (fun H locs hP hD hS => ?_)
    have hW : gW E M (sR (pI (pI S 4 2 r9) 5 (r9.toNatClampNeg) p1) 6 (va_up (S.2.1 6) (r9.toNatClampNeg) none)) H := gW.of (tC_R6 E M (pI (pI S 4 2 r9) 5 (r9.toNatClampNeg) p1) (va_up (S.2.1 6) (r9.toNatClampNeg) none)) hP hD
    refine lv_aload_n hx hb dX0_keep_35 rfl (lv_at hl 0 rfl) ?_
    refine lv_aload_n hx hb dX0_keep_36 rfl (lv_at hl 0 rfl) ?_
    refine va_get (D := eD E) (cl := vwCl) (tys := eT E) (ci := 0) (C := RX0) (T := TX0) (N := 4) (v := .int (S.1 4 3)) hx hb hts hinX0 hown hE.1 hW.1 15 rfl rfl 3 (by decide) (hts (.fieldLink RX0 25 "DialGarden$Changes" "kept" "I") (by decide +kernel)) (fun _ h9 => h9) rfl dX0_keep_37 ?_
    refine lv_iconst (v := 1) hx hb dX0_keep_40 (by decide) ?_
    refine lv_iadd hx hb dX0_keep_41 ?_
    refine lv_bipush (v := 16) hx hb dX0_keep_42 (by decide) ?_
    refine va_mmin (rest := [.ref (eC E 4)]) hx hb (hml.trans hl.1.symm) hown (hts (.methodLink RX0 34 Lib.Math.min.name) (by decide +kernel)) (hts (.static Lib.Math.min.name) (by decide +kernel)) (hts (.initialized "java/lang/Math") (by decide +kernel)) (hts (.code Lib.Math.min.name Lib.Math.min.code 2 (some .int)) (by decide +kernel)) (Nat.le_of_ble_eq_true rfl) (Nat.le_of_ble_eq_true rfl) (Nat.le_of_ble_eq_true rfl) (Nat.le_of_ble_eq_true rfl) dX0_keep_44 ?_
    refine va_put (D := eD E) (cl := vwCl) (tys := eT E) (A := eA E) (ci := 0) (C := RX0) (T := TX0) (N := 4) (v := .int ((if 16 < ((S.1 4 3) + 1) then 16 else ((S.1 4 3) + 1)))) (ty := .int) hx hb hts hinX0 tyX0 tyX0_ok nmX0 hown hE.1 hW.1 hW.2 hS 15 rfl rfl 3 (by decide) (hts (.fieldLink RX0 25 "DialGarden$Changes" "kept" "I") (by decide +kernel)) (fun _ h9 => h9) rfl (by decide +kernel) rfl rfl (Nat.le_of_ble_eq_true rfl) dX0_keep_47 (fun H locs hP hD hS => ?_)
    have hW : gW E M (pI (sR (pI (pI S 4 2 r9) 5 (r9.toNatClampNeg) p1) 6 (va_up (S.2.1 6) (r9.toNatClampNeg) none)) 4 3 (if 16 < ((S.1 4 3) + 1) then 16 else ((S.1 4 3) + 1))) H := gW.of (uC_4_3 E M (sR (pI (pI S 4 2 r9) 5 (r9.toNatClampNeg) p1) 6 (va_up (S.2.1 6) (r9.toNatClampNeg) none)) (if 16 < ((S.1 4 3) + 1) then 16 else ((S.1 4 3) + 1))) hP hD
    exact W.vret hx hb hr (fun t ht _ => ⟨⟨pI (sR (pI (pI S 4 2 r9) 5 (r9.toNatClampNeg) p1) 6 (va_up (S.2.1 6) (r9.toNatClampNeg) none)) 4 3 (if 16 < ((S.1 4 3) + 1) then 16 else ((S.1 4 3) + 1)), rfl, by subst er9; first | (simp only [q_X0_keep]; done) | contradiction, by dsimp only; rw [ht]; exact hW⟩, hS.F ht⟩) hS.2.2 dX0_keep_50
  · have hLb2 : b2 ∈ S.2.2.1 := ho2 _ rfl
    have hl := lv_entry ([.ref (eC E 4), .int (p1), va_rf (some b2)]) (n := 3) (Nat.le_of_ble_eq_true rfl)
    rw [lg_entry_eq]
    generalize (lg_sl ([.ref (eC E 4), .int (p1), va_rf (some b2)]) ++ List.replicate (3 - (lg_sl ([.ref (eC E 4), .int (p1), va_rf (some b2)])).length) Slot.unset).toArray = ls at hl ⊢
    have hl : lv_has ls 3 [(0, .ref (eC E 4)), (1, .int (p1)), (2, .ref (b2))] := hl
    refine lv_aload_n hx hb dX0_keep_0 rfl (lv_at hl 0 rfl) ?_
    refine lv_aload_n hx hb dX0_keep_1 rfl (lv_at hl 0 rfl) ?_
    refine va_get (D := eD E) (cl := vwCl) (tys := eT E) (ci := 0) (C := RX0) (T := TX0) (N := 4) (v := .int (S.1 4 2)) hx hb hts hinX0 hown hE.1 hW.1 15 rfl rfl 2 (by decide) (hts (.fieldLink RX0 21 "DialGarden$Changes" "latest" "I") (by decide +kernel)) (fun _ h9 => h9) rfl dX0_keep_2 ?_
    refine lv_iconst (v := 1) hx hb dX0_keep_5 (by decide) ?_
    refine lv_iadd hx hb dX0_keep_6 ?_
    refine lv_bipush (v := 16) hx hb dX0_keep_7 (by decide) ?_
    refine k_Si (va_runS (As := [.int ((S.1 4 2) + 1), .int (16)]) (rest := [.ref (eC E 4)]) ⟨hx, hb, hml, hown, hts⟩ (c_J9_floorMod_7cf53 l ((S.1 4 2) + 1) 16 (by decide)) (va_cwS 2 hts gX0_keep_J9_floorMod_7cf53 rfl rfl rfl (by decide +kernel) ⟨Nat.le_of_ble_eq_true rfl, Nat.le_of_ble_eq_true rfl⟩) gP0 rfl rfl hl.1 rfl (lv_room (Nat.le_of_ble_eq_true rfl)) dX0_keep_9 ⟨Nat.le_of_ble_eq_true rfl, Nat.le_of_ble_eq_true rfl⟩) (fun r9 er9 => ?_)
    refine va_put (D := eD E) (cl := vwCl) (tys := eT E) (A := eA E) (ci := 0) (C := RX0) (T := TX0) (N := 4) (v := .int (r9)) (ty := .int) hx hb hts hinX0 tyX0 tyX0_ok nmX0 hown hE.1 hW.1 hW.2 hS 15 rfl rfl 2 (by decide) (hts (.fieldLink RX0 21 "DialGarden$Changes" "latest" "I") (by decide +kernel)) (fun _ h9 => h9) rfl (by decide +kernel) rfl rfl (Nat.le_of_ble_eq_true rfl) dX0_keep_12 (fun H locs hP hD hS => ?_)
    have hW : gW E M (pI S 4 2 r9) H := gW.of (uC_4_2 E M S r9) hP hD
    refine lv_aload_n hx hb dX0_keep_15 rfl (lv_at hl 0 rfl) ?_
    refine va_get (D := eD E) (cl := vwCl) (tys := eT E) (ci := 0) (C := RX0) (T := TX0) (N := 4) (v := .ref (eC E 5)) hx hb hts hinX0 hown hE.1 hW.1 15 rfl rfl 0 (by decide) (hts (.fieldLink RX0 9 "DialGarden$Changes" "places" "[I") (by decide +kernel)) (fun _ h9 => h9) rfl dX0_keep_16 ?_
    refine lv_aload_n hx hb dX0_keep_19 rfl (lv_at hl 0 rfl) ?_
    refine va_get (D := eD E) (cl := vwCl) (tys := eT E) (ci := 0) (C := RX0) (T := TX0) (N := 4) (v := .int (r9)) hx hb hts hinX0 hown hE.1 hW.1 15 rfl rfl 2 (by decide) (hts (.fieldLink RX0 21 "DialGarden$Changes" "latest" "I") (by decide +kernel)) (fun _ h9 => h9) rfl dX0_keep_20 ?_
    refine lv_iload_n hx hb dX0_keep_23 rfl (lv_at hl 1 rfl) ?_
    refine va_iast (D := eD E) (cl := vwCl) (tys := eT E) (A := eA E) (f := S.1 5) (x := p1) hx hb hE.1 hW.1 hW.2 hS 16 0 rfl rfl (by rw [er9]; exact fmod_in _) dX0_keep_24 (fun H locs hP hD hS => ?_)
    have hW : gW E M (pI (pI S 4 2 r9) 5 (r9.toNatClampNeg) p1) H := gW.of (tC_I5 E M (pI S 4 2 r9) (upd (S.1 5) (r9.toNatClampNeg) p1)) hP hD
    refine lv_aload_n hx hb dX0_keep_25 rfl (lv_at hl 0 rfl) ?_
    refine va_get (D := eD E) (cl := vwCl) (tys := eT E) (ci := 0) (C := RX0) (T := TX0) (N := 4) (v := .ref (eC E 6)) hx hb hts hinX0 hown hE.1 hW.1 15 rfl rfl 1 (by decide) (hts (.fieldLink RX0 17 "DialGarden$Changes" "things" "[LDialGarden$Thing;") (by decide +kernel)) (fun _ h9 => h9) rfl dX0_keep_26 ?_
    refine lv_aload_n hx hb dX0_keep_29 rfl (lv_at hl 0 rfl) ?_
    refine va_get (D := eD E) (cl := vwCl) (tys := eT E) (ci := 0) (C := RX0) (T := TX0) (N := 4) (v := .int (r9)) hx hb hts hinX0 hown hE.1 hW.1 15 rfl rfl 2 (by decide) (hts (.fieldLink RX0 21 "DialGarden$Changes" "latest" "I") (by decide +kernel)) (fun _ h9 => h9) rfl dX0_keep_30 ?_
    refine lv_aload_n hx hb dX0_keep_33 rfl (lv_at hl 2 rfl) ?_
    by_cases hK34 : S.2.2.2.1 b2 = 1
    · obtain ⟨k34, hk34⟩ := wJ_d E M (S := pI (pI S 4 2 r9) 5 (r9.toNatClampNeg) p1) hLb2 hK34
      refine va_astqO (D := eD E) (cl := vwCl) (tys := eT E) (A := eA E) (f := S.2.1 6) (r := (RX1, TX1, 7)) (E := "DialGarden$Thing") hx hb hE.1 hW.1 hW.2 hS 17 4 k34 1 rfl rfl (hE.2.2.1 (.castable "DialGarden$Dial" "DialGarden$Thing") (by decide +kernel)) hk34 rfl (by rw [er9]; exact fmod_in _) dX0_keep_34 (fun H locs hP hD hS => ?_)
      have hW : gW E M (sR (pI (pI S 4 2 r9) 5 (r9.toNatClampNeg) p1) 6 (va_up (S.2.1 6) (r9.toNatClampNeg) (some b2))) H := gW.of (tC_R6 E M (pI (pI S 4 2 r9) 5 (r9.toNatClampNeg) p1) (va_up (S.2.1 6) (r9.toNatClampNeg) (some b2))) hP hD
      refine lv_aload_n hx hb dX0_keep_35 rfl (lv_at hl 0 rfl) ?_
      refine lv_aload_n hx hb dX0_keep_36 rfl (lv_at hl 0 rfl) ?_
      refine va_get (D := eD E) (cl := vwCl) (tys := eT E) (ci := 0) (C := RX0) (T := TX0) (N := 4) (v := .int (S.1 4 3)) hx hb hts hinX0 hown hE.1 hW.1 15 rfl rfl 3 (by decide) (hts (.fieldLink RX0 25 "DialGarden$Changes" "kept" "I") (by decide +kernel)) (fun _ h9 => h9) rfl dX0_keep_37 ?_
      refine lv_iconst (v := 1) hx hb dX0_keep_40 (by decide) ?_
      refine lv_iadd hx hb dX0_keep_41 ?_
      refine lv_bipush (v := 16) hx hb dX0_keep_42 (by decide) ?_
      refine va_mmin (rest := [.ref (eC E 4)]) hx hb (hml.trans hl.1.symm) hown (hts (.methodLink RX0 34 Lib.Math.min.name) (by decide +kernel)) (hts (.static Lib.Math.min.name) (by decide +kernel)) (hts (.initialized "java/lang/Math") (by decide +kernel)) (hts (.code Lib.Math.min.name Lib.Math.min.code 2 (some .int)) (by decide +kernel)) (Nat.le_of_ble_eq_true rfl) (Nat.le_of_ble_eq_true rfl) (Nat.le_of_ble_eq_true rfl) (Nat.le_of_ble_eq_true rfl) dX0_keep_44 ?_
      refine va_put (D := eD E) (cl := vwCl) (tys := eT E) (A := eA E) (ci := 0) (C := RX0) (T := TX0) (N := 4) (v := .int ((if 16 < ((S.1 4 3) + 1) then 16 else ((S.1 4 3) + 1)))) (ty := .int) hx hb hts hinX0 tyX0 tyX0_ok nmX0 hown hE.1 hW.1 hW.2 hS 15 rfl rfl 3 (by decide) (hts (.fieldLink RX0 25 "DialGarden$Changes" "kept" "I") (by decide +kernel)) (fun _ h9 => h9) rfl (by decide +kernel) rfl rfl (Nat.le_of_ble_eq_true rfl) dX0_keep_47 (fun H locs hP hD hS => ?_)
      have hW : gW E M (pI (sR (pI (pI S 4 2 r9) 5 (r9.toNatClampNeg) p1) 6 (va_up (S.2.1 6) (r9.toNatClampNeg) (some b2))) 4 3 (if 16 < ((S.1 4 3) + 1) then 16 else ((S.1 4 3) + 1))) H := gW.of (uC_4_3 E M (sR (pI (pI S 4 2 r9) 5 (r9.toNatClampNeg) p1) 6 (va_up (S.2.1 6) (r9.toNatClampNeg) (some b2))) (if 16 < ((S.1 4 3) + 1) then 16 else ((S.1 4 3) + 1))) hP hD
      exact W.vret hx hb hr (fun t ht _ => ⟨⟨pI (sR (pI (pI S 4 2 r9) 5 (r9.toNatClampNeg) p1) 6 (va_up (S.2.1 6) (r9.toNatClampNeg) (some b2))) 4 3 (if 16 < ((S.1 4 3) + 1) then 16 else ((S.1 4 3) + 1)), rfl, by subst er9; first | (simp only [q_X0_keep]; done) | contradiction, by dsimp only; rw [ht]; exact hW⟩, hS.F ht⟩) hS.2.2 dX0_keep_50
    · obtain ⟨k34, hk34⟩ := wJ_h E M (S := pI (pI S 4 2 r9) 5 (r9.toNatClampNeg) p1) hLb2 hK34
      refine va_astqO (D := eD E) (cl := vwCl) (tys := eT E) (A := eA E) (f := S.2.1 6) (r := (RX2, TX2, 5)) (E := "DialGarden$Thing") hx hb hE.1 hW.1 hW.2 hS 17 4 k34 2 rfl rfl (hE.2.2.1 (.castable "DialGarden$House" "DialGarden$Thing") (by decide +kernel)) hk34 rfl (by rw [er9]; exact fmod_in _) dX0_keep_34 (fun H locs hP hD hS => ?_)
      have hW : gW E M (sR (pI (pI S 4 2 r9) 5 (r9.toNatClampNeg) p1) 6 (va_up (S.2.1 6) (r9.toNatClampNeg) (some b2))) H := gW.of (tC_R6 E M (pI (pI S 4 2 r9) 5 (r9.toNatClampNeg) p1) (va_up (S.2.1 6) (r9.toNatClampNeg) (some b2))) hP hD
      refine lv_aload_n hx hb dX0_keep_35 rfl (lv_at hl 0 rfl) ?_
      refine lv_aload_n hx hb dX0_keep_36 rfl (lv_at hl 0 rfl) ?_
      refine va_get (D := eD E) (cl := vwCl) (tys := eT E) (ci := 0) (C := RX0) (T := TX0) (N := 4) (v := .int (S.1 4 3)) hx hb hts hinX0 hown hE.1 hW.1 15 rfl rfl 3 (by decide) (hts (.fieldLink RX0 25 "DialGarden$Changes" "kept" "I") (by decide +kernel)) (fun _ h9 => h9) rfl dX0_keep_37 ?_
      refine lv_iconst (v := 1) hx hb dX0_keep_40 (by decide) ?_
      refine lv_iadd hx hb dX0_keep_41 ?_
      refine lv_bipush (v := 16) hx hb dX0_keep_42 (by decide) ?_
      refine va_mmin (rest := [.ref (eC E 4)]) hx hb (hml.trans hl.1.symm) hown (hts (.methodLink RX0 34 Lib.Math.min.name) (by decide +kernel)) (hts (.static Lib.Math.min.name) (by decide +kernel)) (hts (.initialized "java/lang/Math") (by decide +kernel)) (hts (.code Lib.Math.min.name Lib.Math.min.code 2 (some .int)) (by decide +kernel)) (Nat.le_of_ble_eq_true rfl) (Nat.le_of_ble_eq_true rfl) (Nat.le_of_ble_eq_true rfl) (Nat.le_of_ble_eq_true rfl) dX0_keep_44 ?_
      refine va_put (D := eD E) (cl := vwCl) (tys := eT E) (A := eA E) (ci := 0) (C := RX0) (T := TX0) (N := 4) (v := .int ((if 16 < ((S.1 4 3) + 1) then 16 else ((S.1 4 3) + 1)))) (ty := .int) hx hb hts hinX0 tyX0 tyX0_ok nmX0 hown hE.1 hW.1 hW.2 hS 15 rfl rfl 3 (by decide) (hts (.fieldLink RX0 25 "DialGarden$Changes" "kept" "I") (by decide +kernel)) (fun _ h9 => h9) rfl (by decide +kernel) rfl rfl (Nat.le_of_ble_eq_true rfl) dX0_keep_47 (fun H locs hP hD hS => ?_)
      have hW : gW E M (pI (sR (pI (pI S 4 2 r9) 5 (r9.toNatClampNeg) p1) 6 (va_up (S.2.1 6) (r9.toNatClampNeg) (some b2))) 4 3 (if 16 < ((S.1 4 3) + 1) then 16 else ((S.1 4 3) + 1))) H := gW.of (uC_4_3 E M (sR (pI (pI S 4 2 r9) 5 (r9.toNatClampNeg) p1) 6 (va_up (S.2.1 6) (r9.toNatClampNeg) (some b2))) (if 16 < ((S.1 4 3) + 1) then 16 else ((S.1 4 3) + 1))) hP hD
      exact W.vret hx hb hr (fun t ht _ => ⟨⟨pI (sR (pI (pI S 4 2 r9) 5 (r9.toNatClampNeg) p1) 6 (va_up (S.2.1 6) (r9.toNatClampNeg) (some b2))) 4 3 (if 16 < ((S.1 4 3) + 1) then 16 else ((S.1 4 3) + 1)), rfl, by subst er9; first | (simp only [q_X0_keep]; done) | contradiction, by dsimp only; rw [ht]; exact hW⟩, hS.F ht⟩) hS.2.2 dX0_keep_50
theorem qp_X0_keep (S : gSc) (p1 : Int32) (p2 : Option Nat) : (q_X0_keep S p1 p2).2.2 = S.2.2 := by
  unfold q_X0_keep
  try dsimp only
  (repeat' split) <;> first | (simp only [pI_2, sR_22]; done) | rfl
