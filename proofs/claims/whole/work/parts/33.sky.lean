def q_X8_setLatitude (S : gSc) (p1 : Int32) : gSc := (let r7 := q_X10_sineOf p1; (let r15 := q_X10_cosineOf p1; pI (pI (pI S 1 2 p1) 1 3 r7) 1 4 r15))
set_option maxHeartbeats 4000000 in
set_option maxRecDepth 100000 in
theorem c_X8_setLatitude (l : Launch) (E : gEE) (M : gSm) (S : gSc) (p1 : Int32)  : Met l yX8_setLatitude wsX8_setLatitude ({ frames := 2, cells := 0, slots := 0, locals := 44 }) (va_Pc [.ref (eC E 1), .int (p1)] (gP E M S)) (va_Qv (fun u : gSc => u = q_X8_setLatitude S p1) (fun u t => gW E M u t.heap) (eA E)) 0 0 (eA E) := by
  refine Met.ofW (cc := cX8_setLatitude) (maxL := 2) (ret := none) (by decide) rfl ?_
  intro p e s m args below meth c s₁ B hml hv
  obtain ⟨rfl, hE, hW⟩ := hv
  have hx := B.exec
  have hb := B.bytes
  have hr := B.returns
  have hts := atoms_spec (ws := wsX8_setLatitude) B.pre
  have hown : s.vm.findClass RX8 = some m.cls := findClass_of_methodNamed B.named
  have hlocks := B.notSynchronized
  have hinX8 : ∀ w ∈ wsX80, w ∈ wsX8_setLatitude := by decide +kernel
  have hS : va_S (eA E) s.heap s.heap [] := va_S.rf
  have hl := lv_entry ([.ref (eC E 1), .int (p1)]) (n := 2) (Nat.le_of_ble_eq_true rfl)
  rw [lg_entry_eq]
  generalize (lg_sl ([.ref (eC E 1), .int (p1)]) ++ List.replicate (2 - (lg_sl ([.ref (eC E 1), .int (p1)])).length) Slot.unset).toArray = ls at hl ⊢
  have hl : lv_has ls 2 [(0, .ref (eC E 1)), (1, .int (p1))] := hl
  have hS : ∃ (H : Heap) (locs : List Loc), H = s.heap ∧ locs = [] ∧ gW E M S H ∧ va_S (eA E) s.heap H locs := ⟨_, _, rfl, rfl, hW, hS⟩
  clear hW
  obtain ⟨H, locs, eH, el, hW, hS⟩ := hS
  rw [← eH, ← el]
  clear eH el
  refine lv_aload_n hx hb dX8_setLatitude_0 rfl (lv_at hl 0 rfl) ?_
  refine lv_iload_n hx hb dX8_setLatitude_1 rfl (lv_at hl 1 rfl) ?_
  refine va_put (D := eD E) (cl := vwCl) (tys := eT E) (A := eA E) (ci := 8) (C := RX8) (T := TX8) (N := 16) (v := .int (p1)) (ty := .int) hx hb hts hinX8 tyX8 tyX8_ok nmX8 hown hE.1 hW.1 hW.2 hS 12 rfl rfl 2 (by decide) (hts (.fieldLink RX8 23 "DialGarden$Sky" "latitude" "I") (by decide +kernel)) (fun _ h9 => h9) rfl (by decide +kernel) rfl rfl (Nat.le_of_ble_eq_true rfl) dX8_setLatitude_2 (fun H locs hP hD hS => ?_)
  have hW : gW E M (pI S 1 2 p1) H := gW.of (uC_1_2 E M S p1) hP hD
  refine lv_aload_n hx hb dX8_setLatitude_5 rfl (lv_at hl 0 rfl) ?_
  refine lv_iload_n hx hb dX8_setLatitude_6 rfl (lv_at hl 1 rfl) ?_
  refine k_Si (va_runSN (As := [.int (p1)]) (rest := [.ref (eC E 1)]) ⟨hx, hb, hml, hown, hts⟩ (c_X10_sineOf l p1) ⟨va_cnB 1 hts gX8_setLatitude_X10_sineOf_n26 rfl rfl rfl (hE.2.2.1 (.methodLinkNest "DialGarden$Sky" 26 ⟨"DialGarden", "sineOf", "(I)I"⟩ "DialGarden") (by decide +kernel)) (hts (.initialized RX10) (by decide +kernel)) (by decide +kernel) ⟨Nat.le_of_ble_eq_true rfl, Nat.le_of_ble_eq_true rfl⟩, hts (.static yX10_sineOf) (by decide +kernel), trivial⟩ gP0 rfl rfl hl.1 rfl (lv_room (Nat.le_of_ble_eq_true rfl)) dX8_setLatitude_7 ⟨Nat.le_of_ble_eq_true rfl, Nat.le_of_ble_eq_true rfl⟩) (fun r7 er7 => ?_)
  refine va_put (D := eD E) (cl := vwCl) (tys := eT E) (A := eA E) (ci := 8) (C := RX8) (T := TX8) (N := 16) (v := .int (r7)) (ty := .int) hx hb hts hinX8 tyX8 tyX8_ok nmX8 hown hE.1 hW.1 hW.2 hS 12 rfl rfl 3 (by decide) (hts (.fieldLink RX8 30 "DialGarden$Sky" "latitudeSine" "I") (by decide +kernel)) (fun _ h9 => h9) rfl (by decide +kernel) rfl rfl (Nat.le_of_ble_eq_true rfl) dX8_setLatitude_10 (fun H locs hP hD hS => ?_)
  have hW : gW E M (pI (pI S 1 2 p1) 1 3 r7) H := gW.of (uC_1_3 E M (pI S 1 2 p1) r7) hP hD
  refine lv_aload_n hx hb dX8_setLatitude_13 rfl (lv_at hl 0 rfl) ?_
  refine lv_iload_n hx hb dX8_setLatitude_14 rfl (lv_at hl 1 rfl) ?_
  refine k_Si (va_runSN (As := [.int (p1)]) (rest := [.ref (eC E 1)]) ⟨hx, hb, hml, hown, hts⟩ (c_X10_cosineOf l p1) ⟨va_cnB 1 hts gX8_setLatitude_X10_cosineOf_n33 rfl rfl rfl (hE.2.2.1 (.methodLinkNest "DialGarden$Sky" 33 ⟨"DialGarden", "cosineOf", "(I)I"⟩ "DialGarden") (by decide +kernel)) (hts (.initialized RX10) (by decide +kernel)) (by decide +kernel) ⟨Nat.le_of_ble_eq_true rfl, Nat.le_of_ble_eq_true rfl⟩, hts (.static yX10_cosineOf) (by decide +kernel), trivial⟩ gP0 rfl rfl hl.1 rfl (lv_room (Nat.le_of_ble_eq_true rfl)) dX8_setLatitude_15 ⟨Nat.le_of_ble_eq_true rfl, Nat.le_of_ble_eq_true rfl⟩) (fun r15 er15 => ?_)
  refine va_put (D := eD E) (cl := vwCl) (tys := eT E) (A := eA E) (ci := 8) (C := RX8) (T := TX8) (N := 16) (v := .int (r15)) (ty := .int) hx hb hts hinX8 tyX8 tyX8_ok nmX8 hown hE.1 hW.1 hW.2 hS 12 rfl rfl 4 (by decide) (hts (.fieldLink RX8 36 "DialGarden$Sky" "latitudeCosine" "I") (by decide +kernel)) (fun _ h9 => h9) rfl (by decide +kernel) rfl rfl (Nat.le_of_ble_eq_true rfl) dX8_setLatitude_18 (fun H locs hP hD hS => ?_)
  have hW : gW E M (pI (pI (pI S 1 2 p1) 1 3 r7) 1 4 r15) H := gW.of (uC_1_4 E M (pI (pI S 1 2 p1) 1 3 r7) r15) hP hD
  exact W.vret hx hb hr (fun t ht _ => ⟨⟨pI (pI (pI S 1 2 p1) 1 3 r7) 1 4 r15, rfl, by subst er15; subst er7; first | (simp only [q_X8_setLatitude]; done) | contradiction, by dsimp only; rw [ht]; exact hW⟩, hS.F ht⟩) hS.2.2 dX8_setLatitude_21
theorem qp_X8_setLatitude (S : gSc) (p1 : Int32) : (q_X8_setLatitude S p1).2.2 = S.2.2 := by
  unfold q_X8_setLatitude
  try dsimp only
  (repeat' split) <;> first | (simp only [pI_2, sR_22]; done) | rfl

def q_J7_fill_53178_b5 (S : gSc) (p2 : Int32) : Nat → Int32 → Int32 → gSc → gSc
  | 0, v2, v3, Z => Z
  | n + 1, v2, v3, Z => (if v3 ≤ v2 then Z else (let x14 := v2 + 1; q_J7_fill_53178_b5 S p2 n x14 v3 (pI Z 2 (v2.toNatClampNeg) p2)))
def q_J7_fill_53178 (S : gSc) (p2 : Int32) : gSc := q_J7_fill_53178_b5 S p2 367 0 366 S
set_option maxHeartbeats 4000000 in
set_option maxRecDepth 100000 in
theorem c_J7_fill_53178 (l : Launch) (E : gEE) (M : gSm) (S : gSc) (p2 : Int32)  : Met l yJ7_fill_53178 wsJ7_fill_53178 ({ frames := 0, cells := 0, slots := 0, locals := 0 }) (va_Pc [.ref (eC E 2), .int (p2)] (gP E M S)) (va_Qv (fun u : gSc => u = q_J7_fill_53178 S p2) (fun u t => gW E M u t.heap) (eA E)) 0 0 (eA E) := by
  refine va_MetF (cc := cJ7_fill_53178) (maxL := 4) (ret := none) (by decide +kernel) rfl ?_
  intro p e s m args below meth c s₁ B hml hv
  obtain ⟨rfl, hE, hW⟩ := hv
  have hx := B.exec
  have hb := B.bytes
  have hr := B.returns
  have hts := atoms_spec (ws := wsJ7_fill_53178) B.pre
  have hown : s.vm.findClass RJ7 = some m.cls := findClass_of_methodNamed B.named
  have hlocks := B.notSynchronized
  have hS : va_S (eA E) s.heap s.heap [] := va_S.rf
  have hl := lv_entry ([.ref (eC E 2), .int (p2)]) (n := 4) (Nat.le_of_ble_eq_true rfl)
  rw [lg_entry_eq]
  generalize (lg_sl ([.ref (eC E 2), .int (p2)]) ++ List.replicate (4 - (lg_sl ([.ref (eC E 2), .int (p2)])).length) Slot.unset).toArray = ls at hl ⊢
  have hl : lv_has ls 4 [(0, .ref (eC E 2)), (1, .int (p2))] := hl
  have hS : ∃ (H : Heap) (locs : List Loc), H = s.heap ∧ locs = [] ∧ gW E M S H ∧ va_S (eA E) s.heap H locs := ⟨_, _, rfl, rfl, hW, hS⟩
  clear hW
  obtain ⟨H, locs, eH, el, hW, hS⟩ := hS
  rw [← eH, ← el]
  clear eH el
  have L5 : ∀ n : Nat, ∀ (v2 : Int32) (v3 : Int32) (Z : gSc) (H : Heap) (locs : List Loc) (ls : Array Slot), (gL 366 n v2 ∧ v3 = 366) → q_J7_fill_53178 S p2 = q_J7_fill_53178_b5 S p2 n v2 v3 Z → gW E M Z H → va_S (eA E) s.heap H locs → lv_has ls 4 [(0, .ref (eC E 2)), (1, .int (p2)), (2, .int (v2)), (3, .int (v3))] → W p l e (headSpec wsJ7_fill_53178 ({ frames := 0, cells := 0, slots := 0, locals := 0 })).room s m ([.ref (eC E 2), .int (p2)] : List Value).toArray below meth c H locs 0 0 (MQ below (va_Qv (fun u : gSc => u = q_J7_fill_53178 S p2) (fun u t => gW E M u t.heap) (eA E)) ([.ref (eC E 2), .int (p2)] : List Value).toArray s 0 0 (eA E)) (F0 m 5 ls []) := by
    intro n
    induction n with
    | zero =>
      intro v2 v3 Z H locs ls hi hq hW hS hl
      exact hi.1.z
    | succ n ih =>
      intro v2 v3 Z H locs ls hi hq hW hS hl
      refine lv_iload_n hx hb dJ7_fill_53178_5 rfl (lv_at hl 2 rfl) ?_
      refine lv_iload_n hx hb dJ7_fill_53178_6 rfl (lv_at hl 3 rfl) ?_
      refine lv_icmp_ge (tgt := 20) hx hb dJ7_fill_53178_7 (by decide) (fun c7 => ?_) (fun c7 => ?_)
      · exact W.vret hx hb hr (fun t ht _ => ⟨⟨Z, rfl, by rw [hq]; first | (simp only [q_J7_fill_53178_b5, if_pos c7]; done) | contradiction, by dsimp only; rw [ht]; exact hW⟩, hS.F ht⟩) hS.2.2 dJ7_fill_53178_20
      · refine lv_aload_n hx hb dJ7_fill_53178_10 rfl (lv_at hl 0 rfl) ?_
        refine lv_iload_n hx hb dJ7_fill_53178_11 rfl (lv_at hl 2 rfl) ?_
        refine lv_iload_n hx hb dJ7_fill_53178_12 rfl (lv_at hl 1 rfl) ?_
        refine va_iast (D := eD E) (cl := vwCl) (tys := eT E) (A := eA E) (f := Z.1 2) (x := p2) hx hb hE.1 hW.1 hW.2 hS 13 0 rfl rfl (vx (hi.1.lt c7 (by rw [hi.2]; decide)).1 (hi.1.lt c7 (by rw [hi.2]; decide)).2) dJ7_fill_53178_13 (fun H locs hP hD hS => ?_)
        have hW : gW E M (pI Z 2 (v2.toNatClampNeg) p2) H := gW.of (tC_I2 E M Z (upd (Z.1 2) (v2.toNatClampNeg) p2)) hP hD
        obtain ⟨x14, ex14⟩ : ∃ y : Int32, y = v2 + 1 := ⟨_, rfl⟩
        refine lv_iinc (v := x14) (lv' := [(2, .int (x14)), (0, .ref (eC E 2)), (1, .int (p2)), (3, .int (v3))]) hx hb dJ7_fill_53178_14 hl (k := 2) rfl (by rw [ex14]; rfl) (by decide) rfl (fun ls hl => ?_)
        refine lv_goto (tgt := 5) hx hb dJ7_fill_53178_17 (by decide) ?_
        exact ih _ _ _ _ _ _ (by exact ⟨hi.1.st c7 (by rw [hi.2]; decide) ex14, hi.2⟩) (by rw [hq]; subst ex14; first | (simp only [q_J7_fill_53178_b5, if_neg c7]; done) | contradiction) hW hS (lv_sub hl [1, 2, 0, 3] rfl)
  refine lv_iconst (v := 0) hx hb dJ7_fill_53178_0 (by decide) ?_
  refine lv_istore_n (lv' := [(2, .int (0)), (0, .ref (eC E 2)), (1, .int (p2))]) hx hb dJ7_fill_53178_1 rfl hl (by decide) rfl (fun ls hl => ?_)
  refine lv_aload_n hx hb dJ7_fill_53178_2 rfl (lv_at hl 1 rfl) ?_
  refine va_alen (D := eD E) (cl := vwCl) (tys := eT E) hx hb hE.1 hW.1 13 0 rfl rfl (v := 366) rfl dJ7_fill_53178_3 ?_
  refine lv_istore_n (lv' := [(3, .int (366)), (2, .int (0)), (0, .ref (eC E 2)), (1, .int (p2))]) hx hb dJ7_fill_53178_4 rfl hl (by decide) rfl (fun ls hl => ?_)
  exact L5 367 _ _ _ _ _ _ (by exact ⟨gL.i 366, rfl⟩) (by first | (simp only [q_J7_fill_53178]; done) | contradiction) hW hS (lv_sub hl [2, 3, 1, 0] rfl)
theorem qp_J7_fill_b (S : gSc) (p : Int32) : ∀ (n : Nat) (v2 v3 : Int32) (Z : gSc), (q_J7_fill_53178_b5 S p n v2 v3 Z).2.2 = Z.2.2
  | 0, _, _, _ => rfl
  | n + 1, v2, v3, Z => by
    unfold q_J7_fill_53178_b5
    split
    · rfl
    · exact (qp_J7_fill_b S p n _ _ _).trans rfl
theorem qp_J7_fill_53178 (S : gSc) (p2 : Int32) : (q_J7_fill_53178 S p2).2.2 = S.2.2 := by
  unfold q_J7_fill_53178
  exact qp_J7_fill_b S p2 _ _ _ _

def q_X8_clearCorrections (S : gSc) (p1 : Int32) : gSc := (let S5 := q_J7_fill_53178 S 0; pI S5 1 1 p1)
set_option maxHeartbeats 4000000 in
set_option maxRecDepth 100000 in
theorem c_X8_clearCorrections (l : Launch) (E : gEE) (M : gSm) (S : gSc) (p1 : Int32)  : Met l yX8_clearCorrections wsX8_clearCorrections ({ frames := 1, cells := 0, slots := 0, locals := 23 }) (va_Pc [.ref (eC E 1), .int (p1)] (gP E M S)) (va_Qv (fun u : gSc => u = q_X8_clearCorrections S p1) (fun u t => gW E M u t.heap) (eA E)) 0 0 (eA E) := by
  refine Met.ofW (cc := cX8_clearCorrections) (maxL := 2) (ret := none) (by decide) rfl ?_
  intro p e s m args below meth c s₁ B hml hv
  obtain ⟨rfl, hE, hW⟩ := hv
  have hx := B.exec
  have hb := B.bytes
  have hr := B.returns
  have hts := atoms_spec (ws := wsX8_clearCorrections) B.pre
  have hown : s.vm.findClass RX8 = some m.cls := findClass_of_methodNamed B.named
  have hlocks := B.notSynchronized
  have hinX8 : ∀ w ∈ wsX80, w ∈ wsX8_clearCorrections := by decide +kernel
  have hS : va_S (eA E) s.heap s.heap [] := va_S.rf
  have hl := lv_entry ([.ref (eC E 1), .int (p1)]) (n := 2) (Nat.le_of_ble_eq_true rfl)
  rw [lg_entry_eq]
  generalize (lg_sl ([.ref (eC E 1), .int (p1)]) ++ List.replicate (2 - (lg_sl ([.ref (eC E 1), .int (p1)])).length) Slot.unset).toArray = ls at hl ⊢
  have hl : lv_has ls 2 [(0, .ref (eC E 1)), (1, .int (p1))] := hl
  have hS : ∃ (H : Heap) (locs : List Loc), H = s.heap ∧ locs = [] ∧ gW E M S H ∧ va_S (eA E) s.heap H locs := ⟨_, _, rfl, rfl, hW, hS⟩
  clear hW
  obtain ⟨H, locs, eH, el, hW, hS⟩ := hS
  rw [← eH, ← el]
  clear eH el
  refine lv_aload_n hx hb dX8_clearCorrections_0 rfl (lv_at hl 0 rfl) ?_
  refine va_get (D := eD E) (cl := vwCl) (tys := eT E) (ci := 8) (C := RX8) (T := TX8) (N := 16) (v := .ref (eC E 2)) hx hb hts hinX8 hown hE.1 hW.1 12 rfl rfl 0 (by decide) (hts (.fieldLink RX8 9 "DialGarden$Sky" "corrections" "[I") (by decide +kernel)) (fun _ h9 => h9) rfl dX8_clearCorrections_1 ?_
  refine lv_iconst (v := 0) hx hb dX8_clearCorrections_4 (by decide) ?_
  refine va_callv (va_runS (As := [.ref (eC E 2), .int (0)]) (rest := []) ⟨hx, hb, hml, hown, hts⟩ (c_J7_fill_53178 l E M S 0) (va_cwS 2 hts gX8_clearCorrections_J7_fill_53178 rfl rfl rfl (by decide +kernel) ⟨Nat.le_of_ble_eq_true rfl, Nat.le_of_ble_eq_true rfl⟩) (gP.S hE hS hW) rfl rfl hl.1 rfl (lv_room (Nat.le_of_ble_eq_true rfl)) dX8_clearCorrections_5 ⟨Nat.le_of_ble_eq_true rfl, Nat.le_of_ble_eq_true rfl⟩) hS (fun _ _ h => h) (fun _ h => h) (fun S5 t H locs ht hvm hw hB hz1 hk1 hS => ?_)
  have eS5 : S5 = q_J7_fill_53178 S 0 := hw
  clear hw
  have hW : gW E M S5 H := by rw [← ht]; exact hB
  have hpS5 : S5.2.2 = S.2.2 := by rw [eS5]; exact (qp_J7_fill_53178 _ _)
  refine lv_aload_n hx hb dX8_clearCorrections_8 rfl (lv_at hl 0 rfl) ?_
  refine lv_iload_n hx hb dX8_clearCorrections_9 rfl (lv_at hl 1 rfl) ?_
  refine va_put (D := eD E) (cl := vwCl) (tys := eT E) (A := eA E) (ci := 8) (C := RX8) (T := TX8) (N := 16) (v := .int (p1)) (ty := .int) hx hb hts hinX8 tyX8 tyX8_ok nmX8 hown hE.1 hW.1 hW.2 hS 12 rfl rfl 1 (by decide) (hts (.fieldLink RX8 15 "DialGarden$Sky" "known" "I") (by decide +kernel)) (fun _ h9 => h9) rfl (by decide +kernel) rfl rfl (Nat.le_of_ble_eq_true rfl) dX8_clearCorrections_10 (fun H locs hP hD hS => ?_)
  have hW : gW E M (pI S5 1 1 p1) H := gW.of (uC_1_1 E M S5 p1) hP hD
  exact W.vret hx hb hr (fun t ht _ => ⟨⟨pI S5 1 1 p1, rfl, by subst eS5; first | (simp only [q_X8_clearCorrections]; done) | contradiction, by dsimp only; rw [ht]; exact hW⟩, hS.F ht⟩) hS.2.2 dX8_clearCorrections_13
theorem cl_aux (Y S : gSc) (p1 : Int32) (h : Y.2.2 = S.2.2) : (let S5 := Y; pI S5 1 1 p1).2.2 = S.2.2 := h
theorem qp_X8_clearCorrections (S : gSc) (p1 : Int32) : (q_X8_clearCorrections S p1).2.2 = S.2.2 := by
  rw [q_X8_clearCorrections]
  exact cl_aux _ S p1 (qp_J7_fill_53178 S 0)

def q_X8_setDay (S : gSc) (p1 : Int32) : gSc := (let r11 := q_X10_within (p1.toInt64) 0 (((S.1 1 1) - 1).toInt64); (if r11 = 0 then (let r44 := q_J9_floorDiv_7cf53 (65536 * (p1 - 80)) 366; (let r47 := q_X10_sineOf r44; (let r50 := q_X10_dot 4267 r47; (let r60 := q_X10_sineOf r50; (let r69 := q_X10_cosineOf r50; (let r81 := q_X10_dot (S.1 1 4) r60; (let r96 := q_X10_dot (S.1 1 3) r69; (let r108 := q_X10_dot (S.1 1 3) r60; (let r123 := q_X10_dot (S.1 1 4) r69; pI (pI (pI (pI (pI (pI (pI S 1 5 0) 1 6 r50) 1 7 r69) 1 8 r81) 1 9 r96) 1 10 r108) 1 11 r123))))))))) else (let r44 := q_J9_floorDiv_7cf53 (65536 * (p1 - 80)) 366; (let r47 := q_X10_sineOf r44; (let r50 := q_X10_dot 4267 r47; (let r60 := q_X10_sineOf r50; (let r69 := q_X10_cosineOf r50; (let r81 := q_X10_dot (S.1 1 4) r60; (let r96 := q_X10_dot (S.1 1 3) r69; (let r108 := q_X10_dot (S.1 1 3) r60; (let r123 := q_X10_dot (S.1 1 4) r69; pI (pI (pI (pI (pI (pI (pI S 1 5 (S.1 2 (p1.toNatClampNeg))) 1 6 r50) 1 7 r69) 1 8 r81) 1 9 r96) 1 10 r108) 1 11 r123)))))))))))
set_option maxHeartbeats 4000000 in
set_option maxRecDepth 100000 in
theorem c_X8_setDay (l : Launch) (E : gEE) (M : gSm) (S : gSc) (p1 : Int32) (hkn0 : 0 ≤ (S.1 1 1).toInt) (hkn : (S.1 1 1).toInt ≤ 366) : Met l yX8_setDay wsX8_setDay ({ frames := 2, cells := 0, slots := 0, locals := 44 }) (va_Pc [.ref (eC E 1), .int (p1)] (gP E M S)) (va_Qv (fun u : gSc => u = q_X8_setDay S p1) (fun u t => gW E M u t.heap) (eA E)) 0 0 (eA E) := by
  refine Met.ofW (cc := cX8_setDay) (maxL := 3) (ret := none) (by decide) rfl ?_
  intro p e s m args below meth c s₁ B hml hv
  obtain ⟨rfl, hE, hW⟩ := hv
  have hx := B.exec
  have hb := B.bytes
  have hr := B.returns
  have hts := atoms_spec (ws := wsX8_setDay) B.pre
  have hown : s.vm.findClass RX8 = some m.cls := findClass_of_methodNamed B.named
  have hlocks := B.notSynchronized
  have hinX8 : ∀ w ∈ wsX80, w ∈ wsX8_setDay := by decide +kernel
  have hS : va_S (eA E) s.heap s.heap [] := va_S.rf
  have hl := lv_entry ([.ref (eC E 1), .int (p1)]) (n := 3) (Nat.le_of_ble_eq_true rfl)
  rw [lg_entry_eq]
  generalize (lg_sl ([.ref (eC E 1), .int (p1)]) ++ List.replicate (3 - (lg_sl ([.ref (eC E 1), .int (p1)])).length) Slot.unset).toArray = ls at hl ⊢
  have hl : lv_has ls 3 [(0, .ref (eC E 1)), (1, .int (p1))] := hl
  have hS : ∃ (H : Heap) (locs : List Loc), H = s.heap ∧ locs = [] ∧ gW E M S H ∧ va_S (eA E) s.heap H locs := ⟨_, _, rfl, rfl, hW, hS⟩
  clear hW
  obtain ⟨H, locs, eH, el, hW, hS⟩ := hS
  rw [← eH, ← el]
  clear eH el
  refine lv_aload_n hx hb dX8_setDay_0 rfl (lv_at hl 0 rfl) ?_
  refine lv_iload_n hx hb dX8_setDay_1 rfl (lv_at hl 1 rfl) ?_
  refine lv_i2l (v := p1.toInt64) hx hb dX8_setDay_2 rfl ?_
  refine lv_lconst (v := 0) hx hb dX8_setDay_3 (by decide) ?_
  refine lv_aload_n hx hb dX8_setDay_4 rfl (lv_at hl 0 rfl) ?_
  refine va_get (D := eD E) (cl := vwCl) (tys := eT E) (ci := 8) (C := RX8) (T := TX8) (N := 16) (v := .int (S.1 1 1)) hx hb hts hinX8 hown hE.1 hW.1 12 rfl rfl 1 (by decide) (hts (.fieldLink RX8 15 "DialGarden$Sky" "known" "I") (by decide +kernel)) (fun _ h9 => h9) rfl dX8_setDay_5 ?_
  refine lv_iconst (v := 1) hx hb dX8_setDay_8 (by decide) ?_
  refine lv_isub hx hb dX8_setDay_9 ?_
  refine lv_i2l (v := ((S.1 1 1) - 1).toInt64) hx hb dX8_setDay_10 rfl ?_
  refine k_Si (va_runSN (As := [.long (p1.toInt64), .long (0), .long (((S.1 1 1) - 1).toInt64)]) (rest := [.ref (eC E 1)]) ⟨hx, hb, hml, hown, hts⟩ (c_X10_within l (p1.toInt64) 0 (((S.1 1 1) - 1).toInt64)) ⟨va_cnB 3 hts gX8_setDay_X10_within_n51 rfl rfl rfl (hE.2.2.1 (.methodLinkNest "DialGarden$Sky" 51 ⟨"DialGarden", "within", "(JJJ)Z"⟩ "DialGarden") (by decide +kernel)) (hts (.initialized RX10) (by decide +kernel)) (by decide +kernel) ⟨Nat.le_of_ble_eq_true rfl, Nat.le_of_ble_eq_true rfl⟩, hts (.static yX10_within) (by decide +kernel), trivial⟩ gP0 rfl rfl hl.1 rfl (lv_room (Nat.le_of_ble_eq_true rfl)) dX8_setDay_11 ⟨Nat.le_of_ble_eq_true rfl, Nat.le_of_ble_eq_true rfl⟩) (fun r11 er11 => ?_)
  refine lv_if_eq (tgt := 26) hx hb dX8_setDay_14 (by decide) (fun c14 => ?_) (fun c14 => ?_)
  · refine lv_iconst (v := 0) hx hb dX8_setDay_26 (by decide) ?_
    refine va_put (D := eD E) (cl := vwCl) (tys := eT E) (A := eA E) (ci := 8) (C := RX8) (T := TX8) (N := 16) (v := .int (0)) (ty := .int) hx hb hts hinX8 tyX8 tyX8_ok nmX8 hown hE.1 hW.1 hW.2 hS 12 rfl rfl 5 (by decide) (hts (.fieldLink RX8 55 "DialGarden$Sky" "correction" "I") (by decide +kernel)) (fun _ h9 => h9) rfl (by decide +kernel) rfl rfl (Nat.le_of_ble_eq_true rfl) dX8_setDay_27 (fun H locs hP hD hS => ?_)
    have hW : gW E M (pI S 1 5 0) H := gW.of (uC_1_5 E M S 0) hP hD
    refine lv_aload_n hx hb dX8_setDay_30 rfl (lv_at hl 0 rfl) ?_
    refine lv_sipush (v := 4267) hx hb dX8_setDay_31 (by decide) ?_
    refine lv_ldc hx hb (v := 65536) hown (hts (.constant RX8 58 (65536)) (by decide +kernel)) dX8_setDay_34 ?_
    refine lv_iload_n hx hb dX8_setDay_36 rfl (lv_at hl 1 rfl) ?_
    refine lv_bipush (v := 80) hx hb dX8_setDay_37 (by decide) ?_
    refine lv_isub hx hb dX8_setDay_39 ?_
    refine lv_imul hx hb dX8_setDay_40 ?_
    refine lv_sipush (v := 366) hx hb dX8_setDay_41 (by decide) ?_
    refine k_Si (va_runS (As := [.int (65536 * (p1 - 80)), .int (366)]) (rest := [.int (4267), .ref (eC E 1)]) ⟨hx, hb, hml, hown, hts⟩ (c_J9_floorDiv_7cf53 l (65536 * (p1 - 80)) 366 (by decide)) (va_cwS 2 hts gX8_setDay_J9_floorDiv_7cf53 rfl rfl rfl (by decide +kernel) ⟨Nat.le_of_ble_eq_true rfl, Nat.le_of_ble_eq_true rfl⟩) gP0 rfl rfl hl.1 rfl (lv_room (Nat.le_of_ble_eq_true rfl)) dX8_setDay_44 ⟨Nat.le_of_ble_eq_true rfl, Nat.le_of_ble_eq_true rfl⟩) (fun r44 er44 => ?_)
    refine k_Si (va_runSN (As := [.int (r44)]) (rest := [.int (4267), .ref (eC E 1)]) ⟨hx, hb, hml, hown, hts⟩ (c_X10_sineOf l r44) ⟨va_cnB 1 hts gX8_setDay_X10_sineOf_n26 rfl rfl rfl (hE.2.2.1 (.methodLinkNest "DialGarden$Sky" 26 ⟨"DialGarden", "sineOf", "(I)I"⟩ "DialGarden") (by decide +kernel)) (hts (.initialized RX10) (by decide +kernel)) (by decide +kernel) ⟨Nat.le_of_ble_eq_true rfl, Nat.le_of_ble_eq_true rfl⟩, hts (.static yX10_sineOf) (by decide +kernel), trivial⟩ gP0 rfl rfl hl.1 rfl (lv_room (Nat.le_of_ble_eq_true rfl)) dX8_setDay_47 ⟨Nat.le_of_ble_eq_true rfl, Nat.le_of_ble_eq_true rfl⟩) (fun r47 er47 => ?_)
    refine k_Si (va_runSN (As := [.int (4267), .int (r47)]) (rest := [.ref (eC E 1)]) ⟨hx, hb, hml, hown, hts⟩ (c_X10_dot l 4267 r47) ⟨va_cnB 2 hts gX8_setDay_X10_dot_n65 rfl rfl rfl (hE.2.2.1 (.methodLinkNest "DialGarden$Sky" 65 ⟨"DialGarden", "dot", "(II)I"⟩ "DialGarden") (by decide +kernel)) (hts (.initialized RX10) (by decide +kernel)) (by decide +kernel) ⟨Nat.le_of_ble_eq_true rfl, Nat.le_of_ble_eq_true rfl⟩, hts (.static yX10_dot) (by decide +kernel), trivial⟩ gP0 rfl rfl hl.1 rfl (lv_room (Nat.le_of_ble_eq_true rfl)) dX8_setDay_50 ⟨Nat.le_of_ble_eq_true rfl, Nat.le_of_ble_eq_true rfl⟩) (fun r50 er50 => ?_)
    refine va_put (D := eD E) (cl := vwCl) (tys := eT E) (A := eA E) (ci := 8) (C := RX8) (T := TX8) (N := 16) (v := .int (r50)) (ty := .int) hx hb hts hinX8 tyX8 tyX8_ok nmX8 hown hE.1 hW.1 hW.2 hS 12 rfl rfl 6 (by decide) (hts (.fieldLink RX8 68 "DialGarden$Sky" "slope" "I") (by decide +kernel)) (fun _ h9 => h9) rfl (by decide +kernel) rfl rfl (Nat.le_of_ble_eq_true rfl) dX8_setDay_53 (fun H locs hP hD hS => ?_)
    have hW : gW E M (pI (pI S 1 5 0) 1 6 r50) H := gW.of (uC_1_6 E M (pI S 1 5 0) r50) hP hD
    refine lv_aload_n hx hb dX8_setDay_56 rfl (lv_at hl 0 rfl) ?_
    refine va_get (D := eD E) (cl := vwCl) (tys := eT E) (ci := 8) (C := RX8) (T := TX8) (N := 16) (v := .int (r50)) hx hb hts hinX8 hown hE.1 hW.1 12 rfl rfl 6 (by decide) (hts (.fieldLink RX8 68 "DialGarden$Sky" "slope" "I") (by decide +kernel)) (fun _ h9 => h9) rfl dX8_setDay_57 ?_
    refine k_Si (va_runSN (As := [.int (r50)]) (rest := []) ⟨hx, hb, hml, hown, hts⟩ (c_X10_sineOf l r50) ⟨va_cnB 1 hts gX8_setDay_X10_sineOf_n26 rfl rfl rfl (hE.2.2.1 (.methodLinkNest "DialGarden$Sky" 26 ⟨"DialGarden", "sineOf", "(I)I"⟩ "DialGarden") (by decide +kernel)) (hts (.initialized RX10) (by decide +kernel)) (by decide +kernel) ⟨Nat.le_of_ble_eq_true rfl, Nat.le_of_ble_eq_true rfl⟩, hts (.static yX10_sineOf) (by decide +kernel), trivial⟩ gP0 rfl rfl hl.1 rfl (lv_room (Nat.le_of_ble_eq_true rfl)) dX8_setDay_60 ⟨Nat.le_of_ble_eq_true rfl, Nat.le_of_ble_eq_true rfl⟩) (fun r60 er60 => ?_)
    refine lv_istore_n (lv' := [(2, .int (r60)), (0, .ref (eC E 1)), (1, .int (p1))]) hx hb dX8_setDay_63 rfl hl (by decide) rfl (fun ls hl => ?_)
    refine lv_aload_n hx hb dX8_setDay_64 rfl (lv_at hl 1 rfl) ?_
    refine lv_aload_n hx hb dX8_setDay_65 rfl (lv_at hl 1 rfl) ?_
    refine va_get (D := eD E) (cl := vwCl) (tys := eT E) (ci := 8) (C := RX8) (T := TX8) (N := 16) (v := .int (r50)) hx hb hts hinX8 hown hE.1 hW.1 12 rfl rfl 6 (by decide) (hts (.fieldLink RX8 68 "DialGarden$Sky" "slope" "I") (by decide +kernel)) (fun _ h9 => h9) rfl dX8_setDay_66 ?_
    refine k_Si (va_runSN (As := [.int (r50)]) (rest := [.ref (eC E 1)]) ⟨hx, hb, hml, hown, hts⟩ (c_X10_cosineOf l r50) ⟨va_cnB 1 hts gX8_setDay_X10_cosineOf_n33 rfl rfl rfl (hE.2.2.1 (.methodLinkNest "DialGarden$Sky" 33 ⟨"DialGarden", "cosineOf", "(I)I"⟩ "DialGarden") (by decide +kernel)) (hts (.initialized RX10) (by decide +kernel)) (by decide +kernel) ⟨Nat.le_of_ble_eq_true rfl, Nat.le_of_ble_eq_true rfl⟩, hts (.static yX10_cosineOf) (by decide +kernel), trivial⟩ gP0 rfl rfl hl.1 rfl (lv_room (Nat.le_of_ble_eq_true rfl)) dX8_setDay_69 ⟨Nat.le_of_ble_eq_true rfl, Nat.le_of_ble_eq_true rfl⟩) (fun r69 er69 => ?_)
    refine va_put (D := eD E) (cl := vwCl) (tys := eT E) (A := eA E) (ci := 8) (C := RX8) (T := TX8) (N := 16) (v := .int (r69)) (ty := .int) hx hb hts hinX8 tyX8 tyX8_ok nmX8 hown hE.1 hW.1 hW.2 hS 12 rfl rfl 7 (by decide) (hts (.fieldLink RX8 71 "DialGarden$Sky" "slopeCosine" "I") (by decide +kernel)) (fun _ h9 => h9) rfl (by decide +kernel) rfl rfl (Nat.le_of_ble_eq_true rfl) dX8_setDay_72 (fun H locs hP hD hS => ?_)
    have hW : gW E M (pI (pI (pI S 1 5 0) 1 6 r50) 1 7 r69) H := gW.of (uC_1_7 E M (pI (pI S 1 5 0) 1 6 r50) r69) hP hD
    refine lv_aload_n hx hb dX8_setDay_75 rfl (lv_at hl 1 rfl) ?_
    refine lv_aload_n hx hb dX8_setDay_76 rfl (lv_at hl 1 rfl) ?_
    refine va_get (D := eD E) (cl := vwCl) (tys := eT E) (ci := 8) (C := RX8) (T := TX8) (N := 16) (v := .int (S.1 1 4)) hx hb hts hinX8 hown hE.1 hW.1 12 rfl rfl 4 (by decide) (hts (.fieldLink RX8 36 "DialGarden$Sky" "latitudeCosine" "I") (by decide +kernel)) (fun _ h9 => h9) rfl dX8_setDay_77 ?_
    refine lv_iload_n hx hb dX8_setDay_80 rfl (lv_at hl 0 rfl) ?_
    refine k_Si (va_runSN (As := [.int (S.1 1 4), .int (r60)]) (rest := [.ref (eC E 1)]) ⟨hx, hb, hml, hown, hts⟩ (c_X10_dot l (S.1 1 4) r60) ⟨va_cnB 2 hts gX8_setDay_X10_dot_n65 rfl rfl rfl (hE.2.2.1 (.methodLinkNest "DialGarden$Sky" 65 ⟨"DialGarden", "dot", "(II)I"⟩ "DialGarden") (by decide +kernel)) (hts (.initialized RX10) (by decide +kernel)) (by decide +kernel) ⟨Nat.le_of_ble_eq_true rfl, Nat.le_of_ble_eq_true rfl⟩, hts (.static yX10_dot) (by decide +kernel), trivial⟩ gP0 rfl rfl hl.1 rfl (lv_room (Nat.le_of_ble_eq_true rfl)) dX8_setDay_81 ⟨Nat.le_of_ble_eq_true rfl, Nat.le_of_ble_eq_true rfl⟩) (fun r81 er81 => ?_)
    refine va_put (D := eD E) (cl := vwCl) (tys := eT E) (A := eA E) (ci := 8) (C := RX8) (T := TX8) (N := 16) (v := .int (r81)) (ty := .int) hx hb hts hinX8 tyX8 tyX8_ok nmX8 hown hE.1 hW.1 hW.2 hS 12 rfl rfl 8 (by decide) (hts (.fieldLink RX8 74 "DialGarden$Sky" "northOfDay" "I") (by decide +kernel)) (fun _ h9 => h9) rfl (by decide +kernel) rfl rfl (Nat.le_of_ble_eq_true rfl) dX8_setDay_84 (fun H locs hP hD hS => ?_)
    have hW : gW E M (pI (pI (pI (pI S 1 5 0) 1 6 r50) 1 7 r69) 1 8 r81) H := gW.of (uC_1_8 E M (pI (pI (pI S 1 5 0) 1 6 r50) 1 7 r69) r81) hP hD
    refine lv_aload_n hx hb dX8_setDay_87 rfl (lv_at hl 1 rfl) ?_
    refine lv_aload_n hx hb dX8_setDay_88 rfl (lv_at hl 1 rfl) ?_
    refine va_get (D := eD E) (cl := vwCl) (tys := eT E) (ci := 8) (C := RX8) (T := TX8) (N := 16) (v := .int (S.1 1 3)) hx hb hts hinX8 hown hE.1 hW.1 12 rfl rfl 3 (by decide) (hts (.fieldLink RX8 30 "DialGarden$Sky" "latitudeSine" "I") (by decide +kernel)) (fun _ h9 => h9) rfl dX8_setDay_89 ?_
    refine lv_aload_n hx hb dX8_setDay_92 rfl (lv_at hl 1 rfl) ?_
    refine va_get (D := eD E) (cl := vwCl) (tys := eT E) (ci := 8) (C := RX8) (T := TX8) (N := 16) (v := .int (r69)) hx hb hts hinX8 hown hE.1 hW.1 12 rfl rfl 7 (by decide) (hts (.fieldLink RX8 71 "DialGarden$Sky" "slopeCosine" "I") (by decide +kernel)) (fun _ h9 => h9) rfl dX8_setDay_93 ?_
    refine k_Si (va_runSN (As := [.int (S.1 1 3), .int (r69)]) (rest := [.ref (eC E 1)]) ⟨hx, hb, hml, hown, hts⟩ (c_X10_dot l (S.1 1 3) r69) ⟨va_cnB 2 hts gX8_setDay_X10_dot_n65 rfl rfl rfl (hE.2.2.1 (.methodLinkNest "DialGarden$Sky" 65 ⟨"DialGarden", "dot", "(II)I"⟩ "DialGarden") (by decide +kernel)) (hts (.initialized RX10) (by decide +kernel)) (by decide +kernel) ⟨Nat.le_of_ble_eq_true rfl, Nat.le_of_ble_eq_true rfl⟩, hts (.static yX10_dot) (by decide +kernel), trivial⟩ gP0 rfl rfl hl.1 rfl (lv_room (Nat.le_of_ble_eq_true rfl)) dX8_setDay_96 ⟨Nat.le_of_ble_eq_true rfl, Nat.le_of_ble_eq_true rfl⟩) (fun r96 er96 => ?_)
    refine va_put (D := eD E) (cl := vwCl) (tys := eT E) (A := eA E) (ci := 8) (C := RX8) (T := TX8) (N := 16) (v := .int (r96)) (ty := .int) hx hb hts hinX8 tyX8 tyX8_ok nmX8 hown hE.1 hW.1 hW.2 hS 12 rfl rfl 9 (by decide) (hts (.fieldLink RX8 77 "DialGarden$Sky" "northByTurn" "I") (by decide +kernel)) (fun _ h9 => h9) rfl (by decide +kernel) rfl rfl (Nat.le_of_ble_eq_true rfl) dX8_setDay_99 (fun H locs hP hD hS => ?_)
    have hW : gW E M (pI (pI (pI (pI (pI S 1 5 0) 1 6 r50) 1 7 r69) 1 8 r81) 1 9 r96) H := gW.of (uC_1_9 E M (pI (pI (pI (pI S 1 5 0) 1 6 r50) 1 7 r69) 1 8 r81) r96) hP hD
    refine lv_aload_n hx hb dX8_setDay_102 rfl (lv_at hl 1 rfl) ?_
    refine lv_aload_n hx hb dX8_setDay_103 rfl (lv_at hl 1 rfl) ?_
    refine va_get (D := eD E) (cl := vwCl) (tys := eT E) (ci := 8) (C := RX8) (T := TX8) (N := 16) (v := .int (S.1 1 3)) hx hb hts hinX8 hown hE.1 hW.1 12 rfl rfl 3 (by decide) (hts (.fieldLink RX8 30 "DialGarden$Sky" "latitudeSine" "I") (by decide +kernel)) (fun _ h9 => h9) rfl dX8_setDay_104 ?_
    refine lv_iload_n hx hb dX8_setDay_107 rfl (lv_at hl 0 rfl) ?_
    refine k_Si (va_runSN (As := [.int (S.1 1 3), .int (r60)]) (rest := [.ref (eC E 1)]) ⟨hx, hb, hml, hown, hts⟩ (c_X10_dot l (S.1 1 3) r60) ⟨va_cnB 2 hts gX8_setDay_X10_dot_n65 rfl rfl rfl (hE.2.2.1 (.methodLinkNest "DialGarden$Sky" 65 ⟨"DialGarden", "dot", "(II)I"⟩ "DialGarden") (by decide +kernel)) (hts (.initialized RX10) (by decide +kernel)) (by decide +kernel) ⟨Nat.le_of_ble_eq_true rfl, Nat.le_of_ble_eq_true rfl⟩, hts (.static yX10_dot) (by decide +kernel), trivial⟩ gP0 rfl rfl hl.1 rfl (lv_room (Nat.le_of_ble_eq_true rfl)) dX8_setDay_108 ⟨Nat.le_of_ble_eq_true rfl, Nat.le_of_ble_eq_true rfl⟩) (fun r108 er108 => ?_)
    refine va_put (D := eD E) (cl := vwCl) (tys := eT E) (A := eA E) (ci := 8) (C := RX8) (T := TX8) (N := 16) (v := .int (r108)) (ty := .int) hx hb hts hinX8 tyX8 tyX8_ok nmX8 hown hE.1 hW.1 hW.2 hS 12 rfl rfl 10 (by decide) (hts (.fieldLink RX8 80 "DialGarden$Sky" "upOfDay" "I") (by decide +kernel)) (fun _ h9 => h9) rfl (by decide +kernel) rfl rfl (Nat.le_of_ble_eq_true rfl) dX8_setDay_111 (fun H locs hP hD hS => ?_)
    have hW : gW E M (pI (pI (pI (pI (pI (pI S 1 5 0) 1 6 r50) 1 7 r69) 1 8 r81) 1 9 r96) 1 10 r108) H := gW.of (uC_1_10 E M (pI (pI (pI (pI (pI S 1 5 0) 1 6 r50) 1 7 r69) 1 8 r81) 1 9 r96) r108) hP hD
    refine lv_aload_n hx hb dX8_setDay_114 rfl (lv_at hl 1 rfl) ?_
    refine lv_aload_n hx hb dX8_setDay_115 rfl (lv_at hl 1 rfl) ?_
    refine va_get (D := eD E) (cl := vwCl) (tys := eT E) (ci := 8) (C := RX8) (T := TX8) (N := 16) (v := .int (S.1 1 4)) hx hb hts hinX8 hown hE.1 hW.1 12 rfl rfl 4 (by decide) (hts (.fieldLink RX8 36 "DialGarden$Sky" "latitudeCosine" "I") (by decide +kernel)) (fun _ h9 => h9) rfl dX8_setDay_116 ?_
    refine lv_aload_n hx hb dX8_setDay_119 rfl (lv_at hl 1 rfl) ?_
    refine va_get (D := eD E) (cl := vwCl) (tys := eT E) (ci := 8) (C := RX8) (T := TX8) (N := 16) (v := .int (r69)) hx hb hts hinX8 hown hE.1 hW.1 12 rfl rfl 7 (by decide) (hts (.fieldLink RX8 71 "DialGarden$Sky" "slopeCosine" "I") (by decide +kernel)) (fun _ h9 => h9) rfl dX8_setDay_120 ?_
    refine k_Si (va_runSN (As := [.int (S.1 1 4), .int (r69)]) (rest := [.ref (eC E 1)]) ⟨hx, hb, hml, hown, hts⟩ (c_X10_dot l (S.1 1 4) r69) ⟨va_cnB 2 hts gX8_setDay_X10_dot_n65 rfl rfl rfl (hE.2.2.1 (.methodLinkNest "DialGarden$Sky" 65 ⟨"DialGarden", "dot", "(II)I"⟩ "DialGarden") (by decide +kernel)) (hts (.initialized RX10) (by decide +kernel)) (by decide +kernel) ⟨Nat.le_of_ble_eq_true rfl, Nat.le_of_ble_eq_true rfl⟩, hts (.static yX10_dot) (by decide +kernel), trivial⟩ gP0 rfl rfl hl.1 rfl (lv_room (Nat.le_of_ble_eq_true rfl)) dX8_setDay_123 ⟨Nat.le_of_ble_eq_true rfl, Nat.le_of_ble_eq_true rfl⟩) (fun r123 er123 => ?_)
    refine va_put (D := eD E) (cl := vwCl) (tys := eT E) (A := eA E) (ci := 8) (C := RX8) (T := TX8) (N := 16) (v := .int (r123)) (ty := .int) hx hb hts hinX8 tyX8 tyX8_ok nmX8 hown hE.1 hW.1 hW.2 hS 12 rfl rfl 11 (by decide) (hts (.fieldLink RX8 83 "DialGarden$Sky" "upByTurn" "I") (by decide +kernel)) (fun _ h9 => h9) rfl (by decide +kernel) rfl rfl (Nat.le_of_ble_eq_true rfl) dX8_setDay_126 (fun H locs hP hD hS => ?_)
    have hW : gW E M (pI (pI (pI (pI (pI (pI (pI S 1 5 0) 1 6 r50) 1 7 r69) 1 8 r81) 1 9 r96) 1 10 r108) 1 11 r123) H := gW.of (uC_1_11 E M (pI (pI (pI (pI (pI (pI S 1 5 0) 1 6 r50) 1 7 r69) 1 8 r81) 1 9 r96) 1 10 r108) r123) hP hD
    exact W.vret hx hb hr (fun t ht _ => ⟨⟨pI (pI (pI (pI (pI (pI (pI S 1 5 0) 1 6 r50) 1 7 r69) 1 8 r81) 1 9 r96) 1 10 r108) 1 11 r123, rfl, by subst er123; subst er108; subst er96; subst er81; subst er69; subst er60; subst er50; subst er47; subst er44; subst er11; first | (simp only [q_X8_setDay, if_pos c14]; done) | contradiction, by dsimp only; rw [ht]; exact hW⟩, hS.F ht⟩) hS.2.2 dX8_setDay_129
  · refine lv_aload_n hx hb dX8_setDay_17 rfl (lv_at hl 0 rfl) ?_
    refine va_get (D := eD E) (cl := vwCl) (tys := eT E) (ci := 8) (C := RX8) (T := TX8) (N := 16) (v := .ref (eC E 2)) hx hb hts hinX8 hown hE.1 hW.1 12 rfl rfl 0 (by decide) (hts (.fieldLink RX8 9 "DialGarden$Sky" "corrections" "[I") (by decide +kernel)) (fun _ h9 => h9) rfl dX8_setDay_18 ?_
    refine lv_iload_n hx hb dX8_setDay_21 rfl (lv_at hl 1 rfl) ?_
    refine va_iald (D := eD E) (cl := vwCl) (tys := eT E) (f := S.1 2) hx hb hE.1 hW.1 13 0 rfl rfl (wi_in er11 c14 hkn0 hkn) dX8_setDay_22 ?_
    refine lv_goto (tgt := 27) hx hb dX8_setDay_23 (by decide) ?_
    refine va_put (D := eD E) (cl := vwCl) (tys := eT E) (A := eA E) (ci := 8) (C := RX8) (T := TX8) (N := 16) (v := .int (S.1 2 (p1.toNatClampNeg))) (ty := .int) hx hb hts hinX8 tyX8 tyX8_ok nmX8 hown hE.1 hW.1 hW.2 hS 12 rfl rfl 5 (by decide) (hts (.fieldLink RX8 55 "DialGarden$Sky" "correction" "I") (by decide +kernel)) (fun _ h9 => h9) rfl (by decide +kernel) rfl rfl (Nat.le_of_ble_eq_true rfl) dX8_setDay_27 (fun H locs hP hD hS => ?_)
    have hW : gW E M (pI S 1 5 (S.1 2 (p1.toNatClampNeg))) H := gW.of (uC_1_5 E M S (S.1 2 (p1.toNatClampNeg))) hP hD
    refine lv_aload_n hx hb dX8_setDay_30 rfl (lv_at hl 0 rfl) ?_
    refine lv_sipush (v := 4267) hx hb dX8_setDay_31 (by decide) ?_
    refine lv_ldc hx hb (v := 65536) hown (hts (.constant RX8 58 (65536)) (by decide +kernel)) dX8_setDay_34 ?_
    refine lv_iload_n hx hb dX8_setDay_36 rfl (lv_at hl 1 rfl) ?_
    refine lv_bipush (v := 80) hx hb dX8_setDay_37 (by decide) ?_
    refine lv_isub hx hb dX8_setDay_39 ?_
    refine lv_imul hx hb dX8_setDay_40 ?_
    refine lv_sipush (v := 366) hx hb dX8_setDay_41 (by decide) ?_
    refine k_Si (va_runS (As := [.int (65536 * (p1 - 80)), .int (366)]) (rest := [.int (4267), .ref (eC E 1)]) ⟨hx, hb, hml, hown, hts⟩ (c_J9_floorDiv_7cf53 l (65536 * (p1 - 80)) 366 (by decide)) (va_cwS 2 hts gX8_setDay_J9_floorDiv_7cf53 rfl rfl rfl (by decide +kernel) ⟨Nat.le_of_ble_eq_true rfl, Nat.le_of_ble_eq_true rfl⟩) gP0 rfl rfl hl.1 rfl (lv_room (Nat.le_of_ble_eq_true rfl)) dX8_setDay_44 ⟨Nat.le_of_ble_eq_true rfl, Nat.le_of_ble_eq_true rfl⟩) (fun r44 er44 => ?_)
    refine k_Si (va_runSN (As := [.int (r44)]) (rest := [.int (4267), .ref (eC E 1)]) ⟨hx, hb, hml, hown, hts⟩ (c_X10_sineOf l r44) ⟨va_cnB 1 hts gX8_setDay_X10_sineOf_n26 rfl rfl rfl (hE.2.2.1 (.methodLinkNest "DialGarden$Sky" 26 ⟨"DialGarden", "sineOf", "(I)I"⟩ "DialGarden") (by decide +kernel)) (hts (.initialized RX10) (by decide +kernel)) (by decide +kernel) ⟨Nat.le_of_ble_eq_true rfl, Nat.le_of_ble_eq_true rfl⟩, hts (.static yX10_sineOf) (by decide +kernel), trivial⟩ gP0 rfl rfl hl.1 rfl (lv_room (Nat.le_of_ble_eq_true rfl)) dX8_setDay_47 ⟨Nat.le_of_ble_eq_true rfl, Nat.le_of_ble_eq_true rfl⟩) (fun r47 er47 => ?_)
    refine k_Si (va_runSN (As := [.int (4267), .int (r47)]) (rest := [.ref (eC E 1)]) ⟨hx, hb, hml, hown, hts⟩ (c_X10_dot l 4267 r47) ⟨va_cnB 2 hts gX8_setDay_X10_dot_n65 rfl rfl rfl (hE.2.2.1 (.methodLinkNest "DialGarden$Sky" 65 ⟨"DialGarden", "dot", "(II)I"⟩ "DialGarden") (by decide +kernel)) (hts (.initialized RX10) (by decide +kernel)) (by decide +kernel) ⟨Nat.le_of_ble_eq_true rfl, Nat.le_of_ble_eq_true rfl⟩, hts (.static yX10_dot) (by decide +kernel), trivial⟩ gP0 rfl rfl hl.1 rfl (lv_room (Nat.le_of_ble_eq_true rfl)) dX8_setDay_50 ⟨Nat.le_of_ble_eq_true rfl, Nat.le_of_ble_eq_true rfl⟩) (fun r50 er50 => ?_)
    refine va_put (D := eD E) (cl := vwCl) (tys := eT E) (A := eA E) (ci := 8) (C := RX8) (T := TX8) (N := 16) (v := .int (r50)) (ty := .int) hx hb hts hinX8 tyX8 tyX8_ok nmX8 hown hE.1 hW.1 hW.2 hS 12 rfl rfl 6 (by decide) (hts (.fieldLink RX8 68 "DialGarden$Sky" "slope" "I") (by decide +kernel)) (fun _ h9 => h9) rfl (by decide +kernel) rfl rfl (Nat.le_of_ble_eq_true rfl) dX8_setDay_53 (fun H locs hP hD hS => ?_)
    have hW : gW E M (pI (pI S 1 5 (S.1 2 (p1.toNatClampNeg))) 1 6 r50) H := gW.of (uC_1_6 E M (pI S 1 5 (S.1 2 (p1.toNatClampNeg))) r50) hP hD
    refine lv_aload_n hx hb dX8_setDay_56 rfl (lv_at hl 0 rfl) ?_
    refine va_get (D := eD E) (cl := vwCl) (tys := eT E) (ci := 8) (C := RX8) (T := TX8) (N := 16) (v := .int (r50)) hx hb hts hinX8 hown hE.1 hW.1 12 rfl rfl 6 (by decide) (hts (.fieldLink RX8 68 "DialGarden$Sky" "slope" "I") (by decide +kernel)) (fun _ h9 => h9) rfl dX8_setDay_57 ?_
    refine k_Si (va_runSN (As := [.int (r50)]) (rest := []) ⟨hx, hb, hml, hown, hts⟩ (c_X10_sineOf l r50) ⟨va_cnB 1 hts gX8_setDay_X10_sineOf_n26 rfl rfl rfl (hE.2.2.1 (.methodLinkNest "DialGarden$Sky" 26 ⟨"DialGarden", "sineOf", "(I)I"⟩ "DialGarden") (by decide +kernel)) (hts (.initialized RX10) (by decide +kernel)) (by decide +kernel) ⟨Nat.le_of_ble_eq_true rfl, Nat.le_of_ble_eq_true rfl⟩, hts (.static yX10_sineOf) (by decide +kernel), trivial⟩ gP0 rfl rfl hl.1 rfl (lv_room (Nat.le_of_ble_eq_true rfl)) dX8_setDay_60 ⟨Nat.le_of_ble_eq_true rfl, Nat.le_of_ble_eq_true rfl⟩) (fun r60 er60 => ?_)
    refine lv_istore_n (lv' := [(2, .int (r60)), (0, .ref (eC E 1)), (1, .int (p1))]) hx hb dX8_setDay_63 rfl hl (by decide) rfl (fun ls hl => ?_)
    refine lv_aload_n hx hb dX8_setDay_64 rfl (lv_at hl 1 rfl) ?_
    refine lv_aload_n hx hb dX8_setDay_65 rfl (lv_at hl 1 rfl) ?_
    refine va_get (D := eD E) (cl := vwCl) (tys := eT E) (ci := 8) (C := RX8) (T := TX8) (N := 16) (v := .int (r50)) hx hb hts hinX8 hown hE.1 hW.1 12 rfl rfl 6 (by decide) (hts (.fieldLink RX8 68 "DialGarden$Sky" "slope" "I") (by decide +kernel)) (fun _ h9 => h9) rfl dX8_setDay_66 ?_
    refine k_Si (va_runSN (As := [.int (r50)]) (rest := [.ref (eC E 1)]) ⟨hx, hb, hml, hown, hts⟩ (c_X10_cosineOf l r50) ⟨va_cnB 1 hts gX8_setDay_X10_cosineOf_n33 rfl rfl rfl (hE.2.2.1 (.methodLinkNest "DialGarden$Sky" 33 ⟨"DialGarden", "cosineOf", "(I)I"⟩ "DialGarden") (by decide +kernel)) (hts (.initialized RX10) (by decide +kernel)) (by decide +kernel) ⟨Nat.le_of_ble_eq_true rfl, Nat.le_of_ble_eq_true rfl⟩, hts (.static yX10_cosineOf) (by decide +kernel), trivial⟩ gP0 rfl rfl hl.1 rfl (lv_room (Nat.le_of_ble_eq_true rfl)) dX8_setDay_69 ⟨Nat.le_of_ble_eq_true rfl, Nat.le_of_ble_eq_true rfl⟩) (fun r69 er69 => ?_)
    refine va_put (D := eD E) (cl := vwCl) (tys := eT E) (A := eA E) (ci := 8) (C := RX8) (T := TX8) (N := 16) (v := .int (r69)) (ty := .int) hx hb hts hinX8 tyX8 tyX8_ok nmX8 hown hE.1 hW.1 hW.2 hS 12 rfl rfl 7 (by decide) (hts (.fieldLink RX8 71 "DialGarden$Sky" "slopeCosine" "I") (by decide +kernel)) (fun _ h9 => h9) rfl (by decide +kernel) rfl rfl (Nat.le_of_ble_eq_true rfl) dX8_setDay_72 (fun H locs hP hD hS => ?_)
    have hW : gW E M (pI (pI (pI S 1 5 (S.1 2 (p1.toNatClampNeg))) 1 6 r50) 1 7 r69) H := gW.of (uC_1_7 E M (pI (pI S 1 5 (S.1 2 (p1.toNatClampNeg))) 1 6 r50) r69) hP hD
    refine lv_aload_n hx hb dX8_setDay_75 rfl (lv_at hl 1 rfl) ?_
    refine lv_aload_n hx hb dX8_setDay_76 rfl (lv_at hl 1 rfl) ?_
    refine va_get (D := eD E) (cl := vwCl) (tys := eT E) (ci := 8) (C := RX8) (T := TX8) (N := 16) (v := .int (S.1 1 4)) hx hb hts hinX8 hown hE.1 hW.1 12 rfl rfl 4 (by decide) (hts (.fieldLink RX8 36 "DialGarden$Sky" "latitudeCosine" "I") (by decide +kernel)) (fun _ h9 => h9) rfl dX8_setDay_77 ?_
    refine lv_iload_n hx hb dX8_setDay_80 rfl (lv_at hl 0 rfl) ?_
    refine k_Si (va_runSN (As := [.int (S.1 1 4), .int (r60)]) (rest := [.ref (eC E 1)]) ⟨hx, hb, hml, hown, hts⟩ (c_X10_dot l (S.1 1 4) r60) ⟨va_cnB 2 hts gX8_setDay_X10_dot_n65 rfl rfl rfl (hE.2.2.1 (.methodLinkNest "DialGarden$Sky" 65 ⟨"DialGarden", "dot", "(II)I"⟩ "DialGarden") (by decide +kernel)) (hts (.initialized RX10) (by decide +kernel)) (by decide +kernel) ⟨Nat.le_of_ble_eq_true rfl, Nat.le_of_ble_eq_true rfl⟩, hts (.static yX10_dot) (by decide +kernel), trivial⟩ gP0 rfl rfl hl.1 rfl (lv_room (Nat.le_of_ble_eq_true rfl)) dX8_setDay_81 ⟨Nat.le_of_ble_eq_true rfl, Nat.le_of_ble_eq_true rfl⟩) (fun r81 er81 => ?_)
    refine va_put (D := eD E) (cl := vwCl) (tys := eT E) (A := eA E) (ci := 8) (C := RX8) (T := TX8) (N := 16) (v := .int (r81)) (ty := .int) hx hb hts hinX8 tyX8 tyX8_ok nmX8 hown hE.1 hW.1 hW.2 hS 12 rfl rfl 8 (by decide) (hts (.fieldLink RX8 74 "DialGarden$Sky" "northOfDay" "I") (by decide +kernel)) (fun _ h9 => h9) rfl (by decide +kernel) rfl rfl (Nat.le_of_ble_eq_true rfl) dX8_setDay_84 (fun H locs hP hD hS => ?_)
    have hW : gW E M (pI (pI (pI (pI S 1 5 (S.1 2 (p1.toNatClampNeg))) 1 6 r50) 1 7 r69) 1 8 r81) H := gW.of (uC_1_8 E M (pI (pI (pI S 1 5 (S.1 2 (p1.toNatClampNeg))) 1 6 r50) 1 7 r69) r81) hP hD
    refine lv_aload_n hx hb dX8_setDay_87 rfl (lv_at hl 1 rfl) ?_
    refine lv_aload_n hx hb dX8_setDay_88 rfl (lv_at hl 1 rfl) ?_
    refine va_get (D := eD E) (cl := vwCl) (tys := eT E) (ci := 8) (C := RX8) (T := TX8) (N := 16) (v := .int (S.1 1 3)) hx hb hts hinX8 hown hE.1 hW.1 12 rfl rfl 3 (by decide) (hts (.fieldLink RX8 30 "DialGarden$Sky" "latitudeSine" "I") (by decide +kernel)) (fun _ h9 => h9) rfl dX8_setDay_89 ?_
    refine lv_aload_n hx hb dX8_setDay_92 rfl (lv_at hl 1 rfl) ?_
    refine va_get (D := eD E) (cl := vwCl) (tys := eT E) (ci := 8) (C := RX8) (T := TX8) (N := 16) (v := .int (r69)) hx hb hts hinX8 hown hE.1 hW.1 12 rfl rfl 7 (by decide) (hts (.fieldLink RX8 71 "DialGarden$Sky" "slopeCosine" "I") (by decide +kernel)) (fun _ h9 => h9) rfl dX8_setDay_93 ?_
    refine k_Si (va_runSN (As := [.int (S.1 1 3), .int (r69)]) (rest := [.ref (eC E 1)]) ⟨hx, hb, hml, hown, hts⟩ (c_X10_dot l (S.1 1 3) r69) ⟨va_cnB 2 hts gX8_setDay_X10_dot_n65 rfl rfl rfl (hE.2.2.1 (.methodLinkNest "DialGarden$Sky" 65 ⟨"DialGarden", "dot", "(II)I"⟩ "DialGarden") (by decide +kernel)) (hts (.initialized RX10) (by decide +kernel)) (by decide +kernel) ⟨Nat.le_of_ble_eq_true rfl, Nat.le_of_ble_eq_true rfl⟩, hts (.static yX10_dot) (by decide +kernel), trivial⟩ gP0 rfl rfl hl.1 rfl (lv_room (Nat.le_of_ble_eq_true rfl)) dX8_setDay_96 ⟨Nat.le_of_ble_eq_true rfl, Nat.le_of_ble_eq_true rfl⟩) (fun r96 er96 => ?_)
    refine va_put (D := eD E) (cl := vwCl) (tys := eT E) (A := eA E) (ci := 8) (C := RX8) (T := TX8) (N := 16) (v := .int (r96)) (ty := .int) hx hb hts hinX8 tyX8 tyX8_ok nmX8 hown hE.1 hW.1 hW.2 hS 12 rfl rfl 9 (by decide) (hts (.fieldLink RX8 77 "DialGarden$Sky" "northByTurn" "I") (by decide +kernel)) (fun _ h9 => h9) rfl (by decide +kernel) rfl rfl (Nat.le_of_ble_eq_true rfl) dX8_setDay_99 (fun H locs hP hD hS => ?_)
    have hW : gW E M (pI (pI (pI (pI (pI S 1 5 (S.1 2 (p1.toNatClampNeg))) 1 6 r50) 1 7 r69) 1 8 r81) 1 9 r96) H := gW.of (uC_1_9 E M (pI (pI (pI (pI S 1 5 (S.1 2 (p1.toNatClampNeg))) 1 6 r50) 1 7 r69) 1 8 r81) r96) hP hD
    refine lv_aload_n hx hb dX8_setDay_102 rfl (lv_at hl 1 rfl) ?_
    refine lv_aload_n hx hb dX8_setDay_103 rfl (lv_at hl 1 rfl) ?_
    refine va_get (D := eD E) (cl := vwCl) (tys := eT E) (ci := 8) (C := RX8) (T := TX8) (N := 16) (v := .int (S.1 1 3)) hx hb hts hinX8 hown hE.1 hW.1 12 rfl rfl 3 (by decide) (hts (.fieldLink RX8 30 "DialGarden$Sky" "latitudeSine" "I") (by decide +kernel)) (fun _ h9 => h9) rfl dX8_setDay_104 ?_
    refine lv_iload_n hx hb dX8_setDay_107 rfl (lv_at hl 0 rfl) ?_
    refine k_Si (va_runSN (As := [.int (S.1 1 3), .int (r60)]) (rest := [.ref (eC E 1)]) ⟨hx, hb, hml, hown, hts⟩ (c_X10_dot l (S.1 1 3) r60) ⟨va_cnB 2 hts gX8_setDay_X10_dot_n65 rfl rfl rfl (hE.2.2.1 (.methodLinkNest "DialGarden$Sky" 65 ⟨"DialGarden", "dot", "(II)I"⟩ "DialGarden") (by decide +kernel)) (hts (.initialized RX10) (by decide +kernel)) (by decide +kernel) ⟨Nat.le_of_ble_eq_true rfl, Nat.le_of_ble_eq_true rfl⟩, hts (.static yX10_dot) (by decide +kernel), trivial⟩ gP0 rfl rfl hl.1 rfl (lv_room (Nat.le_of_ble_eq_true rfl)) dX8_setDay_108 ⟨Nat.le_of_ble_eq_true rfl, Nat.le_of_ble_eq_true rfl⟩) (fun r108 er108 => ?_)
    refine va_put (D := eD E) (cl := vwCl) (tys := eT E) (A := eA E) (ci := 8) (C := RX8) (T := TX8) (N := 16) (v := .int (r108)) (ty := .int) hx hb hts hinX8 tyX8 tyX8_ok nmX8 hown hE.1 hW.1 hW.2 hS 12 rfl rfl 10 (by decide) (hts (.fieldLink RX8 80 "DialGarden$Sky" "upOfDay" "I") (by decide +kernel)) (fun _ h9 => h9) rfl (by decide +kernel) rfl rfl (Nat.le_of_ble_eq_true rfl) dX8_setDay_111 (fun H locs hP hD hS => ?_)
    have hW : gW E M (pI (pI (pI (pI (pI (pI S 1 5 (S.1 2 (p1.toNatClampNeg))) 1 6 r50) 1 7 r69) 1 8 r81) 1 9 r96) 1 10 r108) H := gW.of (uC_1_10 E M (pI (pI (pI (pI (pI S 1 5 (S.1 2 (p1.toNatClampNeg))) 1 6 r50) 1 7 r69) 1 8 r81) 1 9 r96) r108) hP hD
    refine lv_aload_n hx hb dX8_setDay_114 rfl (lv_at hl 1 rfl) ?_
    refine lv_aload_n hx hb dX8_setDay_115 rfl (lv_at hl 1 rfl) ?_
    refine va_get (D := eD E) (cl := vwCl) (tys := eT E) (ci := 8) (C := RX8) (T := TX8) (N := 16) (v := .int (S.1 1 4)) hx hb hts hinX8 hown hE.1 hW.1 12 rfl rfl 4 (by decide) (hts (.fieldLink RX8 36 "DialGarden$Sky" "latitudeCosine" "I") (by decide +kernel)) (fun _ h9 => h9) rfl dX8_setDay_116 ?_
    refine lv_aload_n hx hb dX8_setDay_119 rfl (lv_at hl 1 rfl) ?_
    refine va_get (D := eD E) (cl := vwCl) (tys := eT E) (ci := 8) (C := RX8) (T := TX8) (N := 16) (v := .int (r69)) hx hb hts hinX8 hown hE.1 hW.1 12 rfl rfl 7 (by decide) (hts (.fieldLink RX8 71 "DialGarden$Sky" "slopeCosine" "I") (by decide +kernel)) (fun _ h9 => h9) rfl dX8_setDay_120 ?_
    refine k_Si (va_runSN (As := [.int (S.1 1 4), .int (r69)]) (rest := [.ref (eC E 1)]) ⟨hx, hb, hml, hown, hts⟩ (c_X10_dot l (S.1 1 4) r69) ⟨va_cnB 2 hts gX8_setDay_X10_dot_n65 rfl rfl rfl (hE.2.2.1 (.methodLinkNest "DialGarden$Sky" 65 ⟨"DialGarden", "dot", "(II)I"⟩ "DialGarden") (by decide +kernel)) (hts (.initialized RX10) (by decide +kernel)) (by decide +kernel) ⟨Nat.le_of_ble_eq_true rfl, Nat.le_of_ble_eq_true rfl⟩, hts (.static yX10_dot) (by decide +kernel), trivial⟩ gP0 rfl rfl hl.1 rfl (lv_room (Nat.le_of_ble_eq_true rfl)) dX8_setDay_123 ⟨Nat.le_of_ble_eq_true rfl, Nat.le_of_ble_eq_true rfl⟩) (fun r123 er123 => ?_)
    refine va_put (D := eD E) (cl := vwCl) (tys := eT E) (A := eA E) (ci := 8) (C := RX8) (T := TX8) (N := 16) (v := .int (r123)) (ty := .int) hx hb hts hinX8 tyX8 tyX8_ok nmX8 hown hE.1 hW.1 hW.2 hS 12 rfl rfl 11 (by decide) (hts (.fieldLink RX8 83 "DialGarden$Sky" "upByTurn" "I") (by decide +kernel)) (fun _ h9 => h9) rfl (by decide +kernel) rfl rfl (Nat.le_of_ble_eq_true rfl) dX8_setDay_126 (fun H locs hP hD hS => ?_)
    have hW : gW E M (pI (pI (pI (pI (pI (pI (pI S 1 5 (S.1 2 (p1.toNatClampNeg))) 1 6 r50) 1 7 r69) 1 8 r81) 1 9 r96) 1 10 r108) 1 11 r123) H := gW.of (uC_1_11 E M (pI (pI (pI (pI (pI (pI S 1 5 (S.1 2 (p1.toNatClampNeg))) 1 6 r50) 1 7 r69) 1 8 r81) 1 9 r96) 1 10 r108) r123) hP hD
    exact W.vret hx hb hr (fun t ht _ => ⟨⟨pI (pI (pI (pI (pI (pI (pI S 1 5 (S.1 2 (p1.toNatClampNeg))) 1 6 r50) 1 7 r69) 1 8 r81) 1 9 r96) 1 10 r108) 1 11 r123, rfl, by subst er123; subst er108; subst er96; subst er81; subst er69; subst er60; subst er50; subst er47; subst er44; subst er11; first | (simp only [q_X8_setDay, if_neg c14]; done) | contradiction, by dsimp only; rw [ht]; exact hW⟩, hS.F ht⟩) hS.2.2 dX8_setDay_129
theorem qp_X8_setDay (S : gSc) (p1 : Int32) : (q_X8_setDay S p1).2.2 = S.2.2 := by
  unfold q_X8_setDay
  try dsimp only
  (repeat' split) <;> first | (simp only [pI_2, sR_22]; done) | rfl

def q_X8_setMinute (S : gSc) (p1 : Int32) : gSc := (let r17 := q_J9_floorDiv_7cf53 (2048 * ((p1 + (S.1 1 5)) - 720)) 45; (let r27 := q_X10_cosineOf r17; (let r40 := q_X10_sineOf r17; (let r43 := q_X10_dot (S.1 1 7) r40; (let r60 := q_X10_dot (S.1 1 9) r27; (let r77 := q_X10_dot (S.1 1 11) r27; pI (pI (pI (pI S 1 12 r17) 1 13 (-r43)) 1 14 ((S.1 1 8) - r60)) 1 15 ((S.1 1 10) + r77)))))))
set_option maxHeartbeats 4000000 in
set_option maxRecDepth 100000 in
theorem c_X8_setMinute (l : Launch) (E : gEE) (M : gSm) (S : gSc) (p1 : Int32)  : Met l yX8_setMinute wsX8_setMinute ({ frames := 2, cells := 0, slots := 0, locals := 44 }) (va_Pc [.ref (eC E 1), .int (p1)] (gP E M S)) (va_Qv (fun u : gSc => u = q_X8_setMinute S p1) (fun u t => gW E M u t.heap) (eA E)) 0 0 (eA E) := by
  refine Met.ofW (cc := cX8_setMinute) (maxL := 3) (ret := none) (by decide) rfl ?_
  intro p e s m args below meth c s₁ B hml hv
  obtain ⟨rfl, hE, hW⟩ := hv
  have hx := B.exec
  have hb := B.bytes
  have hr := B.returns
  have hts := atoms_spec (ws := wsX8_setMinute) B.pre
  have hown : s.vm.findClass RX8 = some m.cls := findClass_of_methodNamed B.named
  have hlocks := B.notSynchronized
  have hinX8 : ∀ w ∈ wsX80, w ∈ wsX8_setMinute := by decide +kernel
  have hS : va_S (eA E) s.heap s.heap [] := va_S.rf
  have hl := lv_entry ([.ref (eC E 1), .int (p1)]) (n := 3) (Nat.le_of_ble_eq_true rfl)
  rw [lg_entry_eq]
  generalize (lg_sl ([.ref (eC E 1), .int (p1)]) ++ List.replicate (3 - (lg_sl ([.ref (eC E 1), .int (p1)])).length) Slot.unset).toArray = ls at hl ⊢
  have hl : lv_has ls 3 [(0, .ref (eC E 1)), (1, .int (p1))] := hl
  have hS : ∃ (H : Heap) (locs : List Loc), H = s.heap ∧ locs = [] ∧ gW E M S H ∧ va_S (eA E) s.heap H locs := ⟨_, _, rfl, rfl, hW, hS⟩
  clear hW
  obtain ⟨H, locs, eH, el, hW, hS⟩ := hS
  rw [← eH, ← el]
  clear eH el
  refine lv_aload_n hx hb dX8_setMinute_0 rfl (lv_at hl 0 rfl) ?_
  refine lv_sipush (v := 2048) hx hb dX8_setMinute_1 (by decide) ?_
  refine lv_iload_n hx hb dX8_setMinute_4 rfl (lv_at hl 1 rfl) ?_
  refine lv_aload_n hx hb dX8_setMinute_5 rfl (lv_at hl 0 rfl) ?_
  refine va_get (D := eD E) (cl := vwCl) (tys := eT E) (ci := 8) (C := RX8) (T := TX8) (N := 16) (v := .int (S.1 1 5)) hx hb hts hinX8 hown hE.1 hW.1 12 rfl rfl 5 (by decide) (hts (.fieldLink RX8 55 "DialGarden$Sky" "correction" "I") (by decide +kernel)) (fun _ h9 => h9) rfl dX8_setMinute_6 ?_
  refine lv_iadd hx hb dX8_setMinute_9 ?_
  refine lv_sipush (v := 720) hx hb dX8_setMinute_10 (by decide) ?_
  refine lv_isub hx hb dX8_setMinute_13 ?_
  refine lv_imul hx hb dX8_setMinute_14 ?_
  refine lv_bipush (v := 45) hx hb dX8_setMinute_15 (by decide) ?_
  refine k_Si (va_runS (As := [.int (2048 * ((p1 + (S.1 1 5)) - 720)), .int (45)]) (rest := [.ref (eC E 1)]) ⟨hx, hb, hml, hown, hts⟩ (c_J9_floorDiv_7cf53 l (2048 * ((p1 + (S.1 1 5)) - 720)) 45 (by decide)) (va_cwS 2 hts gX8_setMinute_J9_floorDiv_7cf53 rfl rfl rfl (by decide +kernel) ⟨Nat.le_of_ble_eq_true rfl, Nat.le_of_ble_eq_true rfl⟩) gP0 rfl rfl hl.1 rfl (lv_room (Nat.le_of_ble_eq_true rfl)) dX8_setMinute_17 ⟨Nat.le_of_ble_eq_true rfl, Nat.le_of_ble_eq_true rfl⟩) (fun r17 er17 => ?_)
  refine va_put (D := eD E) (cl := vwCl) (tys := eT E) (A := eA E) (ci := 8) (C := RX8) (T := TX8) (N := 16) (v := .int (r17)) (ty := .int) hx hb hts hinX8 tyX8 tyX8_ok nmX8 hown hE.1 hW.1 hW.2 hS 12 rfl rfl 12 (by decide) (hts (.fieldLink RX8 86 "DialGarden$Sky" "turn" "I") (by decide +kernel)) (fun _ h9 => h9) rfl (by decide +kernel) rfl rfl (Nat.le_of_ble_eq_true rfl) dX8_setMinute_20 (fun H locs hP hD hS => ?_)
  have hW : gW E M (pI S 1 12 r17) H := gW.of (uC_1_12 E M S r17) hP hD
  refine lv_aload_n hx hb dX8_setMinute_23 rfl (lv_at hl 0 rfl) ?_
  refine va_get (D := eD E) (cl := vwCl) (tys := eT E) (ci := 8) (C := RX8) (T := TX8) (N := 16) (v := .int (r17)) hx hb hts hinX8 hown hE.1 hW.1 12 rfl rfl 12 (by decide) (hts (.fieldLink RX8 86 "DialGarden$Sky" "turn" "I") (by decide +kernel)) (fun _ h9 => h9) rfl dX8_setMinute_24 ?_
  refine k_Si (va_runSN (As := [.int (r17)]) (rest := []) ⟨hx, hb, hml, hown, hts⟩ (c_X10_cosineOf l r17) ⟨va_cnB 1 hts gX8_setMinute_X10_cosineOf_n33 rfl rfl rfl (hE.2.2.1 (.methodLinkNest "DialGarden$Sky" 33 ⟨"DialGarden", "cosineOf", "(I)I"⟩ "DialGarden") (by decide +kernel)) (hts (.initialized RX10) (by decide +kernel)) (by decide +kernel) ⟨Nat.le_of_ble_eq_true rfl, Nat.le_of_ble_eq_true rfl⟩, hts (.static yX10_cosineOf) (by decide +kernel), trivial⟩ gP0 rfl rfl hl.1 rfl (lv_room (Nat.le_of_ble_eq_true rfl)) dX8_setMinute_27 ⟨Nat.le_of_ble_eq_true rfl, Nat.le_of_ble_eq_true rfl⟩) (fun r27 er27 => ?_)
  refine lv_istore_n (lv' := [(2, .int (r27)), (0, .ref (eC E 1)), (1, .int (p1))]) hx hb dX8_setMinute_30 rfl hl (by decide) rfl (fun ls hl => ?_)
  refine lv_aload_n hx hb dX8_setMinute_31 rfl (lv_at hl 1 rfl) ?_
  refine lv_aload_n hx hb dX8_setMinute_32 rfl (lv_at hl 1 rfl) ?_
  refine va_get (D := eD E) (cl := vwCl) (tys := eT E) (ci := 8) (C := RX8) (T := TX8) (N := 16) (v := .int (S.1 1 7)) hx hb hts hinX8 hown hE.1 hW.1 12 rfl rfl 7 (by decide) (hts (.fieldLink RX8 71 "DialGarden$Sky" "slopeCosine" "I") (by decide +kernel)) (fun _ h9 => h9) rfl dX8_setMinute_33 ?_
  refine lv_aload_n hx hb dX8_setMinute_36 rfl (lv_at hl 1 rfl) ?_
  refine va_get (D := eD E) (cl := vwCl) (tys := eT E) (ci := 8) (C := RX8) (T := TX8) (N := 16) (v := .int (r17)) hx hb hts hinX8 hown hE.1 hW.1 12 rfl rfl 12 (by decide) (hts (.fieldLink RX8 86 "DialGarden$Sky" "turn" "I") (by decide +kernel)) (fun _ h9 => h9) rfl dX8_setMinute_37 ?_
  refine k_Si (va_runSN (As := [.int (r17)]) (rest := [.int (S.1 1 7), .ref (eC E 1)]) ⟨hx, hb, hml, hown, hts⟩ (c_X10_sineOf l r17) ⟨va_cnB 1 hts gX8_setMinute_X10_sineOf_n26 rfl rfl rfl (hE.2.2.1 (.methodLinkNest "DialGarden$Sky" 26 ⟨"DialGarden", "sineOf", "(I)I"⟩ "DialGarden") (by decide +kernel)) (hts (.initialized RX10) (by decide +kernel)) (by decide +kernel) ⟨Nat.le_of_ble_eq_true rfl, Nat.le_of_ble_eq_true rfl⟩, hts (.static yX10_sineOf) (by decide +kernel), trivial⟩ gP0 rfl rfl hl.1 rfl (lv_room (Nat.le_of_ble_eq_true rfl)) dX8_setMinute_40 ⟨Nat.le_of_ble_eq_true rfl, Nat.le_of_ble_eq_true rfl⟩) (fun r40 er40 => ?_)
  refine k_Si (va_runSN (As := [.int (S.1 1 7), .int (r40)]) (rest := [.ref (eC E 1)]) ⟨hx, hb, hml, hown, hts⟩ (c_X10_dot l (S.1 1 7) r40) ⟨va_cnB 2 hts gX8_setMinute_X10_dot_n65 rfl rfl rfl (hE.2.2.1 (.methodLinkNest "DialGarden$Sky" 65 ⟨"DialGarden", "dot", "(II)I"⟩ "DialGarden") (by decide +kernel)) (hts (.initialized RX10) (by decide +kernel)) (by decide +kernel) ⟨Nat.le_of_ble_eq_true rfl, Nat.le_of_ble_eq_true rfl⟩, hts (.static yX10_dot) (by decide +kernel), trivial⟩ gP0 rfl rfl hl.1 rfl (lv_room (Nat.le_of_ble_eq_true rfl)) dX8_setMinute_43 ⟨Nat.le_of_ble_eq_true rfl, Nat.le_of_ble_eq_true rfl⟩) (fun r43 er43 => ?_)
  refine lv_ineg hx hb dX8_setMinute_46 ?_
  refine va_put (D := eD E) (cl := vwCl) (tys := eT E) (A := eA E) (ci := 8) (C := RX8) (T := TX8) (N := 16) (v := .int (-r43)) (ty := .int) hx hb hts hinX8 tyX8 tyX8_ok nmX8 hown hE.1 hW.1 hW.2 hS 12 rfl rfl 13 (by decide) (hts (.fieldLink RX8 89 "DialGarden$Sky" "east" "I") (by decide +kernel)) (fun _ h9 => h9) rfl (by decide +kernel) rfl rfl (Nat.le_of_ble_eq_true rfl) dX8_setMinute_47 (fun H locs hP hD hS => ?_)
  have hW : gW E M (pI (pI S 1 12 r17) 1 13 (-r43)) H := gW.of (uC_1_13 E M (pI S 1 12 r17) (-r43)) hP hD
  refine lv_aload_n hx hb dX8_setMinute_50 rfl (lv_at hl 1 rfl) ?_
  refine lv_aload_n hx hb dX8_setMinute_51 rfl (lv_at hl 1 rfl) ?_
  refine va_get (D := eD E) (cl := vwCl) (tys := eT E) (ci := 8) (C := RX8) (T := TX8) (N := 16) (v := .int (S.1 1 8)) hx hb hts hinX8 hown hE.1 hW.1 12 rfl rfl 8 (by decide) (hts (.fieldLink RX8 74 "DialGarden$Sky" "northOfDay" "I") (by decide +kernel)) (fun _ h9 => h9) rfl dX8_setMinute_52 ?_
  refine lv_aload_n hx hb dX8_setMinute_55 rfl (lv_at hl 1 rfl) ?_
  refine va_get (D := eD E) (cl := vwCl) (tys := eT E) (ci := 8) (C := RX8) (T := TX8) (N := 16) (v := .int (S.1 1 9)) hx hb hts hinX8 hown hE.1 hW.1 12 rfl rfl 9 (by decide) (hts (.fieldLink RX8 77 "DialGarden$Sky" "northByTurn" "I") (by decide +kernel)) (fun _ h9 => h9) rfl dX8_setMinute_56 ?_
  refine lv_iload_n hx hb dX8_setMinute_59 rfl (lv_at hl 0 rfl) ?_
  refine k_Si (va_runSN (As := [.int (S.1 1 9), .int (r27)]) (rest := [.int (S.1 1 8), .ref (eC E 1)]) ⟨hx, hb, hml, hown, hts⟩ (c_X10_dot l (S.1 1 9) r27) ⟨va_cnB 2 hts gX8_setMinute_X10_dot_n65 rfl rfl rfl (hE.2.2.1 (.methodLinkNest "DialGarden$Sky" 65 ⟨"DialGarden", "dot", "(II)I"⟩ "DialGarden") (by decide +kernel)) (hts (.initialized RX10) (by decide +kernel)) (by decide +kernel) ⟨Nat.le_of_ble_eq_true rfl, Nat.le_of_ble_eq_true rfl⟩, hts (.static yX10_dot) (by decide +kernel), trivial⟩ gP0 rfl rfl hl.1 rfl (lv_room (Nat.le_of_ble_eq_true rfl)) dX8_setMinute_60 ⟨Nat.le_of_ble_eq_true rfl, Nat.le_of_ble_eq_true rfl⟩) (fun r60 er60 => ?_)
  refine lv_isub hx hb dX8_setMinute_63 ?_
  refine va_put (D := eD E) (cl := vwCl) (tys := eT E) (A := eA E) (ci := 8) (C := RX8) (T := TX8) (N := 16) (v := .int ((S.1 1 8) - r60)) (ty := .int) hx hb hts hinX8 tyX8 tyX8_ok nmX8 hown hE.1 hW.1 hW.2 hS 12 rfl rfl 14 (by decide) (hts (.fieldLink RX8 92 "DialGarden$Sky" "north" "I") (by decide +kernel)) (fun _ h9 => h9) rfl (by decide +kernel) rfl rfl (Nat.le_of_ble_eq_true rfl) dX8_setMinute_64 (fun H locs hP hD hS => ?_)
  have hW : gW E M (pI (pI (pI S 1 12 r17) 1 13 (-r43)) 1 14 ((S.1 1 8) - r60)) H := gW.of (uC_1_14 E M (pI (pI S 1 12 r17) 1 13 (-r43)) ((S.1 1 8) - r60)) hP hD
  refine lv_aload_n hx hb dX8_setMinute_67 rfl (lv_at hl 1 rfl) ?_
  refine lv_aload_n hx hb dX8_setMinute_68 rfl (lv_at hl 1 rfl) ?_
  refine va_get (D := eD E) (cl := vwCl) (tys := eT E) (ci := 8) (C := RX8) (T := TX8) (N := 16) (v := .int (S.1 1 10)) hx hb hts hinX8 hown hE.1 hW.1 12 rfl rfl 10 (by decide) (hts (.fieldLink RX8 80 "DialGarden$Sky" "upOfDay" "I") (by decide +kernel)) (fun _ h9 => h9) rfl dX8_setMinute_69 ?_
  refine lv_aload_n hx hb dX8_setMinute_72 rfl (lv_at hl 1 rfl) ?_
  refine va_get (D := eD E) (cl := vwCl) (tys := eT E) (ci := 8) (C := RX8) (T := TX8) (N := 16) (v := .int (S.1 1 11)) hx hb hts hinX8 hown hE.1 hW.1 12 rfl rfl 11 (by decide) (hts (.fieldLink RX8 83 "DialGarden$Sky" "upByTurn" "I") (by decide +kernel)) (fun _ h9 => h9) rfl dX8_setMinute_73 ?_
  refine lv_iload_n hx hb dX8_setMinute_76 rfl (lv_at hl 0 rfl) ?_
  refine k_Si (va_runSN (As := [.int (S.1 1 11), .int (r27)]) (rest := [.int (S.1 1 10), .ref (eC E 1)]) ⟨hx, hb, hml, hown, hts⟩ (c_X10_dot l (S.1 1 11) r27) ⟨va_cnB 2 hts gX8_setMinute_X10_dot_n65 rfl rfl rfl (hE.2.2.1 (.methodLinkNest "DialGarden$Sky" 65 ⟨"DialGarden", "dot", "(II)I"⟩ "DialGarden") (by decide +kernel)) (hts (.initialized RX10) (by decide +kernel)) (by decide +kernel) ⟨Nat.le_of_ble_eq_true rfl, Nat.le_of_ble_eq_true rfl⟩, hts (.static yX10_dot) (by decide +kernel), trivial⟩ gP0 rfl rfl hl.1 rfl (lv_room (Nat.le_of_ble_eq_true rfl)) dX8_setMinute_77 ⟨Nat.le_of_ble_eq_true rfl, Nat.le_of_ble_eq_true rfl⟩) (fun r77 er77 => ?_)
  refine lv_iadd hx hb dX8_setMinute_80 ?_
  refine va_put (D := eD E) (cl := vwCl) (tys := eT E) (A := eA E) (ci := 8) (C := RX8) (T := TX8) (N := 16) (v := .int ((S.1 1 10) + r77)) (ty := .int) hx hb hts hinX8 tyX8 tyX8_ok nmX8 hown hE.1 hW.1 hW.2 hS 12 rfl rfl 15 (by decide) (hts (.fieldLink RX8 95 "DialGarden$Sky" "up" "I") (by decide +kernel)) (fun _ h9 => h9) rfl (by decide +kernel) rfl rfl (Nat.le_of_ble_eq_true rfl) dX8_setMinute_81 (fun H locs hP hD hS => ?_)
  have hW : gW E M (pI (pI (pI (pI S 1 12 r17) 1 13 (-r43)) 1 14 ((S.1 1 8) - r60)) 1 15 ((S.1 1 10) + r77)) H := gW.of (uC_1_15 E M (pI (pI (pI S 1 12 r17) 1 13 (-r43)) 1 14 ((S.1 1 8) - r60)) ((S.1 1 10) + r77)) hP hD
  exact W.vret hx hb hr (fun t ht _ => ⟨⟨pI (pI (pI (pI S 1 12 r17) 1 13 (-r43)) 1 14 ((S.1 1 8) - r60)) 1 15 ((S.1 1 10) + r77), rfl, by subst er77; subst er60; subst er43; subst er40; subst er27; subst er17; first | (simp only [q_X8_setMinute]; done) | contradiction, by dsimp only; rw [ht]; exact hW⟩, hS.F ht⟩) hS.2.2 dX8_setMinute_84
theorem qp_X8_setMinute (S : gSc) (p1 : Int32) : (q_X8_setMinute S p1).2.2 = S.2.2 := by
  unfold q_X8_setMinute
  try dsimp only
  (repeat' split) <;> first | (simp only [pI_2, sR_22]; done) | rfl

def q_X8_setTime (S : gSc) (p1 : Int32) (p2 : Int32) : gSc := (let S2 := q_X8_setDay S p1; (let S7 := q_X8_setMinute S2 p2; S7))
set_option maxHeartbeats 4000000 in
set_option maxRecDepth 100000 in
theorem c_X8_setTime (l : Launch) (E : gEE) (M : gSm) (S : gSc) (p1 : Int32) (p2 : Int32) (hkn0 : 0 ≤ (S.1 1 1).toInt) (hkn : (S.1 1 1).toInt ≤ 366) : Met l yX8_setTime wsX8_setTime ({ frames := 3, cells := 0, slots := 0, locals := 66 }) (va_Pc [.ref (eC E 1), .int (p1), .int (p2)] (gP E M S)) (va_Qv (fun u : gSc => u = q_X8_setTime S p1 p2) (fun u t => gW E M u t.heap) (eA E)) 0 0 (eA E) := by
  refine Met.ofW (cc := cX8_setTime) (maxL := 3) (ret := none) (by decide) rfl ?_
  intro p e s m args below meth c s₁ B hml hv
  obtain ⟨rfl, hE, hW⟩ := hv
  have hx := B.exec
  have hb := B.bytes
  have hr := B.returns
  have hts := atoms_spec (ws := wsX8_setTime) B.pre
  have hown : s.vm.findClass RX8 = some m.cls := findClass_of_methodNamed B.named
  have hlocks := B.notSynchronized
  have hS : va_S (eA E) s.heap s.heap [] := va_S.rf
  have hl := lv_entry ([.ref (eC E 1), .int (p1), .int (p2)]) (n := 3) (Nat.le_of_ble_eq_true rfl)
  rw [lg_entry_eq]
  generalize (lg_sl ([.ref (eC E 1), .int (p1), .int (p2)]) ++ List.replicate (3 - (lg_sl ([.ref (eC E 1), .int (p1), .int (p2)])).length) Slot.unset).toArray = ls at hl ⊢
  have hl : lv_has ls 3 [(0, .ref (eC E 1)), (1, .int (p1)), (2, .int (p2))] := hl
  have hS : ∃ (H : Heap) (locs : List Loc), H = s.heap ∧ locs = [] ∧ gW E M S H ∧ va_S (eA E) s.heap H locs := ⟨_, _, rfl, rfl, hW, hS⟩
  clear hW
  obtain ⟨H, locs, eH, el, hW, hS⟩ := hS
  rw [← eH, ← el]
  clear eH el
  refine lv_aload_n hx hb dX8_setTime_0 rfl (lv_at hl 0 rfl) ?_
  refine lv_iload_n hx hb dX8_setTime_1 rfl (lv_at hl 1 rfl) ?_
  refine va_callv (va_runV (As := [.int (p1)]) (rest := []) ⟨hx, hb, hml, hown, hts⟩ (c_X8_setDay l E M S p1 hkn0 hkn) (cwV 1 hts gX8_setTime_X8_setDay rfl rfl rfl (by decide +kernel) ⟨Nat.le_of_ble_eq_true rfl, Nat.le_of_ble_eq_true rfl⟩) (gP.V (ci := 8) (q := (RX8, TX8, 16)) (q0 := 12) hE hS hW rfl rfl) rfl rfl hl.1 rfl (lv_room (Nat.le_of_ble_eq_true rfl)) dX8_setTime_2 ⟨Nat.le_of_ble_eq_true rfl, Nat.le_of_ble_eq_true rfl⟩) hS (fun _ _ h => h) (fun _ h => h) (fun S2 t H locs ht hvm hw hB hz1 hk1 hS => ?_)
  have eS2 : S2 = q_X8_setDay S p1 := hw
  clear hw
  have hW : gW E M S2 H := by rw [← ht]; exact hB
  have hpS2 : S2.2.2 = S.2.2 := by rw [eS2]; exact (qp_X8_setDay _ _)
  refine lv_aload_n hx hb dX8_setTime_5 rfl (lv_at hl 0 rfl) ?_
  refine lv_iload_n hx hb dX8_setTime_6 rfl (lv_at hl 2 rfl) ?_
  refine va_callv (va_runV (As := [.int (p2)]) (rest := []) ⟨hx, hb, hml, hown, hts⟩ (c_X8_setMinute l E M S2 p2) (cwV 1 hts gX8_setTime_X8_setMinute rfl rfl rfl (by decide +kernel) ⟨Nat.le_of_ble_eq_true rfl, Nat.le_of_ble_eq_true rfl⟩) (gP.V (ci := 8) (q := (RX8, TX8, 16)) (q0 := 12) hE hS hW rfl rfl) rfl rfl hl.1 rfl (lv_room (Nat.le_of_ble_eq_true rfl)) dX8_setTime_7 ⟨Nat.le_of_ble_eq_true rfl, Nat.le_of_ble_eq_true rfl⟩) hS (fun _ _ h => h) (fun _ h => h) (fun S7 t H locs ht hvm hw hB hz1 hk1 hS => ?_)
  have eS7 : S7 = q_X8_setMinute S2 p2 := hw
  clear hw
  have hW : gW E M S7 H := by rw [← ht]; exact hB
  have hpS7 : S7.2.2 = S2.2.2 := by rw [eS7]; exact (qp_X8_setMinute _ _)
  exact W.vret hx hb hr (fun t ht _ => ⟨⟨S7, rfl, by subst eS7; subst eS2; first | (simp only [q_X8_setTime]; done) | contradiction, by dsimp only; rw [ht]; exact hW⟩, hS.F ht⟩) hS.2.2 dX8_setTime_10
theorem qp_X8_setTime (S : gSc) (p1 : Int32) (p2 : Int32) : (q_X8_setTime S p1 p2).2.2 = S.2.2 := by
  unfold q_X8_setTime
  try dsimp only
  (repeat' split) <;> first | (simp only [pI_2, sR_22, qp_X8_setDay, qp_X8_setMinute]; done) | rfl

def q_X8_height_b6 (S : gSc)  : Nat → Int32 → Int32 → Int32
  | 0, v1, v2 => 0
  | n + 1, v1, v2 => (if v2 ≤ 0 then v1 else (if 16384 < (v1 + v2) then (let x39 := v2 >>> (1 &&& 31); q_X8_height_b6 S n v1 x39) else (let r22 := q_X10_sineOf (v1 + v2); (if (S.1 1 15) < r22 then (let x39 := v2 >>> (1 &&& 31); q_X8_height_b6 S n v1 x39) else (let x35 := v1 + v2; (let x39 := v2 >>> (1 &&& 31); q_X8_height_b6 S n x35 x39))))))
def q_X8_height (S : gSc)  : Int32 := q_X8_height_b6 S 17 0 16384
set_option maxHeartbeats 4000000 in
set_option maxRecDepth 100000 in
theorem c_X8_height (l : Launch) (E : gEE) (M : gSm) (S : gSc)   : Met l yX8_height wsX8_height ({ frames := 1, cells := 0, slots := 0, locals := 24 }) (va_Pc [.ref (eC E 1)] (gP E M S)) (vp_Si (fun r => r = q_X8_height S)) 0 0 (fun _ => False) := by
  refine Met.ofW (cc := cX8_height) (maxL := 3) (ret := (some .int)) (by decide) rfl ?_
  intro p e s m args below meth c s₁ B hml hv
  obtain ⟨rfl, hE, hW⟩ := hv
  have hx := B.exec
  have hb := B.bytes
  have hr := B.returns
  have hts := atoms_spec (ws := wsX8_height) B.pre
  have hown : s.vm.findClass RX8 = some m.cls := findClass_of_methodNamed B.named
  have hlocks := B.notSynchronized
  have hinX8 : ∀ w ∈ wsX80, w ∈ wsX8_height := by decide +kernel
  have hS : va_S (eA E) s.heap s.heap [] := va_S.rf
  have hl := lv_entry ([.ref (eC E 1)]) (n := 3) (Nat.le_of_ble_eq_true rfl)
  rw [lg_entry_eq]
  generalize (lg_sl ([.ref (eC E 1)]) ++ List.replicate (3 - (lg_sl ([.ref (eC E 1)])).length) Slot.unset).toArray = ls at hl ⊢
  have hl : lv_has ls 3 [(0, .ref (eC E 1))] := hl
  have L6 : ∀ n : Nat, ∀ (v1 : Int32) (v2 : Int32) (ls : Array Slot), (0 ≤ v2.toInt ∧ 4 * v2.toInt < 2 ^ n ∧ 0 < n) → q_X8_height S = q_X8_height_b6 S n v1 v2 → lv_has ls 3 [(0, .ref (eC E 1)), (1, .int (v1)), (2, .int (v2))] → W p l e (headSpec wsX8_height ({ frames := 1, cells := 0, slots := 0, locals := 24 })).room s m ([.ref (eC E 1)] : List Value).toArray below meth c s.heap [] 0 0 (MQ below (vp_Si (fun r => r = q_X8_height S)) ([.ref (eC E 1)] : List Value).toArray s 0 0 (fun _ => False)) (F0 m 6 ls []) := by
    intro n
    induction n with
    | zero =>
      intro v1 v2 ls hi hq hl
      exact absurd hi.2.2 (Nat.lt_irrefl 0)
    | succ n ih =>
      intro v1 v2 ls hi hq hl
      refine lv_iload_n hx hb dX8_height_6 rfl (lv_at hl 2 rfl) ?_
      refine lv_if_le (tgt := 43) hx hb dX8_height_7 (by decide) (fun c7 => ?_) (fun c7 => ?_)
      · refine lv_iload_n hx hb dX8_height_43 rfl (lv_at hl 1 rfl) ?_
        exact W.iret (v := v1) hx hb hr (fun t ht _ => ⟨v1, rfl, by rw [hq]; first | (simp only [q_X8_height_b6, if_pos c7]; done) | contradiction, ht⟩) (fun _ h => nomatch h) dX8_height_44
      · refine lv_iload_n hx hb dX8_height_10 rfl (lv_at hl 1 rfl) ?_
        refine lv_iload_n hx hb dX8_height_11 rfl (lv_at hl 2 rfl) ?_
        refine lv_iadd hx hb dX8_height_12 ?_
        refine lv_sipush (v := 16384) hx hb dX8_height_13 (by decide) ?_
        refine lv_icmp_gt (tgt := 36) hx hb dX8_height_16 (by decide) (fun c16 => ?_) (fun c16 => ?_)
        · refine lv_iload_n hx hb dX8_height_36 rfl (lv_at hl 2 rfl) ?_
          refine lv_iconst (v := 1) hx hb dX8_height_37 (by decide) ?_
          refine lv_ishr hx hb dX8_height_38 ?_
          refine lv_topi (fun x39 ex39 => ?_)
          refine lv_istore_n (lv' := [(2, .int (x39)), (0, .ref (eC E 1)), (1, .int (v1))]) hx hb dX8_height_39 rfl hl (by decide) rfl (fun ls hl => ?_)
          refine lv_goto (tgt := 6) hx hb dX8_height_40 (by decide) ?_
          exact ih _ _ _ (by exact ht32 hi c7 ex39) (by rw [hq]; subst ex39; first | (simp only [q_X8_height_b6, if_neg c7, if_pos c16]; done) | contradiction) (lv_sub hl [1, 2, 0] rfl)
        · refine lv_iload_n hx hb dX8_height_19 rfl (lv_at hl 1 rfl) ?_
          refine lv_iload_n hx hb dX8_height_20 rfl (lv_at hl 2 rfl) ?_
          refine lv_iadd hx hb dX8_height_21 ?_
          refine k_Si (va_runSN (As := [.int (v1 + v2)]) (rest := []) ⟨hx, hb, hml, hown, hts⟩ (c_X10_sineOf l (v1 + v2)) ⟨va_cnB 1 hts gX8_height_X10_sineOf_n26 rfl rfl rfl (hE.2.2.1 (.methodLinkNest "DialGarden$Sky" 26 ⟨"DialGarden", "sineOf", "(I)I"⟩ "DialGarden") (by decide +kernel)) (hts (.initialized RX10) (by decide +kernel)) (by decide +kernel) ⟨Nat.le_of_ble_eq_true rfl, Nat.le_of_ble_eq_true rfl⟩, hts (.static yX10_sineOf) (by decide +kernel), trivial⟩ gP0 rfl rfl hl.1 rfl (lv_room (Nat.le_of_ble_eq_true rfl)) dX8_height_22 ⟨Nat.le_of_ble_eq_true rfl, Nat.le_of_ble_eq_true rfl⟩) (fun r22 er22 => ?_)
          refine lv_aload_n hx hb dX8_height_25 rfl (lv_at hl 0 rfl) ?_
          refine va_get (D := eD E) (cl := vwCl) (tys := eT E) (ci := 8) (C := RX8) (T := TX8) (N := 16) (v := .int (S.1 1 15)) hx hb hts hinX8 hown hE.1 hW.1 12 rfl rfl 15 (by decide) (hts (.fieldLink RX8 95 "DialGarden$Sky" "up" "I") (by decide +kernel)) (fun _ h9 => h9) rfl dX8_height_26 ?_
          refine lv_icmp_gt (tgt := 36) hx hb dX8_height_29 (by decide) (fun c29 => ?_) (fun c29 => ?_)
          · refine lv_iload_n hx hb dX8_height_36 rfl (lv_at hl 2 rfl) ?_
            refine lv_iconst (v := 1) hx hb dX8_height_37 (by decide) ?_
            refine lv_ishr hx hb dX8_height_38 ?_
            refine lv_topi (fun x39 ex39 => ?_)
            refine lv_istore_n (lv' := [(2, .int (x39)), (0, .ref (eC E 1)), (1, .int (v1))]) hx hb dX8_height_39 rfl hl (by decide) rfl (fun ls hl => ?_)
            refine lv_goto (tgt := 6) hx hb dX8_height_40 (by decide) ?_
            exact ih _ _ _ (by exact ht32 hi c7 ex39) (by rw [hq]; subst ex39; subst er22; first | (simp only [q_X8_height_b6, if_neg c7, if_neg c16, if_pos c29]; done) | contradiction) (lv_sub hl [1, 2, 0] rfl)
          · refine lv_iload_n hx hb dX8_height_32 rfl (lv_at hl 1 rfl) ?_
            refine lv_iload_n hx hb dX8_height_33 rfl (lv_at hl 2 rfl) ?_
            refine lv_iadd hx hb dX8_height_34 ?_
            refine lv_topi (fun x35 ex35 => ?_)
            refine lv_istore_n (lv' := [(1, .int (x35)), (0, .ref (eC E 1)), (2, .int (v2))]) hx hb dX8_height_35 rfl hl (by decide) rfl (fun ls hl => ?_)
            refine lv_iload_n hx hb dX8_height_36 rfl (lv_at hl 2 rfl) ?_
            refine lv_iconst (v := 1) hx hb dX8_height_37 (by decide) ?_
            refine lv_ishr hx hb dX8_height_38 ?_
            refine lv_topi (fun x39 ex39 => ?_)
            refine lv_istore_n (lv' := [(2, .int (x39)), (1, .int (x35)), (0, .ref (eC E 1))]) hx hb dX8_height_39 rfl hl (by decide) rfl (fun ls hl => ?_)
            refine lv_goto (tgt := 6) hx hb dX8_height_40 (by decide) ?_
            exact ih _ _ _ (by exact ht32 hi c7 ex39) (by rw [hq]; subst ex39; subst ex35; subst er22; first | (simp only [q_X8_height_b6, if_neg c7, if_neg c16, if_neg c29]; done) | contradiction) (lv_sub hl [2, 1, 0] rfl)
  refine lv_iconst (v := 0) hx hb dX8_height_0 (by decide) ?_
  refine lv_istore_n (lv' := [(1, .int (0)), (0, .ref (eC E 1))]) hx hb dX8_height_1 rfl hl (by decide) rfl (fun ls hl => ?_)
  refine lv_sipush (v := 16384) hx hb dX8_height_2 (by decide) ?_
  refine lv_istore_n (lv' := [(2, .int (16384)), (1, .int (0)), (0, .ref (eC E 1))]) hx hb dX8_height_5 rfl hl (by decide) rfl (fun ls hl => ?_)
  exact L6 17 _ _ _ (by decide) (by first | (simp only [q_X8_height]; done) | contradiction) (lv_sub hl [2, 1, 0] rfl)

def q_X8_westSide (S : gSc)  : Int32 := (if 0 ≤ (S.1 1 13) then 0 else 1)
set_option maxHeartbeats 4000000 in
set_option maxRecDepth 100000 in
theorem c_X8_westSide (l : Launch) (E : gEE) (M : gSm) (S : gSc)   : Met l yX8_westSide wsX8_westSide ({ frames := 0, cells := 0, slots := 0, locals := 0 }) (va_Pc [.ref (eC E 1)] (gP E M S)) (vp_Si (fun r => r = q_X8_westSide S)) 0 0 (fun _ => False) := by
  refine Met.ofW (cc := cX8_westSide) (maxL := 1) (ret := (some .int)) (by decide) rfl ?_
  intro p e s m args below meth c s₁ B hml hv
  obtain ⟨rfl, hE, hW⟩ := hv
  have hx := B.exec
  have hb := B.bytes
  have hr := B.returns
  have hts := atoms_spec (ws := wsX8_westSide) B.pre
  have hown : s.vm.findClass RX8 = some m.cls := findClass_of_methodNamed B.named
  have hlocks := B.notSynchronized
  have hinX8 : ∀ w ∈ wsX80, w ∈ wsX8_westSide := by decide +kernel
  have hS : va_S (eA E) s.heap s.heap [] := va_S.rf
  have hl := lv_entry ([.ref (eC E 1)]) (n := 1) (Nat.le_of_ble_eq_true rfl)
  rw [lg_entry_eq]
  generalize (lg_sl ([.ref (eC E 1)]) ++ List.replicate (1 - (lg_sl ([.ref (eC E 1)])).length) Slot.unset).toArray = ls at hl ⊢
  have hl : lv_has ls 1 [(0, .ref (eC E 1))] := hl
  refine lv_aload_n hx hb dX8_westSide_0 rfl (lv_at hl 0 rfl) ?_
  refine va_get (D := eD E) (cl := vwCl) (tys := eT E) (ci := 8) (C := RX8) (T := TX8) (N := 16) (v := .int (S.1 1 13)) hx hb hts hinX8 hown hE.1 hW.1 12 rfl rfl 13 (by decide) (hts (.fieldLink RX8 89 "DialGarden$Sky" "east" "I") (by decide +kernel)) (fun _ h9 => h9) rfl dX8_westSide_1 ?_
  refine lv_if_ge (tgt := 11) hx hb dX8_westSide_4 (by decide) (fun c4 => ?_) (fun c4 => ?_)
  · refine lv_iconst (v := 0) hx hb dX8_westSide_11 (by decide) ?_
    exact W.iret (v := 0) hx hb hr (fun t ht _ => ⟨0, rfl, by first | (simp only [q_X8_westSide, if_pos c4]; done) | contradiction, ht⟩) (fun _ h => nomatch h) dX8_westSide_12
  · refine lv_iconst (v := 1) hx hb dX8_westSide_7 (by decide) ?_
    refine lv_goto (tgt := 12) hx hb dX8_westSide_8 (by decide) ?_
    exact W.iret (v := 1) hx hb hr (fun t ht _ => ⟨1, rfl, by first | (simp only [q_X8_westSide, if_neg c4]; done) | contradiction, ht⟩) (fun _ h => nomatch h) dX8_westSide_12
