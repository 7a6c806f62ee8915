def q_X6_setUp (S : gSc) (p1 : Nat) : gSc := (let r27 := q_X1_isA (pI (pI (pI S 7 7 (S.2.2.2.2 p1 1)) 7 8 (S.2.2.2.2 p1 2)) 7 9 (S.2.2.2.2 p1 3)) p1 3; (let S39 := q_X6_setRows (pI (pI (pI (pI S 7 7 (S.2.2.2.2 p1 1)) 7 8 (S.2.2.2.2 p1 2)) 7 9 (S.2.2.2.2 p1 3)) 7 10 r27) p1 (S.2.2.2.2 p1 4); (let S44 := q_X6_gatherHouses S39; S44)))
set_option maxHeartbeats 4000000 in
set_option maxRecDepth 100000 in
theorem c_X6_setUp (l : Launch) (E : gEE) (M : gSm) (S : gSc) (p1 : Nat) (hL1 : p1 ∈ S.2.2.1) (hk1 : S.2.2.2.1 p1 = 1) (hT : okR S 3 40) : Met l yX6_setUp wsX6_setUp ({ frames := 4, cells := 0, slots := 0, locals := 92 }) (va_Pc [.ref (eC E 7), .ref (p1), .ref (eC E 3)] (gP E M S)) (va_Qv (fun u : gSc => u = q_X6_setUp S p1) (fun u t => gW E M u t.heap) (eA E)) 0 0 (eA E) := by
  refine Met.ofW (cc := cX6_setUp) (maxL := 3) (ret := none) (by decide) rfl ?_
  intro p e s m args below meth c s₁ B hml hv
  obtain ⟨rfl, hE, hW⟩ := hv
  have hx := B.exec
  have hb := B.bytes
  have hr := B.returns
  have hts := atoms_spec (ws := wsX6_setUp) B.pre
  have hown : s.vm.findClass RX6 = some m.cls := findClass_of_methodNamed B.named
  have hlocks := B.notSynchronized
  have hinX1 : ∀ w ∈ wsX10, w ∈ wsX6_setUp := by decide +kernel
  have hinX6 : ∀ w ∈ wsX60, w ∈ wsX6_setUp := by decide +kernel
  have hS : va_S (eA E) s.heap s.heap [] := va_S.rf
  have hl := lv_entry ([.ref (eC E 7), .ref (p1), .ref (eC E 3)]) (n := 3) (Nat.le_of_ble_eq_true rfl)
  rw [lg_entry_eq]
  generalize (lg_sl ([.ref (eC E 7), .ref (p1), .ref (eC E 3)]) ++ List.replicate (3 - (lg_sl ([.ref (eC E 7), .ref (p1), .ref (eC E 3)])).length) Slot.unset).toArray = ls at hl ⊢
  have hl : lv_has ls 3 [(0, .ref (eC E 7)), (1, .ref (p1)), (2, .ref (eC E 3))] := hl
  have hS : ∃ (H : Heap) (locs : List Loc), H = s.heap ∧ locs = [] ∧ gW E M S H ∧ va_S (eA E) s.heap H locs := ⟨_, _, rfl, rfl, hW, hS⟩
  clear hW
  obtain ⟨H, locs, eH, el, hW, hS⟩ := hS
  rw [← eH, ← el]
  clear eH el
  refine lv_aload_n hx hb dX6_setUp_0 rfl (lv_at hl 0 rfl) ?_
  refine lv_aload_n hx hb dX6_setUp_1 rfl (lv_at hl 1 rfl) ?_
  obtain ⟨k2, hk2⟩ := wJ_d E M (S := S) hL1 hk1
  refine va_getN (D := eD E) (cl := vwCl) (tys := eT E) (ci := 1) (C := RX1) (T := TX1) (N := 7) (v := .int (S.2.2.2.2 p1 1)) hx hb hts hinX1 hown hE.1 hW.1 k2 hk2 rfl 1 (by decide) (va_Nw.use rfl (hE.2.2.1 (.fieldLinkNest "DialGarden$Shade" 61 "DialGarden$Dial" "x" "I" "DialGarden") (by decide +kernel))) (fun _ h9 => h9) rfl dX6_setUp_2 ?_
  refine va_put (D := eD E) (cl := vwCl) (tys := eT E) (A := eA E) (ci := 6) (C := RX6) (T := TX6) (N := 13) (v := .int (S.2.2.2.2 p1 1)) (ty := .int) hx hb hts hinX6 tyX6 tyX6_ok nmX6 hown hE.1 hW.1 hW.2 hS 18 rfl rfl 6 (by decide) (hts (.fieldLink RX6 38 "DialGarden$Shade" "x" "I") (by decide +kernel)) (fun _ h9 => h9) rfl (by decide +kernel) rfl rfl (Nat.le_of_ble_eq_true rfl) dX6_setUp_5 (fun H locs hP hD hS => ?_)
  have hW : gW E M (pI S 7 7 (S.2.2.2.2 p1 1)) H := gW.of (uC_7_7 E M S (S.2.2.2.2 p1 1)) hP hD
  refine lv_aload_n hx hb dX6_setUp_8 rfl (lv_at hl 0 rfl) ?_
  refine lv_aload_n hx hb dX6_setUp_9 rfl (lv_at hl 1 rfl) ?_
  obtain ⟨k10, hk10⟩ := wJ_d E M (S := pI S 7 7 (S.2.2.2.2 p1 1)) hL1 hk1
  refine va_getN (D := eD E) (cl := vwCl) (tys := eT E) (ci := 1) (C := RX1) (T := TX1) (N := 7) (v := .int (S.2.2.2.2 p1 2)) hx hb hts hinX1 hown hE.1 hW.1 k10 hk10 rfl 2 (by decide) (va_Nw.use rfl (hE.2.2.1 (.fieldLinkNest "DialGarden$Shade" 64 "DialGarden$Dial" "y" "I" "DialGarden") (by decide +kernel))) (fun _ h9 => h9) rfl dX6_setUp_10 ?_
  refine va_put (D := eD E) (cl := vwCl) (tys := eT E) (A := eA E) (ci := 6) (C := RX6) (T := TX6) (N := 13) (v := .int (S.2.2.2.2 p1 2)) (ty := .int) hx hb hts hinX6 tyX6 tyX6_ok nmX6 hown hE.1 hW.1 hW.2 hS 18 rfl rfl 7 (by decide) (hts (.fieldLink RX6 41 "DialGarden$Shade" "y" "I") (by decide +kernel)) (fun _ h9 => h9) rfl (by decide +kernel) rfl rfl (Nat.le_of_ble_eq_true rfl) dX6_setUp_13 (fun H locs hP hD hS => ?_)
  have hW : gW E M (pI (pI S 7 7 (S.2.2.2.2 p1 1)) 7 8 (S.2.2.2.2 p1 2)) H := gW.of (uC_7_8 E M (pI S 7 7 (S.2.2.2.2 p1 1)) (S.2.2.2.2 p1 2)) hP hD
  refine lv_aload_n hx hb dX6_setUp_16 rfl (lv_at hl 0 rfl) ?_
  refine lv_aload_n hx hb dX6_setUp_17 rfl (lv_at hl 1 rfl) ?_
  obtain ⟨k18, hk18⟩ := wJ_d E M (S := pI (pI S 7 7 (S.2.2.2.2 p1 1)) 7 8 (S.2.2.2.2 p1 2)) hL1 hk1
  refine va_getN (D := eD E) (cl := vwCl) (tys := eT E) (ci := 1) (C := RX1) (T := TX1) (N := 7) (v := .int (S.2.2.2.2 p1 3)) hx hb hts hinX1 hown hE.1 hW.1 k18 hk18 rfl 3 (by decide) (va_Nw.use rfl (hE.2.2.1 (.fieldLinkNest "DialGarden$Shade" 65 "DialGarden$Dial" "rod" "I" "DialGarden") (by decide +kernel))) (fun _ h9 => h9) rfl dX6_setUp_18 ?_
  refine va_put (D := eD E) (cl := vwCl) (tys := eT E) (A := eA E) (ci := 6) (C := RX6) (T := TX6) (N := 13) (v := .int (S.2.2.2.2 p1 3)) (ty := .int) hx hb hts hinX6 tyX6 tyX6_ok nmX6 hown hE.1 hW.1 hW.2 hS 18 rfl rfl 8 (by decide) (hts (.fieldLink RX6 44 "DialGarden$Shade" "rod" "I") (by decide +kernel)) (fun _ h9 => h9) rfl (by decide +kernel) rfl rfl (Nat.le_of_ble_eq_true rfl) dX6_setUp_21 (fun H locs hP hD hS => ?_)
  have hW : gW E M (pI (pI (pI S 7 7 (S.2.2.2.2 p1 1)) 7 8 (S.2.2.2.2 p1 2)) 7 9 (S.2.2.2.2 p1 3)) H := gW.of (uC_7_9 E M (pI (pI S 7 7 (S.2.2.2.2 p1 1)) 7 8 (S.2.2.2.2 p1 2)) (S.2.2.2.2 p1 3)) hP hD
  refine lv_aload_n hx hb dX6_setUp_24 rfl (lv_at hl 0 rfl) ?_
  refine lv_aload_n hx hb dX6_setUp_25 rfl (lv_at hl 1 rfl) ?_
  refine lv_iconst (v := 3) hx hb dX6_setUp_26 (by decide) ?_
  obtain ⟨k27, hk27⟩ := wJ_d E M (S := pI (pI (pI S 7 7 (S.2.2.2.2 p1 1)) 7 8 (S.2.2.2.2 p1 2)) 7 9 (S.2.2.2.2 p1 3)) hL1 hk1
  refine k_Si (va_runV (As := [.int (3)]) (rest := [.ref (eC E 7)]) ⟨hx, hb, hml, hown, hts⟩ (c_X1_isA l E M (pI (pI (pI S 7 7 (S.2.2.2.2 p1 1)) 7 8 (S.2.2.2.2 p1 2)) 7 9 (S.2.2.2.2 p1 3)) p1 3 hL1 hk1) (cwV 1 hts gX6_setUp_X1_isA rfl rfl rfl (by decide +kernel) ⟨Nat.le_of_ble_eq_true rfl, Nat.le_of_ble_eq_true rfl⟩) (gP.V (ci := 1) (q := (RX1, TX1, 7)) hE hS hW rfl hk27) rfl rfl hl.1 rfl (lv_room (Nat.le_of_ble_eq_true rfl)) dX6_setUp_27 ⟨Nat.le_of_ble_eq_true rfl, Nat.le_of_ble_eq_true rfl⟩) (fun r27 er27 => ?_)
  refine va_put (D := eD E) (cl := vwCl) (tys := eT E) (A := eA E) (ci := 6) (C := RX6) (T := TX6) (N := 13) (v := .int (r27)) (ty := .boolean) hx hb hts hinX6 tyX6 tyX6_ok nmX6 hown hE.1 hW.1 hW.2 hS 18 rfl rfl 9 (by decide) (hts (.fieldLink RX6 47 "DialGarden$Shade" "isRing" "Z") (by decide +kernel)) (fun _ h9 => h9) rfl (by decide +kernel) (gB (by rw [er27]; exact qb_X1_isA _ _ _)) (gBf (by rw [er27]; exact qb_X1_isA _ _ _)) (Nat.le_of_ble_eq_true rfl) dX6_setUp_30 (fun H locs hP hD hS => ?_)
  have hW : gW E M (pI (pI (pI (pI S 7 7 (S.2.2.2.2 p1 1)) 7 8 (S.2.2.2.2 p1 2)) 7 9 (S.2.2.2.2 p1 3)) 7 10 r27) H := gW.of (uC_7_10 E M (pI (pI (pI S 7 7 (S.2.2.2.2 p1 1)) 7 8 (S.2.2.2.2 p1 2)) 7 9 (S.2.2.2.2 p1 3)) r27) hP hD
  refine lv_aload_n hx hb dX6_setUp_33 rfl (lv_at hl 0 rfl) ?_
  refine lv_aload_n hx hb dX6_setUp_34 rfl (lv_at hl 1 rfl) ?_
  refine lv_aload_n hx hb dX6_setUp_35 rfl (lv_at hl 1 rfl) ?_
  obtain ⟨k36, hk36⟩ := wJ_d E M (S := pI (pI (pI (pI S 7 7 (S.2.2.2.2 p1 1)) 7 8 (S.2.2.2.2 p1 2)) 7 9 (S.2.2.2.2 p1 3)) 7 10 r27) hL1 hk1
  refine va_getN (D := eD E) (cl := vwCl) (tys := eT E) (ci := 1) (C := RX1) (T := TX1) (N := 7) (v := .int (S.2.2.2.2 p1 4)) hx hb hts hinX1 hown hE.1 hW.1 k36 hk36 rfl 4 (by decide) (va_Nw.use rfl (hE.2.2.1 (.fieldLinkNest "DialGarden$Shade" 70 "DialGarden$Dial" "facing" "I" "DialGarden") (by decide +kernel))) (fun _ h9 => h9) rfl dX6_setUp_36 ?_
  refine va_callv (va_runV (As := [.ref (p1), .int (S.2.2.2.2 p1 4)]) (rest := []) ⟨hx, hb, hml, hown, hts⟩ (c_X6_setRows l E M (pI (pI (pI (pI S 7 7 (S.2.2.2.2 p1 1)) 7 8 (S.2.2.2.2 p1 2)) 7 9 (S.2.2.2.2 p1 3)) 7 10 r27) p1 (S.2.2.2.2 p1 4) hL1 hk1) (cwV 2 hts gX6_setUp_X6_setRows rfl rfl rfl (by decide +kernel) ⟨Nat.le_of_ble_eq_true rfl, Nat.le_of_ble_eq_true rfl⟩) (gP.V (ci := 6) (q := (RX6, TX6, 13)) (q0 := 18) hE hS hW rfl rfl) rfl rfl hl.1 rfl (lv_room (Nat.le_of_ble_eq_true rfl)) dX6_setUp_39 ⟨Nat.le_of_ble_eq_true rfl, Nat.le_of_ble_eq_true rfl⟩) hS (fun _ _ h => h) (fun _ h => h) (fun S39 t H locs ht hvm hw hB hz1 hk1 hS => ?_)
  have eS39 : S39 = q_X6_setRows (pI (pI (pI (pI S 7 7 (S.2.2.2.2 p1 1)) 7 8 (S.2.2.2.2 p1 2)) 7 9 (S.2.2.2.2 p1 3)) 7 10 r27) p1 (S.2.2.2.2 p1 4) := hw
  clear hw
  have hW : gW E M S39 H := by rw [← ht]; exact hB
  have hpS39 : S39.2.2 = S.2.2 := by rw [eS39]; exact (qp_X6_setRows _ _ _)
  refine lv_aload_n hx hb dX6_setUp_42 rfl (lv_at hl 0 rfl) ?_
  refine lv_aload_n hx hb dX6_setUp_43 rfl (lv_at hl 2 rfl) ?_
  refine va_callv (va_runV (As := [.ref (eC E 3)]) (rest := []) ⟨hx, hb, hml, hown, hts⟩ (c_X6_gatherHouses l E M S39 (okR_of hT (by rw [eS39, sr_2]; rfl))) (cwV 1 hts gX6_setUp_X6_gatherHouses rfl rfl rfl (by decide +kernel) ⟨Nat.le_of_ble_eq_true rfl, Nat.le_of_ble_eq_true rfl⟩) (gP.V (ci := 6) (q := (RX6, TX6, 13)) (q0 := 18) hE hS hW rfl rfl) rfl rfl hl.1 rfl (lv_room (Nat.le_of_ble_eq_true rfl)) dX6_setUp_44 ⟨Nat.le_of_ble_eq_true rfl, Nat.le_of_ble_eq_true rfl⟩) hS (fun _ _ h => h) (fun _ h => h) (fun S44 t H locs ht hvm hw hB hz1 hk1 hS => ?_)
  have eS44 : S44 = q_X6_gatherHouses S39 := hw
  clear hw
  have hW : gW E M S44 H := by rw [← ht]; exact hB
  have hpS44 : S44.2.2 = S39.2.2 := by rw [eS44]; exact (qp_X6_gatherHouses _)
  exact W.vret hx hb hr (fun t ht _ => ⟨⟨S44, rfl, by subst eS44; subst eS39; subst er27; first | (simp only [q_X6_setUp]; done) | contradiction, by dsimp only; rw [ht]; exact hW⟩, hS.F ht⟩) hS.2.2 dX6_setUp_47
theorem qp_X6_setUp (S : gSc) (p1 : Nat) : (q_X6_setUp S p1).2.2 = S.2.2 := by
  unfold q_X6_setUp
  try dsimp only
  (repeat' split) <;> first | (simp only [pI_2, sR_22, qp_X6_gatherHouses, qp_X6_setRows]; done) | rfl

def q_X6_findHider_b16 (S : gSc)  : Nat → Int32 → gSc → gSc
  | 0, v2, Z => Z
  | n + 1, v2, Z => (if (Z.1 7 6) ≤ v2 then Z else (if (Z.1 7 11) = (-2000000005) then (match Z.2.1 11 (v2.toNatClampNeg) with | none => (let x70 := v2 + 1; q_X6_findHider_b16 S n x70 Z) | some a38 => (let r54 := q_X2_hidesFrom Z a38 (Z.1 7 7) (Z.1 7 8); (if r54 = 0 then (let x70 := v2 + 1; q_X6_findHider_b16 S n x70 Z) else (let x70 := v2 + 1; q_X6_findHider_b16 S n x70 (pI Z 7 11 (Z.1 12 (v2.toNatClampNeg))))))) else Z))
def q_X6_findHider (S : gSc)  : gSc := (if 0 < (S.1 1 15) then q_X6_findHider_b16 S 41 0 (pI S 7 11 (-2000000005)) else pI S 7 11 (-2000000005))
set_option maxHeartbeats 4000000 in
set_option maxRecDepth 100000 in
theorem c_X6_findHider (l : Launch) (E : gEE) (M : gSm) (S : gSc)  (hh0 : 0 ≤ (S.1 7 6).toInt) (hh : (S.1 7 6).toInt ≤ 40) (hH : okH S) : Met l yX6_findHider wsX6_findHider ({ frames := 1, cells := 0, slots := 0, locals := 39 }) (va_Pc [.ref (eC E 7), .ref (eC E 1)] (gP E M S)) (va_Qv (fun u : gSc => u = q_X6_findHider S) (fun u t => gW E M u t.heap) (eA E)) 0 0 (eA E) := by
  refine Met.ofW (cc := cX6_findHider) (maxL := 4) (ret := none) (by decide) rfl ?_
  intro p e s m args below meth c s₁ B hml hv
  obtain ⟨rfl, hE, hW⟩ := hv
  have hx := B.exec
  have hb := B.bytes
  have hr := B.returns
  have hts := atoms_spec (ws := wsX6_findHider) B.pre
  have hown : s.vm.findClass RX6 = some m.cls := findClass_of_methodNamed B.named
  have hlocks := B.notSynchronized
  have hinX6 : ∀ w ∈ wsX60, w ∈ wsX6_findHider := by decide +kernel
  have hinX8 : ∀ w ∈ wsX80, w ∈ wsX6_findHider := by decide +kernel
  have hS : va_S (eA E) s.heap s.heap [] := va_S.rf
  have hl := lv_entry ([.ref (eC E 7), .ref (eC E 1)]) (n := 4) (Nat.le_of_ble_eq_true rfl)
  rw [lg_entry_eq]
  generalize (lg_sl ([.ref (eC E 7), .ref (eC E 1)]) ++ List.replicate (4 - (lg_sl ([.ref (eC E 7), .ref (eC E 1)])).length) Slot.unset).toArray = ls at hl ⊢
  have hl : lv_has ls 4 [(0, .ref (eC E 7)), (1, .ref (eC E 1))] := hl
  have hS : ∃ (H : Heap) (locs : List Loc), H = s.heap ∧ locs = [] ∧ gW E M S H ∧ va_S (eA E) s.heap H locs := ⟨_, _, rfl, rfl, hW, hS⟩
  clear hW
  obtain ⟨H, locs, eH, el, hW, hS⟩ := hS
  rw [← eH, ← el]
  clear eH el
  have L16 : ∀ n : Nat, ∀ (v2 : Int32) (Z : gSc) (H : Heap) (locs : List Loc) (ls : Array Slot), ((0 ≤ v2.toInt ∧ v2.toInt ≤ 40 ∧ 40 < v2.toInt + n) ∧ Z.2 = S.2 ∧ Z.1 7 6 = S.1 7 6) → q_X6_findHider S = q_X6_findHider_b16 S n v2 Z → gW E M Z H → va_S (eA E) s.heap H locs → lv_has ls 4 [(0, .ref (eC E 7)), (1, .ref (eC E 1)), (2, .int (v2))] → W p l e (headSpec wsX6_findHider ({ frames := 1, cells := 0, slots := 0, locals := 39 })).room s m ([.ref (eC E 7), .ref (eC E 1)] : List Value).toArray below meth c H locs 0 0 (MQ below (va_Qv (fun u : gSc => u = q_X6_findHider S) (fun u t => gW E M u t.heap) (eA E)) ([.ref (eC E 7), .ref (eC E 1)] : List Value).toArray s 0 0 (eA E)) (F0 m 16 ls []) := by
    intro n
    induction n with
    | zero =>
      intro v2 Z H locs ls hi hq hW hS hl
      exact absurd hi.1.2.2 (by have := hi.1.2.1; omega)
    | succ n ih =>
      intro v2 Z H locs ls hi hq hW hS hl
      refine lv_iload_n hx hb dX6_findHider_16 rfl (lv_at hl 2 rfl) ?_
      refine lv_aload_n hx hb dX6_findHider_17 rfl (lv_at hl 0 rfl) ?_
      refine va_get (D := eD E) (cl := vwCl) (tys := eT E) (ci := 6) (C := RX6) (T := TX6) (N := 13) (v := .int (Z.1 7 6)) hx hb hts hinX6 hown hE.1 hW.1 18 rfl rfl 5 (by decide) (hts (.fieldLink RX6 34 "DialGarden$Shade" "houseCount" "I") (by decide +kernel)) (fun _ h9 => h9) rfl dX6_findHider_18 ?_
      refine lv_icmp_ge (tgt := 76) hx hb dX6_findHider_21 (by decide) (fun c21 => ?_) (fun c21 => ?_)
      · exact W.vret hx hb hr (fun t ht _ => ⟨⟨Z, rfl, by rw [hq]; first | (simp only [q_X6_findHider_b16, if_pos c21]; done) | contradiction, by dsimp only; rw [ht]; exact hW⟩, hS.F ht⟩) hS.2.2 dX6_findHider_76
      · refine lv_aload_n hx hb dX6_findHider_24 rfl (lv_at hl 0 rfl) ?_
        refine va_get (D := eD E) (cl := vwCl) (tys := eT E) (ci := 6) (C := RX6) (T := TX6) (N := 13) (v := .int (Z.1 7 11)) hx hb hts hinX6 hown hE.1 hW.1 18 rfl rfl 10 (by decide) (hts (.fieldLink RX6 52 "DialGarden$Shade" "hider" "I") (by decide +kernel)) (fun _ h9 => h9) rfl dX6_findHider_25 ?_
        refine lv_ldc hx hb (v := (-2000000005)) hown (hts (.constant RX6 51 (-2000000005)) (by decide +kernel)) dX6_findHider_28 ?_
        refine lv_icmp_ne (tgt := 76) hx hb dX6_findHider_30 (by decide) (fun c30 => ?_) (fun c30 => ?_)
        · exact W.vret hx hb hr (fun t ht _ => ⟨⟨Z, rfl, by rw [hq]; first | (simp only [q_X6_findHider_b16, if_neg c21, if_neg c30]; done) | contradiction, by dsimp only; rw [ht]; exact hW⟩, hS.F ht⟩) hS.2.2 dX6_findHider_76
        · refine lv_aload_n hx hb dX6_findHider_33 rfl (lv_at hl 0 rfl) ?_
          refine va_get (D := eD E) (cl := vwCl) (tys := eT E) (ci := 6) (C := RX6) (T := TX6) (N := 13) (v := .ref (eC E 11)) hx hb hts hinX6 hown hE.1 hW.1 18 rfl rfl 3 (by decide) (hts (.fieldLink RX6 26 "DialGarden$Shade" "houses" "[LDialGarden$House;") (by decide +kernel)) (fun _ h9 => h9) rfl dX6_findHider_34 ?_
          refine lv_iload_n hx hb dX6_findHider_37 rfl (lv_at hl 2 rfl) ?_
          refine va_aldq (D := eD E) (cl := vwCl) (tys := eT E) (f := Z.2.1 11) hx hb hE.1 hW.1 22 3 rfl rfl (fh_in hi c21 hh) dX6_findHider_38 ?_
          rcases ho38 : Z.2.1 11 (v2.toNatClampNeg) with _ | a38
          · refine lv_astore_nN (lv' := [(3, .null), (0, .ref (eC E 7)), (1, .ref (eC E 1)), (2, .int (v2))]) hx hb dX6_findHider_39 rfl hl (by decide) rfl (fun ls hl => ?_)
            refine lv_aload_nN hx hb dX6_findHider_40 rfl (lv_at hl 0 rfl) ?_
            refine lv_ifnullN (tgt := 70) hx hb dX6_findHider_41 (by decide) ?_
            obtain ⟨x70, ex70⟩ : ∃ y : Int32, y = v2 + 1 := ⟨_, rfl⟩
            refine lv_iinc (v := x70) (lv' := [(2, .int (x70)), (3, .null), (0, .ref (eC E 7)), (1, .ref (eC E 1))]) hx hb dX6_findHider_70 hl (k := 3) rfl (by rw [ex70]; rfl) (by decide) rfl (fun ls hl => ?_)
            refine lv_goto (tgt := 16) hx hb dX6_findHider_73 (by decide) ?_
            exact ih _ _ _ _ _ (by exact ⟨fh_st hi c21 hh ex70, hi.2⟩) (by rw [hq]; subst ex70; first | (simp only [q_X6_findHider_b16, if_neg c21, if_pos c30, ho38]; done) | contradiction) hW hS (lv_sub hl [2, 3, 0] rfl)
          · have hL38 : a38 ∈ Z.2.2.1 := (fh_t hH hi c21 hh ho38).1
            have hK38 : ¬ Z.2.2.2.1 a38 = 1 := (fh_t hH hi c21 hh ho38).2
            refine lv_astore_n (lv' := [(3, .ref (a38)), (0, .ref (eC E 7)), (1, .ref (eC E 1)), (2, .int (v2))]) hx hb dX6_findHider_39 rfl hl (by decide) rfl (fun ls hl => ?_)
            refine lv_aload_n hx hb dX6_findHider_40 rfl (lv_at hl 0 rfl) ?_
            refine lv_ifnull hx hb dX6_findHider_41 ?_
            refine lv_aload_n hx hb dX6_findHider_44 rfl (lv_at hl 0 rfl) ?_
            refine lv_aload_n hx hb dX6_findHider_45 rfl (lv_at hl 1 rfl) ?_
            refine va_get (D := eD E) (cl := vwCl) (tys := eT E) (ci := 6) (C := RX6) (T := TX6) (N := 13) (v := .int (Z.1 7 7)) hx hb hts hinX6 hown hE.1 hW.1 18 rfl rfl 6 (by decide) (hts (.fieldLink RX6 38 "DialGarden$Shade" "x" "I") (by decide +kernel)) (fun _ h9 => h9) rfl dX6_findHider_46 ?_
            refine lv_aload_n hx hb dX6_findHider_49 rfl (lv_at hl 1 rfl) ?_
            refine va_get (D := eD E) (cl := vwCl) (tys := eT E) (ci := 6) (C := RX6) (T := TX6) (N := 13) (v := .int (Z.1 7 8)) hx hb hts hinX6 hown hE.1 hW.1 18 rfl rfl 7 (by decide) (hts (.fieldLink RX6 41 "DialGarden$Shade" "y" "I") (by decide +kernel)) (fun _ h9 => h9) rfl dX6_findHider_50 ?_
            refine lv_aload_n hx hb dX6_findHider_53 rfl (lv_at hl 2 rfl) ?_
            obtain ⟨k54, hk54⟩ := wJ_h E M (S := Z) hL38 hK38
            refine k_Si (va_runV (As := [.int (Z.1 7 7), .int (Z.1 7 8), .ref (eC E 1)]) (rest := []) ⟨hx, hb, hml, hown, hts⟩ (c_X2_hidesFrom l E M Z a38 (Z.1 7 7) (Z.1 7 8) hL38 hK38) (cwV 3 hts gX6_findHider_X2_hidesFrom rfl rfl rfl (by decide +kernel) ⟨Nat.le_of_ble_eq_true rfl, Nat.le_of_ble_eq_true rfl⟩) (gP.V (ci := 2) (q := (RX2, TX2, 5)) hE hS hW rfl hk54) rfl rfl hl.1 rfl (lv_room (Nat.le_of_ble_eq_true rfl)) dX6_findHider_54 ⟨Nat.le_of_ble_eq_true rfl, Nat.le_of_ble_eq_true rfl⟩) (fun r54 er54 => ?_)
            refine lv_if_eq (tgt := 70) hx hb dX6_findHider_57 (by decide) (fun c57 => ?_) (fun c57 => ?_)
            · obtain ⟨x70, ex70⟩ : ∃ y : Int32, y = v2 + 1 := ⟨_, rfl⟩
              refine lv_iinc (v := x70) (lv' := [(2, .int (x70)), (3, .ref (a38)), (0, .ref (eC E 7)), (1, .ref (eC E 1))]) hx hb dX6_findHider_70 hl (k := 3) rfl (by rw [ex70]; rfl) (by decide) rfl (fun ls hl => ?_)
              refine lv_goto (tgt := 16) hx hb dX6_findHider_73 (by decide) ?_
              exact ih _ _ _ _ _ (by exact ⟨fh_st hi c21 hh ex70, hi.2⟩) (by rw [hq]; subst ex70; subst er54; first | (simp only [q_X6_findHider_b16, if_neg c21, if_pos c30, if_pos c57, ho38]; done) | contradiction) hW hS (lv_sub hl [2, 3, 0] rfl)
            · refine lv_aload_n hx hb dX6_findHider_60 rfl (lv_at hl 1 rfl) ?_
              refine lv_aload_n hx hb dX6_findHider_61 rfl (lv_at hl 1 rfl) ?_
              refine va_get (D := eD E) (cl := vwCl) (tys := eT E) (ci := 6) (C := RX6) (T := TX6) (N := 13) (v := .ref (eC E 12)) hx hb hts hinX6 hown hE.1 hW.1 18 rfl rfl 4 (by decide) (hts (.fieldLink RX6 30 "DialGarden$Shade" "housePlaces" "[I") (by decide +kernel)) (fun _ h9 => h9) rfl dX6_findHider_62 ?_
              refine lv_iload_n hx hb dX6_findHider_65 rfl (lv_at hl 3 rfl) ?_
              refine va_iald (D := eD E) (cl := vwCl) (tys := eT E) (f := Z.1 12) hx hb hE.1 hW.1 23 0 rfl rfl (fh_in hi c21 hh) dX6_findHider_66 ?_
              refine va_put (D := eD E) (cl := vwCl) (tys := eT E) (A := eA E) (ci := 6) (C := RX6) (T := TX6) (N := 13) (v := .int (Z.1 12 (v2.toNatClampNeg))) (ty := .int) hx hb hts hinX6 tyX6 tyX6_ok nmX6 hown hE.1 hW.1 hW.2 hS 18 rfl rfl 10 (by decide) (hts (.fieldLink RX6 52 "DialGarden$Shade" "hider" "I") (by decide +kernel)) (fun _ h9 => h9) rfl (by decide +kernel) rfl rfl (Nat.le_of_ble_eq_true rfl) dX6_findHider_67 (fun H locs hP hD hS => ?_)
              have hW : gW E M (pI Z 7 11 (Z.1 12 (v2.toNatClampNeg))) H := gW.of (uC_7_11 E M Z (Z.1 12 (v2.toNatClampNeg))) hP hD
              obtain ⟨x70, ex70⟩ : ∃ y : Int32, y = v2 + 1 := ⟨_, rfl⟩
              refine lv_iinc (v := x70) (lv' := [(2, .int (x70)), (3, .ref (a38)), (0, .ref (eC E 7)), (1, .ref (eC E 1))]) hx hb dX6_findHider_70 hl (k := 3) rfl (by rw [ex70]; rfl) (by decide) rfl (fun ls hl => ?_)
              refine lv_goto (tgt := 16) hx hb dX6_findHider_73 (by decide) ?_
              exact ih _ _ _ _ _ (by exact ⟨fh_st hi c21 hh ex70, hi.2⟩) (by rw [hq]; subst ex70; subst er54; first | (simp only [q_X6_findHider_b16, if_neg c21, if_pos c30, if_neg c57, ho38]; done) | contradiction) hW hS (lv_sub hl [2, 3, 0] rfl)
  refine lv_aload_n hx hb dX6_findHider_0 rfl (lv_at hl 0 rfl) ?_
  refine lv_ldc hx hb (v := (-2000000005)) hown (hts (.constant RX6 51 (-2000000005)) (by decide +kernel)) dX6_findHider_1 ?_
  refine va_put (D := eD E) (cl := vwCl) (tys := eT E) (A := eA E) (ci := 6) (C := RX6) (T := TX6) (N := 13) (v := .int ((-2000000005))) (ty := .int) hx hb hts hinX6 tyX6 tyX6_ok nmX6 hown hE.1 hW.1 hW.2 hS 18 rfl rfl 10 (by decide) (hts (.fieldLink RX6 52 "DialGarden$Shade" "hider" "I") (by decide +kernel)) (fun _ h9 => h9) rfl (by decide +kernel) rfl rfl (Nat.le_of_ble_eq_true rfl) dX6_findHider_3 (fun H locs hP hD hS => ?_)
  have hW : gW E M (pI S 7 11 (-2000000005)) H := gW.of (uC_7_11 E M S (-2000000005)) hP hD
  refine lv_aload_n hx hb dX6_findHider_6 rfl (lv_at hl 1 rfl) ?_
  refine va_getN (D := eD E) (cl := vwCl) (tys := eT E) (ci := 8) (C := RX8) (T := TX8) (N := 16) (v := .int (S.1 1 15)) hx hb hts hinX8 hown hE.1 hW.1 12 rfl rfl 15 (by decide) (va_Nw.use rfl (hE.2.2.1 (.fieldLinkNest "DialGarden$Shade" 107 "DialGarden$Sky" "up" "I" "DialGarden") (by decide +kernel))) (fun _ h9 => h9) rfl dX6_findHider_7 ?_
  refine lv_if_gt (tgt := 14) hx hb dX6_findHider_10 (by decide) (fun c10 => ?_) (fun c10 => ?_)
  · refine lv_iconst (v := 0) hx hb dX6_findHider_14 (by decide) ?_
    refine lv_istore_n (lv' := [(2, .int (0)), (0, .ref (eC E 7)), (1, .ref (eC E 1))]) hx hb dX6_findHider_15 rfl hl (by decide) rfl (fun ls hl => ?_)
    exact L16 41 _ _ _ _ _ (by exact ⟨by decide, rfl, rfl⟩) (by first | (simp only [q_X6_findHider, if_pos c10]; done) | contradiction) hW hS (lv_sub hl [1, 2, 0] rfl)
  · exact W.vret hx hb hr (fun t ht _ => ⟨⟨pI S 7 11 (-2000000005), rfl, by first | (simp only [q_X6_findHider, if_neg c10]; done) | contradiction, by dsimp only; rw [ht]; exact hW⟩, hS.F ht⟩) hS.2.2 dX6_findHider_13
theorem fh_b2 (S : gSc) : ∀ (n : Nat) (v : Int32) (Z : gSc), (q_X6_findHider_b16 S n v Z).2 = Z.2
  | 0, _, _ => rfl
  | n + 1, v, Z => by
    rw [q_X6_findHider_b16]
    dsimp only
    (repeat' split) <;> first | (rw [fh_b2 S n]; done) | (rw [fh_b2 S n, pI_2]; done) | rfl
theorem fh_2 (S : gSc) : (q_X6_findHider S).2 = S.2 := by
  unfold q_X6_findHider
  split
  · rw [fh_b2 S, pI_2]
  · rfl
theorem qp_X6_findHider (S : gSc) : (q_X6_findHider S).2.2 = S.2.2 := by rw [fh_2]

def q_X6_settle (S : gSc)  : Int32 × gSc := (if 0 < (S.1 1 15) then (let r14 := q_X5_sunBy_8 S; (if 0 < r14 then (if (S.1 7 11) = (-2000000005) then (if (S.1 7 10) = 0 then (let r65 := q_X5_sunBy_9 S; (let r70 := q_J9_floorDiv_f86c9 (((-(S.1 7 9)).toInt64) * r65) r14; (if (S.1 7 10) = 0 then (let r101 := q_X5_sunBy_10 S; (let r106 := q_J9_floorDiv_f86c9 (((-(S.1 7 9)).toInt64) * r101) r14; (let r113 := q_X10_isNear r70; (if r113 = 0 then (4, S) else (let r121 := q_X10_isNear r106; (if r121 = 0 then (4, S) else (0, pI (pI S 7 12 (r70.toInt32)) 7 13 (r106.toInt32)))))))) else (let r83 := q_X8_westSide S; (let x109 := r83.toInt64; (let r113 := q_X10_isNear r70; (if r113 = 0 then (4, S) else (let r121 := q_X10_isNear x109; (if r121 = 0 then (4, S) else (0, pI (pI S 7 12 (r70.toInt32)) 7 13 (x109.toInt32))))))))))) else (let r46 := q_X8_height S; (let x73 := (2 * r46).toInt64; (if (S.1 7 10) = 0 then (let r101 := q_X5_sunBy_10 S; (let r106 := q_J9_floorDiv_f86c9 (((-(S.1 7 9)).toInt64) * r101) r14; (let r113 := q_X10_isNear x73; (if r113 = 0 then (4, S) else (let r121 := q_X10_isNear r106; (if r121 = 0 then (4, S) else (0, pI (pI S 7 12 (x73.toInt32)) 7 13 (r106.toInt32)))))))) else (let r83 := q_X8_westSide S; (let x109 := r83.toInt64; (let r113 := q_X10_isNear x73; (if r113 = 0 then (4, S) else (let r121 := q_X10_isNear x109; (if r121 = 0 then (4, S) else (0, pI (pI S 7 12 (x73.toInt32)) 7 13 (x109.toInt32)))))))))))) else (3, S)) else (2, S))) else (1, S))
set_option maxHeartbeats 4000000 in
set_option maxRecDepth 100000 in
theorem c_X6_settle (l : Launch) (E : gEE) (M : gSm) (S : gSc)   : Met l yX6_settle wsX6_settle ({ frames := 2, cells := 0, slots := 0, locals := 46 }) (va_Pc [.ref (eC E 7), .ref (eC E 1)] (gP E M S)) (va_Qi (fun r (u : gSc) => (r, u) = q_X6_settle S) (fun u t => gW E M u t.heap) (eA E)) 0 0 (eA E) := by
  refine Met.ofW (cc := cX6_settle) (maxL := 8) (ret := (some .int)) (by decide) rfl ?_
  intro p e s m args below meth c s₁ B hml hv
  obtain ⟨rfl, hE, hW⟩ := hv
  have hx := B.exec
  have hb := B.bytes
  have hr := B.returns
  have hts := atoms_spec (ws := wsX6_settle) B.pre
  have hown : s.vm.findClass RX6 = some m.cls := findClass_of_methodNamed B.named
  have hlocks := B.notSynchronized
  have hinX6 : ∀ w ∈ wsX60, w ∈ wsX6_settle := by decide +kernel
  have hinX8 : ∀ w ∈ wsX80, w ∈ wsX6_settle := by decide +kernel
  have hS : va_S (eA E) s.heap s.heap [] := va_S.rf
  have hl := lv_entry ([.ref (eC E 7), .ref (eC E 1)]) (n := 8) (Nat.le_of_ble_eq_true rfl)
  rw [lg_entry_eq]
  generalize (lg_sl ([.ref (eC E 7), .ref (eC E 1)]) ++ List.replicate (8 - (lg_sl ([.ref (eC E 7), .ref (eC E 1)])).length) Slot.unset).toArray = ls at hl ⊢
  have hl : lv_has ls 8 [(0, .ref (eC E 7)), (1, .ref (eC E 1))] := hl
  have hS : ∃ (H : Heap) (locs : List Loc), H = s.heap ∧ locs = [] ∧ gW E M S H ∧ va_S (eA E) s.heap H locs := ⟨_, _, rfl, rfl, hW, hS⟩
  clear hW
  obtain ⟨H, locs, eH, el, hW, hS⟩ := hS
  rw [← eH, ← el]
  clear eH el
  refine lv_aload_n hx hb dX6_settle_0 rfl (lv_at hl 1 rfl) ?_
  refine va_getN (D := eD E) (cl := vwCl) (tys := eT E) (ci := 8) (C := RX8) (T := TX8) (N := 16) (v := .int (S.1 1 15)) hx hb hts hinX8 hown hE.1 hW.1 12 rfl rfl 15 (by decide) (va_Nw.use rfl (hE.2.2.1 (.fieldLinkNest "DialGarden$Shade" 107 "DialGarden$Sky" "up" "I" "DialGarden") (by decide +kernel))) (fun _ h9 => h9) rfl dX6_settle_1 ?_
  refine lv_if_gt (tgt := 9) hx hb dX6_settle_4 (by decide) (fun c4 => ?_) (fun c4 => ?_)
  · refine lv_aload_n hx hb dX6_settle_9 rfl (lv_at hl 0 rfl) ?_
    refine va_get (D := eD E) (cl := vwCl) (tys := eT E) (ci := 6) (C := RX6) (T := TX6) (N := 13) (v := .ref (eC E 8)) hx hb hts hinX6 hown hE.1 hW.1 18 rfl rfl 0 (by decide) (hts (.fieldLink RX6 12 "DialGarden$Shade" "face" "LDialGarden$Row;") (by decide +kernel)) (fun _ h9 => h9) rfl dX6_settle_10 ?_
    refine lv_aload_n hx hb dX6_settle_13 rfl (lv_at hl 1 rfl) ?_
    refine k_Sl (va_runV (As := [.ref (eC E 1)]) (rest := []) ⟨hx, hb, hml, hown, hts⟩ (c_X5_sunBy_8 l E M S) (cwV 1 hts gX6_settle_X5_sunBy rfl rfl rfl (by decide +kernel) ⟨Nat.le_of_ble_eq_true rfl, Nat.le_of_ble_eq_true rfl⟩) (gP.V (ci := 5) (q := (RX5, TX5, 3)) (q0 := 19) hE hS hW rfl rfl) rfl rfl hl.1 rfl (lv_room (Nat.le_of_ble_eq_true rfl)) dX6_settle_14 ⟨Nat.le_of_ble_eq_true rfl, Nat.le_of_ble_eq_true rfl⟩) (fun r14 er14 => ?_)
    refine lv_lstore_n (lv' := [(2, .long (r14)), (0, .ref (eC E 7)), (1, .ref (eC E 1))]) hx hb dX6_settle_17 rfl hl (by decide) rfl (fun ls hl => ?_)
    refine lv_lload_n hx hb dX6_settle_18 rfl (lv_at hl 0 rfl) ?_
    refine lv_lconst (v := 0) hx hb dX6_settle_19 (by decide) ?_
    refine k_lgt (tgt := 26) hx hb dX6_settle_20 dX6_settle_21 (by decide) (fun c20 => ?_) (fun c20 => ?_)
    · refine lv_aload_n hx hb dX6_settle_26 rfl (lv_at hl 1 rfl) ?_
      refine va_get (D := eD E) (cl := vwCl) (tys := eT E) (ci := 6) (C := RX6) (T := TX6) (N := 13) (v := .int (S.1 7 11)) hx hb hts hinX6 hown hE.1 hW.1 18 rfl rfl 10 (by decide) (hts (.fieldLink RX6 52 "DialGarden$Shade" "hider" "I") (by decide +kernel)) (fun _ h9 => h9) rfl dX6_settle_27 ?_
      refine lv_ldc hx hb (v := (-2000000005)) hown (hts (.constant RX6 51 (-2000000005)) (by decide +kernel)) dX6_settle_30 ?_
      refine lv_icmp_eq (tgt := 37) hx hb dX6_settle_32 (by decide) (fun c32 => ?_) (fun c32 => ?_)
      · refine lv_aload_n hx hb dX6_settle_37 rfl (lv_at hl 1 rfl) ?_
        refine va_get (D := eD E) (cl := vwCl) (tys := eT E) (ci := 6) (C := RX6) (T := TX6) (N := 13) (v := .int (S.1 7 10)) hx hb hts hinX6 hown hE.1 hW.1 18 rfl rfl 9 (by decide) (hts (.fieldLink RX6 47 "DialGarden$Shade" "isRing" "Z") (by decide +kernel)) (fun _ h9 => h9) rfl dX6_settle_38 ?_
        refine lv_if_eq (tgt := 54) hx hb dX6_settle_41 (by decide) (fun c41 => ?_) (fun c41 => ?_)
        · refine lv_aload_n hx hb dX6_settle_54 rfl (lv_at hl 1 rfl) ?_
          refine va_get (D := eD E) (cl := vwCl) (tys := eT E) (ci := 6) (C := RX6) (T := TX6) (N := 13) (v := .int (S.1 7 9)) hx hb hts hinX6 hown hE.1 hW.1 18 rfl rfl 8 (by decide) (hts (.fieldLink RX6 44 "DialGarden$Shade" "rod" "I") (by decide +kernel)) (fun _ h9 => h9) rfl dX6_settle_55 ?_
          refine lv_ineg hx hb dX6_settle_58 ?_
          refine lv_i2l (v := (-(S.1 7 9)).toInt64) hx hb dX6_settle_59 rfl ?_
          refine lv_aload_n hx hb dX6_settle_60 rfl (lv_at hl 1 rfl) ?_
          refine va_get (D := eD E) (cl := vwCl) (tys := eT E) (ci := 6) (C := RX6) (T := TX6) (N := 13) (v := .ref (eC E 9)) hx hb hts hinX6 hown hE.1 hW.1 18 rfl rfl 1 (by decide) (hts (.fieldLink RX6 18 "DialGarden$Shade" "across" "LDialGarden$Row;") (by decide +kernel)) (fun _ h9 => h9) rfl dX6_settle_61 ?_
          refine lv_aload_n hx hb dX6_settle_64 rfl (lv_at hl 2 rfl) ?_
          refine k_Sl (va_runV (As := [.ref (eC E 1)]) (rest := [.long ((-(S.1 7 9)).toInt64)]) ⟨hx, hb, hml, hown, hts⟩ (c_X5_sunBy_9 l E M S) (cwV 1 hts gX6_settle_X5_sunBy rfl rfl rfl (by decide +kernel) ⟨Nat.le_of_ble_eq_true rfl, Nat.le_of_ble_eq_true rfl⟩) (gP.V (ci := 5) (q := (RX5, TX5, 3)) (q0 := 20) hE hS hW rfl rfl) rfl rfl hl.1 rfl (lv_room (Nat.le_of_ble_eq_true rfl)) dX6_settle_65 ⟨Nat.le_of_ble_eq_true rfl, Nat.le_of_ble_eq_true rfl⟩) (fun r65 er65 => ?_)
          refine lv_lmul hx hb dX6_settle_68 ?_
          refine lv_lload_n hx hb dX6_settle_69 rfl (lv_at hl 0 rfl) ?_
          refine k_Sl (va_runS (As := [.long (((-(S.1 7 9)).toInt64) * r65), .long (r14)]) (rest := []) ⟨hx, hb, hml, hown, hts⟩ (c_J9_floorDiv_f86c9 l (((-(S.1 7 9)).toInt64) * r65) r14 (l_pos_ne c20)) (va_cwS 2 hts gX6_settle_J9_floorDiv_f86c9 rfl rfl rfl (by decide +kernel) ⟨Nat.le_of_ble_eq_true rfl, Nat.le_of_ble_eq_true rfl⟩) gP0 rfl rfl hl.1 rfl (lv_room (Nat.le_of_ble_eq_true rfl)) dX6_settle_70 ⟨Nat.le_of_ble_eq_true rfl, Nat.le_of_ble_eq_true rfl⟩) (fun r70 er70 => ?_)
          refine lv_lstore (lv' := [(4, .long (r70)), (2, .long (r14)), (0, .ref (eC E 7)), (1, .ref (eC E 1))]) hx hb dX6_settle_73 hl (by decide) rfl (fun ls hl => ?_)
          refine lv_aload_n hx hb dX6_settle_75 rfl (lv_at hl 2 rfl) ?_
          refine va_get (D := eD E) (cl := vwCl) (tys := eT E) (ci := 6) (C := RX6) (T := TX6) (N := 13) (v := .int (S.1 7 10)) hx hb hts hinX6 hown hE.1 hW.1 18 rfl rfl 9 (by decide) (hts (.fieldLink RX6 47 "DialGarden$Shade" "isRing" "Z") (by decide +kernel)) (fun _ h9 => h9) rfl dX6_settle_76 ?_
          refine lv_if_eq (tgt := 90) hx hb dX6_settle_79 (by decide) (fun c79 => ?_) (fun c79 => ?_)
          · refine lv_aload_n hx hb dX6_settle_90 rfl (lv_at hl 2 rfl) ?_
            refine va_get (D := eD E) (cl := vwCl) (tys := eT E) (ci := 6) (C := RX6) (T := TX6) (N := 13) (v := .int (S.1 7 9)) hx hb hts hinX6 hown hE.1 hW.1 18 rfl rfl 8 (by decide) (hts (.fieldLink RX6 44 "DialGarden$Shade" "rod" "I") (by decide +kernel)) (fun _ h9 => h9) rfl dX6_settle_91 ?_
            refine lv_ineg hx hb dX6_settle_94 ?_
            refine lv_i2l (v := (-(S.1 7 9)).toInt64) hx hb dX6_settle_95 rfl ?_
            refine lv_aload_n hx hb dX6_settle_96 rfl (lv_at hl 2 rfl) ?_
            refine va_get (D := eD E) (cl := vwCl) (tys := eT E) (ci := 6) (C := RX6) (T := TX6) (N := 13) (v := .ref (eC E 10)) hx hb hts hinX6 hown hE.1 hW.1 18 rfl rfl 2 (by decide) (hts (.fieldLink RX6 21 "DialGarden$Shade" "along" "LDialGarden$Row;") (by decide +kernel)) (fun _ h9 => h9) rfl dX6_settle_97 ?_
            refine lv_aload_n hx hb dX6_settle_100 rfl (lv_at hl 3 rfl) ?_
            refine k_Sl (va_runV (As := [.ref (eC E 1)]) (rest := [.long ((-(S.1 7 9)).toInt64)]) ⟨hx, hb, hml, hown, hts⟩ (c_X5_sunBy_10 l E M S) (cwV 1 hts gX6_settle_X5_sunBy rfl rfl rfl (by decide +kernel) ⟨Nat.le_of_ble_eq_true rfl, Nat.le_of_ble_eq_true rfl⟩) (gP.V (ci := 5) (q := (RX5, TX5, 3)) (q0 := 21) hE hS hW rfl rfl) rfl rfl hl.1 rfl (lv_room (Nat.le_of_ble_eq_true rfl)) dX6_settle_101 ⟨Nat.le_of_ble_eq_true rfl, Nat.le_of_ble_eq_true rfl⟩) (fun r101 er101 => ?_)
            refine lv_lmul hx hb dX6_settle_104 ?_
            refine lv_lload_n hx hb dX6_settle_105 rfl (lv_at hl 1 rfl) ?_
            refine k_Sl (va_runS (As := [.long (((-(S.1 7 9)).toInt64) * r101), .long (r14)]) (rest := []) ⟨hx, hb, hml, hown, hts⟩ (c_J9_floorDiv_f86c9 l (((-(S.1 7 9)).toInt64) * r101) r14 (l_pos_ne c20)) (va_cwS 2 hts gX6_settle_J9_floorDiv_f86c9 rfl rfl rfl (by decide +kernel) ⟨Nat.le_of_ble_eq_true rfl, Nat.le_of_ble_eq_true rfl⟩) gP0 rfl rfl hl.1 rfl (lv_room (Nat.le_of_ble_eq_true rfl)) dX6_settle_106 ⟨Nat.le_of_ble_eq_true rfl, Nat.le_of_ble_eq_true rfl⟩) (fun r106 er106 => ?_)
            refine lv_lstore (lv' := [(6, .long (r106)), (4, .long (r70)), (2, .long (r14)), (0, .ref (eC E 7)), (1, .ref (eC E 1))]) hx hb dX6_settle_109 hl (by decide) rfl (fun ls hl => ?_)
            refine lv_lload hx hb dX6_settle_111 (lv_at hl 1 rfl) ?_
            refine k_Si (va_runSN (As := [.long (r70)]) (rest := []) ⟨hx, hb, hml, hown, hts⟩ (c_X10_isNear l r70) ⟨va_cnB 1 hts gX6_settle_X10_isNear_n133 rfl rfl rfl (hE.2.2.1 (.methodLinkNest "DialGarden$Shade" 133 ⟨"DialGarden", "isNear", "(J)Z"⟩ "DialGarden") (by decide +kernel)) (hts (.initialized RX10) (by decide +kernel)) (by decide +kernel) ⟨Nat.le_of_ble_eq_true rfl, Nat.le_of_ble_eq_true rfl⟩, hts (.static yX10_isNear) (by decide +kernel), trivial⟩ gP0 rfl rfl hl.1 rfl (lv_room (Nat.le_of_ble_eq_true rfl)) dX6_settle_113 ⟨Nat.le_of_ble_eq_true rfl, Nat.le_of_ble_eq_true rfl⟩) (fun r113 er113 => ?_)
            refine lv_if_eq (tgt := 127) hx hb dX6_settle_116 (by decide) (fun c116 => ?_) (fun c116 => ?_)
            · refine lv_iconst (v := 4) hx hb dX6_settle_127 (by decide) ?_
              exact W.iret (v := 4) hx hb hr (fun t ht _ => ⟨⟨4, S, rfl, by subst er113; subst er106; subst er101; subst er70; subst er65; subst er14; first | (simp only [q_X6_settle, if_pos c4, if_pos c20, if_pos c32, if_pos c41, if_pos c79, if_pos c116]; done) | contradiction, by dsimp only; rw [ht]; exact hW⟩, hS.F ht⟩) hS.2.2 dX6_settle_128
            · refine lv_lload hx hb dX6_settle_119 (lv_at hl 0 rfl) ?_
              refine k_Si (va_runSN (As := [.long (r106)]) (rest := []) ⟨hx, hb, hml, hown, hts⟩ (c_X10_isNear l r106) ⟨va_cnB 1 hts gX6_settle_X10_isNear_n133 rfl rfl rfl (hE.2.2.1 (.methodLinkNest "DialGarden$Shade" 133 ⟨"DialGarden", "isNear", "(J)Z"⟩ "DialGarden") (by decide +kernel)) (hts (.initialized RX10) (by decide +kernel)) (by decide +kernel) ⟨Nat.le_of_ble_eq_true rfl, Nat.le_of_ble_eq_true rfl⟩, hts (.static yX10_isNear) (by decide +kernel), trivial⟩ gP0 rfl rfl hl.1 rfl (lv_room (Nat.le_of_ble_eq_true rfl)) dX6_settle_121 ⟨Nat.le_of_ble_eq_true rfl, Nat.le_of_ble_eq_true rfl⟩) (fun r121 er121 => ?_)
              refine lv_if_ne (tgt := 129) hx hb dX6_settle_124 (by decide) (fun c124 => ?_) (fun c124 => ?_)
              · refine lv_aload_n hx hb dX6_settle_129 rfl (lv_at hl 3 rfl) ?_
                refine lv_lload hx hb dX6_settle_130 (lv_at hl 1 rfl) ?_
                refine lv_l2i (v := r70.toInt32) hx hb dX6_settle_132 rfl ?_
                refine va_put (D := eD E) (cl := vwCl) (tys := eT E) (A := eA E) (ci := 6) (C := RX6) (T := TX6) (N := 13) (v := .int (r70.toInt32)) (ty := .int) hx hb hts hinX6 tyX6 tyX6_ok nmX6 hown hE.1 hW.1 hW.2 hS 18 rfl rfl 11 (by decide) (hts (.fieldLink RX6 55 "DialGarden$Shade" "endX" "I") (by decide +kernel)) (fun _ h9 => h9) rfl (by decide +kernel) rfl rfl (Nat.le_of_ble_eq_true rfl) dX6_settle_133 (fun H locs hP hD hS => ?_)
                have hW : gW E M (pI S 7 12 (r70.toInt32)) H := gW.of (uC_7_12 E M S (r70.toInt32)) hP hD
                refine lv_aload_n hx hb dX6_settle_136 rfl (lv_at hl 3 rfl) ?_
                refine lv_lload hx hb dX6_settle_137 (lv_at hl 0 rfl) ?_
                refine lv_l2i (v := r106.toInt32) hx hb dX6_settle_139 rfl ?_
                refine va_put (D := eD E) (cl := vwCl) (tys := eT E) (A := eA E) (ci := 6) (C := RX6) (T := TX6) (N := 13) (v := .int (r106.toInt32)) (ty := .int) hx hb hts hinX6 tyX6 tyX6_ok nmX6 hown hE.1 hW.1 hW.2 hS 18 rfl rfl 12 (by decide) (hts (.fieldLink RX6 58 "DialGarden$Shade" "endY" "I") (by decide +kernel)) (fun _ h9 => h9) rfl (by decide +kernel) rfl rfl (Nat.le_of_ble_eq_true rfl) dX6_settle_140 (fun H locs hP hD hS => ?_)
                have hW : gW E M (pI (pI S 7 12 (r70.toInt32)) 7 13 (r106.toInt32)) H := gW.of (uC_7_13 E M (pI S 7 12 (r70.toInt32)) (r106.toInt32)) hP hD
                refine lv_iconst (v := 0) hx hb dX6_settle_143 (by decide) ?_
                exact W.iret (v := 0) hx hb hr (fun t ht _ => ⟨⟨0, pI (pI S 7 12 (r70.toInt32)) 7 13 (r106.toInt32), rfl, by subst er121; subst er113; subst er106; subst er101; subst er70; subst er65; subst er14; first | (simp only [q_X6_settle, if_pos c4, if_pos c20, if_pos c32, if_pos c41, if_pos c79, if_neg c116, if_neg c124]; done) | contradiction, by dsimp only; rw [ht]; exact hW⟩, hS.F ht⟩) hS.2.2 dX6_settle_144
              · refine lv_iconst (v := 4) hx hb dX6_settle_127 (by decide) ?_
                exact W.iret (v := 4) hx hb hr (fun t ht _ => ⟨⟨4, S, rfl, by subst er121; subst er113; subst er106; subst er101; subst er70; subst er65; subst er14; first | (simp only [q_X6_settle, if_pos c4, if_pos c20, if_pos c32, if_pos c41, if_pos c79, if_neg c116, if_pos c124]; done) | contradiction, by dsimp only; rw [ht]; exact hW⟩, hS.F ht⟩) hS.2.2 dX6_settle_128
          · refine lv_aload_n hx hb dX6_settle_82 rfl (lv_at hl 3 rfl) ?_
            refine k_Si (va_runV (As := []) (rest := []) ⟨hx, hb, hml, hown, hts⟩ (c_X8_westSide l E M S) (cwV 0 hts gX6_settle_X8_westSide rfl rfl rfl (by decide +kernel) ⟨Nat.le_of_ble_eq_true rfl, Nat.le_of_ble_eq_true rfl⟩) (gP.V (ci := 8) (q := (RX8, TX8, 16)) (q0 := 12) hE hS hW rfl rfl) rfl rfl hl.1 rfl (lv_room (Nat.le_of_ble_eq_true rfl)) dX6_settle_83 ⟨Nat.le_of_ble_eq_true rfl, Nat.le_of_ble_eq_true rfl⟩) (fun r83 er83 => ?_)
            refine lv_i2l (v := r83.toInt64) hx hb dX6_settle_86 rfl ?_
            refine lv_goto (tgt := 109) hx hb dX6_settle_87 (by decide) ?_
            refine lv_topl (fun x109 ex109 => ?_)
            refine lv_lstore (lv' := [(6, .long (x109)), (4, .long (r70)), (2, .long (r14)), (0, .ref (eC E 7)), (1, .ref (eC E 1))]) hx hb dX6_settle_109 hl (by decide) rfl (fun ls hl => ?_)
            refine lv_lload hx hb dX6_settle_111 (lv_at hl 1 rfl) ?_
            refine k_Si (va_runSN (As := [.long (r70)]) (rest := []) ⟨hx, hb, hml, hown, hts⟩ (c_X10_isNear l r70) ⟨va_cnB 1 hts gX6_settle_X10_isNear_n133 rfl rfl rfl (hE.2.2.1 (.methodLinkNest "DialGarden$Shade" 133 ⟨"DialGarden", "isNear", "(J)Z"⟩ "DialGarden") (by decide +kernel)) (hts (.initialized RX10) (by decide +kernel)) (by decide +kernel) ⟨Nat.le_of_ble_eq_true rfl, Nat.le_of_ble_eq_true rfl⟩, hts (.static yX10_isNear) (by decide +kernel), trivial⟩ gP0 rfl rfl hl.1 rfl (lv_room (Nat.le_of_ble_eq_true rfl)) dX6_settle_113 ⟨Nat.le_of_ble_eq_true rfl, Nat.le_of_ble_eq_true rfl⟩) (fun r113 er113 => ?_)
            refine lv_if_eq (tgt := 127) hx hb dX6_settle_116 (by decide) (fun c116 => ?_) (fun c116 => ?_)
            · refine lv_iconst (v := 4) hx hb dX6_settle_127 (by decide) ?_
              exact W.iret (v := 4) hx hb hr (fun t ht _ => ⟨⟨4, S, rfl, by subst er113; subst ex109; subst er83; subst er70; subst er65; subst er14; first | (simp only [q_X6_settle, if_pos c4, if_pos c20, if_pos c32, if_pos c41, if_neg c79, if_pos c116]; done) | contradiction, by dsimp only; rw [ht]; exact hW⟩, hS.F ht⟩) hS.2.2 dX6_settle_128
            · refine lv_lload hx hb dX6_settle_119 (lv_at hl 0 rfl) ?_
              refine k_Si (va_runSN (As := [.long (x109)]) (rest := []) ⟨hx, hb, hml, hown, hts⟩ (c_X10_isNear l x109) ⟨va_cnB 1 hts gX6_settle_X10_isNear_n133 rfl rfl rfl (hE.2.2.1 (.methodLinkNest "DialGarden$Shade" 133 ⟨"DialGarden", "isNear", "(J)Z"⟩ "DialGarden") (by decide +kernel)) (hts (.initialized RX10) (by decide +kernel)) (by decide +kernel) ⟨Nat.le_of_ble_eq_true rfl, Nat.le_of_ble_eq_true rfl⟩, hts (.static yX10_isNear) (by decide +kernel), trivial⟩ gP0 rfl rfl hl.1 rfl (lv_room (Nat.le_of_ble_eq_true rfl)) dX6_settle_121 ⟨Nat.le_of_ble_eq_true rfl, Nat.le_of_ble_eq_true rfl⟩) (fun r121 er121 => ?_)
              refine lv_if_ne (tgt := 129) hx hb dX6_settle_124 (by decide) (fun c124 => ?_) (fun c124 => ?_)
              · refine lv_aload_n hx hb dX6_settle_129 rfl (lv_at hl 3 rfl) ?_
                refine lv_lload hx hb dX6_settle_130 (lv_at hl 1 rfl) ?_
                refine lv_l2i (v := r70.toInt32) hx hb dX6_settle_132 rfl ?_
                refine va_put (D := eD E) (cl := vwCl) (tys := eT E) (A := eA E) (ci := 6) (C := RX6) (T := TX6) (N := 13) (v := .int (r70.toInt32)) (ty := .int) hx hb hts hinX6 tyX6 tyX6_ok nmX6 hown hE.1 hW.1 hW.2 hS 18 rfl rfl 11 (by decide) (hts (.fieldLink RX6 55 "DialGarden$Shade" "endX" "I") (by decide +kernel)) (fun _ h9 => h9) rfl (by decide +kernel) rfl rfl (Nat.le_of_ble_eq_true rfl) dX6_settle_133 (fun H locs hP hD hS => ?_)
                have hW : gW E M (pI S 7 12 (r70.toInt32)) H := gW.of (uC_7_12 E M S (r70.toInt32)) hP hD
                refine lv_aload_n hx hb dX6_settle_136 rfl (lv_at hl 3 rfl) ?_
                refine lv_lload hx hb dX6_settle_137 (lv_at hl 0 rfl) ?_
                refine lv_l2i (v := x109.toInt32) hx hb dX6_settle_139 rfl ?_
                refine va_put (D := eD E) (cl := vwCl) (tys := eT E) (A := eA E) (ci := 6) (C := RX6) (T := TX6) (N := 13) (v := .int (x109.toInt32)) (ty := .int) hx hb hts hinX6 tyX6 tyX6_ok nmX6 hown hE.1 hW.1 hW.2 hS 18 rfl rfl 12 (by decide) (hts (.fieldLink RX6 58 "DialGarden$Shade" "endY" "I") (by decide +kernel)) (fun _ h9 => h9) rfl (by decide +kernel) rfl rfl (Nat.le_of_ble_eq_true rfl) dX6_settle_140 (fun H locs hP hD hS => ?_)
                have hW : gW E M (pI (pI S 7 12 (r70.toInt32)) 7 13 (x109.toInt32)) H := gW.of (uC_7_13 E M (pI S 7 12 (r70.toInt32)) (x109.toInt32)) hP hD
                refine lv_iconst (v := 0) hx hb dX6_settle_143 (by decide) ?_
                exact W.iret (v := 0) hx hb hr (fun t ht _ => ⟨⟨0, pI (pI S 7 12 (r70.toInt32)) 7 13 (x109.toInt32), rfl, by subst er121; subst er113; subst ex109; subst er83; subst er70; subst er65; subst er14; first | (simp only [q_X6_settle, if_pos c4, if_pos c20, if_pos c32, if_pos c41, if_neg c79, if_neg c116, if_neg c124]; done) | contradiction, by dsimp only; rw [ht]; exact hW⟩, hS.F ht⟩) hS.2.2 dX6_settle_144
              · refine lv_iconst (v := 4) hx hb dX6_settle_127 (by decide) ?_
                exact W.iret (v := 4) hx hb hr (fun t ht _ => ⟨⟨4, S, rfl, by subst er121; subst er113; subst ex109; subst er83; subst er70; subst er65; subst er14; first | (simp only [q_X6_settle, if_pos c4, if_pos c20, if_pos c32, if_pos c41, if_neg c79, if_neg c116, if_pos c124]; done) | contradiction, by dsimp only; rw [ht]; exact hW⟩, hS.F ht⟩) hS.2.2 dX6_settle_128
        · refine lv_iconst (v := 2) hx hb dX6_settle_44 (by decide) ?_
          refine lv_aload_n hx hb dX6_settle_45 rfl (lv_at hl 2 rfl) ?_
          refine k_Si (va_runV (As := []) (rest := [.int (2)]) ⟨hx, hb, hml, hown, hts⟩ (c_X8_height l E M S) (cwV 0 hts gX6_settle_X8_height rfl rfl rfl (by decide +kernel) ⟨Nat.le_of_ble_eq_true rfl, Nat.le_of_ble_eq_true rfl⟩) (gP.V (ci := 8) (q := (RX8, TX8, 16)) (q0 := 12) hE hS hW rfl rfl) rfl rfl hl.1 rfl (lv_room (Nat.le_of_ble_eq_true rfl)) dX6_settle_46 ⟨Nat.le_of_ble_eq_true rfl, Nat.le_of_ble_eq_true rfl⟩) (fun r46 er46 => ?_)
          refine lv_imul hx hb dX6_settle_49 ?_
          refine lv_i2l (v := (2 * r46).toInt64) hx hb dX6_settle_50 rfl ?_
          refine lv_goto (tgt := 73) hx hb dX6_settle_51 (by decide) ?_
          refine lv_topl (fun x73 ex73 => ?_)
          refine lv_lstore (lv' := [(4, .long (x73)), (2, .long (r14)), (0, .ref (eC E 7)), (1, .ref (eC E 1))]) hx hb dX6_settle_73 hl (by decide) rfl (fun ls hl => ?_)
          refine lv_aload_n hx hb dX6_settle_75 rfl (lv_at hl 2 rfl) ?_
          refine va_get (D := eD E) (cl := vwCl) (tys := eT E) (ci := 6) (C := RX6) (T := TX6) (N := 13) (v := .int (S.1 7 10)) hx hb hts hinX6 hown hE.1 hW.1 18 rfl rfl 9 (by decide) (hts (.fieldLink RX6 47 "DialGarden$Shade" "isRing" "Z") (by decide +kernel)) (fun _ h9 => h9) rfl dX6_settle_76 ?_
          refine lv_if_eq (tgt := 90) hx hb dX6_settle_79 (by decide) (fun c79 => ?_) (fun c79 => ?_)
          · refine lv_aload_n hx hb dX6_settle_90 rfl (lv_at hl 2 rfl) ?_
            refine va_get (D := eD E) (cl := vwCl) (tys := eT E) (ci := 6) (C := RX6) (T := TX6) (N := 13) (v := .int (S.1 7 9)) hx hb hts hinX6 hown hE.1 hW.1 18 rfl rfl 8 (by decide) (hts (.fieldLink RX6 44 "DialGarden$Shade" "rod" "I") (by decide +kernel)) (fun _ h9 => h9) rfl dX6_settle_91 ?_
            refine lv_ineg hx hb dX6_settle_94 ?_
            refine lv_i2l (v := (-(S.1 7 9)).toInt64) hx hb dX6_settle_95 rfl ?_
            refine lv_aload_n hx hb dX6_settle_96 rfl (lv_at hl 2 rfl) ?_
            refine va_get (D := eD E) (cl := vwCl) (tys := eT E) (ci := 6) (C := RX6) (T := TX6) (N := 13) (v := .ref (eC E 10)) hx hb hts hinX6 hown hE.1 hW.1 18 rfl rfl 2 (by decide) (hts (.fieldLink RX6 21 "DialGarden$Shade" "along" "LDialGarden$Row;") (by decide +kernel)) (fun _ h9 => h9) rfl dX6_settle_97 ?_
            refine lv_aload_n hx hb dX6_settle_100 rfl (lv_at hl 3 rfl) ?_
            refine k_Sl (va_runV (As := [.ref (eC E 1)]) (rest := [.long ((-(S.1 7 9)).toInt64)]) ⟨hx, hb, hml, hown, hts⟩ (c_X5_sunBy_10 l E M S) (cwV 1 hts gX6_settle_X5_sunBy rfl rfl rfl (by decide +kernel) ⟨Nat.le_of_ble_eq_true rfl, Nat.le_of_ble_eq_true rfl⟩) (gP.V (ci := 5) (q := (RX5, TX5, 3)) (q0 := 21) hE hS hW rfl rfl) rfl rfl hl.1 rfl (lv_room (Nat.le_of_ble_eq_true rfl)) dX6_settle_101 ⟨Nat.le_of_ble_eq_true rfl, Nat.le_of_ble_eq_true rfl⟩) (fun r101 er101 => ?_)
            refine lv_lmul hx hb dX6_settle_104 ?_
            refine lv_lload_n hx hb dX6_settle_105 rfl (lv_at hl 1 rfl) ?_
            refine k_Sl (va_runS (As := [.long (((-(S.1 7 9)).toInt64) * r101), .long (r14)]) (rest := []) ⟨hx, hb, hml, hown, hts⟩ (c_J9_floorDiv_f86c9 l (((-(S.1 7 9)).toInt64) * r101) r14 (l_pos_ne c20)) (va_cwS 2 hts gX6_settle_J9_floorDiv_f86c9 rfl rfl rfl (by decide +kernel) ⟨Nat.le_of_ble_eq_true rfl, Nat.le_of_ble_eq_true rfl⟩) gP0 rfl rfl hl.1 rfl (lv_room (Nat.le_of_ble_eq_true rfl)) dX6_settle_106 ⟨Nat.le_of_ble_eq_true rfl, Nat.le_of_ble_eq_true rfl⟩) (fun r106 er106 => ?_)
            refine lv_lstore (lv' := [(6, .long (r106)), (4, .long (x73)), (2, .long (r14)), (0, .ref (eC E 7)), (1, .ref (eC E 1))]) hx hb dX6_settle_109 hl (by decide) rfl (fun ls hl => ?_)
            refine lv_lload hx hb dX6_settle_111 (lv_at hl 1 rfl) ?_
            refine k_Si (va_runSN (As := [.long (x73)]) (rest := []) ⟨hx, hb, hml, hown, hts⟩ (c_X10_isNear l x73) ⟨va_cnB 1 hts gX6_settle_X10_isNear_n133 rfl rfl rfl (hE.2.2.1 (.methodLinkNest "DialGarden$Shade" 133 ⟨"DialGarden", "isNear", "(J)Z"⟩ "DialGarden") (by decide +kernel)) (hts (.initialized RX10) (by decide +kernel)) (by decide +kernel) ⟨Nat.le_of_ble_eq_true rfl, Nat.le_of_ble_eq_true rfl⟩, hts (.static yX10_isNear) (by decide +kernel), trivial⟩ gP0 rfl rfl hl.1 rfl (lv_room (Nat.le_of_ble_eq_true rfl)) dX6_settle_113 ⟨Nat.le_of_ble_eq_true rfl, Nat.le_of_ble_eq_true rfl⟩) (fun r113 er113 => ?_)
            refine lv_if_eq (tgt := 127) hx hb dX6_settle_116 (by decide) (fun c116 => ?_) (fun c116 => ?_)
            · refine lv_iconst (v := 4) hx hb dX6_settle_127 (by decide) ?_
              exact W.iret (v := 4) hx hb hr (fun t ht _ => ⟨⟨4, S, rfl, by subst er113; subst er106; subst er101; subst ex73; subst er46; subst er14; first | (simp only [q_X6_settle, if_pos c4, if_pos c20, if_pos c32, if_neg c41, if_pos c79, if_pos c116]; done) | contradiction, by dsimp only; rw [ht]; exact hW⟩, hS.F ht⟩) hS.2.2 dX6_settle_128
            · refine lv_lload hx hb dX6_settle_119 (lv_at hl 0 rfl) ?_
              refine k_Si (va_runSN (As := [.long (r106)]) (rest := []) ⟨hx, hb, hml, hown, hts⟩ (c_X10_isNear l r106) ⟨va_cnB 1 hts gX6_settle_X10_isNear_n133 rfl rfl rfl (hE.2.2.1 (.methodLinkNest "DialGarden$Shade" 133 ⟨"DialGarden", "isNear", "(J)Z"⟩ "DialGarden") (by decide +kernel)) (hts (.initialized RX10) (by decide +kernel)) (by decide +kernel) ⟨Nat.le_of_ble_eq_true rfl, Nat.le_of_ble_eq_true rfl⟩, hts (.static yX10_isNear) (by decide +kernel), trivial⟩ gP0 rfl rfl hl.1 rfl (lv_room (Nat.le_of_ble_eq_true rfl)) dX6_settle_121 ⟨Nat.le_of_ble_eq_true rfl, Nat.le_of_ble_eq_true rfl⟩) (fun r121 er121 => ?_)
              refine lv_if_ne (tgt := 129) hx hb dX6_settle_124 (by decide) (fun c124 => ?_) (fun c124 => ?_)
              · refine lv_aload_n hx hb dX6_settle_129 rfl (lv_at hl 3 rfl) ?_
                refine lv_lload hx hb dX6_settle_130 (lv_at hl 1 rfl) ?_
                refine lv_l2i (v := x73.toInt32) hx hb dX6_settle_132 rfl ?_
                refine va_put (D := eD E) (cl := vwCl) (tys := eT E) (A := eA E) (ci := 6) (C := RX6) (T := TX6) (N := 13) (v := .int (x73.toInt32)) (ty := .int) hx hb hts hinX6 tyX6 tyX6_ok nmX6 hown hE.1 hW.1 hW.2 hS 18 rfl rfl 11 (by decide) (hts (.fieldLink RX6 55 "DialGarden$Shade" "endX" "I") (by decide +kernel)) (fun _ h9 => h9) rfl (by decide +kernel) rfl rfl (Nat.le_of_ble_eq_true rfl) dX6_settle_133 (fun H locs hP hD hS => ?_)
                have hW : gW E M (pI S 7 12 (x73.toInt32)) H := gW.of (uC_7_12 E M S (x73.toInt32)) hP hD
                refine lv_aload_n hx hb dX6_settle_136 rfl (lv_at hl 3 rfl) ?_
                refine lv_lload hx hb dX6_settle_137 (lv_at hl 0 rfl) ?_
                refine lv_l2i (v := r106.toInt32) hx hb dX6_settle_139 rfl ?_
                refine va_put (D := eD E) (cl := vwCl) (tys := eT E) (A := eA E) (ci := 6) (C := RX6) (T := TX6) (N := 13) (v := .int (r106.toInt32)) (ty := .int) hx hb hts hinX6 tyX6 tyX6_ok nmX6 hown hE.1 hW.1 hW.2 hS 18 rfl rfl 12 (by decide) (hts (.fieldLink RX6 58 "DialGarden$Shade" "endY" "I") (by decide +kernel)) (fun _ h9 => h9) rfl (by decide +kernel) rfl rfl (Nat.le_of_ble_eq_true rfl) dX6_settle_140 (fun H locs hP hD hS => ?_)
                have hW : gW E M (pI (pI S 7 12 (x73.toInt32)) 7 13 (r106.toInt32)) H := gW.of (uC_7_13 E M (pI S 7 12 (x73.toInt32)) (r106.toInt32)) hP hD
                refine lv_iconst (v := 0) hx hb dX6_settle_143 (by decide) ?_
                exact W.iret (v := 0) hx hb hr (fun t ht _ => ⟨⟨0, pI (pI S 7 12 (x73.toInt32)) 7 13 (r106.toInt32), rfl, by subst er121; subst er113; subst er106; subst er101; subst ex73; subst er46; subst er14; first | (simp only [q_X6_settle, if_pos c4, if_pos c20, if_pos c32, if_neg c41, if_pos c79, if_neg c116, if_neg c124]; done) | contradiction, by dsimp only; rw [ht]; exact hW⟩, hS.F ht⟩) hS.2.2 dX6_settle_144
              · refine lv_iconst (v := 4) hx hb dX6_settle_127 (by decide) ?_
                exact W.iret (v := 4) hx hb hr (fun t ht _ => ⟨⟨4, S, rfl, by subst er121; subst er113; subst er106; subst er101; subst ex73; subst er46; subst er14; first | (simp only [q_X6_settle, if_pos c4, if_pos c20, if_pos c32, if_neg c41, if_pos c79, if_neg c116, if_pos c124]; done) | contradiction, by dsimp only; rw [ht]; exact hW⟩, hS.F ht⟩) hS.2.2 dX6_settle_128
          · refine lv_aload_n hx hb dX6_settle_82 rfl (lv_at hl 3 rfl) ?_
            refine k_Si (va_runV (As := []) (rest := []) ⟨hx, hb, hml, hown, hts⟩ (c_X8_westSide l E M S) (cwV 0 hts gX6_settle_X8_westSide rfl rfl rfl (by decide +kernel) ⟨Nat.le_of_ble_eq_true rfl, Nat.le_of_ble_eq_true rfl⟩) (gP.V (ci := 8) (q := (RX8, TX8, 16)) (q0 := 12) hE hS hW rfl rfl) rfl rfl hl.1 rfl (lv_room (Nat.le_of_ble_eq_true rfl)) dX6_settle_83 ⟨Nat.le_of_ble_eq_true rfl, Nat.le_of_ble_eq_true rfl⟩) (fun r83 er83 => ?_)
            refine lv_i2l (v := r83.toInt64) hx hb dX6_settle_86 rfl ?_
            refine lv_goto (tgt := 109) hx hb dX6_settle_87 (by decide) ?_
            refine lv_topl (fun x109 ex109 => ?_)
            refine lv_lstore (lv' := [(6, .long (x109)), (4, .long (x73)), (2, .long (r14)), (0, .ref (eC E 7)), (1, .ref (eC E 1))]) hx hb dX6_settle_109 hl (by decide) rfl (fun ls hl => ?_)
            refine lv_lload hx hb dX6_settle_111 (lv_at hl 1 rfl) ?_
            refine k_Si (va_runSN (As := [.long (x73)]) (rest := []) ⟨hx, hb, hml, hown, hts⟩ (c_X10_isNear l x73) ⟨va_cnB 1 hts gX6_settle_X10_isNear_n133 rfl rfl rfl (hE.2.2.1 (.methodLinkNest "DialGarden$Shade" 133 ⟨"DialGarden", "isNear", "(J)Z"⟩ "DialGarden") (by decide +kernel)) (hts (.initialized RX10) (by decide +kernel)) (by decide +kernel) ⟨Nat.le_of_ble_eq_true rfl, Nat.le_of_ble_eq_true rfl⟩, hts (.static yX10_isNear) (by decide +kernel), trivial⟩ gP0 rfl rfl hl.1 rfl (lv_room (Nat.le_of_ble_eq_true rfl)) dX6_settle_113 ⟨Nat.le_of_ble_eq_true rfl, Nat.le_of_ble_eq_true rfl⟩) (fun r113 er113 => ?_)
            refine lv_if_eq (tgt := 127) hx hb dX6_settle_116 (by decide) (fun c116 => ?_) (fun c116 => ?_)
            · refine lv_iconst (v := 4) hx hb dX6_settle_127 (by decide) ?_
              exact W.iret (v := 4) hx hb hr (fun t ht _ => ⟨⟨4, S, rfl, by subst er113; subst ex109; subst er83; subst ex73; subst er46; subst er14; first | (simp only [q_X6_settle, if_pos c4, if_pos c20, if_pos c32, if_neg c41, if_neg c79, if_pos c116]; done) | contradiction, by dsimp only; rw [ht]; exact hW⟩, hS.F ht⟩) hS.2.2 dX6_settle_128
            · refine lv_lload hx hb dX6_settle_119 (lv_at hl 0 rfl) ?_
              refine k_Si (va_runSN (As := [.long (x109)]) (rest := []) ⟨hx, hb, hml, hown, hts⟩ (c_X10_isNear l x109) ⟨va_cnB 1 hts gX6_settle_X10_isNear_n133 rfl rfl rfl (hE.2.2.1 (.methodLinkNest "DialGarden$Shade" 133 ⟨"DialGarden", "isNear", "(J)Z"⟩ "DialGarden") (by decide +kernel)) (hts (.initialized RX10) (by decide +kernel)) (by decide +kernel) ⟨Nat.le_of_ble_eq_true rfl, Nat.le_of_ble_eq_true rfl⟩, hts (.static yX10_isNear) (by decide +kernel), trivial⟩ gP0 rfl rfl hl.1 rfl (lv_room (Nat.le_of_ble_eq_true rfl)) dX6_settle_121 ⟨Nat.le_of_ble_eq_true rfl, Nat.le_of_ble_eq_true rfl⟩) (fun r121 er121 => ?_)
              refine lv_if_ne (tgt := 129) hx hb dX6_settle_124 (by decide) (fun c124 => ?_) (fun c124 => ?_)
              · refine lv_aload_n hx hb dX6_settle_129 rfl (lv_at hl 3 rfl) ?_
                refine lv_lload hx hb dX6_settle_130 (lv_at hl 1 rfl) ?_
                refine lv_l2i (v := x73.toInt32) hx hb dX6_settle_132 rfl ?_
                refine va_put (D := eD E) (cl := vwCl) (tys := eT E) (A := eA E) (ci := 6) (C := RX6) (T := TX6) (N := 13) (v := .int (x73.toInt32)) (ty := .int) hx hb hts hinX6 tyX6 tyX6_ok nmX6 hown hE.1 hW.1 hW.2 hS 18 rfl rfl 11 (by decide) (hts (.fieldLink RX6 55 "DialGarden$Shade" "endX" "I") (by decide +kernel)) (fun _ h9 => h9) rfl (by decide +kernel) rfl rfl (Nat.le_of_ble_eq_true rfl) dX6_settle_133 (fun H locs hP hD hS => ?_)
                have hW : gW E M (pI S 7 12 (x73.toInt32)) H := gW.of (uC_7_12 E M S (x73.toInt32)) hP hD
                refine lv_aload_n hx hb dX6_settle_136 rfl (lv_at hl 3 rfl) ?_
                refine lv_lload hx hb dX6_settle_137 (lv_at hl 0 rfl) ?_
                refine lv_l2i (v := x109.toInt32) hx hb dX6_settle_139 rfl ?_
                refine va_put (D := eD E) (cl := vwCl) (tys := eT E) (A := eA E) (ci := 6) (C := RX6) (T := TX6) (N := 13) (v := .int (x109.toInt32)) (ty := .int) hx hb hts hinX6 tyX6 tyX6_ok nmX6 hown hE.1 hW.1 hW.2 hS 18 rfl rfl 12 (by decide) (hts (.fieldLink RX6 58 "DialGarden$Shade" "endY" "I") (by decide +kernel)) (fun _ h9 => h9) rfl (by decide +kernel) rfl rfl (Nat.le_of_ble_eq_true rfl) dX6_settle_140 (fun H locs hP hD hS => ?_)
                have hW : gW E M (pI (pI S 7 12 (x73.toInt32)) 7 13 (x109.toInt32)) H := gW.of (uC_7_13 E M (pI S 7 12 (x73.toInt32)) (x109.toInt32)) hP hD
                refine lv_iconst (v := 0) hx hb dX6_settle_143 (by decide) ?_
                exact W.iret (v := 0) hx hb hr (fun t ht _ => ⟨⟨0, pI (pI S 7 12 (x73.toInt32)) 7 13 (x109.toInt32), rfl, by subst er121; subst er113; subst ex109; subst er83; subst ex73; subst er46; subst er14; first | (simp only [q_X6_settle, if_pos c4, if_pos c20, if_pos c32, if_neg c41, if_neg c79, if_neg c116, if_neg c124]; done) | contradiction, by dsimp only; rw [ht]; exact hW⟩, hS.F ht⟩) hS.2.2 dX6_settle_144
              · refine lv_iconst (v := 4) hx hb dX6_settle_127 (by decide) ?_
                exact W.iret (v := 4) hx hb hr (fun t ht _ => ⟨⟨4, S, rfl, by subst er121; subst er113; subst ex109; subst er83; subst ex73; subst er46; subst er14; first | (simp only [q_X6_settle, if_pos c4, if_pos c20, if_pos c32, if_neg c41, if_neg c79, if_neg c116, if_pos c124]; done) | contradiction, by dsimp only; rw [ht]; exact hW⟩, hS.F ht⟩) hS.2.2 dX6_settle_128
      · refine lv_iconst (v := 3) hx hb dX6_settle_35 (by decide) ?_
        exact W.iret (v := 3) hx hb hr (fun t ht _ => ⟨⟨3, S, rfl, by subst er14; first | (simp only [q_X6_settle, if_pos c4, if_pos c20, if_neg c32]; done) | contradiction, by dsimp only; rw [ht]; exact hW⟩, hS.F ht⟩) hS.2.2 dX6_settle_36
    · refine lv_iconst (v := 2) hx hb dX6_settle_24 (by decide) ?_
      exact W.iret (v := 2) hx hb hr (fun t ht _ => ⟨⟨2, S, rfl, by subst er14; first | (simp only [q_X6_settle, if_pos c4, if_neg c20]; done) | contradiction, by dsimp only; rw [ht]; exact hW⟩, hS.F ht⟩) hS.2.2 dX6_settle_25
  · refine lv_iconst (v := 1) hx hb dX6_settle_7 (by decide) ?_
    exact W.iret (v := 1) hx hb hr (fun t ht _ => ⟨⟨1, S, rfl, by first | (simp only [q_X6_settle, if_neg c4]; done) | contradiction, by dsimp only; rw [ht]; exact hW⟩, hS.F ht⟩) hS.2.2 dX6_settle_8
theorem qp_X6_settle (S : gSc)  : (q_X6_settle S).2.2.2 = S.2.2 := by
  unfold q_X6_settle
  try dsimp only
  (repeat' split) <;> first | (simp only [pI_2, sR_22]; done) | rfl

def q_X6_cast (S : gSc)  : Int32 × gSc := (let S2 := q_X6_findHider S; (let r7 := (q_X6_settle S2).1; let S7 := (q_X6_settle S2).2; (r7, S7)))
set_option maxHeartbeats 4000000 in
set_option maxRecDepth 100000 in
theorem c_X6_cast (l : Launch) (E : gEE) (M : gSm) (S : gSc)  (hh0 : 0 ≤ (S.1 7 6).toInt) (hh : (S.1 7 6).toInt ≤ 40) (hH : okH S) : Met l yX6_cast wsX6_cast ({ frames := 3, cells := 0, slots := 0, locals := 73 }) (va_Pc [.ref (eC E 7), .ref (eC E 1)] (gP E M S)) (va_Qi (fun r (u : gSc) => (r, u) = q_X6_cast S) (fun u t => gW E M u t.heap) (eA E)) 0 0 (eA E) := by
  refine Met.ofW (cc := cX6_cast) (maxL := 2) (ret := (some .int)) (by decide) rfl ?_
  intro p e s m args below meth c s₁ B hml hv
  obtain ⟨rfl, hE, hW⟩ := hv
  have hx := B.exec
  have hb := B.bytes
  have hr := B.returns
  have hts := atoms_spec (ws := wsX6_cast) B.pre
  have hown : s.vm.findClass RX6 = some m.cls := findClass_of_methodNamed B.named
  have hlocks := B.notSynchronized
  have hS : va_S (eA E) s.heap s.heap [] := va_S.rf
  have hl := lv_entry ([.ref (eC E 7), .ref (eC E 1)]) (n := 2) (Nat.le_of_ble_eq_true rfl)
  rw [lg_entry_eq]
  generalize (lg_sl ([.ref (eC E 7), .ref (eC E 1)]) ++ List.replicate (2 - (lg_sl ([.ref (eC E 7), .ref (eC E 1)])).length) Slot.unset).toArray = ls at hl ⊢
  have hl : lv_has ls 2 [(0, .ref (eC E 7)), (1, .ref (eC E 1))] := hl
  have hS : ∃ (H : Heap) (locs : List Loc), H = s.heap ∧ locs = [] ∧ gW E M S H ∧ va_S (eA E) s.heap H locs := ⟨_, _, rfl, rfl, hW, hS⟩
  clear hW
  obtain ⟨H, locs, eH, el, hW, hS⟩ := hS
  rw [← eH, ← el]
  clear eH el
  refine lv_aload_n hx hb dX6_cast_0 rfl (lv_at hl 0 rfl) ?_
  refine lv_aload_n hx hb dX6_cast_1 rfl (lv_at hl 1 rfl) ?_
  refine va_callv (va_runV (As := [.ref (eC E 1)]) (rest := []) ⟨hx, hb, hml, hown, hts⟩ (c_X6_findHider l E M S hh0 hh hH) (cwV 1 hts gX6_cast_X6_findHider rfl rfl rfl (by decide +kernel) ⟨Nat.le_of_ble_eq_true rfl, Nat.le_of_ble_eq_true rfl⟩) (gP.V (ci := 6) (q := (RX6, TX6, 13)) (q0 := 18) hE hS hW rfl rfl) rfl rfl hl.1 rfl (lv_room (Nat.le_of_ble_eq_true rfl)) dX6_cast_2 ⟨Nat.le_of_ble_eq_true rfl, Nat.le_of_ble_eq_true rfl⟩) hS (fun _ _ h => h) (fun _ h => h) (fun S2 t H locs ht hvm hw hB hz1 hk1 hS => ?_)
  have eS2 : S2 = q_X6_findHider S := hw
  clear hw
  have hW : gW E M S2 H := by rw [← ht]; exact hB
  have hpS2 : S2.2.2 = S.2.2 := by rw [eS2]; exact (qp_X6_findHider _)
  refine lv_aload_n hx hb dX6_cast_5 rfl (lv_at hl 0 rfl) ?_
  refine lv_aload_n hx hb dX6_cast_6 rfl (lv_at hl 1 rfl) ?_
  refine va_calli (va_runV (As := [.ref (eC E 1)]) (rest := []) ⟨hx, hb, hml, hown, hts⟩ (c_X6_settle l E M S2) (cwV 1 hts gX6_cast_X6_settle rfl rfl rfl (by decide +kernel) ⟨Nat.le_of_ble_eq_true rfl, Nat.le_of_ble_eq_true rfl⟩) (gP.V (ci := 6) (q := (RX6, TX6, 13)) (q0 := 18) hE hS hW rfl rfl) rfl rfl hl.1 rfl (lv_room (Nat.le_of_ble_eq_true rfl)) dX6_cast_7 ⟨Nat.le_of_ble_eq_true rfl, Nat.le_of_ble_eq_true rfl⟩) hS (fun _ _ h => h) (fun _ h => h) (fun r7 S7 t H locs ht hvm hw hB hz1 hk1 hS => ?_)
  obtain ⟨er7, eS7⟩ := prj hw
  clear hw
  have hW : gW E M S7 H := by rw [← ht]; exact hB
  have hpS7 : S7.2.2 = S2.2.2 := by rw [eS7]; exact (qp_X6_settle _)
  exact W.iret (v := r7) hx hb hr (fun t ht _ => ⟨⟨r7, S7, rfl, by subst eS7; subst er7; subst eS2; first | (simp only [q_X6_cast]; done) | contradiction, by dsimp only; rw [ht]; exact hW⟩, hS.F ht⟩) hS.2.2 dX6_cast_10
theorem qp_X6_cast (S : gSc)  : (q_X6_cast S).2.2.2 = S.2.2 := by
  unfold q_X6_cast
  try dsimp only
  (repeat' split) <;> first | (simp only [pI_2, sR_22, qp_X6_findHider, qp_X6_settle]; done) | rfl
