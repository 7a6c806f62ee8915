def q_X6_setUp (S : gSc) (p1 : Nat) : gSc := (let r27 := q_X1_isA (pI (pI (pI S 7 7 (S.2.2.2.2 p1 1)) 7 8 (S.2.2.2.2 p1 2)) 7 9 (S.2.2.2.2 p1 3)) p1 3; (let S39 := q_X6_setRows (pI (pI (pI (pI S 7 7 (S.2.2.2.2 p1 1)) 7 8 (S.2.2.2.2 p1 2)) 7 9 (S.2.2.2.2 p1 3)) 7 10 r27) p1 (S.2.2.2.2 p1 4); (let S44 := q_X6_gatherHouses S39; S44)))
set_option maxHeartbeats 4000000 in
set_option maxRecDepth 100000 in
theorem c_X6_setUp (l : Launch) (E : gEE) (M : gSm) (S : gSc) (p1 : Nat) (hL1 : p1 ∈ S.2.2.1) (hk1 : S.2.2.2.1 p1 = 1) (hT : okR S 3 40) : Met l yX6_setUp wsX6_setUp ({ frames := 4, cells := 0, slots := 0, locals := 92 }) (va_Pc [.ref (eC E 7), .ref (p1), .ref (eC E 3)] (gP E M S)) (va_Qv (fun u : gSc => u = q_X6_setUp S p1) (fun u t => gW E M u t.heap) (eA E)) 0 0 (eA E) := by
  refine Met.ofW (cc := cX6_setUp) (maxL := 3) (ret := none) (by decide) rfl ?_
  intro p e s m args below meth c s₁ B hml hv
  obtain ⟨rfl, hE, hW⟩ := hv
  have hx := B.exec
  have hb := B.bytes
  have hr := B.returns
  have hts := atoms_spec (ws := wsX6_setUp) B.pre
  have hown : s.vm.findClass RX6 = some m.cls := findClass_of_methodNamed B.named
  have hlocks := B.notSynchronized
  have hinX1 : ∀ w ∈ wsX10, w ∈ wsX6_setUp := by decide +kernel
  have hinX6 : ∀ w ∈ wsX60, w ∈ wsX6_setUp := by decide +kernel
  have hS : va_S (eA E) s.heap s.heap [] := va_S.rf
  have hl := lv_entry ([.ref (eC E 7), .ref (p1), .ref (eC E 3)]) (n := 3) (Nat.le_of_ble_eq_true rfl)
  rw [lg_entry_eq]
  generalize (lg_sl ([.ref (eC E 7), .ref (p1), .ref (eC E 3)]) ++ List.replicate (3 - (lg_sl ([.ref (eC E 7), .ref (p1), .ref (eC E 3)])).length) Slot.unset).toArray = ls at hl ⊢
  have hl : lv_has ls 3 [(0, .ref (eC E 7)), (1, .ref (p1)), (2, .ref (eC E 3))] := hl
  have hS : ∃ (H : Heap) (locs : List Loc), H = s.heap ∧ locs = [] ∧ gW E M S H ∧ va_S (eA E) s.heap H locs := ⟨_, _, rfl, rfl, hW, hS⟩
  clear hW
  obtain ⟨H, locs, eH, el, hW, hS⟩ := hS
  rw [← eH, ← el]
  clear eH el
  refine lv_aload_n hx hb dX6_setUp_0 rfl (lv_at hl 0 rfl) ?_
  refine lv_aload_n hx hb dX6_setUp_1 rfl (lv_at hl 1 rfl) ?_
  obtain ⟨k2, hk2⟩ := wJ_d E M (S := S) hL1 hk1
  refine va_getN (D := eD E) (cl := vwCl) (tys := eT E) (ci := 1) (C := RX1) (T := TX1) (N := 7) (v := .int (S.2.2.2.2 p1 1)) hx hb hts hinX1 hown hE.1 hW.1 k2 hk2 rfl 1 (by decide) (va_Nw.use rfl (hE.2.2.1 (.fieldLinkNest "DialGarden$Shade" 65 "DialGarden$Dial" "x" "I" "DialGarden") (by decide +kernel))) (fun _ h9 => h9) rfl dX6_setUp_2 ?_
  refine va_put (D := eD E) (cl := vwCl) (tys := eT E) (A := eA E) (ci := 6) (C := RX6) (T := TX6) (N := 14) (v := .int (S.2.2.2.2 p1 1)) (ty := .int) hx hb hts hinX6 tyX6 tyX6_ok nmX6 hown hE.1 hW.1 hW.2 hS 18 rfl rfl 7 (by decide) (hts (.fieldLink RX6 38 "DialGarden$Shade" "x" "I") (by decide +kernel)) (fun _ h9 => h9) rfl (by decide +kernel) rfl rfl (Nat.le_of_ble_eq_true rfl) dX6_setUp_5 (fun H locs hP hD hS => ?_)
  have hW : gW E M (pI S 7 7 (S.2.2.2.2 p1 1)) H := gW.of (uC_7_7 E M S (S.2.2.2.2 p1 1)) hP hD
  refine lv_aload_n hx hb dX6_setUp_8 rfl (lv_at hl 0 rfl) ?_
  refine lv_aload_n hx hb dX6_setUp_9 rfl (lv_at hl 1 rfl) ?_
  obtain ⟨k10, hk10⟩ := wJ_d E M (S := pI S 7 7 (S.2.2.2.2 p1 1)) hL1 hk1
  refine va_getN (D := eD E) (cl := vwCl) (tys := eT E) (ci := 1) (C := RX1) (T := TX1) (N := 7) (v := .int (S.2.2.2.2 p1 2)) hx hb hts hinX1 hown hE.1 hW.1 k10 hk10 rfl 2 (by decide) (va_Nw.use rfl (hE.2.2.1 (.fieldLinkNest "DialGarden$Shade" 68 "DialGarden$Dial" "y" "I" "DialGarden") (by decide +kernel))) (fun _ h9 => h9) rfl dX6_setUp_10 ?_
  refine va_put (D := eD E) (cl := vwCl) (tys := eT E) (A := eA E) (ci := 6) (C := RX6) (T := TX6) (N := 14) (v := .int (S.2.2.2.2 p1 2)) (ty := .int) hx hb hts hinX6 tyX6 tyX6_ok nmX6 hown hE.1 hW.1 hW.2 hS 18 rfl rfl 8 (by decide) (hts (.fieldLink RX6 41 "DialGarden$Shade" "y" "I") (by decide +kernel)) (fun _ h9 => h9) rfl (by decide +kernel) rfl rfl (Nat.le_of_ble_eq_true rfl) dX6_setUp_13 (fun H locs hP hD hS => ?_)
  have hW : gW E M (pI (pI S 7 7 (S.2.2.2.2 p1 1)) 7 8 (S.2.2.2.2 p1 2)) H := gW.of (uC_7_8 E M (pI S 7 7 (S.2.2.2.2 p1 1)) (S.2.2.2.2 p1 2)) hP hD
  refine lv_aload_n hx hb dX6_setUp_16 rfl (lv_at hl 0 rfl) ?_
  refine lv_aload_n hx hb dX6_setUp_17 rfl (lv_at hl 1 rfl) ?_
  obtain ⟨k18, hk18⟩ := wJ_d E M (S := pI (pI S 7 7 (S.2.2.2.2 p1 1)) 7 8 (S.2.2.2.2 p1 2)) hL1 hk1
  refine va_getN (D := eD E) (cl := vwCl) (tys := eT E) (ci := 1) (C := RX1) (T := TX1) (N := 7) (v := .int (S.2.2.2.2 p1 3)) hx hb hts hinX1 hown hE.1 hW.1 k18 hk18 rfl 3 (by decide) (va_Nw.use rfl (hE.2.2.1 (.fieldLinkNest "DialGarden$Shade" 69 "DialGarden$Dial" "rod" "I" "DialGarden") (by decide +kernel))) (fun _ h9 => h9) rfl dX6_setUp_18 ?_
  refine va_put (D := eD E) (cl := vwCl) (tys := eT E) (A := eA E) (ci := 6) (C := RX6) (T := TX6) (N := 14) (v := .int (S.2.2.2.2 p1 3)) (ty := .int) hx hb hts hinX6 tyX6 tyX6_ok nmX6 hown hE.1 hW.1 hW.2 hS 18 rfl rfl 9 (by decide) (hts (.fieldLink RX6 44 "DialGarden$Shade" "rod" "I") (by decide +kernel)) (fun _ h9 => h9) rfl (by decide +kernel) rfl rfl (Nat.le_of_ble_eq_true rfl) dX6_setUp_21 (fun H locs hP hD hS => ?_)
  have hW : gW E M (pI (pI (pI S 7 7 (S.2.2.2.2 p1 1)) 7 8 (S.2.2.2.2 p1 2)) 7 9 (S.2.2.2.2 p1 3)) H := gW.of (uC_7_9 E M (pI (pI S 7 7 (S.2.2.2.2 p1 1)) 7 8 (S.2.2.2.2 p1 2)) (S.2.2.2.2 p1 3)) hP hD
  refine lv_aload_n hx hb dX6_setUp_24 rfl (lv_at hl 0 rfl) ?_
  refine lv_aload_n hx hb dX6_setUp_25 rfl (lv_at hl 1 rfl) ?_
  refine lv_iconst (v := 3) hx hb dX6_setUp_26 (by decide) ?_
  obtain ⟨k27, hk27⟩ := wJ_d E M (S := pI (pI (pI S 7 7 (S.2.2.2.2 p1 1)) 7 8 (S.2.2.2.2 p1 2)) 7 9 (S.2.2.2.2 p1 3)) hL1 hk1
  refine k_Si (va_runV (As := [.int (3)]) (rest := [.ref (eC E 7)]) ⟨hx, hb, hml, hown, hts⟩ (c_X1_isA l E M (pI (pI (pI S 7 7 (S.2.2.2.2 p1 1)) 7 8 (S.2.2.2.2 p1 2)) 7 9 (S.2.2.2.2 p1 3)) p1 3 hL1 hk1) (cwV 1 hts gX6_setUp_X1_isA rfl rfl rfl (by decide +kernel) ⟨Nat.le_of_ble_eq_true rfl, Nat.le_of_ble_eq_true rfl⟩) (gP.V (ci := 1) (q := (RX1, TX1, 7)) hE hS hW rfl hk27) rfl rfl hl.1 rfl (lv_room (Nat.le_of_ble_eq_true rfl)) dX6_setUp_27 ⟨Nat.le_of_ble_eq_true rfl, Nat.le_of_ble_eq_true rfl⟩) (fun r27 er27 => ?_)
  refine va_put (D := eD E) (cl := vwCl) (tys := eT E) (A := eA E) (ci := 6) (C := RX6) (T := TX6) (N := 14) (v := .int (r27)) (ty := .boolean) hx hb hts hinX6 tyX6 tyX6_ok nmX6 hown hE.1 hW.1 hW.2 hS 18 rfl rfl 10 (by decide) (hts (.fieldLink RX6 47 "DialGarden$Shade" "isRing" "Z") (by decide +kernel)) (fun _ h9 => h9) rfl (by decide +kernel) (gB (by rw [er27]; exact qb_X1_isA _ _ _)) (gBf (by rw [er27]; exact qb_X1_isA _ _ _)) (Nat.le_of_ble_eq_true rfl) dX6_setUp_30 (fun H locs hP hD hS => ?_)
  have hW : gW E M (pI (pI (pI (pI S 7 7 (S.2.2.2.2 p1 1)) 7 8 (S.2.2.2.2 p1 2)) 7 9 (S.2.2.2.2 p1 3)) 7 10 r27) H := gW.of (uC_7_10 E M (pI (pI (pI S 7 7 (S.2.2.2.2 p1 1)) 7 8 (S.2.2.2.2 p1 2)) 7 9 (S.2.2.2.2 p1 3)) r27) hP hD
  refine lv_aload_n hx hb dX6_setUp_33 rfl (lv_at hl 0 rfl) ?_
  refine lv_aload_n hx hb dX6_setUp_34 rfl (lv_at hl 1 rfl) ?_
  refine lv_aload_n hx hb dX6_setUp_35 rfl (lv_at hl 1 rfl) ?_
  obtain ⟨k36, hk36⟩ := wJ_d E M (S := pI (pI (pI (pI S 7 7 (S.2.2.2.2 p1 1)) 7 8 (S.2.2.2.2 p1 2)) 7 9 (S.2.2.2.2 p1 3)) 7 10 r27) hL1 hk1
  refine va_getN (D := eD E) (cl := vwCl) (tys := eT E) (ci := 1) (C := RX1) (T := TX1) (N := 7) (v := .int (S.2.2.2.2 p1 4)) hx hb hts hinX1 hown hE.1 hW.1 k36 hk36 rfl 4 (by decide) (va_Nw.use rfl (hE.2.2.1 (.fieldLinkNest "DialGarden$Shade" 74 "DialGarden$Dial" "facing" "I" "DialGarden") (by decide +kernel))) (fun _ h9 => h9) rfl dX6_setUp_36 ?_
  refine va_callv (va_runV (As := [.ref (p1), .int (S.2.2.2.2 p1 4)]) (rest := []) ⟨hx, hb, hml, hown, hts⟩ (c_X6_setRows l E M (pI (pI (pI (pI S 7 7 (S.2.2.2.2 p1 1)) 7 8 (S.2.2.2.2 p1 2)) 7 9 (S.2.2.2.2 p1 3)) 7 10 r27) p1 (S.2.2.2.2 p1 4) hL1 hk1) (cwV 2 hts gX6_setUp_X6_setRows rfl rfl rfl (by decide +kernel) ⟨Nat.le_of_ble_eq_true rfl, Nat.le_of_ble_eq_true rfl⟩) (gP.V (ci := 6) (q := (RX6, TX6, 14)) (q0 := 18) hE hS hW rfl rfl) rfl rfl hl.1 rfl (lv_room (Nat.le_of_ble_eq_true rfl)) dX6_setUp_39 ⟨Nat.le_of_ble_eq_true rfl, Nat.le_of_ble_eq_true rfl⟩) hS (fun _ _ h => h) (fun _ h => h) (fun S39 t H locs ht hvm hw hB hz1 hk1 hS => ?_)
  have eS39 : S39 = q_X6_setRows (pI (pI (pI (pI S 7 7 (S.2.2.2.2 p1 1)) 7 8 (S.2.2.2.2 p1 2)) 7 9 (S.2.2.2.2 p1 3)) 7 10 r27) p1 (S.2.2.2.2 p1 4) := hw
  clear hw
  have hW : gW E M S39 H := by rw [← ht]; exact hB
  have hpS39 : S39.2.2 = S.2.2 := by rw [eS39]; exact (qp_X6_setRows _ _ _)
  refine lv_aload_n hx hb dX6_setUp_42 rfl (lv_at hl 0 rfl) ?_
  refine lv_aload_n hx hb dX6_setUp_43 rfl (lv_at hl 2 rfl) ?_
  refine va_callv (va_runV (As := [.ref (eC E 3)]) (rest := []) ⟨hx, hb, hml, hown, hts⟩ (c_X6_gatherHouses l E M S39 (okR_of hT (by rw [eS39, sr_2]; rfl))) (cwV 1 hts gX6_setUp_X6_gatherHouses rfl rfl rfl (by decide +kernel) ⟨Nat.le_of_ble_eq_true rfl, Nat.le_of_ble_eq_true rfl⟩) (gP.V (ci := 6) (q := (RX6, TX6, 14)) (q0 := 18) hE hS hW rfl rfl) rfl rfl hl.1 rfl (lv_room (Nat.le_of_ble_eq_true rfl)) dX6_setUp_44 ⟨Nat.le_of_ble_eq_true rfl, Nat.le_of_ble_eq_true rfl⟩) hS (fun _ _ h => h) (fun _ h => h) (fun S44 t H locs ht hvm hw hB hz1 hk1 hS => ?_)
  have eS44 : S44 = q_X6_gatherHouses S39 := hw
  clear hw
  have hW : gW E M S44 H := by rw [← ht]; exact hB
  have hpS44 : S44.2.2 = S39.2.2 := by rw [eS44]; exact (qp_X6_gatherHouses _)
  exact W.vret hx hb hr (fun t ht _ => ⟨⟨S44, rfl, by subst eS44; subst eS39; subst er27; first | (simp only [q_X6_setUp]; done) | contradiction, by dsimp only; rw [ht]; exact hW⟩, hS.F ht⟩) hS.2.2 dX6_setUp_47
theorem qp_X6_setUp (S : gSc) (p1 : Nat) : (q_X6_setUp S p1).2.2 = S.2.2 := by
  unfold q_X6_setUp
  try dsimp only
  (repeat' split) <;> first | (simp only [pI_2, sR_22, qp_X6_gatherHouses, qp_X6_setRows]; done) | rfl

def q_X6_findHider_b19 (S : gSc)  : Nat → Int32 → gSc → gSc
  | 0, v1, Z => Z
  | n + 1, v1, Z => (if (Z.1 7 6) ≤ v1 then Z else (if (Z.1 7 11) = (-2000000005) then (match Z.2.1 11 (v1.toNatClampNeg) with | none => (let x76 := v1 + 1; q_X6_findHider_b19 S n x76 Z) | some a41 => (let r60 := q_X2_hidesFrom Z a41 (Z.1 7 7) (Z.1 7 8); (if r60 = 0 then (let x76 := v1 + 1; q_X6_findHider_b19 S n x76 Z) else (let x76 := v1 + 1; q_X6_findHider_b19 S n x76 (pI Z 7 11 (Z.1 12 (v1.toNatClampNeg))))))) else Z))
def q_X6_findHider (S : gSc)  : gSc := (if 0 < (S.1 1 15) then q_X6_findHider_b19 S 41 0 (pI S 7 11 (-2000000005)) else pI S 7 11 (-2000000005))
set_option maxHeartbeats 4000000 in
set_option maxRecDepth 100000 in
theorem c_X6_findHider (l : Launch) (E : gEE) (M : gSm) (S : gSc)  (hh0 : 0 ≤ (S.1 7 6).toInt) (hh : (S.1 7 6).toInt ≤ 40) (hH : okH S) : Met l yX6_findHider wsX6_findHider ({ frames := 1, cells := 0, slots := 0, locals := 39 }) (va_Pc [.ref (eC E 7)] (gP E M S)) (va_Qv (fun u : gSc => u = q_X6_findHider S) (fun u t => gW E M u t.heap) (eA E)) 0 0 (eA E) := by
  refine Met.ofW (cc := cX6_findHider) (maxL := 3) (ret := none) (by decide) rfl ?_
  intro p e s m args below meth c s₁ B hml hv
  obtain ⟨rfl, hE, hW⟩ := hv
  have hx := B.exec
  have hb := B.bytes
  have hr := B.returns
  have hts := atoms_spec (ws := wsX6_findHider) B.pre
  have hown : s.vm.findClass RX6 = some m.cls := findClass_of_methodNamed B.named
  have hlocks := B.notSynchronized
  have hinX6 : ∀ w ∈ wsX60, w ∈ wsX6_findHider := by decide +kernel
  have hinX8 : ∀ w ∈ wsX80, w ∈ wsX6_findHider := by decide +kernel
  have hS : va_S (eA E) s.heap s.heap [] := va_S.rf
  have hl := lv_entry ([.ref (eC E 7)]) (n := 3) (Nat.le_of_ble_eq_true rfl)
  rw [lg_entry_eq]
  generalize (lg_sl ([.ref (eC E 7)]) ++ List.replicate (3 - (lg_sl ([.ref (eC E 7)])).length) Slot.unset).toArray = ls at hl ⊢
  have hl : lv_has ls 3 [(0, .ref (eC E 7))] := hl
  have hS : ∃ (H : Heap) (locs : List Loc), H = s.heap ∧ locs = [] ∧ gW E M S H ∧ va_S (eA E) s.heap H locs := ⟨_, _, rfl, rfl, hW, hS⟩
  clear hW
  obtain ⟨H, locs, eH, el, hW, hS⟩ := hS
  rw [← eH, ← el]
  clear eH el
  have L19 : ∀ n : Nat, ∀ (v1 : Int32) (Z : gSc) (H : Heap) (locs : List Loc) (ls : Array Slot), ((0 ≤ v1.toInt ∧ v1.toInt ≤ 40 ∧ 40 < v1.toInt + n) ∧ Z.2 = S.2 ∧ Z.1 7 6 = S.1 7 6) → q_X6_findHider S = q_X6_findHider_b19 S n v1 Z → gW E M Z H → va_S (eA E) s.heap H locs → lv_has ls 3 [(0, .ref (eC E 7)), (1, .int (v1))] → W p l e (headSpec wsX6_findHider ({ frames := 1, cells := 0, slots := 0, locals := 39 })).room s m ([.ref (eC E 7)] : List Value).toArray below meth c H locs 0 0 (MQ below (va_Qv (fun u : gSc => u = q_X6_findHider S) (fun u t => gW E M u t.heap) (eA E)) ([.ref (eC E 7)] : List Value).toArray s 0 0 (eA E)) (F0 m 19 ls []) := by
    intro n
    induction n with
    | zero =>
      intro v1 Z H locs ls hi hq hW hS hl
      exact absurd hi.1.2.2 (by have := hi.1.2.1; omega)
    | succ n ih =>
      intro v1 Z H locs ls hi hq hW hS hl
      refine lv_iload_n hx hb dX6_findHider_19 rfl (lv_at hl 1 rfl) ?_
      refine lv_aload_n hx hb dX6_findHider_20 rfl (lv_at hl 0 rfl) ?_
      refine va_get (D := eD E) (cl := vwCl) (tys := eT E) (ci := 6) (C := RX6) (T := TX6) (N := 14) (v := .int (Z.1 7 6)) hx hb hts hinX6 hown hE.1 hW.1 18 rfl rfl 6 (by decide) (hts (.fieldLink RX6 34 "DialGarden$Shade" "houseCount" "I") (by decide +kernel)) (fun _ h9 => h9) rfl dX6_findHider_21 ?_
      refine lv_icmp_ge (tgt := 82) hx hb dX6_findHider_24 (by decide) (fun c24 => ?_) (fun c24 => ?_)
      · exact W.vret hx hb hr (fun t ht _ => ⟨⟨Z, rfl, by rw [hq]; first | (simp only [q_X6_findHider_b19, if_pos c24]; done) | contradiction, by dsimp only; rw [ht]; exact hW⟩, hS.F ht⟩) hS.2.2 dX6_findHider_82
      · refine lv_aload_n hx hb dX6_findHider_27 rfl (lv_at hl 0 rfl) ?_
        refine va_get (D := eD E) (cl := vwCl) (tys := eT E) (ci := 6) (C := RX6) (T := TX6) (N := 14) (v := .int (Z.1 7 11)) hx hb hts hinX6 hown hE.1 hW.1 18 rfl rfl 11 (by decide) (hts (.fieldLink RX6 52 "DialGarden$Shade" "hider" "I") (by decide +kernel)) (fun _ h9 => h9) rfl dX6_findHider_28 ?_
        refine lv_ldc hx hb (v := (-2000000005)) hown (hts (.constant RX6 51 (-2000000005)) (by decide +kernel)) dX6_findHider_31 ?_
        refine lv_icmp_ne (tgt := 82) hx hb dX6_findHider_33 (by decide) (fun c33 => ?_) (fun c33 => ?_)
        · exact W.vret hx hb hr (fun t ht _ => ⟨⟨Z, rfl, by rw [hq]; first | (simp only [q_X6_findHider_b19, if_neg c24, if_neg c33]; done) | contradiction, by dsimp only; rw [ht]; exact hW⟩, hS.F ht⟩) hS.2.2 dX6_findHider_82
        · refine lv_aload_n hx hb dX6_findHider_36 rfl (lv_at hl 0 rfl) ?_
          refine va_get (D := eD E) (cl := vwCl) (tys := eT E) (ci := 6) (C := RX6) (T := TX6) (N := 14) (v := .ref (eC E 11)) hx hb hts hinX6 hown hE.1 hW.1 18 rfl rfl 4 (by decide) (hts (.fieldLink RX6 26 "DialGarden$Shade" "houses" "[LDialGarden$House;") (by decide +kernel)) (fun _ h9 => h9) rfl dX6_findHider_37 ?_
          refine lv_iload_n hx hb dX6_findHider_40 rfl (lv_at hl 1 rfl) ?_
          refine va_aldq (D := eD E) (cl := vwCl) (tys := eT E) (f := Z.2.1 11) hx hb hE.1 hW.1 22 3 rfl rfl (fh_in hi c24 hh) dX6_findHider_41 ?_
          rcases ho41 : Z.2.1 11 (v1.toNatClampNeg) with _ | a41
          · refine lv_astore_nN (lv' := [(2, .null), (0, .ref (eC E 7)), (1, .int (v1))]) hx hb dX6_findHider_42 rfl hl (by decide) rfl (fun ls hl => ?_)
            refine lv_aload_nN hx hb dX6_findHider_43 rfl (lv_at hl 0 rfl) ?_
            refine lv_ifnullN (tgt := 76) hx hb dX6_findHider_44 (by decide) ?_
            obtain ⟨x76, ex76⟩ : ∃ y : Int32, y = v1 + 1 := ⟨_, rfl⟩
            refine lv_iinc (v := x76) (lv' := [(1, .int (x76)), (2, .null), (0, .ref (eC E 7))]) hx hb dX6_findHider_76 hl (k := 2) rfl (by rw [ex76]; rfl) (by decide) rfl (fun ls hl => ?_)
            refine lv_goto (tgt := 19) hx hb dX6_findHider_79 (by decide) ?_
            exact ih _ _ _ _ _ (by exact ⟨fh_st hi c24 hh ex76, hi.2⟩) (by rw [hq]; subst ex76; first | (simp only [q_X6_findHider_b19, if_neg c24, if_pos c33, ho41]; done) | contradiction) hW hS (lv_sub hl [2, 0] rfl)
          · have hL41 : a41 ∈ Z.2.2.1 := (fh_t hH hi c24 hh ho41).1
            have hK41 : ¬ Z.2.2.2.1 a41 = 1 := (fh_t hH hi c24 hh ho41).2
            refine lv_astore_n (lv' := [(2, .ref (a41)), (0, .ref (eC E 7)), (1, .int (v1))]) hx hb dX6_findHider_42 rfl hl (by decide) rfl (fun ls hl => ?_)
            refine lv_aload_n hx hb dX6_findHider_43 rfl (lv_at hl 0 rfl) ?_
            refine lv_ifnull hx hb dX6_findHider_44 ?_
            refine lv_aload_n hx hb dX6_findHider_47 rfl (lv_at hl 0 rfl) ?_
            refine lv_aload_n hx hb dX6_findHider_48 rfl (lv_at hl 1 rfl) ?_
            refine va_get (D := eD E) (cl := vwCl) (tys := eT E) (ci := 6) (C := RX6) (T := TX6) (N := 14) (v := .int (Z.1 7 7)) hx hb hts hinX6 hown hE.1 hW.1 18 rfl rfl 7 (by decide) (hts (.fieldLink RX6 38 "DialGarden$Shade" "x" "I") (by decide +kernel)) (fun _ h9 => h9) rfl dX6_findHider_49 ?_
            refine lv_aload_n hx hb dX6_findHider_52 rfl (lv_at hl 1 rfl) ?_
            refine va_get (D := eD E) (cl := vwCl) (tys := eT E) (ci := 6) (C := RX6) (T := TX6) (N := 14) (v := .int (Z.1 7 8)) hx hb hts hinX6 hown hE.1 hW.1 18 rfl rfl 8 (by decide) (hts (.fieldLink RX6 41 "DialGarden$Shade" "y" "I") (by decide +kernel)) (fun _ h9 => h9) rfl dX6_findHider_53 ?_
            refine lv_aload_n hx hb dX6_findHider_56 rfl (lv_at hl 1 rfl) ?_
            refine va_get (D := eD E) (cl := vwCl) (tys := eT E) (ci := 6) (C := RX6) (T := TX6) (N := 14) (v := .ref (eC E 1)) hx hb hts hinX6 hown hE.1 hW.1 18 rfl rfl 0 (by decide) (hts (.fieldLink RX6 61 "DialGarden$Shade" "sky" "LDialGarden$Sky;") (by decide +kernel)) (fun _ h9 => h9) rfl dX6_findHider_57 ?_
            obtain ⟨k60, hk60⟩ := wJ_h E M (S := Z) hL41 hK41
            refine k_Si (va_runV (As := [.int (Z.1 7 7), .int (Z.1 7 8), .ref (eC E 1)]) (rest := []) ⟨hx, hb, hml, hown, hts⟩ (c_X2_hidesFrom l E M Z a41 (Z.1 7 7) (Z.1 7 8) hL41 hK41) (cwV 3 hts gX6_findHider_X2_hidesFrom rfl rfl rfl (by decide +kernel) ⟨Nat.le_of_ble_eq_true rfl, Nat.le_of_ble_eq_true rfl⟩) (gP.V (ci := 2) (q := (RX2, TX2, 5)) hE hS hW rfl hk60) rfl rfl hl.1 rfl (lv_room (Nat.le_of_ble_eq_true rfl)) dX6_findHider_60 ⟨Nat.le_of_ble_eq_true rfl, Nat.le_of_ble_eq_true rfl⟩) (fun r60 er60 => ?_)
            refine lv_if_eq (tgt := 76) hx hb dX6_findHider_63 (by decide) (fun c63 => ?_) (fun c63 => ?_)
            · obtain ⟨x76, ex76⟩ : ∃ y : Int32, y = v1 + 1 := ⟨_, rfl⟩
              refine lv_iinc (v := x76) (lv' := [(1, .int (x76)), (2, .ref (a41)), (0, .ref (eC E 7))]) hx hb dX6_findHider_76 hl (k := 2) rfl (by rw [ex76]; rfl) (by decide) rfl (fun ls hl => ?_)
              refine lv_goto (tgt := 19) hx hb dX6_findHider_79 (by decide) ?_
              exact ih _ _ _ _ _ (by exact ⟨fh_st hi c24 hh ex76, hi.2⟩) (by rw [hq]; subst ex76; subst er60; first | (simp only [q_X6_findHider_b19, if_neg c24, if_pos c33, if_pos c63, ho41]; done) | contradiction) hW hS (lv_sub hl [2, 0] rfl)
            · refine lv_aload_n hx hb dX6_findHider_66 rfl (lv_at hl 1 rfl) ?_
              refine lv_aload_n hx hb dX6_findHider_67 rfl (lv_at hl 1 rfl) ?_
              refine va_get (D := eD E) (cl := vwCl) (tys := eT E) (ci := 6) (C := RX6) (T := TX6) (N := 14) (v := .ref (eC E 12)) hx hb hts hinX6 hown hE.1 hW.1 18 rfl rfl 5 (by decide) (hts (.fieldLink RX6 30 "DialGarden$Shade" "housePlaces" "[I") (by decide +kernel)) (fun _ h9 => h9) rfl dX6_findHider_68 ?_
              refine lv_iload_n hx hb dX6_findHider_71 rfl (lv_at hl 2 rfl) ?_
              refine va_iald (D := eD E) (cl := vwCl) (tys := eT E) (f := Z.1 12) hx hb hE.1 hW.1 23 0 rfl rfl (fh_in hi c24 hh) dX6_findHider_72 ?_
              refine va_put (D := eD E) (cl := vwCl) (tys := eT E) (A := eA E) (ci := 6) (C := RX6) (T := TX6) (N := 14) (v := .int (Z.1 12 (v1.toNatClampNeg))) (ty := .int) hx hb hts hinX6 tyX6 tyX6_ok nmX6 hown hE.1 hW.1 hW.2 hS 18 rfl rfl 11 (by decide) (hts (.fieldLink RX6 52 "DialGarden$Shade" "hider" "I") (by decide +kernel)) (fun _ h9 => h9) rfl (by decide +kernel) rfl rfl (Nat.le_of_ble_eq_true rfl) dX6_findHider_73 (fun H locs hP hD hS => ?_)
              have hW : gW E M (pI Z 7 11 (Z.1 12 (v1.toNatClampNeg))) H := gW.of (uC_7_11 E M Z (Z.1 12 (v1.toNatClampNeg))) hP hD
              obtain ⟨x76, ex76⟩ : ∃ y : Int32, y = v1 + 1 := ⟨_, rfl⟩
              refine lv_iinc (v := x76) (lv' := [(1, .int (x76)), (2, .ref (a41)), (0, .ref (eC E 7))]) hx hb dX6_findHider_76 hl (k := 2) rfl (by rw [ex76]; rfl) (by decide) rfl (fun ls hl => ?_)
              refine lv_goto (tgt := 19) hx hb dX6_findHider_79 (by decide) ?_
              exact ih _ _ _ _ _ (by exact ⟨fh_st hi c24 hh ex76, hi.2⟩) (by rw [hq]; subst ex76; subst er60; first | (simp only [q_X6_findHider_b19, if_neg c24, if_pos c33, if_neg c63, ho41]; done) | contradiction) hW hS (lv_sub hl [2, 0] rfl)
  refine lv_aload_n hx hb dX6_findHider_0 rfl (lv_at hl 0 rfl) ?_
  refine lv_ldc hx hb (v := (-2000000005)) hown (hts (.constant RX6 51 (-2000000005)) (by decide +kernel)) dX6_findHider_1 ?_
  refine va_put (D := eD E) (cl := vwCl) (tys := eT E) (A := eA E) (ci := 6) (C := RX6) (T := TX6) (N := 14) (v := .int ((-2000000005))) (ty := .int) hx hb hts hinX6 tyX6 tyX6_ok nmX6 hown hE.1 hW.1 hW.2 hS 18 rfl rfl 11 (by decide) (hts (.fieldLink RX6 52 "DialGarden$Shade" "hider" "I") (by decide +kernel)) (fun _ h9 => h9) rfl (by decide +kernel) rfl rfl (Nat.le_of_ble_eq_true rfl) dX6_findHider_3 (fun H locs hP hD hS => ?_)
  have hW : gW E M (pI S 7 11 (-2000000005)) H := gW.of (uC_7_11 E M S (-2000000005)) hP hD
  refine lv_aload_n hx hb dX6_findHider_6 rfl (lv_at hl 0 rfl) ?_
  refine va_get (D := eD E) (cl := vwCl) (tys := eT E) (ci := 6) (C := RX6) (T := TX6) (N := 14) (v := .ref (eC E 1)) hx hb hts hinX6 hown hE.1 hW.1 18 rfl rfl 0 (by decide) (hts (.fieldLink RX6 61 "DialGarden$Shade" "sky" "LDialGarden$Sky;") (by decide +kernel)) (fun _ h9 => h9) rfl dX6_findHider_7 ?_
  refine va_getN (D := eD E) (cl := vwCl) (tys := eT E) (ci := 8) (C := RX8) (T := TX8) (N := 16) (v := .int (S.1 1 15)) hx hb hts hinX8 hown hE.1 hW.1 12 rfl rfl 15 (by decide) (va_Nw.use rfl (hE.2.2.1 (.fieldLinkNest "DialGarden$Shade" 110 "DialGarden$Sky" "up" "I" "DialGarden") (by decide +kernel))) (fun _ h9 => h9) rfl dX6_findHider_10 ?_
  refine lv_if_gt (tgt := 17) hx hb dX6_findHider_13 (by decide) (fun c13 => ?_) (fun c13 => ?_)
  · refine lv_iconst (v := 0) hx hb dX6_findHider_17 (by decide) ?_
    refine lv_istore_n (lv' := [(1, .int (0)), (0, .ref (eC E 7))]) hx hb dX6_findHider_18 rfl hl (by decide) rfl (fun ls hl => ?_)
    exact L19 41 _ _ _ _ _ (by exact ⟨by decide, rfl, rfl⟩) (by first | (simp only [q_X6_findHider, if_pos c13]; done) | contradiction) hW hS (lv_sub hl [1, 0] rfl)
  · exact W.vret hx hb hr (fun t ht _ => ⟨⟨pI S 7 11 (-2000000005), rfl, by first | (simp only [q_X6_findHider, if_neg c13]; done) | contradiction, by dsimp only; rw [ht]; exact hW⟩, hS.F ht⟩) hS.2.2 dX6_findHider_16
theorem fh_b2 (S : gSc) : ∀ (n : Nat) (v : Int32) (Z : gSc), (q_X6_findHider_b19 S n v Z).2 = Z.2
  | 0, _, _ => rfl
  | n + 1, v, Z => by
    rw [q_X6_findHider_b19]
    dsimp only
    (repeat' split) <;> first | (rw [fh_b2 S n]; done) | (rw [fh_b2 S n, pI_2]; done) | rfl
theorem fh_2 (S : gSc) : (q_X6_findHider S).2 = S.2 := by
  unfold q_X6_findHider
  split
  · rw [fh_b2 S, pI_2]
  · rfl
theorem qp_X6_findHider (S : gSc) : (q_X6_findHider S).2.2 = S.2.2 := by rw [fh_2]

def q_X6_settle (S : gSc)  : Int32 × gSc := (if 0 < (S.1 1 15) then (let r20 := q_X5_sunBy_8 S; (if 0 < r20 then (if (S.1 7 11) = (-2000000005) then (if (S.1 7 10) = 0 then (let r77 := q_X5_sunBy_9 S; (let r82 := q_J9_floorDiv_f86c9 (((-(S.1 7 9)).toInt64) * r77) r20; (if (S.1 7 10) = 0 then (let r118 := q_X5_sunBy_10 S; (let r123 := q_J9_floorDiv_f86c9 (((-(S.1 7 9)).toInt64) * r118) r20; (let r129 := q_X10_isNear r82; (if r129 = 0 then (4, S) else (let r137 := q_X10_isNear r123; (if r137 = 0 then (4, S) else (0, pI (pI S 7 12 (r82.toInt32)) 7 13 (r123.toInt32)))))))) else (let r97 := q_X8_westSide S; (let x126 := r97.toInt64; (let r129 := q_X10_isNear r82; (if r129 = 0 then (4, S) else (let r137 := q_X10_isNear x126; (if r137 = 0 then (4, S) else (0, pI (pI S 7 12 (r82.toInt32)) 7 13 (x126.toInt32))))))))))) else (let r55 := q_X8_height S; (let x85 := (2 * r55).toInt64; (if (S.1 7 10) = 0 then (let r118 := q_X5_sunBy_10 S; (let r123 := q_J9_floorDiv_f86c9 (((-(S.1 7 9)).toInt64) * r118) r20; (let r129 := q_X10_isNear x85; (if r129 = 0 then (4, S) else (let r137 := q_X10_isNear r123; (if r137 = 0 then (4, S) else (0, pI (pI S 7 12 (x85.toInt32)) 7 13 (r123.toInt32)))))))) else (let r97 := q_X8_westSide S; (let x126 := r97.toInt64; (let r129 := q_X10_isNear x85; (if r129 = 0 then (4, S) else (let r137 := q_X10_isNear x126; (if r137 = 0 then (4, S) else (0, pI (pI S 7 12 (x85.toInt32)) 7 13 (x126.toInt32)))))))))))) else (3, S)) else (2, S))) else (1, S))
set_option maxHeartbeats 4000000 in
set_option maxRecDepth 100000 in
theorem c_X6_settle (l : Launch) (E : gEE) (M : gSm) (S : gSc)   : Met l yX6_settle wsX6_settle ({ frames := 2, cells := 0, slots := 0, locals := 46 }) (va_Pc [.ref (eC E 7)] (gP E M S)) (va_Qi (fun r (u : gSc) => (r, u) = q_X6_settle S) (fun u t => gW E M u t.heap) (eA E)) 0 0 (eA E) := by
  refine Met.ofW (cc := cX6_settle) (maxL := 7) (ret := (some .int)) (by decide) rfl ?_
  intro p e s m args below meth c s₁ B hml hv
  obtain ⟨rfl, hE, hW⟩ := hv
  have hx := B.exec
  have hb := B.bytes
  have hr := B.returns
  have hts := atoms_spec (ws := wsX6_settle) B.pre
  have hown : s.vm.findClass RX6 = some m.cls := findClass_of_methodNamed B.named
  have hlocks := B.notSynchronized
  have hinX6 : ∀ w ∈ wsX60, w ∈ wsX6_settle := by decide +kernel
  have hinX8 : ∀ w ∈ wsX80, w ∈ wsX6_settle := by decide +kernel
  have hS : va_S (eA E) s.heap s.heap [] := va_S.rf
  have hl := lv_entry ([.ref (eC E 7)]) (n := 7) (Nat.le_of_ble_eq_true rfl)
  rw [lg_entry_eq]
  generalize (lg_sl ([.ref (eC E 7)]) ++ List.replicate (7 - (lg_sl ([.ref (eC E 7)])).length) Slot.unset).toArray = ls at hl ⊢
  have hl : lv_has ls 7 [(0, .ref (eC E 7))] := hl
  have hS : ∃ (H : Heap) (locs : List Loc), H = s.heap ∧ locs = [] ∧ gW E M S H ∧ va_S (eA E) s.heap H locs := ⟨_, _, rfl, rfl, hW, hS⟩
  clear hW
  obtain ⟨H, locs, eH, el, hW, hS⟩ := hS
  rw [← eH, ← el]
  clear eH el
  refine lv_aload_n hx hb dX6_settle_0 rfl (lv_at hl 0 rfl) ?_
  refine va_get (D := eD E) (cl := vwCl) (tys := eT E) (ci := 6) (C := RX6) (T := TX6) (N := 14) (v := .ref (eC E 1)) hx hb hts hinX6 hown hE.1 hW.1 18 rfl rfl 0 (by decide) (hts (.fieldLink RX6 61 "DialGarden$Shade" "sky" "LDialGarden$Sky;") (by decide +kernel)) (fun _ h9 => h9) rfl dX6_settle_1 ?_
  refine va_getN (D := eD E) (cl := vwCl) (tys := eT E) (ci := 8) (C := RX8) (T := TX8) (N := 16) (v := .int (S.1 1 15)) hx hb hts hinX8 hown hE.1 hW.1 12 rfl rfl 15 (by decide) (va_Nw.use rfl (hE.2.2.1 (.fieldLinkNest "DialGarden$Shade" 110 "DialGarden$Sky" "up" "I" "DialGarden") (by decide +kernel))) (fun _ h9 => h9) rfl dX6_settle_4 ?_
  refine lv_if_gt (tgt := 12) hx hb dX6_settle_7 (by decide) (fun c7 => ?_) (fun c7 => ?_)
  · refine lv_aload_n hx hb dX6_settle_12 rfl (lv_at hl 0 rfl) ?_
    refine va_get (D := eD E) (cl := vwCl) (tys := eT E) (ci := 6) (C := RX6) (T := TX6) (N := 14) (v := .ref (eC E 8)) hx hb hts hinX6 hown hE.1 hW.1 18 rfl rfl 1 (by decide) (hts (.fieldLink RX6 12 "DialGarden$Shade" "face" "LDialGarden$Row;") (by decide +kernel)) (fun _ h9 => h9) rfl dX6_settle_13 ?_
    refine lv_aload_n hx hb dX6_settle_16 rfl (lv_at hl 0 rfl) ?_
    refine va_get (D := eD E) (cl := vwCl) (tys := eT E) (ci := 6) (C := RX6) (T := TX6) (N := 14) (v := .ref (eC E 1)) hx hb hts hinX6 hown hE.1 hW.1 18 rfl rfl 0 (by decide) (hts (.fieldLink RX6 61 "DialGarden$Shade" "sky" "LDialGarden$Sky;") (by decide +kernel)) (fun _ h9 => h9) rfl dX6_settle_17 ?_
    refine k_Sl (va_runV (As := [.ref (eC E 1)]) (rest := []) ⟨hx, hb, hml, hown, hts⟩ (c_X5_sunBy_8 l E M S) (cwV 1 hts gX6_settle_X5_sunBy rfl rfl rfl (by decide +kernel) ⟨Nat.le_of_ble_eq_true rfl, Nat.le_of_ble_eq_true rfl⟩) (gP.V (ci := 5) (q := (RX5, TX5, 3)) (q0 := 19) hE hS hW rfl rfl) rfl rfl hl.1 rfl (lv_room (Nat.le_of_ble_eq_true rfl)) dX6_settle_20 ⟨Nat.le_of_ble_eq_true rfl, Nat.le_of_ble_eq_true rfl⟩) (fun r20 er20 => ?_)
    refine lv_lstore_n (lv' := [(1, .long (r20)), (0, .ref (eC E 7))]) hx hb dX6_settle_23 rfl hl (by decide) rfl (fun ls hl => ?_)
    refine lv_lload_n hx hb dX6_settle_24 rfl (lv_at hl 0 rfl) ?_
    refine lv_lconst (v := 0) hx hb dX6_settle_25 (by decide) ?_
    refine k_lgt (tgt := 32) hx hb dX6_settle_26 dX6_settle_27 (by decide) (fun c26 => ?_) (fun c26 => ?_)
    · refine lv_aload_n hx hb dX6_settle_32 rfl (lv_at hl 1 rfl) ?_
      refine va_get (D := eD E) (cl := vwCl) (tys := eT E) (ci := 6) (C := RX6) (T := TX6) (N := 14) (v := .int (S.1 7 11)) hx hb hts hinX6 hown hE.1 hW.1 18 rfl rfl 11 (by decide) (hts (.fieldLink RX6 52 "DialGarden$Shade" "hider" "I") (by decide +kernel)) (fun _ h9 => h9) rfl dX6_settle_33 ?_
      refine lv_ldc hx hb (v := (-2000000005)) hown (hts (.constant RX6 51 (-2000000005)) (by decide +kernel)) dX6_settle_36 ?_
      refine lv_icmp_eq (tgt := 43) hx hb dX6_settle_38 (by decide) (fun c38 => ?_) (fun c38 => ?_)
      · refine lv_aload_n hx hb dX6_settle_43 rfl (lv_at hl 1 rfl) ?_
        refine va_get (D := eD E) (cl := vwCl) (tys := eT E) (ci := 6) (C := RX6) (T := TX6) (N := 14) (v := .int (S.1 7 10)) hx hb hts hinX6 hown hE.1 hW.1 18 rfl rfl 10 (by decide) (hts (.fieldLink RX6 47 "DialGarden$Shade" "isRing" "Z") (by decide +kernel)) (fun _ h9 => h9) rfl dX6_settle_44 ?_
        refine lv_if_eq (tgt := 63) hx hb dX6_settle_47 (by decide) (fun c47 => ?_) (fun c47 => ?_)
        · refine lv_aload_n hx hb dX6_settle_63 rfl (lv_at hl 1 rfl) ?_
          refine va_get (D := eD E) (cl := vwCl) (tys := eT E) (ci := 6) (C := RX6) (T := TX6) (N := 14) (v := .int (S.1 7 9)) hx hb hts hinX6 hown hE.1 hW.1 18 rfl rfl 9 (by decide) (hts (.fieldLink RX6 44 "DialGarden$Shade" "rod" "I") (by decide +kernel)) (fun _ h9 => h9) rfl dX6_settle_64 ?_
          refine lv_ineg hx hb dX6_settle_67 ?_
          refine lv_i2l (v := (-(S.1 7 9)).toInt64) hx hb dX6_settle_68 rfl ?_
          refine lv_aload_n hx hb dX6_settle_69 rfl (lv_at hl 1 rfl) ?_
          refine va_get (D := eD E) (cl := vwCl) (tys := eT E) (ci := 6) (C := RX6) (T := TX6) (N := 14) (v := .ref (eC E 9)) hx hb hts hinX6 hown hE.1 hW.1 18 rfl rfl 2 (by decide) (hts (.fieldLink RX6 18 "DialGarden$Shade" "across" "LDialGarden$Row;") (by decide +kernel)) (fun _ h9 => h9) rfl dX6_settle_70 ?_
          refine lv_aload_n hx hb dX6_settle_73 rfl (lv_at hl 1 rfl) ?_
          refine va_get (D := eD E) (cl := vwCl) (tys := eT E) (ci := 6) (C := RX6) (T := TX6) (N := 14) (v := .ref (eC E 1)) hx hb hts hinX6 hown hE.1 hW.1 18 rfl rfl 0 (by decide) (hts (.fieldLink RX6 61 "DialGarden$Shade" "sky" "LDialGarden$Sky;") (by decide +kernel)) (fun _ h9 => h9) rfl dX6_settle_74 ?_
          refine k_Sl (va_runV (As := [.ref (eC E 1)]) (rest := [.long ((-(S.1 7 9)).toInt64)]) ⟨hx, hb, hml, hown, hts⟩ (c_X5_sunBy_9 l E M S) (cwV 1 hts gX6_settle_X5_sunBy rfl rfl rfl (by decide +kernel) ⟨Nat.le_of_ble_eq_true rfl, Nat.le_of_ble_eq_true rfl⟩) (gP.V (ci := 5) (q := (RX5, TX5, 3)) (q0 := 20) hE hS hW rfl rfl) rfl rfl hl.1 rfl (lv_room (Nat.le_of_ble_eq_true rfl)) dX6_settle_77 ⟨Nat.le_of_ble_eq_true rfl, Nat.le_of_ble_eq_true rfl⟩) (fun r77 er77 => ?_)
          refine lv_lmul hx hb dX6_settle_80 ?_
          refine lv_lload_n hx hb dX6_settle_81 rfl (lv_at hl 0 rfl) ?_
          refine k_Sl (va_runS (As := [.long (((-(S.1 7 9)).toInt64) * r77), .long (r20)]) (rest := []) ⟨hx, hb, hml, hown, hts⟩ (c_J9_floorDiv_f86c9 l (((-(S.1 7 9)).toInt64) * r77) r20 (l_pos_ne c26)) (va_cwS 2 hts gX6_settle_J9_floorDiv_f86c9 rfl rfl rfl (by decide +kernel) ⟨Nat.le_of_ble_eq_true rfl, Nat.le_of_ble_eq_true rfl⟩) gP0 rfl rfl hl.1 rfl (lv_room (Nat.le_of_ble_eq_true rfl)) dX6_settle_82 ⟨Nat.le_of_ble_eq_true rfl, Nat.le_of_ble_eq_true rfl⟩) (fun r82 er82 => ?_)
          refine lv_lstore_n (lv' := [(3, .long (r82)), (1, .long (r20)), (0, .ref (eC E 7))]) hx hb dX6_settle_85 rfl hl (by decide) rfl (fun ls hl => ?_)
          refine lv_aload_n hx hb dX6_settle_86 rfl (lv_at hl 2 rfl) ?_
          refine va_get (D := eD E) (cl := vwCl) (tys := eT E) (ci := 6) (C := RX6) (T := TX6) (N := 14) (v := .int (S.1 7 10)) hx hb hts hinX6 hown hE.1 hW.1 18 rfl rfl 10 (by decide) (hts (.fieldLink RX6 47 "DialGarden$Shade" "isRing" "Z") (by decide +kernel)) (fun _ h9 => h9) rfl dX6_settle_87 ?_
          refine lv_if_eq (tgt := 104) hx hb dX6_settle_90 (by decide) (fun c90 => ?_) (fun c90 => ?_)
          · refine lv_aload_n hx hb dX6_settle_104 rfl (lv_at hl 2 rfl) ?_
            refine va_get (D := eD E) (cl := vwCl) (tys := eT E) (ci := 6) (C := RX6) (T := TX6) (N := 14) (v := .int (S.1 7 9)) hx hb hts hinX6 hown hE.1 hW.1 18 rfl rfl 9 (by decide) (hts (.fieldLink RX6 44 "DialGarden$Shade" "rod" "I") (by decide +kernel)) (fun _ h9 => h9) rfl dX6_settle_105 ?_
            refine lv_ineg hx hb dX6_settle_108 ?_
            refine lv_i2l (v := (-(S.1 7 9)).toInt64) hx hb dX6_settle_109 rfl ?_
            refine lv_aload_n hx hb dX6_settle_110 rfl (lv_at hl 2 rfl) ?_
            refine va_get (D := eD E) (cl := vwCl) (tys := eT E) (ci := 6) (C := RX6) (T := TX6) (N := 14) (v := .ref (eC E 10)) hx hb hts hinX6 hown hE.1 hW.1 18 rfl rfl 3 (by decide) (hts (.fieldLink RX6 21 "DialGarden$Shade" "along" "LDialGarden$Row;") (by decide +kernel)) (fun _ h9 => h9) rfl dX6_settle_111 ?_
            refine lv_aload_n hx hb dX6_settle_114 rfl (lv_at hl 2 rfl) ?_
            refine va_get (D := eD E) (cl := vwCl) (tys := eT E) (ci := 6) (C := RX6) (T := TX6) (N := 14) (v := .ref (eC E 1)) hx hb hts hinX6 hown hE.1 hW.1 18 rfl rfl 0 (by decide) (hts (.fieldLink RX6 61 "DialGarden$Shade" "sky" "LDialGarden$Sky;") (by decide +kernel)) (fun _ h9 => h9) rfl dX6_settle_115 ?_
            refine k_Sl (va_runV (As := [.ref (eC E 1)]) (rest := [.long ((-(S.1 7 9)).toInt64)]) ⟨hx, hb, hml, hown, hts⟩ (c_X5_sunBy_10 l E M S) (cwV 1 hts gX6_settle_X5_sunBy rfl rfl rfl (by decide +kernel) ⟨Nat.le_of_ble_eq_true rfl, Nat.le_of_ble_eq_true rfl⟩) (gP.V (ci := 5) (q := (RX5, TX5, 3)) (q0 := 21) hE hS hW rfl rfl) rfl rfl hl.1 rfl (lv_room (Nat.le_of_ble_eq_true rfl)) dX6_settle_118 ⟨Nat.le_of_ble_eq_true rfl, Nat.le_of_ble_eq_true rfl⟩) (fun r118 er118 => ?_)
            refine lv_lmul hx hb dX6_settle_121 ?_
            refine lv_lload_n hx hb dX6_settle_122 rfl (lv_at hl 1 rfl) ?_
            refine k_Sl (va_runS (As := [.long (((-(S.1 7 9)).toInt64) * r118), .long (r20)]) (rest := []) ⟨hx, hb, hml, hown, hts⟩ (c_J9_floorDiv_f86c9 l (((-(S.1 7 9)).toInt64) * r118) r20 (l_pos_ne c26)) (va_cwS 2 hts gX6_settle_J9_floorDiv_f86c9 rfl rfl rfl (by decide +kernel) ⟨Nat.le_of_ble_eq_true rfl, Nat.le_of_ble_eq_true rfl⟩) gP0 rfl rfl hl.1 rfl (lv_room (Nat.le_of_ble_eq_true rfl)) dX6_settle_123 ⟨Nat.le_of_ble_eq_true rfl, Nat.le_of_ble_eq_true rfl⟩) (fun r123 er123 => ?_)
            refine lv_lstore (lv' := [(5, .long (r123)), (3, .long (r82)), (1, .long (r20)), (0, .ref (eC E 7))]) hx hb dX6_settle_126 hl (by decide) rfl (fun ls hl => ?_)
            refine lv_lload_n hx hb dX6_settle_128 rfl (lv_at hl 1 rfl) ?_
            refine k_Si (va_runSN (As := [.long (r82)]) (rest := []) ⟨hx, hb, hml, hown, hts⟩ (c_X10_isNear l r82) ⟨va_cnB 1 hts gX6_settle_X10_isNear_n135 rfl rfl rfl (hE.2.2.1 (.methodLinkNest "DialGarden$Shade" 135 ⟨"DialGarden", "isNear", "(J)Z"⟩ "DialGarden") (by decide +kernel)) (hts (.initialized RX10) (by decide +kernel)) (by decide +kernel) ⟨Nat.le_of_ble_eq_true rfl, Nat.le_of_ble_eq_true rfl⟩, hts (.static yX10_isNear) (by decide +kernel), trivial⟩ gP0 rfl rfl hl.1 rfl (lv_room (Nat.le_of_ble_eq_true rfl)) dX6_settle_129 ⟨Nat.le_of_ble_eq_true rfl, Nat.le_of_ble_eq_true rfl⟩) (fun r129 er129 => ?_)
            refine lv_if_eq (tgt := 143) hx hb dX6_settle_132 (by decide) (fun c132 => ?_) (fun c132 => ?_)
            · refine lv_iconst (v := 4) hx hb dX6_settle_143 (by decide) ?_
              exact W.iret (v := 4) hx hb hr (fun t ht _ => ⟨⟨4, S, rfl, by subst er129; subst er123; subst er118; subst er82; subst er77; subst er20; first | (simp only [q_X6_settle, if_pos c7, if_pos c26, if_pos c38, if_pos c47, if_pos c90, if_pos c132]; done) | contradiction, by dsimp only; rw [ht]; exact hW⟩, hS.F ht⟩) hS.2.2 dX6_settle_144
            · refine lv_lload hx hb dX6_settle_135 (lv_at hl 0 rfl) ?_
              refine k_Si (va_runSN (As := [.long (r123)]) (rest := []) ⟨hx, hb, hml, hown, hts⟩ (c_X10_isNear l r123) ⟨va_cnB 1 hts gX6_settle_X10_isNear_n135 rfl rfl rfl (hE.2.2.1 (.methodLinkNest "DialGarden$Shade" 135 ⟨"DialGarden", "isNear", "(J)Z"⟩ "DialGarden") (by decide +kernel)) (hts (.initialized RX10) (by decide +kernel)) (by decide +kernel) ⟨Nat.le_of_ble_eq_true rfl, Nat.le_of_ble_eq_true rfl⟩, hts (.static yX10_isNear) (by decide +kernel), trivial⟩ gP0 rfl rfl hl.1 rfl (lv_room (Nat.le_of_ble_eq_true rfl)) dX6_settle_137 ⟨Nat.le_of_ble_eq_true rfl, Nat.le_of_ble_eq_true rfl⟩) (fun r137 er137 => ?_)
              refine lv_if_ne (tgt := 145) hx hb dX6_settle_140 (by decide) (fun c140 => ?_) (fun c140 => ?_)
              · refine lv_aload_n hx hb dX6_settle_145 rfl (lv_at hl 3 rfl) ?_
                refine lv_lload_n hx hb dX6_settle_146 rfl (lv_at hl 1 rfl) ?_
                refine lv_l2i (v := r82.toInt32) hx hb dX6_settle_147 rfl ?_
                refine va_put (D := eD E) (cl := vwCl) (tys := eT E) (A := eA E) (ci := 6) (C := RX6) (T := TX6) (N := 14) (v := .int (r82.toInt32)) (ty := .int) hx hb hts hinX6 tyX6 tyX6_ok nmX6 hown hE.1 hW.1 hW.2 hS 18 rfl rfl 12 (by decide) (hts (.fieldLink RX6 55 "DialGarden$Shade" "endX" "I") (by decide +kernel)) (fun _ h9 => h9) rfl (by decide +kernel) rfl rfl (Nat.le_of_ble_eq_true rfl) dX6_settle_148 (fun H locs hP hD hS => ?_)
                have hW : gW E M (pI S 7 12 (r82.toInt32)) H := gW.of (uC_7_12 E M S (r82.toInt32)) hP hD
                refine lv_aload_n hx hb dX6_settle_151 rfl (lv_at hl 3 rfl) ?_
                refine lv_lload hx hb dX6_settle_152 (lv_at hl 0 rfl) ?_
                refine lv_l2i (v := r123.toInt32) hx hb dX6_settle_154 rfl ?_
                refine va_put (D := eD E) (cl := vwCl) (tys := eT E) (A := eA E) (ci := 6) (C := RX6) (T := TX6) (N := 14) (v := .int (r123.toInt32)) (ty := .int) hx hb hts hinX6 tyX6 tyX6_ok nmX6 hown hE.1 hW.1 hW.2 hS 18 rfl rfl 13 (by decide) (hts (.fieldLink RX6 58 "DialGarden$Shade" "endY" "I") (by decide +kernel)) (fun _ h9 => h9) rfl (by decide +kernel) rfl rfl (Nat.le_of_ble_eq_true rfl) dX6_settle_155 (fun H locs hP hD hS => ?_)
                have hW : gW E M (pI (pI S 7 12 (r82.toInt32)) 7 13 (r123.toInt32)) H := gW.of (uC_7_13 E M (pI S 7 12 (r82.toInt32)) (r123.toInt32)) hP hD
                refine lv_iconst (v := 0) hx hb dX6_settle_158 (by decide) ?_
                exact W.iret (v := 0) hx hb hr (fun t ht _ => ⟨⟨0, pI (pI S 7 12 (r82.toInt32)) 7 13 (r123.toInt32), rfl, by subst er137; subst er129; subst er123; subst er118; subst er82; subst er77; subst er20; first | (simp only [q_X6_settle, if_pos c7, if_pos c26, if_pos c38, if_pos c47, if_pos c90, if_neg c132, if_neg c140]; done) | contradiction, by dsimp only; rw [ht]; exact hW⟩, hS.F ht⟩) hS.2.2 dX6_settle_159
              · refine lv_iconst (v := 4) hx hb dX6_settle_143 (by decide) ?_
                exact W.iret (v := 4) hx hb hr (fun t ht _ => ⟨⟨4, S, rfl, by subst er137; subst er129; subst er123; subst er118; subst er82; subst er77; subst er20; first | (simp only [q_X6_settle, if_pos c7, if_pos c26, if_pos c38, if_pos c47, if_pos c90, if_neg c132, if_pos c140]; done) | contradiction, by dsimp only; rw [ht]; exact hW⟩, hS.F ht⟩) hS.2.2 dX6_settle_144
          · refine lv_aload_n hx hb dX6_settle_93 rfl (lv_at hl 2 rfl) ?_
            refine va_get (D := eD E) (cl := vwCl) (tys := eT E) (ci := 6) (C := RX6) (T := TX6) (N := 14) (v := .ref (eC E 1)) hx hb hts hinX6 hown hE.1 hW.1 18 rfl rfl 0 (by decide) (hts (.fieldLink RX6 61 "DialGarden$Shade" "sky" "LDialGarden$Sky;") (by decide +kernel)) (fun _ h9 => h9) rfl dX6_settle_94 ?_
            refine k_Si (va_runV (As := []) (rest := []) ⟨hx, hb, hml, hown, hts⟩ (c_X8_westSide l E M S) (cwV 0 hts gX6_settle_X8_westSide rfl rfl rfl (by decide +kernel) ⟨Nat.le_of_ble_eq_true rfl, Nat.le_of_ble_eq_true rfl⟩) (gP.V (ci := 8) (q := (RX8, TX8, 16)) (q0 := 12) hE hS hW rfl rfl) rfl rfl hl.1 rfl (lv_room (Nat.le_of_ble_eq_true rfl)) dX6_settle_97 ⟨Nat.le_of_ble_eq_true rfl, Nat.le_of_ble_eq_true rfl⟩) (fun r97 er97 => ?_)
            refine lv_i2l (v := r97.toInt64) hx hb dX6_settle_100 rfl ?_
            refine lv_goto (tgt := 126) hx hb dX6_settle_101 (by decide) ?_
            refine lv_topl (fun x126 ex126 => ?_)
            refine lv_lstore (lv' := [(5, .long (x126)), (3, .long (r82)), (1, .long (r20)), (0, .ref (eC E 7))]) hx hb dX6_settle_126 hl (by decide) rfl (fun ls hl => ?_)
            refine lv_lload_n hx hb dX6_settle_128 rfl (lv_at hl 1 rfl) ?_
            refine k_Si (va_runSN (As := [.long (r82)]) (rest := []) ⟨hx, hb, hml, hown, hts⟩ (c_X10_isNear l r82) ⟨va_cnB 1 hts gX6_settle_X10_isNear_n135 rfl rfl rfl (hE.2.2.1 (.methodLinkNest "DialGarden$Shade" 135 ⟨"DialGarden", "isNear", "(J)Z"⟩ "DialGarden") (by decide +kernel)) (hts (.initialized RX10) (by decide +kernel)) (by decide +kernel) ⟨Nat.le_of_ble_eq_true rfl, Nat.le_of_ble_eq_true rfl⟩, hts (.static yX10_isNear) (by decide +kernel), trivial⟩ gP0 rfl rfl hl.1 rfl (lv_room (Nat.le_of_ble_eq_true rfl)) dX6_settle_129 ⟨Nat.le_of_ble_eq_true rfl, Nat.le_of_ble_eq_true rfl⟩) (fun r129 er129 => ?_)
            refine lv_if_eq (tgt := 143) hx hb dX6_settle_132 (by decide) (fun c132 => ?_) (fun c132 => ?_)
            · refine lv_iconst (v := 4) hx hb dX6_settle_143 (by decide) ?_
              exact W.iret (v := 4) hx hb hr (fun t ht _ => ⟨⟨4, S, rfl, by subst er129; subst ex126; subst er97; subst er82; subst er77; subst er20; first | (simp only [q_X6_settle, if_pos c7, if_pos c26, if_pos c38, if_pos c47, if_neg c90, if_pos c132]; done) | contradiction, by dsimp only; rw [ht]; exact hW⟩, hS.F ht⟩) hS.2.2 dX6_settle_144
            · refine lv_lload hx hb dX6_settle_135 (lv_at hl 0 rfl) ?_
              refine k_Si (va_runSN (As := [.long (x126)]) (rest := []) ⟨hx, hb, hml, hown, hts⟩ (c_X10_isNear l x126) ⟨va_cnB 1 hts gX6_settle_X10_isNear_n135 rfl rfl rfl (hE.2.2.1 (.methodLinkNest "DialGarden$Shade" 135 ⟨"DialGarden", "isNear", "(J)Z"⟩ "DialGarden") (by decide +kernel)) (hts (.initialized RX10) (by decide +kernel)) (by decide +kernel) ⟨Nat.le_of_ble_eq_true rfl, Nat.le_of_ble_eq_true rfl⟩, hts (.static yX10_isNear) (by decide +kernel), trivial⟩ gP0 rfl rfl hl.1 rfl (lv_room (Nat.le_of_ble_eq_true rfl)) dX6_settle_137 ⟨Nat.le_of_ble_eq_true rfl, Nat.le_of_ble_eq_true rfl⟩) (fun r137 er137 => ?_)
              refine lv_if_ne (tgt := 145) hx hb dX6_settle_140 (by decide) (fun c140 => ?_) (fun c140 => ?_)
              · refine lv_aload_n hx hb dX6_settle_145 rfl (lv_at hl 3 rfl) ?_
                refine lv_lload_n hx hb dX6_settle_146 rfl (lv_at hl 1 rfl) ?_
                refine lv_l2i (v := r82.toInt32) hx hb dX6_settle_147 rfl ?_
                refine va_put (D := eD E) (cl := vwCl) (tys := eT E) (A := eA E) (ci := 6) (C := RX6) (T := TX6) (N := 14) (v := .int (r82.toInt32)) (ty := .int) hx hb hts hinX6 tyX6 tyX6_ok nmX6 hown hE.1 hW.1 hW.2 hS 18 rfl rfl 12 (by decide) (hts (.fieldLink RX6 55 "DialGarden$Shade" "endX" "I") (by decide +kernel)) (fun _ h9 => h9) rfl (by decide +kernel) rfl rfl (Nat.le_of_ble_eq_true rfl) dX6_settle_148 (fun H locs hP hD hS => ?_)
                have hW : gW E M (pI S 7 12 (r82.toInt32)) H := gW.of (uC_7_12 E M S (r82.toInt32)) hP hD
                refine lv_aload_n hx hb dX6_settle_151 rfl (lv_at hl 3 rfl) ?_
                refine lv_lload hx hb dX6_settle_152 (lv_at hl 0 rfl) ?_
                refine lv_l2i (v := x126.toInt32) hx hb dX6_settle_154 rfl ?_
                refine va_put (D := eD E) (cl := vwCl) (tys := eT E) (A := eA E) (ci := 6) (C := RX6) (T := TX6) (N := 14) (v := .int (x126.toInt32)) (ty := .int) hx hb hts hinX6 tyX6 tyX6_ok nmX6 hown hE.1 hW.1 hW.2 hS 18 rfl rfl 13 (by decide) (hts (.fieldLink RX6 58 "DialGarden$Shade" "endY" "I") (by decide +kernel)) (fun _ h9 => h9) rfl (by decide +kernel) rfl rfl (Nat.le_of_ble_eq_true rfl) dX6_settle_155 (fun H locs hP hD hS => ?_)
                have hW : gW E M (pI (pI S 7 12 (r82.toInt32)) 7 13 (x126.toInt32)) H := gW.of (uC_7_13 E M (pI S 7 12 (r82.toInt32)) (x126.toInt32)) hP hD
                refine lv_iconst (v := 0) hx hb dX6_settle_158 (by decide) ?_
                exact W.iret (v := 0) hx hb hr (fun t ht _ => ⟨⟨0, pI (pI S 7 12 (r82.toInt32)) 7 13 (x126.toInt32), rfl, by subst er137; subst er129; subst ex126; subst er97; subst er82; subst er77; subst er20; first | (simp only [q_X6_settle, if_pos c7, if_pos c26, if_pos c38, if_pos c47, if_neg c90, if_neg c132, if_neg c140]; done) | contradiction, by dsimp only; rw [ht]; exact hW⟩, hS.F ht⟩) hS.2.2 dX6_settle_159
              · refine lv_iconst (v := 4) hx hb dX6_settle_143 (by decide) ?_
                exact W.iret (v := 4) hx hb hr (fun t ht _ => ⟨⟨4, S, rfl, by subst er137; subst er129; subst ex126; subst er97; subst er82; subst er77; subst er20; first | (simp only [q_X6_settle, if_pos c7, if_pos c26, if_pos c38, if_pos c47, if_neg c90, if_neg c132, if_pos c140]; done) | contradiction, by dsimp only; rw [ht]; exact hW⟩, hS.F ht⟩) hS.2.2 dX6_settle_144
        · refine lv_iconst (v := 2) hx hb dX6_settle_50 (by decide) ?_
          refine lv_aload_n hx hb dX6_settle_51 rfl (lv_at hl 1 rfl) ?_
          refine va_get (D := eD E) (cl := vwCl) (tys := eT E) (ci := 6) (C := RX6) (T := TX6) (N := 14) (v := .ref (eC E 1)) hx hb hts hinX6 hown hE.1 hW.1 18 rfl rfl 0 (by decide) (hts (.fieldLink RX6 61 "DialGarden$Shade" "sky" "LDialGarden$Sky;") (by decide +kernel)) (fun _ h9 => h9) rfl dX6_settle_52 ?_
          refine k_Si (va_runV (As := []) (rest := [.int (2)]) ⟨hx, hb, hml, hown, hts⟩ (c_X8_height l E M S) (cwV 0 hts gX6_settle_X8_height rfl rfl rfl (by decide +kernel) ⟨Nat.le_of_ble_eq_true rfl, Nat.le_of_ble_eq_true rfl⟩) (gP.V (ci := 8) (q := (RX8, TX8, 16)) (q0 := 12) hE hS hW rfl rfl) rfl rfl hl.1 rfl (lv_room (Nat.le_of_ble_eq_true rfl)) dX6_settle_55 ⟨Nat.le_of_ble_eq_true rfl, Nat.le_of_ble_eq_true rfl⟩) (fun r55 er55 => ?_)
          refine lv_imul hx hb dX6_settle_58 ?_
          refine lv_i2l (v := (2 * r55).toInt64) hx hb dX6_settle_59 rfl ?_
          refine lv_goto (tgt := 85) hx hb dX6_settle_60 (by decide) ?_
          refine lv_topl (fun x85 ex85 => ?_)
          refine lv_lstore_n (lv' := [(3, .long (x85)), (1, .long (r20)), (0, .ref (eC E 7))]) hx hb dX6_settle_85 rfl hl (by decide) rfl (fun ls hl => ?_)
          refine lv_aload_n hx hb dX6_settle_86 rfl (lv_at hl 2 rfl) ?_
          refine va_get (D := eD E) (cl := vwCl) (tys := eT E) (ci := 6) (C := RX6) (T := TX6) (N := 14) (v := .int (S.1 7 10)) hx hb hts hinX6 hown hE.1 hW.1 18 rfl rfl 10 (by decide) (hts (.fieldLink RX6 47 "DialGarden$Shade" "isRing" "Z") (by decide +kernel)) (fun _ h9 => h9) rfl dX6_settle_87 ?_
          refine lv_if_eq (tgt := 104) hx hb dX6_settle_90 (by decide) (fun c90 => ?_) (fun c90 => ?_)
          · refine lv_aload_n hx hb dX6_settle_104 rfl (lv_at hl 2 rfl) ?_
            refine va_get (D := eD E) (cl := vwCl) (tys := eT E) (ci := 6) (C := RX6) (T := TX6) (N := 14) (v := .int (S.1 7 9)) hx hb hts hinX6 hown hE.1 hW.1 18 rfl rfl 9 (by decide) (hts (.fieldLink RX6 44 "DialGarden$Shade" "rod" "I") (by decide +kernel)) (fun _ h9 => h9) rfl dX6_settle_105 ?_
            refine lv_ineg hx hb dX6_settle_108 ?_
            refine lv_i2l (v := (-(S.1 7 9)).toInt64) hx hb dX6_settle_109 rfl ?_
            refine lv_aload_n hx hb dX6_settle_110 rfl (lv_at hl 2 rfl) ?_
            refine va_get (D := eD E) (cl := vwCl) (tys := eT E) (ci := 6) (C := RX6) (T := TX6) (N := 14) (v := .ref (eC E 10)) hx hb hts hinX6 hown hE.1 hW.1 18 rfl rfl 3 (by decide) (hts (.fieldLink RX6 21 "DialGarden$Shade" "along" "LDialGarden$Row;") (by decide +kernel)) (fun _ h9 => h9) rfl dX6_settle_111 ?_
            refine lv_aload_n hx hb dX6_settle_114 rfl (lv_at hl 2 rfl) ?_
            refine va_get (D := eD E) (cl := vwCl) (tys := eT E) (ci := 6) (C := RX6) (T := TX6) (N := 14) (v := .ref (eC E 1)) hx hb hts hinX6 hown hE.1 hW.1 18 rfl rfl 0 (by decide) (hts (.fieldLink RX6 61 "DialGarden$Shade" "sky" "LDialGarden$Sky;") (by decide +kernel)) (fun _ h9 => h9) rfl dX6_settle_115 ?_
            refine k_Sl (va_runV (As := [.ref (eC E 1)]) (rest := [.long ((-(S.1 7 9)).toInt64)]) ⟨hx, hb, hml, hown, hts⟩ (c_X5_sunBy_10 l E M S) (cwV 1 hts gX6_settle_X5_sunBy rfl rfl rfl (by decide +kernel) ⟨Nat.le_of_ble_eq_true rfl, Nat.le_of_ble_eq_true rfl⟩) (gP.V (ci := 5) (q := (RX5, TX5, 3)) (q0 := 21) hE hS hW rfl rfl) rfl rfl hl.1 rfl (lv_room (Nat.le_of_ble_eq_true rfl)) dX6_settle_118 ⟨Nat.le_of_ble_eq_true rfl, Nat.le_of_ble_eq_true rfl⟩) (fun r118 er118 => ?_)
            refine lv_lmul hx hb dX6_settle_121 ?_
            refine lv_lload_n hx hb dX6_settle_122 rfl (lv_at hl 1 rfl) ?_
            refine k_Sl (va_runS (As := [.long (((-(S.1 7 9)).toInt64) * r118), .long (r20)]) (rest := []) ⟨hx, hb, hml, hown, hts⟩ (c_J9_floorDiv_f86c9 l (((-(S.1 7 9)).toInt64) * r118) r20 (l_pos_ne c26)) (va_cwS 2 hts gX6_settle_J9_floorDiv_f86c9 rfl rfl rfl (by decide +kernel) ⟨Nat.le_of_ble_eq_true rfl, Nat.le_of_ble_eq_true rfl⟩) gP0 rfl rfl hl.1 rfl (lv_room (Nat.le_of_ble_eq_true rfl)) dX6_settle_123 ⟨Nat.le_of_ble_eq_true rfl, Nat.le_of_ble_eq_true rfl⟩) (fun r123 er123 => ?_)
            refine lv_lstore (lv' := [(5, .long (r123)), (3, .long (x85)), (1, .long (r20)), (0, .ref (eC E 7))]) hx hb dX6_settle_126 hl (by decide) rfl (fun ls hl => ?_)
            refine lv_lload_n hx hb dX6_settle_128 rfl (lv_at hl 1 rfl) ?_
            refine k_Si (va_runSN (As := [.long (x85)]) (rest := []) ⟨hx, hb, hml, hown, hts⟩ (c_X10_isNear l x85) ⟨va_cnB 1 hts gX6_settle_X10_isNear_n135 rfl rfl rfl (hE.2.2.1 (.methodLinkNest "DialGarden$Shade" 135 ⟨"DialGarden", "isNear", "(J)Z"⟩ "DialGarden") (by decide +kernel)) (hts (.initialized RX10) (by decide +kernel)) (by decide +kernel) ⟨Nat.le_of_ble_eq_true rfl, Nat.le_of_ble_eq_true rfl⟩, hts (.static yX10_isNear) (by decide +kernel), trivial⟩ gP0 rfl rfl hl.1 rfl (lv_room (Nat.le_of_ble_eq_true rfl)) dX6_settle_129 ⟨Nat.le_of_ble_eq_true rfl, Nat.le_of_ble_eq_true rfl⟩) (fun r129 er129 => ?_)
            refine lv_if_eq (tgt := 143) hx hb dX6_settle_132 (by decide) (fun c132 => ?_) (fun c132 => ?_)
            · refine lv_iconst (v := 4) hx hb dX6_settle_143 (by decide) ?_
              exact W.iret (v := 4) hx hb hr (fun t ht _ => ⟨⟨4, S, rfl, by subst er129; subst er123; subst er118; subst ex85; subst er55; subst er20; first | (simp only [q_X6_settle, if_pos c7, if_pos c26, if_pos c38, if_neg c47, if_pos c90, if_pos c132]; done) | contradiction, by dsimp only; rw [ht]; exact hW⟩, hS.F ht⟩) hS.2.2 dX6_settle_144
            · refine lv_lload hx hb dX6_settle_135 (lv_at hl 0 rfl) ?_
              refine k_Si (va_runSN (As := [.long (r123)]) (rest := []) ⟨hx, hb, hml, hown, hts⟩ (c_X10_isNear l r123) ⟨va_cnB 1 hts gX6_settle_X10_isNear_n135 rfl rfl rfl (hE.2.2.1 (.methodLinkNest "DialGarden$Shade" 135 ⟨"DialGarden", "isNear", "(J)Z"⟩ "DialGarden") (by decide +kernel)) (hts (.initialized RX10) (by decide +kernel)) (by decide +kernel) ⟨Nat.le_of_ble_eq_true rfl, Nat.le_of_ble_eq_true rfl⟩, hts (.static yX10_isNear) (by decide +kernel), trivial⟩ gP0 rfl rfl hl.1 rfl (lv_room (Nat.le_of_ble_eq_true rfl)) dX6_settle_137 ⟨Nat.le_of_ble_eq_true rfl, Nat.le_of_ble_eq_true rfl⟩) (fun r137 er137 => ?_)
              refine lv_if_ne (tgt := 145) hx hb dX6_settle_140 (by decide) (fun c140 => ?_) (fun c140 => ?_)
              · refine lv_aload_n hx hb dX6_settle_145 rfl (lv_at hl 3 rfl) ?_
                refine lv_lload_n hx hb dX6_settle_146 rfl (lv_at hl 1 rfl) ?_
                refine lv_l2i (v := x85.toInt32) hx hb dX6_settle_147 rfl ?_
                refine va_put (D := eD E) (cl := vwCl) (tys := eT E) (A := eA E) (ci := 6) (C := RX6) (T := TX6) (N := 14) (v := .int (x85.toInt32)) (ty := .int) hx hb hts hinX6 tyX6 tyX6_ok nmX6 hown hE.1 hW.1 hW.2 hS 18 rfl rfl 12 (by decide) (hts (.fieldLink RX6 55 "DialGarden$Shade" "endX" "I") (by decide +kernel)) (fun _ h9 => h9) rfl (by decide +kernel) rfl rfl (Nat.le_of_ble_eq_true rfl) dX6_settle_148 (fun H locs hP hD hS => ?_)
                have hW : gW E M (pI S 7 12 (x85.toInt32)) H := gW.of (uC_7_12 E M S (x85.toInt32)) hP hD
                refine lv_aload_n hx hb dX6_settle_151 rfl (lv_at hl 3 rfl) ?_
                refine lv_lload hx hb dX6_settle_152 (lv_at hl 0 rfl) ?_
                refine lv_l2i (v := r123.toInt32) hx hb dX6_settle_154 rfl ?_
                refine va_put (D := eD E) (cl := vwCl) (tys := eT E) (A := eA E) (ci := 6) (C := RX6) (T := TX6) (N := 14) (v := .int (r123.toInt32)) (ty := .int) hx hb hts hinX6 tyX6 tyX6_ok nmX6 hown hE.1 hW.1 hW.2 hS 18 rfl rfl 13 (by decide) (hts (.fieldLink RX6 58 "DialGarden$Shade" "endY" "I") (by decide +kernel)) (fun _ h9 => h9) rfl (by decide +kernel) rfl rfl (Nat.le_of_ble_eq_true rfl) dX6_settle_155 (fun H locs hP hD hS => ?_)
                have hW : gW E M (pI (pI S 7 12 (x85.toInt32)) 7 13 (r123.toInt32)) H := gW.of (uC_7_13 E M (pI S 7 12 (x85.toInt32)) (r123.toInt32)) hP hD
                refine lv_iconst (v := 0) hx hb dX6_settle_158 (by decide) ?_
                exact W.iret (v := 0) hx hb hr (fun t ht _ => ⟨⟨0, pI (pI S 7 12 (x85.toInt32)) 7 13 (r123.toInt32), rfl, by subst er137; subst er129; subst er123; subst er118; subst ex85; subst er55; subst er20; first | (simp only [q_X6_settle, if_pos c7, if_pos c26, if_pos c38, if_neg c47, if_pos c90, if_neg c132, if_neg c140]; done) | contradiction, by dsimp only; rw [ht]; exact hW⟩, hS.F ht⟩) hS.2.2 dX6_settle_159
              · refine lv_iconst (v := 4) hx hb dX6_settle_143 (by decide) ?_
                exact W.iret (v := 4) hx hb hr (fun t ht _ => ⟨⟨4, S, rfl, by subst er137; subst er129; subst er123; subst er118; subst ex85; subst er55; subst er20; first | (simp only [q_X6_settle, if_pos c7, if_pos c26, if_pos c38, if_neg c47, if_pos c90, if_neg c132, if_pos c140]; done) | contradiction, by dsimp only; rw [ht]; exact hW⟩, hS.F ht⟩) hS.2.2 dX6_settle_144
          · refine lv_aload_n hx hb dX6_settle_93 rfl (lv_at hl 2 rfl) ?_
            refine va_get (D := eD E) (cl := vwCl) (tys := eT E) (ci := 6) (C := RX6) (T := TX6) (N := 14) (v := .ref (eC E 1)) hx hb hts hinX6 hown hE.1 hW.1 18 rfl rfl 0 (by decide) (hts (.fieldLink RX6 61 "DialGarden$Shade" "sky" "LDialGarden$Sky;") (by decide +kernel)) (fun _ h9 => h9) rfl dX6_settle_94 ?_
            refine k_Si (va_runV (As := []) (rest := []) ⟨hx, hb, hml, hown, hts⟩ (c_X8_westSide l E M S) (cwV 0 hts gX6_settle_X8_westSide rfl rfl rfl (by decide +kernel) ⟨Nat.le_of_ble_eq_true rfl, Nat.le_of_ble_eq_true rfl⟩) (gP.V (ci := 8) (q := (RX8, TX8, 16)) (q0 := 12) hE hS hW rfl rfl) rfl rfl hl.1 rfl (lv_room (Nat.le_of_ble_eq_true rfl)) dX6_settle_97 ⟨Nat.le_of_ble_eq_true rfl, Nat.le_of_ble_eq_true rfl⟩) (fun r97 er97 => ?_)
            refine lv_i2l (v := r97.toInt64) hx hb dX6_settle_100 rfl ?_
            refine lv_goto (tgt := 126) hx hb dX6_settle_101 (by decide) ?_
            refine lv_topl (fun x126 ex126 => ?_)
            refine lv_lstore (lv' := [(5, .long (x126)), (3, .long (x85)), (1, .long (r20)), (0, .ref (eC E 7))]) hx hb dX6_settle_126 hl (by decide) rfl (fun ls hl => ?_)
            refine lv_lload_n hx hb dX6_settle_128 rfl (lv_at hl 1 rfl) ?_
            refine k_Si (va_runSN (As := [.long (x85)]) (rest := []) ⟨hx, hb, hml, hown, hts⟩ (c_X10_isNear l x85) ⟨va_cnB 1 hts gX6_settle_X10_isNear_n135 rfl rfl rfl (hE.2.2.1 (.methodLinkNest "DialGarden$Shade" 135 ⟨"DialGarden", "isNear", "(J)Z"⟩ "DialGarden") (by decide +kernel)) (hts (.initialized RX10) (by decide +kernel)) (by decide +kernel) ⟨Nat.le_of_ble_eq_true rfl, Nat.le_of_ble_eq_true rfl⟩, hts (.static yX10_isNear) (by decide +kernel), trivial⟩ gP0 rfl rfl hl.1 rfl (lv_room (Nat.le_of_ble_eq_true rfl)) dX6_settle_129 ⟨Nat.le_of_ble_eq_true rfl, Nat.le_of_ble_eq_true rfl⟩) (fun r129 er129 => ?_)
            refine lv_if_eq (tgt := 143) hx hb dX6_settle_132 (by decide) (fun c132 => ?_) (fun c132 => ?_)
            · refine lv_iconst (v := 4) hx hb dX6_settle_143 (by decide) ?_
              exact W.iret (v := 4) hx hb hr (fun t ht _ => ⟨⟨4, S, rfl, by subst er129; subst ex126; subst er97; subst ex85; subst er55; subst er20; first | (simp only [q_X6_settle, if_pos c7, if_pos c26, if_pos c38, if_neg c47, if_neg c90, if_pos c132]; done) | contradiction, by dsimp only; rw [ht]; exact hW⟩, hS.F ht⟩) hS.2.2 dX6_settle_144
            · refine lv_lload hx hb dX6_settle_135 (lv_at hl 0 rfl) ?_
              refine k_Si (va_runSN (As := [.long (x126)]) (rest := []) ⟨hx, hb, hml, hown, hts⟩ (c_X10_isNear l x126) ⟨va_cnB 1 hts gX6_settle_X10_isNear_n135 rfl rfl rfl (hE.2.2.1 (.methodLinkNest "DialGarden$Shade" 135 ⟨"DialGarden", "isNear", "(J)Z"⟩ "DialGarden") (by decide +kernel)) (hts (.initialized RX10) (by decide +kernel)) (by decide +kernel) ⟨Nat.le_of_ble_eq_true rfl, Nat.le_of_ble_eq_true rfl⟩, hts (.static yX10_isNear) (by decide +kernel), trivial⟩ gP0 rfl rfl hl.1 rfl (lv_room (Nat.le_of_ble_eq_true rfl)) dX6_settle_137 ⟨Nat.le_of_ble_eq_true rfl, Nat.le_of_ble_eq_true rfl⟩) (fun r137 er137 => ?_)
              refine lv_if_ne (tgt := 145) hx hb dX6_settle_140 (by decide) (fun c140 => ?_) (fun c140 => ?_)
              · refine lv_aload_n hx hb dX6_settle_145 rfl (lv_at hl 3 rfl) ?_
                refine lv_lload_n hx hb dX6_settle_146 rfl (lv_at hl 1 rfl) ?_
                refine lv_l2i (v := x85.toInt32) hx hb dX6_settle_147 rfl ?_
                refine va_put (D := eD E) (cl := vwCl) (tys := eT E) (A := eA E) (ci := 6) (C := RX6) (T := TX6) (N := 14) (v := .int (x85.toInt32)) (ty := .int) hx hb hts hinX6 tyX6 tyX6_ok nmX6 hown hE.1 hW.1 hW.2 hS 18 rfl rfl 12 (by decide) (hts (.fieldLink RX6 55 "DialGarden$Shade" "endX" "I") (by decide +kernel)) (fun _ h9 => h9) rfl (by decide +kernel) rfl rfl (Nat.le_of_ble_eq_true rfl) dX6_settle_148 (fun H locs hP hD hS => ?_)
                have hW : gW E M (pI S 7 12 (x85.toInt32)) H := gW.of (uC_7_12 E M S (x85.toInt32)) hP hD
                refine lv_aload_n hx hb dX6_settle_151 rfl (lv_at hl 3 rfl) ?_
                refine lv_lload hx hb dX6_settle_152 (lv_at hl 0 rfl) ?_
                refine lv_l2i (v := x126.toInt32) hx hb dX6_settle_154 rfl ?_
                refine va_put (D := eD E) (cl := vwCl) (tys := eT E) (A := eA E) (ci := 6) (C := RX6) (T := TX6) (N := 14) (v := .int (x126.toInt32)) (ty := .int) hx hb hts hinX6 tyX6 tyX6_ok nmX6 hown hE.1 hW.1 hW.2 hS 18 rfl rfl 13 (by decide) (hts (.fieldLink RX6 58 "DialGarden$Shade" "endY" "I") (by decide +kernel)) (fun _ h9 => h9) rfl (by decide +kernel) rfl rfl (Nat.le_of_ble_eq_true rfl) dX6_settle_155 (fun H locs hP hD hS => ?_)
                have hW : gW E M (pI (pI S 7 12 (x85.toInt32)) 7 13 (x126.toInt32)) H := gW.of (uC_7_13 E M (pI S 7 12 (x85.toInt32)) (x126.toInt32)) hP hD
                refine lv_iconst (v := 0) hx hb dX6_settle_158 (by decide) ?_
                exact W.iret (v := 0) hx hb hr (fun t ht _ => ⟨⟨0, pI (pI S 7 12 (x85.toInt32)) 7 13 (x126.toInt32), rfl, by subst er137; subst er129; subst ex126; subst er97; subst ex85; subst er55; subst er20; first | (simp only [q_X6_settle, if_pos c7, if_pos c26, if_pos c38, if_neg c47, if_neg c90, if_neg c132, if_neg c140]; done) | contradiction, by dsimp only; rw [ht]; exact hW⟩, hS.F ht⟩) hS.2.2 dX6_settle_159
              · refine lv_iconst (v := 4) hx hb dX6_settle_143 (by decide) ?_
                exact W.iret (v := 4) hx hb hr (fun t ht _ => ⟨⟨4, S, rfl, by subst er137; subst er129; subst ex126; subst er97; subst ex85; subst er55; subst er20; first | (simp only [q_X6_settle, if_pos c7, if_pos c26, if_pos c38, if_neg c47, if_neg c90, if_neg c132, if_pos c140]; done) | contradiction, by dsimp only; rw [ht]; exact hW⟩, hS.F ht⟩) hS.2.2 dX6_settle_144
      · refine lv_iconst (v := 3) hx hb dX6_settle_41 (by decide) ?_
        exact W.iret (v := 3) hx hb hr (fun t ht _ => ⟨⟨3, S, rfl, by subst er20; first | (simp only [q_X6_settle, if_pos c7, if_pos c26, if_neg c38]; done) | contradiction, by dsimp only; rw [ht]; exact hW⟩, hS.F ht⟩) hS.2.2 dX6_settle_42
    · refine lv_iconst (v := 2) hx hb dX6_settle_30 (by decide) ?_
      exact W.iret (v := 2) hx hb hr (fun t ht _ => ⟨⟨2, S, rfl, by subst er20; first | (simp only [q_X6_settle, if_pos c7, if_neg c26]; done) | contradiction, by dsimp only; rw [ht]; exact hW⟩, hS.F ht⟩) hS.2.2 dX6_settle_31
  · refine lv_iconst (v := 1) hx hb dX6_settle_10 (by decide) ?_
    exact W.iret (v := 1) hx hb hr (fun t ht _ => ⟨⟨1, S, rfl, by first | (simp only [q_X6_settle, if_neg c7]; done) | contradiction, by dsimp only; rw [ht]; exact hW⟩, hS.F ht⟩) hS.2.2 dX6_settle_11
theorem qp_X6_settle (S : gSc)  : (q_X6_settle S).2.2.2 = S.2.2 := by
  unfold q_X6_settle
  try dsimp only
  (repeat' split) <;> first | (simp only [pI_2, sR_22]; done) | rfl

def q_X6_cast (S : gSc)  : Int32 × gSc := (let S1 := q_X6_findHider S; (let r5 := (q_X6_settle S1).1; let S5 := (q_X6_settle S1).2; (r5, S5)))
set_option maxHeartbeats 4000000 in
set_option maxRecDepth 100000 in
theorem c_X6_cast (l : Launch) (E : gEE) (M : gSm) (S : gSc)  (hh0 : 0 ≤ (S.1 7 6).toInt) (hh : (S.1 7 6).toInt ≤ 40) (hH : okH S) : Met l yX6_cast wsX6_cast ({ frames := 3, cells := 0, slots := 0, locals := 72 }) (va_Pc [.ref (eC E 7)] (gP E M S)) (va_Qi (fun r (u : gSc) => (r, u) = q_X6_cast S) (fun u t => gW E M u t.heap) (eA E)) 0 0 (eA E) := by
  refine Met.ofW (cc := cX6_cast) (maxL := 1) (ret := (some .int)) (by decide) rfl ?_
  intro p e s m args below meth c s₁ B hml hv
  obtain ⟨rfl, hE, hW⟩ := hv
  have hx := B.exec
  have hb := B.bytes
  have hr := B.returns
  have hts := atoms_spec (ws := wsX6_cast) B.pre
  have hown : s.vm.findClass RX6 = some m.cls := findClass_of_methodNamed B.named
  have hlocks := B.notSynchronized
  have hS : va_S (eA E) s.heap s.heap [] := va_S.rf
  have hl := lv_entry ([.ref (eC E 7)]) (n := 1) (Nat.le_of_ble_eq_true rfl)
  rw [lg_entry_eq]
  generalize (lg_sl ([.ref (eC E 7)]) ++ List.replicate (1 - (lg_sl ([.ref (eC E 7)])).length) Slot.unset).toArray = ls at hl ⊢
  have hl : lv_has ls 1 [(0, .ref (eC E 7))] := hl
  have hS : ∃ (H : Heap) (locs : List Loc), H = s.heap ∧ locs = [] ∧ gW E M S H ∧ va_S (eA E) s.heap H locs := ⟨_, _, rfl, rfl, hW, hS⟩
  clear hW
  obtain ⟨H, locs, eH, el, hW, hS⟩ := hS
  rw [← eH, ← el]
  clear eH el
  refine lv_aload_n hx hb dX6_cast_0 rfl (lv_at hl 0 rfl) ?_
  refine va_callv (va_runV (As := []) (rest := []) ⟨hx, hb, hml, hown, hts⟩ (c_X6_findHider l E M S hh0 hh hH) (cwV 0 hts gX6_cast_X6_findHider rfl rfl rfl (by decide +kernel) ⟨Nat.le_of_ble_eq_true rfl, Nat.le_of_ble_eq_true rfl⟩) (gP.V (ci := 6) (q := (RX6, TX6, 14)) (q0 := 18) hE hS hW rfl rfl) rfl rfl hl.1 rfl (lv_room (Nat.le_of_ble_eq_true rfl)) dX6_cast_1 ⟨Nat.le_of_ble_eq_true rfl, Nat.le_of_ble_eq_true rfl⟩) hS (fun _ _ h => h) (fun _ h => h) (fun S1 t H locs ht hvm hw hB hz1 hk1 hS => ?_)
  have eS1 : S1 = q_X6_findHider S := hw
  clear hw
  have hW : gW E M S1 H := by rw [← ht]; exact hB
  have hpS1 : S1.2.2 = S.2.2 := by rw [eS1]; exact (qp_X6_findHider _)
  refine lv_aload_n hx hb dX6_cast_4 rfl (lv_at hl 0 rfl) ?_
  refine va_calli (va_runV (As := []) (rest := []) ⟨hx, hb, hml, hown, hts⟩ (c_X6_settle l E M S1) (cwV 0 hts gX6_cast_X6_settle rfl rfl rfl (by decide +kernel) ⟨Nat.le_of_ble_eq_true rfl, Nat.le_of_ble_eq_true rfl⟩) (gP.V (ci := 6) (q := (RX6, TX6, 14)) (q0 := 18) hE hS hW rfl rfl) rfl rfl hl.1 rfl (lv_room (Nat.le_of_ble_eq_true rfl)) dX6_cast_5 ⟨Nat.le_of_ble_eq_true rfl, Nat.le_of_ble_eq_true rfl⟩) hS (fun _ _ h => h) (fun _ h => h) (fun r5 S5 t H locs ht hvm hw hB hz1 hk1 hS => ?_)
  obtain ⟨er5, eS5⟩ := prj hw
  clear hw
  have hW : gW E M S5 H := by rw [← ht]; exact hB
  have hpS5 : S5.2.2 = S1.2.2 := by rw [eS5]; exact (qp_X6_settle _)
  exact W.iret (v := r5) hx hb hr (fun t ht _ => ⟨⟨r5, S5, rfl, by subst eS5; subst er5; subst eS1; first | (simp only [q_X6_cast]; done) | contradiction, by dsimp only; rw [ht]; exact hW⟩, hS.F ht⟩) hS.2.2 dX6_cast_8
theorem qp_X6_cast (S : gSc)  : (q_X6_cast S).2.2.2 = S.2.2 := by
  unfold q_X6_cast
  try dsimp only
  (repeat' split) <;> first | (simp only [pI_2, sR_22, qp_X6_findHider, qp_X6_settle]; done) | rfl
