def q_X10_followLine_b35 (S : gSc) (p1 : Nat) (p2 : Int32) : Nat → Int32 → gSc → gSc
  | 0, v3, Z => Z
  | n + 1, v3, Z => (if 366 ≤ v3 then Z else (let S51 := q_X8_setTime Z v3 (60 * p2); (let r58 := (q_X6_cast S51).1; let S58 := (q_X6_cast S51).2; (if r58 = 0 then (let S72 := q_X4_add_23 S58 v3; (let S86 := q_X4_add_24 S72 (S72.1 7 12); (let S100 := q_X4_add_25 S86 (S86.1 7 13); (let x103 := v3 + 1; q_X10_followLine_b35 S p1 p2 n x103 S100)))) else (let x103 := v3 + 1; q_X10_followLine_b35 S p1 p2 n x103 S58)))))
def q_X10_followLine (S : gSc) (p1 : Nat) (p2 : Int32) : gSc := (let S4 := q_X4_clear_23 S; (let S11 := q_X4_clear_24 S4; (let S18 := q_X4_clear_25 S11; (let S30 := q_X6_setUp S18 p1; q_X10_followLine_b35 S p1 p2 367 0 S30))))
set_option maxHeartbeats 4000000 in
set_option maxRecDepth 100000 in
theorem c_X10_followLine (l : Launch) (E : gEE) (M : gSm) (S : gSc) (p1 : Nat) (p2 : Int32) (hL1 : p1 ∈ S.2.2.1) (hk1 : S.2.2.2.1 p1 = 1) (hT : okR S 3 40) (hH : okH S) (hkn0 : 0 ≤ (S.1 1 1).toInt) (hkn : (S.1 1 1).toInt ≤ 366) : Met l yX10_followLine wsX10_followLine ({ frames := 5, cells := 0, slots := 0, locals := 114 }) (va_Pc [.ref (eC E 0), .ref (p1), .int (p2)] (gP E M S)) (va_Qv (fun u : gSc => u = q_X10_followLine S p1 p2) (fun u t => gW E M u t.heap) (eA E)) 0 0 (eA E) := by
  refine Met.ofW (cc := cX10_followLine) (maxL := 4) (ret := none) (by decide) rfl ?_
  intro p e s m args below meth c s₁ B hml hv
  obtain ⟨rfl, hE, hW⟩ := hv
  have hx := B.exec
  have hb := B.bytes
  have hr := B.returns
  have hts := atoms_spec (ws := wsX10_followLine) B.pre
  have hown : s.vm.findClass RX10 = some m.cls := findClass_of_methodNamed B.named
  have hlocks := B.notSynchronized
  have hinX10 : ∀ w ∈ wsX100, w ∈ wsX10_followLine := by decide +kernel
  have hinX6 : ∀ w ∈ wsX60, w ∈ wsX10_followLine := by decide +kernel
  have hS : va_S (eA E) s.heap s.heap [] := va_S.rf
  have hl := lv_entry ([.ref (eC E 0), .ref (p1), .int (p2)]) (n := 4) (Nat.le_of_ble_eq_true rfl)
  rw [lg_entry_eq]
  generalize (lg_sl ([.ref (eC E 0), .ref (p1), .int (p2)]) ++ List.replicate (4 - (lg_sl ([.ref (eC E 0), .ref (p1), .int (p2)])).length) Slot.unset).toArray = ls at hl ⊢
  have hl : lv_has ls 4 [(0, .ref (eC E 0)), (1, .ref (p1)), (2, .int (p2))] := hl
  have hS : ∃ (H : Heap) (locs : List Loc), H = s.heap ∧ locs = [] ∧ gW E M S H ∧ va_S (eA E) s.heap H locs := ⟨_, _, rfl, rfl, hW, hS⟩
  clear hW
  obtain ⟨H, locs, eH, el, hW, hS⟩ := hS
  rw [← eH, ← el]
  clear eH el
  have L35 : ∀ n : Nat, ∀ (v3 : Int32) (Z : gSc) (H : Heap) (locs : List Loc) (ls : Array Slot), (gL 366 n v3 ∧ kZ S Z) → q_X10_followLine S p1 p2 = q_X10_followLine_b35 S p1 p2 n v3 Z → gW E M Z H → va_S (eA E) s.heap H locs → lv_has ls 4 [(0, .ref (eC E 0)), (2, .int (p2)), (3, .int (v3))] → W p l e (headSpec wsX10_followLine ({ frames := 5, cells := 0, slots := 0, locals := 114 })).room s m ([.ref (eC E 0), .ref (p1), .int (p2)] : List Value).toArray below meth c H locs 0 0 (MQ below (va_Qv (fun u : gSc => u = q_X10_followLine S p1 p2) (fun u t => gW E M u t.heap) (eA E)) ([.ref (eC E 0), .ref (p1), .int (p2)] : List Value).toArray s 0 0 (eA E)) (F0 m 35 ls []) := by
    intro n
    induction n with
    | zero =>
      intro v3 Z H locs ls hi hq hW hS hl
      exact hi.1.z
    | succ n ih =>
      intro v3 Z H locs ls hi hq hW hS hl
      refine lv_iload_n hx hb dX10_followLine_35 rfl (lv_at hl 2 rfl) ?_
      refine lv_sipush (v := 366) hx hb dX10_followLine_36 (by decide) ?_
      refine lv_icmp_ge (tgt := 109) hx hb dX10_followLine_39 (by decide) (fun c39 => ?_) (fun c39 => ?_)
      · exact W.vret hx hb hr (fun t ht _ => ⟨⟨Z, rfl, by rw [hq]; first | (simp only [q_X10_followLine_b35, if_pos c39]; done) | contradiction, by dsimp only; rw [ht]; exact hW⟩, hS.F ht⟩) hS.2.2 dX10_followLine_109
      · refine lv_aload_n hx hb dX10_followLine_42 rfl (lv_at hl 0 rfl) ?_
        refine va_get (D := eD E) (cl := vwCl) (tys := eT E) (ci := 9) (C := RX10) (T := TX10) (N := 12) (v := .ref (eC E 1)) hx hb hts hinX10 hown hE.1 hW.1 11 rfl rfl 0 (by decide) (hts (.fieldLink RX10 10 "DialGarden" "sky" "LDialGarden$Sky;") (by decide +kernel)) (fun _ h9 => h9) rfl dX10_followLine_43 ?_
        refine lv_iload_n hx hb dX10_followLine_46 rfl (lv_at hl 2 rfl) ?_
        refine lv_bipush (v := 60) hx hb dX10_followLine_47 (by decide) ?_
        refine lv_iload_n hx hb dX10_followLine_49 rfl (lv_at hl 1 rfl) ?_
        refine lv_imul hx hb dX10_followLine_50 ?_
        refine va_callv (va_runV (As := [.int (v3), .int (60 * p2)]) (rest := []) ⟨hx, hb, hml, hown, hts⟩ (c_X8_setTime l E M Z v3 (60 * p2) hi.2.2.1.1 hi.2.2.1.2) (cwV 2 hts gX10_followLine_X8_setTime rfl rfl rfl (by decide +kernel) ⟨Nat.le_of_ble_eq_true rfl, Nat.le_of_ble_eq_true rfl⟩) (gP.V (ci := 8) (q := (RX8, TX8, 16)) (q0 := 12) hE hS hW rfl rfl) rfl rfl hl.1 rfl (lv_room (Nat.le_of_ble_eq_true rfl)) dX10_followLine_51 ⟨Nat.le_of_ble_eq_true rfl, Nat.le_of_ble_eq_true rfl⟩) hS (fun _ _ h => h) (fun _ h => h) (fun S51 t H locs ht hvm hw hB hz1 hk1 hS => ?_)
        have eS51 : S51 = q_X8_setTime Z v3 (60 * p2) := hw
        clear hw
        have hW : gW E M S51 H := by rw [← ht]; exact hB
        have hpS51 : S51.2.2 = Z.2.2 := by rw [eS51]; exact (qp_X8_setTime _ _ _)
        refine lv_aload_n hx hb dX10_followLine_54 rfl (lv_at hl 0 rfl) ?_
        refine va_get (D := eD E) (cl := vwCl) (tys := eT E) (ci := 9) (C := RX10) (T := TX10) (N := 12) (v := .ref (eC E 7)) hx hb hts hinX10 hown hE.1 hW.1 11 rfl rfl 3 (by decide) (hts (.fieldLink RX10 34 "DialGarden" "shade" "LDialGarden$Shade;") (by decide +kernel)) (fun _ h9 => h9) rfl dX10_followLine_55 ?_
        refine va_calli (va_runV (As := []) (rest := []) ⟨hx, hb, hml, hown, hts⟩ (c_X6_cast l E M S51 (by rw [eS51]; exact (hi.2.st (kw_setTime _ _ _)).1.1) (by rw [eS51]; exact (hi.2.st (kw_setTime _ _ _)).1.2.1) (by rw [eS51]; exact (hi.2.st (kw_setTime _ _ _)).1.2.2)) (cwV 0 hts gX10_followLine_X6_cast rfl rfl rfl (by decide +kernel) ⟨Nat.le_of_ble_eq_true rfl, Nat.le_of_ble_eq_true rfl⟩) (gP.V (ci := 6) (q := (RX6, TX6, 14)) (q0 := 18) hE hS hW rfl rfl) rfl rfl hl.1 rfl (lv_room (Nat.le_of_ble_eq_true rfl)) dX10_followLine_58 ⟨Nat.le_of_ble_eq_true rfl, Nat.le_of_ble_eq_true rfl⟩) hS (fun _ _ h => h) (fun _ h => h) (fun r58 S58 t H locs ht hvm hw hB hz1 hk1 hS => ?_)
        obtain ⟨er58, eS58⟩ := prj hw
        clear hw
        have hW : gW E M S58 H := by rw [← ht]; exact hB
        have hpS58 : S58.2.2 = S51.2.2 := by rw [eS58]; exact (qp_X6_cast _)
        refine lv_if_eq (tgt := 67) hx hb dX10_followLine_61 (by decide) (fun c61 => ?_) (fun c61 => ?_)
        · refine lv_aload_n hx hb dX10_followLine_67 rfl (lv_at hl 0 rfl) ?_
          refine va_get (D := eD E) (cl := vwCl) (tys := eT E) (ci := 9) (C := RX10) (T := TX10) (N := 12) (v := .ref (eC E 23)) hx hb hts hinX10 hown hE.1 hW.1 11 rfl rfl 8 (by decide) (hts (.fieldLink RX10 63 "DialGarden" "daysOfLine" "LDialGarden$Range;") (by decide +kernel)) (fun _ h9 => h9) rfl dX10_followLine_68 ?_
          refine lv_iload_n hx hb dX10_followLine_71 rfl (lv_at hl 2 rfl) ?_
          refine va_callv (va_runV (As := [.int (v3)]) (rest := []) ⟨hx, hb, hml, hown, hts⟩ (c_X4_add_23 l E M S58 v3) (cwV 1 hts gX10_followLine_X4_add rfl rfl rfl (by decide +kernel) ⟨Nat.le_of_ble_eq_true rfl, Nat.le_of_ble_eq_true rfl⟩) (gP.V (ci := 4) (q := (RX4, TX4, 3)) (q0 := 34) hE hS hW rfl rfl) rfl rfl hl.1 rfl (lv_room (Nat.le_of_ble_eq_true rfl)) dX10_followLine_72 ⟨Nat.le_of_ble_eq_true rfl, Nat.le_of_ble_eq_true rfl⟩) hS (fun _ _ h => h) (fun _ h => h) (fun S72 t H locs ht hvm hw hB hz1 hk1 hS => ?_)
          have eS72 : S72 = q_X4_add_23 S58 v3 := hw
          clear hw
          have hW : gW E M S72 H := by rw [← ht]; exact hB
          have hpS72 : S72.2.2 = S58.2.2 := by rw [eS72]; exact (qp_X4_add_23 _ _)
          refine lv_aload_n hx hb dX10_followLine_75 rfl (lv_at hl 0 rfl) ?_
          refine va_get (D := eD E) (cl := vwCl) (tys := eT E) (ci := 9) (C := RX10) (T := TX10) (N := 12) (v := .ref (eC E 24)) hx hb hts hinX10 hown hE.1 hW.1 11 rfl rfl 9 (by decide) (hts (.fieldLink RX10 67 "DialGarden" "firstNumbers" "LDialGarden$Range;") (by decide +kernel)) (fun _ h9 => h9) rfl dX10_followLine_76 ?_
          refine lv_aload_n hx hb dX10_followLine_79 rfl (lv_at hl 0 rfl) ?_
          refine va_get (D := eD E) (cl := vwCl) (tys := eT E) (ci := 9) (C := RX10) (T := TX10) (N := 12) (v := .ref (eC E 7)) hx hb hts hinX10 hown hE.1 hW.1 11 rfl rfl 3 (by decide) (hts (.fieldLink RX10 34 "DialGarden" "shade" "LDialGarden$Shade;") (by decide +kernel)) (fun _ h9 => h9) rfl dX10_followLine_80 ?_
          refine va_getN (D := eD E) (cl := vwCl) (tys := eT E) (ci := 6) (C := RX6) (T := TX6) (N := 14) (v := .int (S72.1 7 12)) hx hb hts hinX6 hown hE.1 hW.1 18 rfl rfl 12 (by decide) (va_Nw.use rfl (hE.2.2.1 (.fieldLinkNest "DialGarden" 238 "DialGarden$Shade" "endX" "I" "DialGarden") (by decide +kernel))) (fun _ h9 => h9) rfl dX10_followLine_83 ?_
          refine va_callv (va_runV (As := [.int (S72.1 7 12)]) (rest := []) ⟨hx, hb, hml, hown, hts⟩ (c_X4_add_24 l E M S72 (S72.1 7 12)) (cwV 1 hts gX10_followLine_X4_add rfl rfl rfl (by decide +kernel) ⟨Nat.le_of_ble_eq_true rfl, Nat.le_of_ble_eq_true rfl⟩) (gP.V (ci := 4) (q := (RX4, TX4, 3)) (q0 := 35) hE hS hW rfl rfl) rfl rfl hl.1 rfl (lv_room (Nat.le_of_ble_eq_true rfl)) dX10_followLine_86 ⟨Nat.le_of_ble_eq_true rfl, Nat.le_of_ble_eq_true rfl⟩) hS (fun _ _ h => h) (fun _ h => h) (fun S86 t H locs ht hvm hw hB hz1 hk1 hS => ?_)
          have eS86 : S86 = q_X4_add_24 S72 (S72.1 7 12) := hw
          clear hw
          have hW : gW E M S86 H := by rw [← ht]; exact hB
          have hpS86 : S86.2.2 = S72.2.2 := by rw [eS86]; exact (qp_X4_add_24 _ _)
          refine lv_aload_n hx hb dX10_followLine_89 rfl (lv_at hl 0 rfl) ?_
          refine va_get (D := eD E) (cl := vwCl) (tys := eT E) (ci := 9) (C := RX10) (T := TX10) (N := 12) (v := .ref (eC E 25)) hx hb hts hinX10 hown hE.1 hW.1 11 rfl rfl 10 (by decide) (hts (.fieldLink RX10 70 "DialGarden" "secondNumbers" "LDialGarden$Range;") (by decide +kernel)) (fun _ h9 => h9) rfl dX10_followLine_90 ?_
          refine lv_aload_n hx hb dX10_followLine_93 rfl (lv_at hl 0 rfl) ?_
          refine va_get (D := eD E) (cl := vwCl) (tys := eT E) (ci := 9) (C := RX10) (T := TX10) (N := 12) (v := .ref (eC E 7)) hx hb hts hinX10 hown hE.1 hW.1 11 rfl rfl 3 (by decide) (hts (.fieldLink RX10 34 "DialGarden" "shade" "LDialGarden$Shade;") (by decide +kernel)) (fun _ h9 => h9) rfl dX10_followLine_94 ?_
          refine va_getN (D := eD E) (cl := vwCl) (tys := eT E) (ci := 6) (C := RX6) (T := TX6) (N := 14) (v := .int (S86.1 7 13)) hx hb hts hinX6 hown hE.1 hW.1 18 rfl rfl 13 (by decide) (va_Nw.use rfl (hE.2.2.1 (.fieldLinkNest "DialGarden" 241 "DialGarden$Shade" "endY" "I" "DialGarden") (by decide +kernel))) (fun _ h9 => h9) rfl dX10_followLine_97 ?_
          refine va_callv (va_runV (As := [.int (S86.1 7 13)]) (rest := []) ⟨hx, hb, hml, hown, hts⟩ (c_X4_add_25 l E M S86 (S86.1 7 13)) (cwV 1 hts gX10_followLine_X4_add rfl rfl rfl (by decide +kernel) ⟨Nat.le_of_ble_eq_true rfl, Nat.le_of_ble_eq_true rfl⟩) (gP.V (ci := 4) (q := (RX4, TX4, 3)) (q0 := 36) hE hS hW rfl rfl) rfl rfl hl.1 rfl (lv_room (Nat.le_of_ble_eq_true rfl)) dX10_followLine_100 ⟨Nat.le_of_ble_eq_true rfl, Nat.le_of_ble_eq_true rfl⟩) hS (fun _ _ h => h) (fun _ h => h) (fun S100 t H locs ht hvm hw hB hz1 hk1 hS => ?_)
          have eS100 : S100 = q_X4_add_25 S86 (S86.1 7 13) := hw
          clear hw
          have hW : gW E M S100 H := by rw [← ht]; exact hB
          have hpS100 : S100.2.2 = S86.2.2 := by rw [eS100]; exact (qp_X4_add_25 _ _)
          obtain ⟨x103, ex103⟩ : ∃ y : Int32, y = v3 + 1 := ⟨_, rfl⟩
          refine lv_iinc (v := x103) (lv' := [(3, .int (x103)), (0, .ref (eC E 0)), (2, .int (p2))]) hx hb dX10_followLine_103 hl (k := 2) rfl (by rw [ex103]; rfl) (by decide) rfl (fun ls hl => ?_)
          refine lv_goto (tgt := 35) hx hb dX10_followLine_106 (by decide) ?_
          exact ih _ _ _ _ _ (by first | exact ⟨hi.1.st c39 (by decide) ex103, hi.2.st (by rw [eS58, eS51]; exact kw_tr (kw_cast _) (kw_setTime _ _ _))⟩ | exact ⟨hi.1.st c39 (by decide) ex103, hi.2.st (by rw [eS100, eS86, eS72, eS58, eS51]; exact kw_tr (kw_add25 _ _) (kw_tr (kw_add24 _ _) (kw_tr (kw_add23 _ _) (kw_tr (kw_cast _) (kw_setTime _ _ _)))))⟩) (by rw [hq]; subst ex103; subst eS100; subst eS86; subst eS72; subst eS58; subst er58; subst eS51; first | (simp only [q_X10_followLine_b35, if_neg c39, if_pos c61]; done) | contradiction) hW hS (lv_sub hl [1, 2, 0] rfl)
        · refine lv_goto (tgt := 103) hx hb dX10_followLine_64 (by decide) ?_
          obtain ⟨x103, ex103⟩ : ∃ y : Int32, y = v3 + 1 := ⟨_, rfl⟩
          refine lv_iinc (v := x103) (lv' := [(3, .int (x103)), (0, .ref (eC E 0)), (2, .int (p2))]) hx hb dX10_followLine_103 hl (k := 2) rfl (by rw [ex103]; rfl) (by decide) rfl (fun ls hl => ?_)
          refine lv_goto (tgt := 35) hx hb dX10_followLine_106 (by decide) ?_
          exact ih _ _ _ _ _ (by first | exact ⟨hi.1.st c39 (by decide) ex103, hi.2.st (by rw [eS58, eS51]; exact kw_tr (kw_cast _) (kw_setTime _ _ _))⟩ | exact ⟨hi.1.st c39 (by decide) ex103, hi.2.st (by rw [eS100, eS86, eS72, eS58, eS51]; exact kw_tr (kw_add25 _ _) (kw_tr (kw_add24 _ _) (kw_tr (kw_add23 _ _) (kw_tr (kw_cast _) (kw_setTime _ _ _)))))⟩) (by rw [hq]; subst ex103; subst eS58; subst er58; subst eS51; first | (simp only [q_X10_followLine_b35, if_neg c39, if_neg c61]; done) | contradiction) hW hS (lv_sub hl [1, 2, 0] rfl)
  refine lv_aload_n hx hb dX10_followLine_0 rfl (lv_at hl 0 rfl) ?_
  refine va_get (D := eD E) (cl := vwCl) (tys := eT E) (ci := 9) (C := RX10) (T := TX10) (N := 12) (v := .ref (eC E 23)) hx hb hts hinX10 hown hE.1 hW.1 11 rfl rfl 8 (by decide) (hts (.fieldLink RX10 63 "DialGarden" "daysOfLine" "LDialGarden$Range;") (by decide +kernel)) (fun _ h9 => h9) rfl dX10_followLine_1 ?_
  refine va_callv (va_runV (As := []) (rest := []) ⟨hx, hb, hml, hown, hts⟩ (c_X4_clear_23 l E M S) (cwV 0 hts gX10_followLine_X4_clear rfl rfl rfl (by decide +kernel) ⟨Nat.le_of_ble_eq_true rfl, Nat.le_of_ble_eq_true rfl⟩) (gP.V (ci := 4) (q := (RX4, TX4, 3)) (q0 := 34) hE hS hW rfl rfl) rfl rfl hl.1 rfl (lv_room (Nat.le_of_ble_eq_true rfl)) dX10_followLine_4 ⟨Nat.le_of_ble_eq_true rfl, Nat.le_of_ble_eq_true rfl⟩) hS (fun _ _ h => h) (fun _ h => h) (fun S4 t H locs ht hvm hw hB hz1 hk1 hS => ?_)
  have eS4 : S4 = q_X4_clear_23 S := hw
  clear hw
  have hW : gW E M S4 H := by rw [← ht]; exact hB
  have hpS4 : S4.2.2 = S.2.2 := by rw [eS4]; exact (qp_X4_clear_23 _)
  refine lv_aload_n hx hb dX10_followLine_7 rfl (lv_at hl 0 rfl) ?_
  refine va_get (D := eD E) (cl := vwCl) (tys := eT E) (ci := 9) (C := RX10) (T := TX10) (N := 12) (v := .ref (eC E 24)) hx hb hts hinX10 hown hE.1 hW.1 11 rfl rfl 9 (by decide) (hts (.fieldLink RX10 67 "DialGarden" "firstNumbers" "LDialGarden$Range;") (by decide +kernel)) (fun _ h9 => h9) rfl dX10_followLine_8 ?_
  refine va_callv (va_runV (As := []) (rest := []) ⟨hx, hb, hml, hown, hts⟩ (c_X4_clear_24 l E M S4) (cwV 0 hts gX10_followLine_X4_clear rfl rfl rfl (by decide +kernel) ⟨Nat.le_of_ble_eq_true rfl, Nat.le_of_ble_eq_true rfl⟩) (gP.V (ci := 4) (q := (RX4, TX4, 3)) (q0 := 35) hE hS hW rfl rfl) rfl rfl hl.1 rfl (lv_room (Nat.le_of_ble_eq_true rfl)) dX10_followLine_11 ⟨Nat.le_of_ble_eq_true rfl, Nat.le_of_ble_eq_true rfl⟩) hS (fun _ _ h => h) (fun _ h => h) (fun S11 t H locs ht hvm hw hB hz1 hk1 hS => ?_)
  have eS11 : S11 = q_X4_clear_24 S4 := hw
  clear hw
  have hW : gW E M S11 H := by rw [← ht]; exact hB
  have hpS11 : S11.2.2 = S4.2.2 := by rw [eS11]; exact (qp_X4_clear_24 _)
  refine lv_aload_n hx hb dX10_followLine_14 rfl (lv_at hl 0 rfl) ?_
  refine va_get (D := eD E) (cl := vwCl) (tys := eT E) (ci := 9) (C := RX10) (T := TX10) (N := 12) (v := .ref (eC E 25)) hx hb hts hinX10 hown hE.1 hW.1 11 rfl rfl 10 (by decide) (hts (.fieldLink RX10 70 "DialGarden" "secondNumbers" "LDialGarden$Range;") (by decide +kernel)) (fun _ h9 => h9) rfl dX10_followLine_15 ?_
  refine va_callv (va_runV (As := []) (rest := []) ⟨hx, hb, hml, hown, hts⟩ (c_X4_clear_25 l E M S11) (cwV 0 hts gX10_followLine_X4_clear rfl rfl rfl (by decide +kernel) ⟨Nat.le_of_ble_eq_true rfl, Nat.le_of_ble_eq_true rfl⟩) (gP.V (ci := 4) (q := (RX4, TX4, 3)) (q0 := 36) hE hS hW rfl rfl) rfl rfl hl.1 rfl (lv_room (Nat.le_of_ble_eq_true rfl)) dX10_followLine_18 ⟨Nat.le_of_ble_eq_true rfl, Nat.le_of_ble_eq_true rfl⟩) hS (fun _ _ h => h) (fun _ h => h) (fun S18 t H locs ht hvm hw hB hz1 hk1 hS => ?_)
  have eS18 : S18 = q_X4_clear_25 S11 := hw
  clear hw
  have hW : gW E M S18 H := by rw [← ht]; exact hB
  have hpS18 : S18.2.2 = S11.2.2 := by rw [eS18]; exact (qp_X4_clear_25 _)
  refine lv_aload_n hx hb dX10_followLine_21 rfl (lv_at hl 0 rfl) ?_
  refine va_get (D := eD E) (cl := vwCl) (tys := eT E) (ci := 9) (C := RX10) (T := TX10) (N := 12) (v := .ref (eC E 7)) hx hb hts hinX10 hown hE.1 hW.1 11 rfl rfl 3 (by decide) (hts (.fieldLink RX10 34 "DialGarden" "shade" "LDialGarden$Shade;") (by decide +kernel)) (fun _ h9 => h9) rfl dX10_followLine_22 ?_
  refine lv_aload_n hx hb dX10_followLine_25 rfl (lv_at hl 1 rfl) ?_
  refine lv_aload_n hx hb dX10_followLine_26 rfl (lv_at hl 0 rfl) ?_
  refine va_get (D := eD E) (cl := vwCl) (tys := eT E) (ci := 9) (C := RX10) (T := TX10) (N := 12) (v := .ref (eC E 3)) hx hb hts hinX10 hown hE.1 hW.1 11 rfl rfl 1 (by decide) (hts (.fieldLink RX10 18 "DialGarden" "things" "[LDialGarden$Thing;") (by decide +kernel)) (fun _ h9 => h9) rfl dX10_followLine_27 ?_
  refine va_callv (va_runV (As := [.ref (p1), .ref (eC E 3)]) (rest := []) ⟨hx, hb, hml, hown, hts⟩ (c_X6_setUp l E M S18 p1 (by rw [hpS18]; exact (by rw [hpS11]; exact (by rw [hpS4]; exact hL1))) (by rw [hpS18]; exact (by rw [hpS11]; exact (by rw [hpS4]; exact hk1))) (okR_of hT (by rw [eS18, eS11, eS4]; rfl))) (cwV 2 hts gX10_followLine_X6_setUp rfl rfl rfl (by decide +kernel) ⟨Nat.le_of_ble_eq_true rfl, Nat.le_of_ble_eq_true rfl⟩) (gP.V (ci := 6) (q := (RX6, TX6, 14)) (q0 := 18) hE hS hW rfl rfl) rfl rfl hl.1 rfl (lv_room (Nat.le_of_ble_eq_true rfl)) dX10_followLine_30 ⟨Nat.le_of_ble_eq_true rfl, Nat.le_of_ble_eq_true rfl⟩) hS (fun _ _ h => h) (fun _ h => h) (fun S30 t H locs ht hvm hw hB hz1 hk1 hS => ?_)
  have eS30 : S30 = q_X6_setUp S18 p1 := hw
  clear hw
  have hW : gW E M S30 H := by rw [← ht]; exact hB
  have hpS30 : S30.2.2 = S18.2.2 := by rw [eS30]; exact (qp_X6_setUp _ _)
  refine lv_iconst (v := 0) hx hb dX10_followLine_33 (by decide) ?_
  refine lv_istore_n (lv' := [(3, .int (0)), (0, .ref (eC E 0)), (1, .ref (p1)), (2, .int (p2))]) hx hb dX10_followLine_34 rfl hl (by decide) rfl (fun ls hl => ?_)
  exact L35 367 _ _ _ _ _ (by exact ⟨gL.i 366, by rw [eS30]; exact (su_kZ hT hH hkn0 hkn (by rw [eS18, eS11, eS4]; rfl) (by rw [eS18, eS11, eS4]; rfl))⟩) (by subst eS30; subst eS18; subst eS11; subst eS4; first | (simp only [q_X10_followLine]; done) | contradiction) hW hS (lv_sub hl [1, 3, 0] rfl)

def q_X10_line (S : gSc) (p1 : Int32) (p2 : Int32) (p3 : Int32) : Int32 × gSc := (let r1 := q_X10_isPlace p1; (if r1 = 0 then ((-2000000001), S) else (let r8 := q_X10_isHour p2; (if r8 = 0 then ((-2000000001), S) else (let r20 := q_X10_within (p3.toInt64) 0 6; (if r20 = 0 then ((-2000000001), S) else (match q_X10_dialAt S p1 0 with | none => ((-2000000002), S) | some a32 => (let S49 := q_X10_followLine S a32 p2; (if p3 = 0 then (S49.1 23 0, S49) else if p3 = 1 then (let r104 := q_X4_leastOrNone_23 S49; (r104, S49)) else if p3 = 2 then (let r112 := q_X4_greatestOrNone_23 S49; (r112, S49)) else if p3 = 3 then (let r120 := q_X4_leastOrNone_24 S49; (r120, S49)) else if p3 = 4 then (let r128 := q_X4_greatestOrNone_24 S49; (r128, S49)) else if p3 = 5 then (let r136 := q_X4_leastOrNone_25 S49; (r136, S49)) else (let r144 := q_X4_greatestOrNone_25 S49; (r144, S49)))))))))))
set_option maxHeartbeats 4000000 in
set_option maxRecDepth 100000 in
theorem c_X10_line (l : Launch) (E : gEE) (M : gSm) (S : gSc) (p1 : Int32) (p2 : Int32) (p3 : Int32) (hT : okR S 3 40) (hH : okH S) (hkn0 : 0 ≤ (S.1 1 1).toInt) (hkn : (S.1 1 1).toInt ≤ 366) : Met l yX10_line wsX10_line ({ frames := 6, cells := 0, slots := 0, locals := 137 }) (va_Pc [.ref (eC E 0), .int (p1), .int (p2), .int (p3)] (gP E M S)) (va_Qi (fun r (u : gSc) => (r, u) = q_X10_line S p1 p2 p3) (fun u t => gW E M u t.heap) (eA E)) 0 0 (eA E) := by
  refine Met.ofW (cc := cX10_line) (maxL := 5) (ret := (some .int)) (by decide) rfl ?_
  intro p e s m args below meth c s₁ B hml hv
  obtain ⟨rfl, hE, hW⟩ := hv
  have hx := B.exec
  have hb := B.bytes
  have hr := B.returns
  have hts := atoms_spec (ws := wsX10_line) B.pre
  have hown : s.vm.findClass RX10 = some m.cls := findClass_of_methodNamed B.named
  have hlocks := B.notSynchronized
  have hinX10 : ∀ w ∈ wsX100, w ∈ wsX10_line := by decide +kernel
  have hinX4 : ∀ w ∈ wsX40, w ∈ wsX10_line := by decide +kernel
  have hS : va_S (eA E) s.heap s.heap [] := va_S.rf
  have hl := lv_entry ([.ref (eC E 0), .int (p1), .int (p2), .int (p3)]) (n := 5) (Nat.le_of_ble_eq_true rfl)
  rw [lg_entry_eq]
  generalize (lg_sl ([.ref (eC E 0), .int (p1), .int (p2), .int (p3)]) ++ List.replicate (5 - (lg_sl ([.ref (eC E 0), .int (p1), .int (p2), .int (p3)])).length) Slot.unset).toArray = ls at hl ⊢
  have hl : lv_has ls 5 [(0, .ref (eC E 0)), (1, .int (p1)), (2, .int (p2)), (3, .int (p3))] := hl
  have hS : ∃ (H : Heap) (locs : List Loc), H = s.heap ∧ locs = [] ∧ gW E M S H ∧ va_S (eA E) s.heap H locs := ⟨_, _, rfl, rfl, hW, hS⟩
  clear hW
  obtain ⟨H, locs, eH, el, hW, hS⟩ := hS
  rw [← eH, ← el]
  clear eH el
  refine lv_iload_n hx hb dX10_line_0 rfl (lv_at hl 1 rfl) ?_
  refine k_Si (va_runS (As := [.int (p1)]) (rest := []) ⟨hx, hb, hml, hown, hts⟩ (c_X10_isPlace l p1) (va_cwS 1 hts gX10_line_X10_isPlace rfl rfl rfl (by decide +kernel) ⟨Nat.le_of_ble_eq_true rfl, Nat.le_of_ble_eq_true rfl⟩) gP0 rfl rfl hl.1 rfl (lv_room (Nat.le_of_ble_eq_true rfl)) dX10_line_1 ⟨Nat.le_of_ble_eq_true rfl, Nat.le_of_ble_eq_true rfl⟩) (fun r1 er1 => ?_)
  refine lv_if_eq (tgt := 26) hx hb dX10_line_4 (by decide) (fun c4 => ?_) (fun c4 => ?_)
  · refine lv_ldc hx hb (v := (-2000000001)) hown (hts (.constant RX10 88 (-2000000001)) (by decide +kernel)) dX10_line_26 ?_
    exact W.iret (v := (-2000000001)) hx hb hr (fun t ht _ => ⟨⟨(-2000000001), S, rfl, by subst er1; first | (simp only [q_X10_line, if_pos c4]; done) | contradiction, by dsimp only; rw [ht]; exact hW⟩, hS.F ht⟩) hS.2.2 dX10_line_28
  · refine lv_iload_n hx hb dX10_line_7 rfl (lv_at hl 2 rfl) ?_
    refine k_Si (va_runS (As := [.int (p2)]) (rest := []) ⟨hx, hb, hml, hown, hts⟩ (c_X10_isHour l p2) (va_cwS 1 hts gX10_line_X10_isHour rfl rfl rfl (by decide +kernel) ⟨Nat.le_of_ble_eq_true rfl, Nat.le_of_ble_eq_true rfl⟩) gP0 rfl rfl hl.1 rfl (lv_room (Nat.le_of_ble_eq_true rfl)) dX10_line_8 ⟨Nat.le_of_ble_eq_true rfl, Nat.le_of_ble_eq_true rfl⟩) (fun r8 er8 => ?_)
    refine lv_if_eq (tgt := 26) hx hb dX10_line_11 (by decide) (fun c11 => ?_) (fun c11 => ?_)
    · refine lv_ldc hx hb (v := (-2000000001)) hown (hts (.constant RX10 88 (-2000000001)) (by decide +kernel)) dX10_line_26 ?_
      exact W.iret (v := (-2000000001)) hx hb hr (fun t ht _ => ⟨⟨(-2000000001), S, rfl, by subst er8; subst er1; first | (simp only [q_X10_line, if_neg c4, if_pos c11]; done) | contradiction, by dsimp only; rw [ht]; exact hW⟩, hS.F ht⟩) hS.2.2 dX10_line_28
    · refine lv_iload_n hx hb dX10_line_14 rfl (lv_at hl 3 rfl) ?_
      refine lv_i2l (v := p3.toInt64) hx hb dX10_line_15 rfl ?_
      refine lv_lconst (v := 0) hx hb dX10_line_16 (by decide) ?_
      refine lv_ldc2 hx hb (v := 6) hown (hts (.constantLong RX10 244 (6)) (by decide +kernel)) dX10_line_17 ?_
      refine k_Si (va_runS (As := [.long (p3.toInt64), .long (0), .long (6)]) (rest := []) ⟨hx, hb, hml, hown, hts⟩ (c_X10_within l (p3.toInt64) 0 6) (va_cwS 3 hts gX10_line_X10_within rfl rfl rfl (by decide +kernel) ⟨Nat.le_of_ble_eq_true rfl, Nat.le_of_ble_eq_true rfl⟩) gP0 rfl rfl hl.1 rfl (lv_room (Nat.le_of_ble_eq_true rfl)) dX10_line_20 ⟨Nat.le_of_ble_eq_true rfl, Nat.le_of_ble_eq_true rfl⟩) (fun r20 er20 => ?_)
      refine lv_if_ne (tgt := 29) hx hb dX10_line_23 (by decide) (fun c23 => ?_) (fun c23 => ?_)
      · refine lv_aload_n hx hb dX10_line_29 rfl (lv_at hl 0 rfl) ?_
        refine lv_iload_n hx hb dX10_line_30 rfl (lv_at hl 1 rfl) ?_
        refine lv_iconst (v := 0) hx hb dX10_line_31 (by decide) ?_
        refine k_Sq (va_runV (As := [.int (p1), .int (0)]) (rest := []) ⟨hx, hb, hml, hown, hts⟩ (c_X10_dialAt l E M S p1 0 hT) (cwV 2 hts gX10_line_X10_dialAt rfl rfl rfl (by decide +kernel) ⟨Nat.le_of_ble_eq_true rfl, Nat.le_of_ble_eq_true rfl⟩) (gP.V (ci := 9) (q := (RX10, TX10, 12)) (q0 := 11) hE hS hW rfl rfl) rfl rfl hl.1 rfl (lv_room (Nat.le_of_ble_eq_true rfl)) dX10_line_32 ⟨Nat.le_of_ble_eq_true rfl, Nat.le_of_ble_eq_true rfl⟩) (fun r32 er32 => ?_)
        rcases r32 with _ | a32
        · refine lv_astoreN (lv' := [(4, .null), (0, .ref (eC E 0)), (1, .int (p1)), (2, .int (p2)), (3, .int (p3))]) hx hb dX10_line_35 hl (by decide) rfl (fun ls hl => ?_)
          refine lv_aloadN hx hb dX10_line_37 (lv_at hl 0 rfl) ?_
          refine lv_ifnonnullN hx hb dX10_line_39 ?_
          refine lv_ldc hx hb (v := (-2000000002)) hown (hts (.constant RX10 178 (-2000000002)) (by decide +kernel)) dX10_line_42 ?_
          exact W.iret (v := (-2000000002)) hx hb hr (fun t ht _ => ⟨⟨(-2000000002), S, rfl, by subst er20; subst er8; subst er1; first | (simp only [q_X10_line, if_neg c4, if_neg c11, if_neg c23, ← er32]; done) | contradiction, by dsimp only; rw [ht]; exact hW⟩, hS.F ht⟩) hS.2.2 dX10_line_44
        · have hL32 := (da_of hT er32).1
          have hK32 := (da_of hT er32).2
          refine lv_astore (lv' := [(4, .ref (a32)), (0, .ref (eC E 0)), (1, .int (p1)), (2, .int (p2)), (3, .int (p3))]) hx hb dX10_line_35 hl (by decide) rfl (fun ls hl => ?_)
          refine lv_aload hx hb dX10_line_37 (lv_at hl 0 rfl) ?_
          refine lv_ifnonnull (tgt := 45) hx hb dX10_line_39 (by decide) ?_
          refine lv_aload_n hx hb dX10_line_45 rfl (lv_at hl 1 rfl) ?_
          refine lv_aload hx hb dX10_line_46 (lv_at hl 0 rfl) ?_
          refine lv_iload_n hx hb dX10_line_48 rfl (lv_at hl 3 rfl) ?_
          refine va_callv (va_runV (As := [.ref (a32), .int (p2)]) (rest := []) ⟨hx, hb, hml, hown, hts⟩ (c_X10_followLine l E M S a32 p2 hL32 hK32 hT hH hkn0 hkn) (cwV 2 hts gX10_line_X10_followLine rfl rfl rfl (by decide +kernel) ⟨Nat.le_of_ble_eq_true rfl, Nat.le_of_ble_eq_true rfl⟩) (gP.V (ci := 9) (q := (RX10, TX10, 12)) (q0 := 11) hE hS hW rfl rfl) rfl rfl hl.1 rfl (lv_room (Nat.le_of_ble_eq_true rfl)) dX10_line_49 ⟨Nat.le_of_ble_eq_true rfl, Nat.le_of_ble_eq_true rfl⟩) hS (fun _ _ h => h) (fun _ h => h) (fun S49 t H locs ht hvm hw hB hz1 hk1 hS => ?_)
          have eS49 : S49 = q_X10_followLine S a32 p2 := hw
          clear hw
          have hW : gW E M S49 H := by rw [← ht]; exact hB
          refine lv_iload_n hx hb dX10_line_52 rfl (lv_at hl 4 rfl) ?_
          by_cases c53_0 : p3 = 0
          · refine lv_tableIn (tgt := 92) (off := 39) hx hb dX10_line_53 (by rw [c53_0]; decide) (by rw [c53_0]; decide) (by rw [c53_0]; rfl) (by decide) ?_
            refine lv_aload_n hx hb dX10_line_92 rfl (lv_at hl 1 rfl) ?_
            refine va_get (D := eD E) (cl := vwCl) (tys := eT E) (ci := 9) (C := RX10) (T := TX10) (N := 12) (v := .ref (eC E 23)) hx hb hts hinX10 hown hE.1 hW.1 11 rfl rfl 8 (by decide) (hts (.fieldLink RX10 63 "DialGarden" "daysOfLine" "LDialGarden$Range;") (by decide +kernel)) (fun _ h9 => h9) rfl dX10_line_93 ?_
            refine va_getN (D := eD E) (cl := vwCl) (tys := eT E) (ci := 4) (C := RX4) (T := TX4) (N := 3) (v := .int (S49.1 23 0)) hx hb hts hinX4 hown hE.1 hW.1 34 rfl rfl 0 (by decide) (va_Nw.use rfl (hE.2.2.1 (.fieldLinkNest "DialGarden" 250 "DialGarden$Range" "size" "I" "DialGarden") (by decide +kernel))) (fun _ h9 => h9) rfl dX10_line_96 ?_
            exact W.iret (v := S49.1 23 0) hx hb hr (fun t ht _ => ⟨⟨S49.1 23 0, S49, rfl, by subst eS49; subst er20; subst er8; subst er1; first | (simp only [q_X10_line, if_neg c4, if_neg c11, if_neg c23, if_pos c53_0, ← er32]; done) | contradiction, by dsimp only; rw [ht]; exact hW⟩, hS.F ht⟩) hS.2.2 dX10_line_99
          by_cases c53_1 : p3 = 1
          · refine lv_tableIn (tgt := 100) (off := 47) hx hb dX10_line_53 (by rw [c53_1]; decide) (by rw [c53_1]; decide) (by rw [c53_1]; rfl) (by decide) ?_
            refine lv_aload_n hx hb dX10_line_100 rfl (lv_at hl 1 rfl) ?_
            refine va_get (D := eD E) (cl := vwCl) (tys := eT E) (ci := 9) (C := RX10) (T := TX10) (N := 12) (v := .ref (eC E 23)) hx hb hts hinX10 hown hE.1 hW.1 11 rfl rfl 8 (by decide) (hts (.fieldLink RX10 63 "DialGarden" "daysOfLine" "LDialGarden$Range;") (by decide +kernel)) (fun _ h9 => h9) rfl dX10_line_101 ?_
            refine k_Si (va_runV (As := []) (rest := []) ⟨hx, hb, hml, hown, hts⟩ (c_X4_leastOrNone_23 l E M S49) (cwV 0 hts gX10_line_X4_leastOrNone rfl rfl rfl (by decide +kernel) ⟨Nat.le_of_ble_eq_true rfl, Nat.le_of_ble_eq_true rfl⟩) (gP.V (ci := 4) (q := (RX4, TX4, 3)) (q0 := 34) hE hS hW rfl rfl) rfl rfl hl.1 rfl (lv_room (Nat.le_of_ble_eq_true rfl)) dX10_line_104 ⟨Nat.le_of_ble_eq_true rfl, Nat.le_of_ble_eq_true rfl⟩) (fun r104 er104 => ?_)
            exact W.iret (v := r104) hx hb hr (fun t ht _ => ⟨⟨r104, S49, rfl, by subst er104; subst eS49; subst er20; subst er8; subst er1; first | (simp only [q_X10_line, if_neg c4, if_neg c11, if_neg c23, if_neg c53_0, if_pos c53_1, ← er32]; done) | contradiction, by dsimp only; rw [ht]; exact hW⟩, hS.F ht⟩) hS.2.2 dX10_line_107
          by_cases c53_2 : p3 = 2
          · refine lv_tableIn (tgt := 108) (off := 55) hx hb dX10_line_53 (by rw [c53_2]; decide) (by rw [c53_2]; decide) (by rw [c53_2]; rfl) (by decide) ?_
            refine lv_aload_n hx hb dX10_line_108 rfl (lv_at hl 1 rfl) ?_
            refine va_get (D := eD E) (cl := vwCl) (tys := eT E) (ci := 9) (C := RX10) (T := TX10) (N := 12) (v := .ref (eC E 23)) hx hb hts hinX10 hown hE.1 hW.1 11 rfl rfl 8 (by decide) (hts (.fieldLink RX10 63 "DialGarden" "daysOfLine" "LDialGarden$Range;") (by decide +kernel)) (fun _ h9 => h9) rfl dX10_line_109 ?_
            refine k_Si (va_runV (As := []) (rest := []) ⟨hx, hb, hml, hown, hts⟩ (c_X4_greatestOrNone_23 l E M S49) (cwV 0 hts gX10_line_X4_greatestOrNone rfl rfl rfl (by decide +kernel) ⟨Nat.le_of_ble_eq_true rfl, Nat.le_of_ble_eq_true rfl⟩) (gP.V (ci := 4) (q := (RX4, TX4, 3)) (q0 := 34) hE hS hW rfl rfl) rfl rfl hl.1 rfl (lv_room (Nat.le_of_ble_eq_true rfl)) dX10_line_112 ⟨Nat.le_of_ble_eq_true rfl, Nat.le_of_ble_eq_true rfl⟩) (fun r112 er112 => ?_)
            exact W.iret (v := r112) hx hb hr (fun t ht _ => ⟨⟨r112, S49, rfl, by subst er112; subst eS49; subst er20; subst er8; subst er1; first | (simp only [q_X10_line, if_neg c4, if_neg c11, if_neg c23, if_neg c53_0, if_neg c53_1, if_pos c53_2, ← er32]; done) | contradiction, by dsimp only; rw [ht]; exact hW⟩, hS.F ht⟩) hS.2.2 dX10_line_115
          by_cases c53_3 : p3 = 3
          · refine lv_tableIn (tgt := 116) (off := 63) hx hb dX10_line_53 (by rw [c53_3]; decide) (by rw [c53_3]; decide) (by rw [c53_3]; rfl) (by decide) ?_
            refine lv_aload_n hx hb dX10_line_116 rfl (lv_at hl 1 rfl) ?_
            refine va_get (D := eD E) (cl := vwCl) (tys := eT E) (ci := 9) (C := RX10) (T := TX10) (N := 12) (v := .ref (eC E 24)) hx hb hts hinX10 hown hE.1 hW.1 11 rfl rfl 9 (by decide) (hts (.fieldLink RX10 67 "DialGarden" "firstNumbers" "LDialGarden$Range;") (by decide +kernel)) (fun _ h9 => h9) rfl dX10_line_117 ?_
            refine k_Si (va_runV (As := []) (rest := []) ⟨hx, hb, hml, hown, hts⟩ (c_X4_leastOrNone_24 l E M S49) (cwV 0 hts gX10_line_X4_leastOrNone rfl rfl rfl (by decide +kernel) ⟨Nat.le_of_ble_eq_true rfl, Nat.le_of_ble_eq_true rfl⟩) (gP.V (ci := 4) (q := (RX4, TX4, 3)) (q0 := 35) hE hS hW rfl rfl) rfl rfl hl.1 rfl (lv_room (Nat.le_of_ble_eq_true rfl)) dX10_line_120 ⟨Nat.le_of_ble_eq_true rfl, Nat.le_of_ble_eq_true rfl⟩) (fun r120 er120 => ?_)
            exact W.iret (v := r120) hx hb hr (fun t ht _ => ⟨⟨r120, S49, rfl, by subst er120; subst eS49; subst er20; subst er8; subst er1; first | (simp only [q_X10_line, if_neg c4, if_neg c11, if_neg c23, if_neg c53_0, if_neg c53_1, if_neg c53_2, if_pos c53_3, ← er32]; done) | contradiction, by dsimp only; rw [ht]; exact hW⟩, hS.F ht⟩) hS.2.2 dX10_line_123
          by_cases c53_4 : p3 = 4
          · refine lv_tableIn (tgt := 124) (off := 71) hx hb dX10_line_53 (by rw [c53_4]; decide) (by rw [c53_4]; decide) (by rw [c53_4]; rfl) (by decide) ?_
            refine lv_aload_n hx hb dX10_line_124 rfl (lv_at hl 1 rfl) ?_
            refine va_get (D := eD E) (cl := vwCl) (tys := eT E) (ci := 9) (C := RX10) (T := TX10) (N := 12) (v := .ref (eC E 24)) hx hb hts hinX10 hown hE.1 hW.1 11 rfl rfl 9 (by decide) (hts (.fieldLink RX10 67 "DialGarden" "firstNumbers" "LDialGarden$Range;") (by decide +kernel)) (fun _ h9 => h9) rfl dX10_line_125 ?_
            refine k_Si (va_runV (As := []) (rest := []) ⟨hx, hb, hml, hown, hts⟩ (c_X4_greatestOrNone_24 l E M S49) (cwV 0 hts gX10_line_X4_greatestOrNone rfl rfl rfl (by decide +kernel) ⟨Nat.le_of_ble_eq_true rfl, Nat.le_of_ble_eq_true rfl⟩) (gP.V (ci := 4) (q := (RX4, TX4, 3)) (q0 := 35) hE hS hW rfl rfl) rfl rfl hl.1 rfl (lv_room (Nat.le_of_ble_eq_true rfl)) dX10_line_128 ⟨Nat.le_of_ble_eq_true rfl, Nat.le_of_ble_eq_true rfl⟩) (fun r128 er128 => ?_)
            exact W.iret (v := r128) hx hb hr (fun t ht _ => ⟨⟨r128, S49, rfl, by subst er128; subst eS49; subst er20; subst er8; subst er1; first | (simp only [q_X10_line, if_neg c4, if_neg c11, if_neg c23, if_neg c53_0, if_neg c53_1, if_neg c53_2, if_neg c53_3, if_pos c53_4, ← er32]; done) | contradiction, by dsimp only; rw [ht]; exact hW⟩, hS.F ht⟩) hS.2.2 dX10_line_131
          by_cases c53_5 : p3 = 5
          · refine lv_tableIn (tgt := 132) (off := 79) hx hb dX10_line_53 (by rw [c53_5]; decide) (by rw [c53_5]; decide) (by rw [c53_5]; rfl) (by decide) ?_
            refine lv_aload_n hx hb dX10_line_132 rfl (lv_at hl 1 rfl) ?_
            refine va_get (D := eD E) (cl := vwCl) (tys := eT E) (ci := 9) (C := RX10) (T := TX10) (N := 12) (v := .ref (eC E 25)) hx hb hts hinX10 hown hE.1 hW.1 11 rfl rfl 10 (by decide) (hts (.fieldLink RX10 70 "DialGarden" "secondNumbers" "LDialGarden$Range;") (by decide +kernel)) (fun _ h9 => h9) rfl dX10_line_133 ?_
            refine k_Si (va_runV (As := []) (rest := []) ⟨hx, hb, hml, hown, hts⟩ (c_X4_leastOrNone_25 l E M S49) (cwV 0 hts gX10_line_X4_leastOrNone rfl rfl rfl (by decide +kernel) ⟨Nat.le_of_ble_eq_true rfl, Nat.le_of_ble_eq_true rfl⟩) (gP.V (ci := 4) (q := (RX4, TX4, 3)) (q0 := 36) hE hS hW rfl rfl) rfl rfl hl.1 rfl (lv_room (Nat.le_of_ble_eq_true rfl)) dX10_line_136 ⟨Nat.le_of_ble_eq_true rfl, Nat.le_of_ble_eq_true rfl⟩) (fun r136 er136 => ?_)
            exact W.iret (v := r136) hx hb hr (fun t ht _ => ⟨⟨r136, S49, rfl, by subst er136; subst eS49; subst er20; subst er8; subst er1; first | (simp only [q_X10_line, if_neg c4, if_neg c11, if_neg c23, if_neg c53_0, if_neg c53_1, if_neg c53_2, if_neg c53_3, if_neg c53_4, if_pos c53_5, ← er32]; done) | contradiction, by dsimp only; rw [ht]; exact hW⟩, hS.F ht⟩) hS.2.2 dX10_line_139
          refine lv_tableOut (tgt := 140) hx hb dX10_line_53 (sw_out5 c53_0 c53_1 c53_2 c53_3 c53_4 c53_5) (by decide) ?_
          refine lv_aload_n hx hb dX10_line_140 rfl (lv_at hl 1 rfl) ?_
          refine va_get (D := eD E) (cl := vwCl) (tys := eT E) (ci := 9) (C := RX10) (T := TX10) (N := 12) (v := .ref (eC E 25)) hx hb hts hinX10 hown hE.1 hW.1 11 rfl rfl 10 (by decide) (hts (.fieldLink RX10 70 "DialGarden" "secondNumbers" "LDialGarden$Range;") (by decide +kernel)) (fun _ h9 => h9) rfl dX10_line_141 ?_
          refine k_Si (va_runV (As := []) (rest := []) ⟨hx, hb, hml, hown, hts⟩ (c_X4_greatestOrNone_25 l E M S49) (cwV 0 hts gX10_line_X4_greatestOrNone rfl rfl rfl (by decide +kernel) ⟨Nat.le_of_ble_eq_true rfl, Nat.le_of_ble_eq_true rfl⟩) (gP.V (ci := 4) (q := (RX4, TX4, 3)) (q0 := 36) hE hS hW rfl rfl) rfl rfl hl.1 rfl (lv_room (Nat.le_of_ble_eq_true rfl)) dX10_line_144 ⟨Nat.le_of_ble_eq_true rfl, Nat.le_of_ble_eq_true rfl⟩) (fun r144 er144 => ?_)
          exact W.iret (v := r144) hx hb hr (fun t ht _ => ⟨⟨r144, S49, rfl, by subst er144; subst eS49; subst er20; subst er8; subst er1; first | (simp only [q_X10_line, if_neg c4, if_neg c11, if_neg c23, if_neg c53_0, if_neg c53_1, if_neg c53_2, if_neg c53_3, if_neg c53_4, if_neg c53_5, ← er32]; done) | contradiction, by dsimp only; rw [ht]; exact hW⟩, hS.F ht⟩) hS.2.2 dX10_line_147
      · refine lv_ldc hx hb (v := (-2000000001)) hown (hts (.constant RX10 88 (-2000000001)) (by decide +kernel)) dX10_line_26 ?_
        exact W.iret (v := (-2000000001)) hx hb hr (fun t ht _ => ⟨⟨(-2000000001), S, rfl, by subst er20; subst er8; subst er1; first | (simp only [q_X10_line, if_neg c4, if_neg c11, if_pos c23]; done) | contradiction, by dsimp only; rw [ht]; exact hW⟩, hS.F ht⟩) hS.2.2 dX10_line_28

def q_X10_followStretches_b36 (S : gSc) (p1 : Nat) (p2 : Int32) (p3 : Int32) : Nat → Int32 → Int32 → Int32 → gSc → Int32 × gSc
  | 0, v4, v5, v6, Z => (0, Z)
  | n + 1, v4, v5, v6, Z => (if 1440 ≤ v6 then (v4, Z) else (let S50 := q_X8_setMinute Z v6; (let r57 := (q_X6_cast S50).1; let S57 := (q_X6_cast S50).2; (if r57 = 0 then (if v5 = 0 then (let x80 := v4 + 1; (if (x80 - 1) = p3 then (let S102 := q_X4_add_26 S57 v6; (let x109 := v6 + 1; q_X10_followStretches_b36 S p1 p2 p3 n x80 1 x109 S102)) else (let x109 := v6 + 1; q_X10_followStretches_b36 S p1 p2 p3 n x80 1 x109 S57))) else (if (v4 - 1) = p3 then (let S102 := q_X4_add_26 S57 v6; (let x109 := v6 + 1; q_X10_followStretches_b36 S p1 p2 p3 n v4 1 x109 S102)) else (let x109 := v6 + 1; q_X10_followStretches_b36 S p1 p2 p3 n v4 1 x109 S57))) else (let x109 := v6 + 1; q_X10_followStretches_b36 S p1 p2 p3 n v4 0 x109 S57)))))
def q_X10_followStretches (S : gSc) (p1 : Nat) (p2 : Int32) (p3 : Int32) : Int32 × gSc := (let S4 := q_X4_clear_26 S; (let S16 := q_X6_setUp S4 p1; (let S24 := q_X8_setDay S16 p2; q_X10_followStretches_b36 S p1 p2 p3 1441 0 0 0 S24)))
set_option maxHeartbeats 4000000 in
set_option maxRecDepth 100000 in
theorem c_X10_followStretches (l : Launch) (E : gEE) (M : gSm) (S : gSc) (p1 : Nat) (p2 : Int32) (p3 : Int32) (hL1 : p1 ∈ S.2.2.1) (hk1 : S.2.2.2.1 p1 = 1) (hT : okR S 3 40) (hH : okH S) (hkn0 : 0 ≤ (S.1 1 1).toInt) (hkn : (S.1 1 1).toInt ≤ 366) : Met l yX10_followStretches wsX10_followStretches ({ frames := 5, cells := 0, slots := 0, locals := 114 }) (va_Pc [.ref (eC E 0), .ref (p1), .int (p2), .int (p3)] (gP E M S)) (va_Qi (fun r (u : gSc) => (r, u) = q_X10_followStretches S p1 p2 p3) (fun u t => gW E M u t.heap) (eA E)) 0 0 (eA E) := by
  refine Met.ofW (cc := cX10_followStretches) (maxL := 8) (ret := (some .int)) (by decide) rfl ?_
  intro p e s m args below meth c s₁ B hml hv
  obtain ⟨rfl, hE, hW⟩ := hv
  have hx := B.exec
  have hb := B.bytes
  have hr := B.returns
  have hts := atoms_spec (ws := wsX10_followStretches) B.pre
  have hown : s.vm.findClass RX10 = some m.cls := findClass_of_methodNamed B.named
  have hlocks := B.notSynchronized
  have hinX10 : ∀ w ∈ wsX100, w ∈ wsX10_followStretches := by decide +kernel
  have hS : va_S (eA E) s.heap s.heap [] := va_S.rf
  have hl := lv_entry ([.ref (eC E 0), .ref (p1), .int (p2), .int (p3)]) (n := 8) (Nat.le_of_ble_eq_true rfl)
  rw [lg_entry_eq]
  generalize (lg_sl ([.ref (eC E 0), .ref (p1), .int (p2), .int (p3)]) ++ List.replicate (8 - (lg_sl ([.ref (eC E 0), .ref (p1), .int (p2), .int (p3)])).length) Slot.unset).toArray = ls at hl ⊢
  have hl : lv_has ls 8 [(0, .ref (eC E 0)), (1, .ref (p1)), (2, .int (p2)), (3, .int (p3))] := hl
  have hS : ∃ (H : Heap) (locs : List Loc), H = s.heap ∧ locs = [] ∧ gW E M S H ∧ va_S (eA E) s.heap H locs := ⟨_, _, rfl, rfl, hW, hS⟩
  clear hW
  obtain ⟨H, locs, eH, el, hW, hS⟩ := hS
  rw [← eH, ← el]
  clear eH el
  have L36 : ∀ n : Nat, ∀ (v4 : Int32) (v5 : Int32) (v6 : Int32) (Z : gSc) (H : Heap) (locs : List Loc) (ls : Array Slot), (gL 1440 n v6 ∧ kZ S Z) → q_X10_followStretches S p1 p2 p3 = q_X10_followStretches_b36 S p1 p2 p3 n v4 v5 v6 Z → gW E M Z H → va_S (eA E) s.heap H locs → lv_has ls 8 [(0, .ref (eC E 0)), (3, .int (p3)), (4, .int (v4)), (5, .int (v5)), (6, .int (v6))] → W p l e (headSpec wsX10_followStretches ({ frames := 5, cells := 0, slots := 0, locals := 114 })).room s m ([.ref (eC E 0), .ref (p1), .int (p2), .int (p3)] : List Value).toArray below meth c H locs 0 0 (MQ below (va_Qi (fun r (u : gSc) => (r, u) = q_X10_followStretches S p1 p2 p3) (fun u t => gW E M u t.heap) (eA E)) ([.ref (eC E 0), .ref (p1), .int (p2), .int (p3)] : List Value).toArray s 0 0 (eA E)) (F0 m 36 ls []) := by
    intro n
    induction n with
    | zero =>
      intro v4 v5 v6 Z H locs ls hi hq hW hS hl
      exact hi.1.z
    | succ n ih =>
      intro v4 v5 v6 Z H locs ls hi hq hW hS hl
      refine lv_iload hx hb dX10_followStretches_36 (lv_at hl 4 rfl) ?_
      refine lv_sipush (v := 1440) hx hb dX10_followStretches_38 (by decide) ?_
      refine lv_icmp_ge (tgt := 115) hx hb dX10_followStretches_41 (by decide) (fun c41 => ?_) (fun c41 => ?_)
      · refine lv_iload hx hb dX10_followStretches_115 (lv_at hl 2 rfl) ?_
        exact W.iret (v := v4) hx hb hr (fun t ht _ => ⟨⟨v4, Z, rfl, by rw [hq]; first | (simp only [q_X10_followStretches_b36, if_pos c41]; done) | contradiction, by dsimp only; rw [ht]; exact hW⟩, hS.F ht⟩) hS.2.2 dX10_followStretches_117
      · refine lv_aload_n hx hb dX10_followStretches_44 rfl (lv_at hl 0 rfl) ?_
        refine va_get (D := eD E) (cl := vwCl) (tys := eT E) (ci := 9) (C := RX10) (T := TX10) (N := 12) (v := .ref (eC E 1)) hx hb hts hinX10 hown hE.1 hW.1 11 rfl rfl 0 (by decide) (hts (.fieldLink RX10 10 "DialGarden" "sky" "LDialGarden$Sky;") (by decide +kernel)) (fun _ h9 => h9) rfl dX10_followStretches_45 ?_
        refine lv_iload hx hb dX10_followStretches_48 (lv_at hl 4 rfl) ?_
        refine va_callv (va_runV (As := [.int (v6)]) (rest := []) ⟨hx, hb, hml, hown, hts⟩ (c_X8_setMinute l E M Z v6) (cwV 1 hts gX10_followStretches_X8_setMinute rfl rfl rfl (by decide +kernel) ⟨Nat.le_of_ble_eq_true rfl, Nat.le_of_ble_eq_true rfl⟩) (gP.V (ci := 8) (q := (RX8, TX8, 16)) (q0 := 12) hE hS hW rfl rfl) rfl rfl hl.1 rfl (lv_room (Nat.le_of_ble_eq_true rfl)) dX10_followStretches_50 ⟨Nat.le_of_ble_eq_true rfl, Nat.le_of_ble_eq_true rfl⟩) hS (fun _ _ h => h) (fun _ h => h) (fun S50 t H locs ht hvm hw hB hz1 hk1 hS => ?_)
        have eS50 : S50 = q_X8_setMinute Z v6 := hw
        clear hw
        have hW : gW E M S50 H := by rw [← ht]; exact hB
        have hpS50 : S50.2.2 = Z.2.2 := by rw [eS50]; exact (qp_X8_setMinute _ _)
        refine lv_aload_n hx hb dX10_followStretches_53 rfl (lv_at hl 0 rfl) ?_
        refine va_get (D := eD E) (cl := vwCl) (tys := eT E) (ci := 9) (C := RX10) (T := TX10) (N := 12) (v := .ref (eC E 7)) hx hb hts hinX10 hown hE.1 hW.1 11 rfl rfl 3 (by decide) (hts (.fieldLink RX10 34 "DialGarden" "shade" "LDialGarden$Shade;") (by decide +kernel)) (fun _ h9 => h9) rfl dX10_followStretches_54 ?_
        refine va_calli (va_runV (As := []) (rest := []) ⟨hx, hb, hml, hown, hts⟩ (c_X6_cast l E M S50 (by rw [eS50]; exact (hi.2.st (kw_setMinute _ _)).1.1) (by rw [eS50]; exact (hi.2.st (kw_setMinute _ _)).1.2.1) (by rw [eS50]; exact (hi.2.st (kw_setMinute _ _)).1.2.2)) (cwV 0 hts gX10_followStretches_X6_cast rfl rfl rfl (by decide +kernel) ⟨Nat.le_of_ble_eq_true rfl, Nat.le_of_ble_eq_true rfl⟩) (gP.V (ci := 6) (q := (RX6, TX6, 14)) (q0 := 18) hE hS hW rfl rfl) rfl rfl hl.1 rfl (lv_room (Nat.le_of_ble_eq_true rfl)) dX10_followStretches_57 ⟨Nat.le_of_ble_eq_true rfl, Nat.le_of_ble_eq_true rfl⟩) hS (fun _ _ h => h) (fun _ h => h) (fun r57 S57 t H locs ht hvm hw hB hz1 hk1 hS => ?_)
        obtain ⟨er57, eS57⟩ := prj hw
        clear hw
        have hW : gW E M S57 H := by rw [← ht]; exact hB
        have hpS57 : S57.2.2 = S50.2.2 := by rw [eS57]; exact (qp_X6_cast _)
        refine lv_if_ne (tgt := 67) hx hb dX10_followStretches_60 (by decide) (fun c60 => ?_) (fun c60 => ?_)
        · refine lv_iconst (v := 0) hx hb dX10_followStretches_67 (by decide) ?_
          refine lv_istore (lv' := [(7, .int (0)), (0, .ref (eC E 0)), (3, .int (p3)), (4, .int (v4)), (5, .int (v5)), (6, .int (v6))]) hx hb dX10_followStretches_68 hl (by decide) rfl (fun ls hl => ?_)
          refine lv_iload hx hb dX10_followStretches_70 (lv_at hl 0 rfl) ?_
          refine lv_if_eq (tgt := 83) hx hb dX10_followStretches_72 (by decide) (fun c72 => ?_) (fun c72 => ?_)
          · refine lv_iload hx hb dX10_followStretches_83 (lv_at hl 0 rfl) ?_
            refine lv_if_eq (tgt := 105) hx hb dX10_followStretches_85 (by decide) (fun c85 => ?_) (fun c85 => ?_)
            · refine lv_iload hx hb dX10_followStretches_105 (lv_at hl 0 rfl) ?_
              refine lv_istore (lv' := [(5, .int (0)), (7, .int (0)), (0, .ref (eC E 0)), (3, .int (p3)), (4, .int (v4)), (6, .int (v6))]) hx hb dX10_followStretches_107 hl (by decide) rfl (fun ls hl => ?_)
              obtain ⟨x109, ex109⟩ : ∃ y : Int32, y = v6 + 1 := ⟨_, rfl⟩
              refine lv_iinc (v := x109) (lv' := [(6, .int (x109)), (5, .int (0)), (7, .int (0)), (0, .ref (eC E 0)), (3, .int (p3)), (4, .int (v4))]) hx hb dX10_followStretches_109 hl (k := 5) rfl (by rw [ex109]; rfl) (by decide) rfl (fun ls hl => ?_)
              refine lv_goto (tgt := 36) hx hb dX10_followStretches_112 (by decide) ?_
              exact ih _ _ _ _ _ _ _ (by first | exact ⟨hi.1.st c41 (by decide) ex109, hi.2.st (by rw [eS57, eS50]; exact kw_tr (kw_cast _) (kw_setMinute _ _))⟩ | exact ⟨hi.1.st c41 (by decide) ex109, hi.2.st (by rw [eS102, eS57, eS50]; exact kw_tr (kw_add26 _ _) (kw_tr (kw_cast _) (kw_setMinute _ _)))⟩) (by rw [hq]; subst ex109; subst eS57; subst er57; subst eS50; first | (simp only [q_X10_followStretches_b36, if_neg c41, if_neg c60]; done) | contradiction) hW hS (lv_sub hl [3, 4, 5, 1, 0] rfl)
            · exact absurd c85 (by decide)
          · exact absurd c72 (by decide)
        · refine lv_iconst (v := 1) hx hb dX10_followStretches_63 (by decide) ?_
          refine lv_goto (tgt := 68) hx hb dX10_followStretches_64 (by decide) ?_
          refine lv_istore (lv' := [(7, .int (1)), (0, .ref (eC E 0)), (3, .int (p3)), (4, .int (v4)), (5, .int (v5)), (6, .int (v6))]) hx hb dX10_followStretches_68 hl (by decide) rfl (fun ls hl => ?_)
          refine lv_iload hx hb dX10_followStretches_70 (lv_at hl 0 rfl) ?_
          refine lv_if_eq (tgt := 83) hx hb dX10_followStretches_72 (by decide) (fun c72 => ?_) (fun c72 => ?_)
          · exact absurd c72 (by decide)
          · refine lv_iload hx hb dX10_followStretches_75 (lv_at hl 4 rfl) ?_
            refine lv_if_ne (tgt := 83) hx hb dX10_followStretches_77 (by decide) (fun c77 => ?_) (fun c77 => ?_)
            · refine lv_iload hx hb dX10_followStretches_83 (lv_at hl 0 rfl) ?_
              refine lv_if_eq (tgt := 105) hx hb dX10_followStretches_85 (by decide) (fun c85 => ?_) (fun c85 => ?_)
              · exact absurd c85 (by decide)
              · refine lv_iload hx hb dX10_followStretches_88 (lv_at hl 3 rfl) ?_
                refine lv_iconst (v := 1) hx hb dX10_followStretches_90 (by decide) ?_
                refine lv_isub hx hb dX10_followStretches_91 ?_
                refine lv_iload_n hx hb dX10_followStretches_92 rfl (lv_at hl 2 rfl) ?_
                refine lv_icmp_ne (tgt := 105) hx hb dX10_followStretches_93 (by decide) (fun c93 => ?_) (fun c93 => ?_)
                · refine lv_iload hx hb dX10_followStretches_105 (lv_at hl 0 rfl) ?_
                  refine lv_istore (lv' := [(5, .int (1)), (7, .int (1)), (0, .ref (eC E 0)), (3, .int (p3)), (4, .int (v4)), (6, .int (v6))]) hx hb dX10_followStretches_107 hl (by decide) rfl (fun ls hl => ?_)
                  obtain ⟨x109, ex109⟩ : ∃ y : Int32, y = v6 + 1 := ⟨_, rfl⟩
                  refine lv_iinc (v := x109) (lv' := [(6, .int (x109)), (5, .int (1)), (7, .int (1)), (0, .ref (eC E 0)), (3, .int (p3)), (4, .int (v4))]) hx hb dX10_followStretches_109 hl (k := 5) rfl (by rw [ex109]; rfl) (by decide) rfl (fun ls hl => ?_)
                  refine lv_goto (tgt := 36) hx hb dX10_followStretches_112 (by decide) ?_
                  exact ih _ _ _ _ _ _ _ (by first | exact ⟨hi.1.st c41 (by decide) ex109, hi.2.st (by rw [eS57, eS50]; exact kw_tr (kw_cast _) (kw_setMinute _ _))⟩ | exact ⟨hi.1.st c41 (by decide) ex109, hi.2.st (by rw [eS102, eS57, eS50]; exact kw_tr (kw_add26 _ _) (kw_tr (kw_cast _) (kw_setMinute _ _)))⟩) (by rw [hq]; subst ex109; subst eS57; subst er57; subst eS50; first | (simp only [q_X10_followStretches_b36, if_neg c41, if_pos c60, if_neg c77, if_neg c93]; done) | contradiction) hW hS (lv_sub hl [3, 4, 5, 1, 0] rfl)
                · refine lv_aload_n hx hb dX10_followStretches_96 rfl (lv_at hl 1 rfl) ?_
                  refine va_get (D := eD E) (cl := vwCl) (tys := eT E) (ci := 9) (C := RX10) (T := TX10) (N := 12) (v := .ref (eC E 26)) hx hb hts hinX10 hown hE.1 hW.1 11 rfl rfl 11 (by decide) (hts (.fieldLink RX10 73 "DialGarden" "minutesOfStretch" "LDialGarden$Range;") (by decide +kernel)) (fun _ h9 => h9) rfl dX10_followStretches_97 ?_
                  refine lv_iload hx hb dX10_followStretches_100 (lv_at hl 5 rfl) ?_
                  refine va_callv (va_runV (As := [.int (v6)]) (rest := []) ⟨hx, hb, hml, hown, hts⟩ (c_X4_add_26 l E M S57 v6) (cwV 1 hts gX10_followStretches_X4_add rfl rfl rfl (by decide +kernel) ⟨Nat.le_of_ble_eq_true rfl, Nat.le_of_ble_eq_true rfl⟩) (gP.V (ci := 4) (q := (RX4, TX4, 3)) (q0 := 37) hE hS hW rfl rfl) rfl rfl hl.1 rfl (lv_room (Nat.le_of_ble_eq_true rfl)) dX10_followStretches_102 ⟨Nat.le_of_ble_eq_true rfl, Nat.le_of_ble_eq_true rfl⟩) hS (fun _ _ h => h) (fun _ h => h) (fun S102 t H locs ht hvm hw hB hz1 hk1 hS => ?_)
                  have eS102 : S102 = q_X4_add_26 S57 v6 := hw
                  clear hw
                  have hW : gW E M S102 H := by rw [← ht]; exact hB
                  have hpS102 : S102.2.2 = S57.2.2 := by rw [eS102]; exact (qp_X4_add_26 _ _)
                  refine lv_iload hx hb dX10_followStretches_105 (lv_at hl 0 rfl) ?_
                  refine lv_istore (lv' := [(5, .int (1)), (7, .int (1)), (0, .ref (eC E 0)), (3, .int (p3)), (4, .int (v4)), (6, .int (v6))]) hx hb dX10_followStretches_107 hl (by decide) rfl (fun ls hl => ?_)
                  obtain ⟨x109, ex109⟩ : ∃ y : Int32, y = v6 + 1 := ⟨_, rfl⟩
                  refine lv_iinc (v := x109) (lv' := [(6, .int (x109)), (5, .int (1)), (7, .int (1)), (0, .ref (eC E 0)), (3, .int (p3)), (4, .int (v4))]) hx hb dX10_followStretches_109 hl (k := 5) rfl (by rw [ex109]; rfl) (by decide) rfl (fun ls hl => ?_)
                  refine lv_goto (tgt := 36) hx hb dX10_followStretches_112 (by decide) ?_
                  exact ih _ _ _ _ _ _ _ (by first | exact ⟨hi.1.st c41 (by decide) ex109, hi.2.st (by rw [eS57, eS50]; exact kw_tr (kw_cast _) (kw_setMinute _ _))⟩ | exact ⟨hi.1.st c41 (by decide) ex109, hi.2.st (by rw [eS102, eS57, eS50]; exact kw_tr (kw_add26 _ _) (kw_tr (kw_cast _) (kw_setMinute _ _)))⟩) (by rw [hq]; subst ex109; subst eS102; subst eS57; subst er57; subst eS50; first | (simp only [q_X10_followStretches_b36, if_neg c41, if_pos c60, if_neg c77, if_pos c93]; done) | contradiction) hW hS (lv_sub hl [3, 4, 5, 1, 0] rfl)
            · obtain ⟨x80, ex80⟩ : ∃ y : Int32, y = v4 + 1 := ⟨_, rfl⟩
              refine lv_iinc (v := x80) (lv' := [(4, .int (x80)), (7, .int (1)), (0, .ref (eC E 0)), (3, .int (p3)), (5, .int (v5)), (6, .int (v6))]) hx hb dX10_followStretches_80 hl (k := 3) rfl (by rw [ex80]; rfl) (by decide) rfl (fun ls hl => ?_)
              refine lv_iload hx hb dX10_followStretches_83 (lv_at hl 1 rfl) ?_
              refine lv_if_eq (tgt := 105) hx hb dX10_followStretches_85 (by decide) (fun c85 => ?_) (fun c85 => ?_)
              · exact absurd c85 (by decide)
              · refine lv_iload hx hb dX10_followStretches_88 (lv_at hl 0 rfl) ?_
                refine lv_iconst (v := 1) hx hb dX10_followStretches_90 (by decide) ?_
                refine lv_isub hx hb dX10_followStretches_91 ?_
                refine lv_iload_n hx hb dX10_followStretches_92 rfl (lv_at hl 3 rfl) ?_
                refine lv_icmp_ne (tgt := 105) hx hb dX10_followStretches_93 (by decide) (fun c93 => ?_) (fun c93 => ?_)
                · refine lv_iload hx hb dX10_followStretches_105 (lv_at hl 1 rfl) ?_
                  refine lv_istore (lv' := [(5, .int (1)), (4, .int (x80)), (7, .int (1)), (0, .ref (eC E 0)), (3, .int (p3)), (6, .int (v6))]) hx hb dX10_followStretches_107 hl (by decide) rfl (fun ls hl => ?_)
                  obtain ⟨x109, ex109⟩ : ∃ y : Int32, y = v6 + 1 := ⟨_, rfl⟩
                  refine lv_iinc (v := x109) (lv' := [(6, .int (x109)), (5, .int (1)), (4, .int (x80)), (7, .int (1)), (0, .ref (eC E 0)), (3, .int (p3))]) hx hb dX10_followStretches_109 hl (k := 5) rfl (by rw [ex109]; rfl) (by decide) rfl (fun ls hl => ?_)
                  refine lv_goto (tgt := 36) hx hb dX10_followStretches_112 (by decide) ?_
                  exact ih _ _ _ _ _ _ _ (by first | exact ⟨hi.1.st c41 (by decide) ex109, hi.2.st (by rw [eS57, eS50]; exact kw_tr (kw_cast _) (kw_setMinute _ _))⟩ | exact ⟨hi.1.st c41 (by decide) ex109, hi.2.st (by rw [eS102, eS57, eS50]; exact kw_tr (kw_add26 _ _) (kw_tr (kw_cast _) (kw_setMinute _ _)))⟩) (by rw [hq]; subst ex109; subst ex80; subst eS57; subst er57; subst eS50; first | (simp only [q_X10_followStretches_b36, if_neg c41, if_pos c60, if_pos c77, if_neg c93]; done) | contradiction) hW hS (lv_sub hl [4, 5, 2, 1, 0] rfl)
                · refine lv_aload_n hx hb dX10_followStretches_96 rfl (lv_at hl 2 rfl) ?_
                  refine va_get (D := eD E) (cl := vwCl) (tys := eT E) (ci := 9) (C := RX10) (T := TX10) (N := 12) (v := .ref (eC E 26)) hx hb hts hinX10 hown hE.1 hW.1 11 rfl rfl 11 (by decide) (hts (.fieldLink RX10 73 "DialGarden" "minutesOfStretch" "LDialGarden$Range;") (by decide +kernel)) (fun _ h9 => h9) rfl dX10_followStretches_97 ?_
                  refine lv_iload hx hb dX10_followStretches_100 (lv_at hl 5 rfl) ?_
                  refine va_callv (va_runV (As := [.int (v6)]) (rest := []) ⟨hx, hb, hml, hown, hts⟩ (c_X4_add_26 l E M S57 v6) (cwV 1 hts gX10_followStretches_X4_add rfl rfl rfl (by decide +kernel) ⟨Nat.le_of_ble_eq_true rfl, Nat.le_of_ble_eq_true rfl⟩) (gP.V (ci := 4) (q := (RX4, TX4, 3)) (q0 := 37) hE hS hW rfl rfl) rfl rfl hl.1 rfl (lv_room (Nat.le_of_ble_eq_true rfl)) dX10_followStretches_102 ⟨Nat.le_of_ble_eq_true rfl, Nat.le_of_ble_eq_true rfl⟩) hS (fun _ _ h => h) (fun _ h => h) (fun S102 t H locs ht hvm hw hB hz1 hk1 hS => ?_)
                  have eS102 : S102 = q_X4_add_26 S57 v6 := hw
                  clear hw
                  have hW : gW E M S102 H := by rw [← ht]; exact hB
                  have hpS102 : S102.2.2 = S57.2.2 := by rw [eS102]; exact (qp_X4_add_26 _ _)
                  refine lv_iload hx hb dX10_followStretches_105 (lv_at hl 1 rfl) ?_
                  refine lv_istore (lv' := [(5, .int (1)), (4, .int (x80)), (7, .int (1)), (0, .ref (eC E 0)), (3, .int (p3)), (6, .int (v6))]) hx hb dX10_followStretches_107 hl (by decide) rfl (fun ls hl => ?_)
                  obtain ⟨x109, ex109⟩ : ∃ y : Int32, y = v6 + 1 := ⟨_, rfl⟩
                  refine lv_iinc (v := x109) (lv' := [(6, .int (x109)), (5, .int (1)), (4, .int (x80)), (7, .int (1)), (0, .ref (eC E 0)), (3, .int (p3))]) hx hb dX10_followStretches_109 hl (k := 5) rfl (by rw [ex109]; rfl) (by decide) rfl (fun ls hl => ?_)
                  refine lv_goto (tgt := 36) hx hb dX10_followStretches_112 (by decide) ?_
                  exact ih _ _ _ _ _ _ _ (by first | exact ⟨hi.1.st c41 (by decide) ex109, hi.2.st (by rw [eS57, eS50]; exact kw_tr (kw_cast _) (kw_setMinute _ _))⟩ | exact ⟨hi.1.st c41 (by decide) ex109, hi.2.st (by rw [eS102, eS57, eS50]; exact kw_tr (kw_add26 _ _) (kw_tr (kw_cast _) (kw_setMinute _ _)))⟩) (by rw [hq]; subst ex109; subst eS102; subst ex80; subst eS57; subst er57; subst eS50; first | (simp only [q_X10_followStretches_b36, if_neg c41, if_pos c60, if_pos c77, if_pos c93]; done) | contradiction) hW hS (lv_sub hl [4, 5, 2, 1, 0] rfl)
  refine lv_aload_n hx hb dX10_followStretches_0 rfl (lv_at hl 0 rfl) ?_
  refine va_get (D := eD E) (cl := vwCl) (tys := eT E) (ci := 9) (C := RX10) (T := TX10) (N := 12) (v := .ref (eC E 26)) hx hb hts hinX10 hown hE.1 hW.1 11 rfl rfl 11 (by decide) (hts (.fieldLink RX10 73 "DialGarden" "minutesOfStretch" "LDialGarden$Range;") (by decide +kernel)) (fun _ h9 => h9) rfl dX10_followStretches_1 ?_
  refine va_callv (va_runV (As := []) (rest := []) ⟨hx, hb, hml, hown, hts⟩ (c_X4_clear_26 l E M S) (cwV 0 hts gX10_followStretches_X4_clear rfl rfl rfl (by decide +kernel) ⟨Nat.le_of_ble_eq_true rfl, Nat.le_of_ble_eq_true rfl⟩) (gP.V (ci := 4) (q := (RX4, TX4, 3)) (q0 := 37) hE hS hW rfl rfl) rfl rfl hl.1 rfl (lv_room (Nat.le_of_ble_eq_true rfl)) dX10_followStretches_4 ⟨Nat.le_of_ble_eq_true rfl, Nat.le_of_ble_eq_true rfl⟩) hS (fun _ _ h => h) (fun _ h => h) (fun S4 t H locs ht hvm hw hB hz1 hk1 hS => ?_)
  have eS4 : S4 = q_X4_clear_26 S := hw
  clear hw
  have hW : gW E M S4 H := by rw [← ht]; exact hB
  have hpS4 : S4.2.2 = S.2.2 := by rw [eS4]; exact (qp_X4_clear_26 _)
  refine lv_aload_n hx hb dX10_followStretches_7 rfl (lv_at hl 0 rfl) ?_
  refine va_get (D := eD E) (cl := vwCl) (tys := eT E) (ci := 9) (C := RX10) (T := TX10) (N := 12) (v := .ref (eC E 7)) hx hb hts hinX10 hown hE.1 hW.1 11 rfl rfl 3 (by decide) (hts (.fieldLink RX10 34 "DialGarden" "shade" "LDialGarden$Shade;") (by decide +kernel)) (fun _ h9 => h9) rfl dX10_followStretches_8 ?_
  refine lv_aload_n hx hb dX10_followStretches_11 rfl (lv_at hl 1 rfl) ?_
  refine lv_aload_n hx hb dX10_followStretches_12 rfl (lv_at hl 0 rfl) ?_
  refine va_get (D := eD E) (cl := vwCl) (tys := eT E) (ci := 9) (C := RX10) (T := TX10) (N := 12) (v := .ref (eC E 3)) hx hb hts hinX10 hown hE.1 hW.1 11 rfl rfl 1 (by decide) (hts (.fieldLink RX10 18 "DialGarden" "things" "[LDialGarden$Thing;") (by decide +kernel)) (fun _ h9 => h9) rfl dX10_followStretches_13 ?_
  refine va_callv (va_runV (As := [.ref (p1), .ref (eC E 3)]) (rest := []) ⟨hx, hb, hml, hown, hts⟩ (c_X6_setUp l E M S4 p1 (by rw [hpS4]; exact hL1) (by rw [hpS4]; exact hk1) (okR_of hT (by rw [eS4]; rfl))) (cwV 2 hts gX10_followStretches_X6_setUp rfl rfl rfl (by decide +kernel) ⟨Nat.le_of_ble_eq_true rfl, Nat.le_of_ble_eq_true rfl⟩) (gP.V (ci := 6) (q := (RX6, TX6, 14)) (q0 := 18) hE hS hW rfl rfl) rfl rfl hl.1 rfl (lv_room (Nat.le_of_ble_eq_true rfl)) dX10_followStretches_16 ⟨Nat.le_of_ble_eq_true rfl, Nat.le_of_ble_eq_true rfl⟩) hS (fun _ _ h => h) (fun _ h => h) (fun S16 t H locs ht hvm hw hB hz1 hk1 hS => ?_)
  have eS16 : S16 = q_X6_setUp S4 p1 := hw
  clear hw
  have hW : gW E M S16 H := by rw [← ht]; exact hB
  have hpS16 : S16.2.2 = S4.2.2 := by rw [eS16]; exact (qp_X6_setUp _ _)
  refine lv_aload_n hx hb dX10_followStretches_19 rfl (lv_at hl 0 rfl) ?_
  refine va_get (D := eD E) (cl := vwCl) (tys := eT E) (ci := 9) (C := RX10) (T := TX10) (N := 12) (v := .ref (eC E 1)) hx hb hts hinX10 hown hE.1 hW.1 11 rfl rfl 0 (by decide) (hts (.fieldLink RX10 10 "DialGarden" "sky" "LDialGarden$Sky;") (by decide +kernel)) (fun _ h9 => h9) rfl dX10_followStretches_20 ?_
  refine lv_iload_n hx hb dX10_followStretches_23 rfl (lv_at hl 2 rfl) ?_
  refine va_callv (va_runV (As := [.int (p2)]) (rest := []) ⟨hx, hb, hml, hown, hts⟩ (c_X8_setDay l E M S16 p2 (by rw [eS16]; exact (su_kZ hT hH hkn0 hkn (by rw [eS4]; rfl) (by rw [eS4]; rfl)).2.1.1) (by rw [eS16]; exact (su_kZ hT hH hkn0 hkn (by rw [eS4]; rfl) (by rw [eS4]; rfl)).2.1.2)) (cwV 1 hts gX10_followStretches_X8_setDay rfl rfl rfl (by decide +kernel) ⟨Nat.le_of_ble_eq_true rfl, Nat.le_of_ble_eq_true rfl⟩) (gP.V (ci := 8) (q := (RX8, TX8, 16)) (q0 := 12) hE hS hW rfl rfl) rfl rfl hl.1 rfl (lv_room (Nat.le_of_ble_eq_true rfl)) dX10_followStretches_24 ⟨Nat.le_of_ble_eq_true rfl, Nat.le_of_ble_eq_true rfl⟩) hS (fun _ _ h => h) (fun _ h => h) (fun S24 t H locs ht hvm hw hB hz1 hk1 hS => ?_)
  have eS24 : S24 = q_X8_setDay S16 p2 := hw
  clear hw
  have hW : gW E M S24 H := by rw [← ht]; exact hB
  have hpS24 : S24.2.2 = S16.2.2 := by rw [eS24]; exact (qp_X8_setDay _ _)
  refine lv_iconst (v := 0) hx hb dX10_followStretches_27 (by decide) ?_
  refine lv_istore (lv' := [(4, .int (0)), (0, .ref (eC E 0)), (1, .ref (p1)), (2, .int (p2)), (3, .int (p3))]) hx hb dX10_followStretches_28 hl (by decide) rfl (fun ls hl => ?_)
  refine lv_iconst (v := 0) hx hb dX10_followStretches_30 (by decide) ?_
  refine lv_istore (lv' := [(5, .int (0)), (4, .int (0)), (0, .ref (eC E 0)), (1, .ref (p1)), (2, .int (p2)), (3, .int (p3))]) hx hb dX10_followStretches_31 hl (by decide) rfl (fun ls hl => ?_)
  refine lv_iconst (v := 0) hx hb dX10_followStretches_33 (by decide) ?_
  refine lv_istore (lv' := [(6, .int (0)), (5, .int (0)), (4, .int (0)), (0, .ref (eC E 0)), (1, .ref (p1)), (2, .int (p2)), (3, .int (p3))]) hx hb dX10_followStretches_34 hl (by decide) rfl (fun ls hl => ?_)
  exact L36 1441 _ _ _ _ _ _ _ (by exact ⟨gL.i 1440, by rw [eS24, eS16]; exact (su_kZ hT hH hkn0 hkn (by rw [eS4]; rfl) (by rw [eS4]; rfl)).st (kw_setDay _ _)⟩) (by subst eS24; subst eS16; subst eS4; first | (simp only [q_X10_followStretches]; done) | contradiction) hW hS (lv_sub hl [3, 6, 2, 1, 0] rfl)

def q_X10_stretches (S : gSc) (p1 : Int32) (p2 : Int32) : Int32 × gSc := (let r1 := q_X10_isPlace p1; (if r1 = 0 then ((-2000000001), S) else (let r8 := q_X10_isDay p2; (if r8 = 0 then ((-2000000001), S) else (match q_X10_dialAt S p1 0 with | none => ((-2000000002), S) | some a20 => (let r38 := (q_X10_followStretches S a20 p2 (-2000000005)).1; let S38 := (q_X10_followStretches S a20 p2 (-2000000005)).2; (r38, S38)))))))
set_option maxHeartbeats 4000000 in
set_option maxRecDepth 100000 in
theorem c_X10_stretches (l : Launch) (E : gEE) (M : gSm) (S : gSc) (p1 : Int32) (p2 : Int32) (hT : okR S 3 40) (hH : okH S) (hkn0 : 0 ≤ (S.1 1 1).toInt) (hkn : (S.1 1 1).toInt ≤ 366) : Met l yX10_stretches wsX10_stretches ({ frames := 6, cells := 0, slots := 0, locals := 141 }) (va_Pc [.ref (eC E 0), .int (p1), .int (p2)] (gP E M S)) (va_Qi (fun r (u : gSc) => (r, u) = q_X10_stretches S p1 p2) (fun u t => gW E M u t.heap) (eA E)) 0 0 (eA E) := by
  refine Met.ofW (cc := cX10_stretches) (maxL := 4) (ret := (some .int)) (by decide) rfl ?_
  intro p e s m args below meth c s₁ B hml hv
  obtain ⟨rfl, hE, hW⟩ := hv
  have hx := B.exec
  have hb := B.bytes
  have hr := B.returns
  have hts := atoms_spec (ws := wsX10_stretches) B.pre
  have hown : s.vm.findClass RX10 = some m.cls := findClass_of_methodNamed B.named
  have hlocks := B.notSynchronized
  have hS : va_S (eA E) s.heap s.heap [] := va_S.rf
  have hl := lv_entry ([.ref (eC E 0), .int (p1), .int (p2)]) (n := 4) (Nat.le_of_ble_eq_true rfl)
  rw [lg_entry_eq]
  generalize (lg_sl ([.ref (eC E 0), .int (p1), .int (p2)]) ++ List.replicate (4 - (lg_sl ([.ref (eC E 0), .int (p1), .int (p2)])).length) Slot.unset).toArray = ls at hl ⊢
  have hl : lv_has ls 4 [(0, .ref (eC E 0)), (1, .int (p1)), (2, .int (p2))] := hl
  have hS : ∃ (H : Heap) (locs : List Loc), H = s.heap ∧ locs = [] ∧ gW E M S H ∧ va_S (eA E) s.heap H locs := ⟨_, _, rfl, rfl, hW, hS⟩
  clear hW
  obtain ⟨H, locs, eH, el, hW, hS⟩ := hS
  rw [← eH, ← el]
  clear eH el
  refine lv_iload_n hx hb dX10_stretches_0 rfl (lv_at hl 1 rfl) ?_
  refine k_Si (va_runS (As := [.int (p1)]) (rest := []) ⟨hx, hb, hml, hown, hts⟩ (c_X10_isPlace l p1) (va_cwS 1 hts gX10_stretches_X10_isPlace rfl rfl rfl (by decide +kernel) ⟨Nat.le_of_ble_eq_true rfl, Nat.le_of_ble_eq_true rfl⟩) gP0 rfl rfl hl.1 rfl (lv_room (Nat.le_of_ble_eq_true rfl)) dX10_stretches_1 ⟨Nat.le_of_ble_eq_true rfl, Nat.le_of_ble_eq_true rfl⟩) (fun r1 er1 => ?_)
  refine lv_if_eq (tgt := 14) hx hb dX10_stretches_4 (by decide) (fun c4 => ?_) (fun c4 => ?_)
  · refine lv_ldc hx hb (v := (-2000000001)) hown (hts (.constant RX10 88 (-2000000001)) (by decide +kernel)) dX10_stretches_14 ?_
    exact W.iret (v := (-2000000001)) hx hb hr (fun t ht _ => ⟨⟨(-2000000001), S, rfl, by subst er1; first | (simp only [q_X10_stretches, if_pos c4]; done) | contradiction, by dsimp only; rw [ht]; exact hW⟩, hS.F ht⟩) hS.2.2 dX10_stretches_16
  · refine lv_iload_n hx hb dX10_stretches_7 rfl (lv_at hl 2 rfl) ?_
    refine k_Si (va_runS (As := [.int (p2)]) (rest := []) ⟨hx, hb, hml, hown, hts⟩ (c_X10_isDay l p2) (va_cwS 1 hts gX10_stretches_X10_isDay rfl rfl rfl (by decide +kernel) ⟨Nat.le_of_ble_eq_true rfl, Nat.le_of_ble_eq_true rfl⟩) gP0 rfl rfl hl.1 rfl (lv_room (Nat.le_of_ble_eq_true rfl)) dX10_stretches_8 ⟨Nat.le_of_ble_eq_true rfl, Nat.le_of_ble_eq_true rfl⟩) (fun r8 er8 => ?_)
    refine lv_if_ne (tgt := 17) hx hb dX10_stretches_11 (by decide) (fun c11 => ?_) (fun c11 => ?_)
    · refine lv_aload_n hx hb dX10_stretches_17 rfl (lv_at hl 0 rfl) ?_
      refine lv_iload_n hx hb dX10_stretches_18 rfl (lv_at hl 1 rfl) ?_
      refine lv_iconst (v := 0) hx hb dX10_stretches_19 (by decide) ?_
      refine k_Sq (va_runV (As := [.int (p1), .int (0)]) (rest := []) ⟨hx, hb, hml, hown, hts⟩ (c_X10_dialAt l E M S p1 0 hT) (cwV 2 hts gX10_stretches_X10_dialAt rfl rfl rfl (by decide +kernel) ⟨Nat.le_of_ble_eq_true rfl, Nat.le_of_ble_eq_true rfl⟩) (gP.V (ci := 9) (q := (RX10, TX10, 12)) (q0 := 11) hE hS hW rfl rfl) rfl rfl hl.1 rfl (lv_room (Nat.le_of_ble_eq_true rfl)) dX10_stretches_20 ⟨Nat.le_of_ble_eq_true rfl, Nat.le_of_ble_eq_true rfl⟩) (fun r20 er20 => ?_)
      rcases r20 with _ | a20
      · refine lv_astore_nN (lv' := [(3, .null), (0, .ref (eC E 0)), (1, .int (p1)), (2, .int (p2))]) hx hb dX10_stretches_23 rfl hl (by decide) rfl (fun ls hl => ?_)
        refine lv_aload_nN hx hb dX10_stretches_24 rfl (lv_at hl 0 rfl) ?_
        refine lv_ifnonnullN hx hb dX10_stretches_25 ?_
        refine lv_ldc hx hb (v := (-2000000002)) hown (hts (.constant RX10 178 (-2000000002)) (by decide +kernel)) dX10_stretches_28 ?_
        refine lv_goto (tgt := 41) hx hb dX10_stretches_30 (by decide) ?_
        exact W.iret (v := (-2000000002)) hx hb hr (fun t ht _ => ⟨⟨(-2000000002), S, rfl, by subst er8; subst er1; first | (simp only [q_X10_stretches, if_neg c4, if_neg c11, ← er20]; done) | contradiction, by dsimp only; rw [ht]; exact hW⟩, hS.F ht⟩) hS.2.2 dX10_stretches_41
      · have hL20 := (da_of hT er20).1
        have hK20 := (da_of hT er20).2
        refine lv_astore_n (lv' := [(3, .ref (a20)), (0, .ref (eC E 0)), (1, .int (p1)), (2, .int (p2))]) hx hb dX10_stretches_23 rfl hl (by decide) rfl (fun ls hl => ?_)
        refine lv_aload_n hx hb dX10_stretches_24 rfl (lv_at hl 0 rfl) ?_
        refine lv_ifnonnull (tgt := 33) hx hb dX10_stretches_25 (by decide) ?_
        refine lv_aload_n hx hb dX10_stretches_33 rfl (lv_at hl 1 rfl) ?_
        refine lv_aload_n hx hb dX10_stretches_34 rfl (lv_at hl 0 rfl) ?_
        refine lv_iload_n hx hb dX10_stretches_35 rfl (lv_at hl 3 rfl) ?_
        refine lv_ldc hx hb (v := (-2000000005)) hown (hts (.constant RX10 237 (-2000000005)) (by decide +kernel)) dX10_stretches_36 ?_
        refine va_calli (va_runV (As := [.ref (a20), .int (p2), .int ((-2000000005))]) (rest := []) ⟨hx, hb, hml, hown, hts⟩ (c_X10_followStretches l E M S a20 p2 (-2000000005) hL20 hK20 hT hH hkn0 hkn) (cwV 3 hts gX10_stretches_X10_followStretches rfl rfl rfl (by decide +kernel) ⟨Nat.le_of_ble_eq_true rfl, Nat.le_of_ble_eq_true rfl⟩) (gP.V (ci := 9) (q := (RX10, TX10, 12)) (q0 := 11) hE hS hW rfl rfl) rfl rfl hl.1 rfl (lv_room (Nat.le_of_ble_eq_true rfl)) dX10_stretches_38 ⟨Nat.le_of_ble_eq_true rfl, Nat.le_of_ble_eq_true rfl⟩) hS (fun _ _ h => h) (fun _ h => h) (fun r38 S38 t H locs ht hvm hw hB hz1 hk1 hS => ?_)
        obtain ⟨er38, eS38⟩ := prj hw
        clear hw
        have hW : gW E M S38 H := by rw [← ht]; exact hB
        exact W.iret (v := r38) hx hb hr (fun t ht _ => ⟨⟨r38, S38, rfl, by subst eS38; subst er38; subst er8; subst er1; first | (simp only [q_X10_stretches, if_neg c4, if_neg c11, ← er20]; done) | contradiction, by dsimp only; rw [ht]; exact hW⟩, hS.F ht⟩) hS.2.2 dX10_stretches_41
    · refine lv_ldc hx hb (v := (-2000000001)) hown (hts (.constant RX10 88 (-2000000001)) (by decide +kernel)) dX10_stretches_14 ?_
      exact W.iret (v := (-2000000001)) hx hb hr (fun t ht _ => ⟨⟨(-2000000001), S, rfl, by subst er8; subst er1; first | (simp only [q_X10_stretches, if_neg c4, if_pos c11]; done) | contradiction, by dsimp only; rw [ht]; exact hW⟩, hS.F ht⟩) hS.2.2 dX10_stretches_16

def q_X10_stretch (S : gSc) (p1 : Int32) (p2 : Int32) (p3 : Int32) (p4 : Int32) : Int32 × gSc := (let r1 := q_X10_isPlace p1; (if r1 = 0 then ((-2000000001), S) else (let r8 := q_X10_isDay p2; (if r8 = 0 then ((-2000000001), S) else (if p3 < 0 then ((-2000000001), S) else (let r23 := q_X10_within (p4.toInt64) 0 1; (if r23 = 0 then ((-2000000001), S) else (match q_X10_dialAt S p1 0 with | none => ((-2000000002), S) | some a35 => (let r53 := (q_X10_followStretches S a35 p2 p3).1; let S53 := (q_X10_followStretches S a35 p2 p3).2; (if p4 = 0 then (let r66 := q_X4_leastOrNone_26 S53; (r66, S53)) else (let r76 := q_X4_greatestOrNone_26 S53; (r76, S53))))))))))))
set_option maxHeartbeats 4000000 in
set_option maxRecDepth 100000 in
theorem c_X10_stretch (l : Launch) (E : gEE) (M : gSm) (S : gSc) (p1 : Int32) (p2 : Int32) (p3 : Int32) (p4 : Int32) (hT : okR S 3 40) (hH : okH S) (hkn0 : 0 ≤ (S.1 1 1).toInt) (hkn : (S.1 1 1).toInt ≤ 366) : Met l yX10_stretch wsX10_stretch ({ frames := 6, cells := 0, slots := 0, locals := 141 }) (va_Pc [.ref (eC E 0), .int (p1), .int (p2), .int (p3), .int (p4)] (gP E M S)) (va_Qi (fun r (u : gSc) => (r, u) = q_X10_stretch S p1 p2 p3 p4) (fun u t => gW E M u t.heap) (eA E)) 0 0 (eA E) := by
  refine Met.ofW (cc := cX10_stretch) (maxL := 6) (ret := (some .int)) (by decide) rfl ?_
  intro p e s m args below meth c s₁ B hml hv
  obtain ⟨rfl, hE, hW⟩ := hv
  have hx := B.exec
  have hb := B.bytes
  have hr := B.returns
  have hts := atoms_spec (ws := wsX10_stretch) B.pre
  have hown : s.vm.findClass RX10 = some m.cls := findClass_of_methodNamed B.named
  have hlocks := B.notSynchronized
  have hinX10 : ∀ w ∈ wsX100, w ∈ wsX10_stretch := by decide +kernel
  have hS : va_S (eA E) s.heap s.heap [] := va_S.rf
  have hl := lv_entry ([.ref (eC E 0), .int (p1), .int (p2), .int (p3), .int (p4)]) (n := 6) (Nat.le_of_ble_eq_true rfl)
  rw [lg_entry_eq]
  generalize (lg_sl ([.ref (eC E 0), .int (p1), .int (p2), .int (p3), .int (p4)]) ++ List.replicate (6 - (lg_sl ([.ref (eC E 0), .int (p1), .int (p2), .int (p3), .int (p4)])).length) Slot.unset).toArray = ls at hl ⊢
  have hl : lv_has ls 6 [(0, .ref (eC E 0)), (1, .int (p1)), (2, .int (p2)), (3, .int (p3)), (4, .int (p4))] := hl
  have hS : ∃ (H : Heap) (locs : List Loc), H = s.heap ∧ locs = [] ∧ gW E M S H ∧ va_S (eA E) s.heap H locs := ⟨_, _, rfl, rfl, hW, hS⟩
  clear hW
  obtain ⟨H, locs, eH, el, hW, hS⟩ := hS
  rw [← eH, ← el]
  clear eH el
  refine lv_iload_n hx hb dX10_stretch_0 rfl (lv_at hl 1 rfl) ?_
  refine k_Si (va_runS (As := [.int (p1)]) (rest := []) ⟨hx, hb, hml, hown, hts⟩ (c_X10_isPlace l p1) (va_cwS 1 hts gX10_stretch_X10_isPlace rfl rfl rfl (by decide +kernel) ⟨Nat.le_of_ble_eq_true rfl, Nat.le_of_ble_eq_true rfl⟩) gP0 rfl rfl hl.1 rfl (lv_room (Nat.le_of_ble_eq_true rfl)) dX10_stretch_1 ⟨Nat.le_of_ble_eq_true rfl, Nat.le_of_ble_eq_true rfl⟩) (fun r1 er1 => ?_)
  refine lv_if_eq (tgt := 29) hx hb dX10_stretch_4 (by decide) (fun c4 => ?_) (fun c4 => ?_)
  · refine lv_ldc hx hb (v := (-2000000001)) hown (hts (.constant RX10 88 (-2000000001)) (by decide +kernel)) dX10_stretch_29 ?_
    exact W.iret (v := (-2000000001)) hx hb hr (fun t ht _ => ⟨⟨(-2000000001), S, rfl, by subst er1; first | (simp only [q_X10_stretch, if_pos c4]; done) | contradiction, by dsimp only; rw [ht]; exact hW⟩, hS.F ht⟩) hS.2.2 dX10_stretch_31
  · refine lv_iload_n hx hb dX10_stretch_7 rfl (lv_at hl 2 rfl) ?_
    refine k_Si (va_runS (As := [.int (p2)]) (rest := []) ⟨hx, hb, hml, hown, hts⟩ (c_X10_isDay l p2) (va_cwS 1 hts gX10_stretch_X10_isDay rfl rfl rfl (by decide +kernel) ⟨Nat.le_of_ble_eq_true rfl, Nat.le_of_ble_eq_true rfl⟩) gP0 rfl rfl hl.1 rfl (lv_room (Nat.le_of_ble_eq_true rfl)) dX10_stretch_8 ⟨Nat.le_of_ble_eq_true rfl, Nat.le_of_ble_eq_true rfl⟩) (fun r8 er8 => ?_)
    refine lv_if_eq (tgt := 29) hx hb dX10_stretch_11 (by decide) (fun c11 => ?_) (fun c11 => ?_)
    · refine lv_ldc hx hb (v := (-2000000001)) hown (hts (.constant RX10 88 (-2000000001)) (by decide +kernel)) dX10_stretch_29 ?_
      exact W.iret (v := (-2000000001)) hx hb hr (fun t ht _ => ⟨⟨(-2000000001), S, rfl, by subst er8; subst er1; first | (simp only [q_X10_stretch, if_neg c4, if_pos c11]; done) | contradiction, by dsimp only; rw [ht]; exact hW⟩, hS.F ht⟩) hS.2.2 dX10_stretch_31
    · refine lv_iload_n hx hb dX10_stretch_14 rfl (lv_at hl 3 rfl) ?_
      refine lv_if_lt (tgt := 29) hx hb dX10_stretch_15 (by decide) (fun c15 => ?_) (fun c15 => ?_)
      · refine lv_ldc hx hb (v := (-2000000001)) hown (hts (.constant RX10 88 (-2000000001)) (by decide +kernel)) dX10_stretch_29 ?_
        exact W.iret (v := (-2000000001)) hx hb hr (fun t ht _ => ⟨⟨(-2000000001), S, rfl, by subst er8; subst er1; first | (simp only [q_X10_stretch, if_neg c4, if_neg c11, if_pos c15]; done) | contradiction, by dsimp only; rw [ht]; exact hW⟩, hS.F ht⟩) hS.2.2 dX10_stretch_31
      · refine lv_iload hx hb dX10_stretch_18 (lv_at hl 4 rfl) ?_
        refine lv_i2l (v := p4.toInt64) hx hb dX10_stretch_20 rfl ?_
        refine lv_lconst (v := 0) hx hb dX10_stretch_21 (by decide) ?_
        refine lv_lconst (v := 1) hx hb dX10_stretch_22 (by decide) ?_
        refine k_Si (va_runS (As := [.long (p4.toInt64), .long (0), .long (1)]) (rest := []) ⟨hx, hb, hml, hown, hts⟩ (c_X10_within l (p4.toInt64) 0 1) (va_cwS 3 hts gX10_stretch_X10_within rfl rfl rfl (by decide +kernel) ⟨Nat.le_of_ble_eq_true rfl, Nat.le_of_ble_eq_true rfl⟩) gP0 rfl rfl hl.1 rfl (lv_room (Nat.le_of_ble_eq_true rfl)) dX10_stretch_23 ⟨Nat.le_of_ble_eq_true rfl, Nat.le_of_ble_eq_true rfl⟩) (fun r23 er23 => ?_)
        refine lv_if_ne (tgt := 32) hx hb dX10_stretch_26 (by decide) (fun c26 => ?_) (fun c26 => ?_)
        · refine lv_aload_n hx hb dX10_stretch_32 rfl (lv_at hl 0 rfl) ?_
          refine lv_iload_n hx hb dX10_stretch_33 rfl (lv_at hl 1 rfl) ?_
          refine lv_iconst (v := 0) hx hb dX10_stretch_34 (by decide) ?_
          refine k_Sq (va_runV (As := [.int (p1), .int (0)]) (rest := []) ⟨hx, hb, hml, hown, hts⟩ (c_X10_dialAt l E M S p1 0 hT) (cwV 2 hts gX10_stretch_X10_dialAt rfl rfl rfl (by decide +kernel) ⟨Nat.le_of_ble_eq_true rfl, Nat.le_of_ble_eq_true rfl⟩) (gP.V (ci := 9) (q := (RX10, TX10, 12)) (q0 := 11) hE hS hW rfl rfl) rfl rfl hl.1 rfl (lv_room (Nat.le_of_ble_eq_true rfl)) dX10_stretch_35 ⟨Nat.le_of_ble_eq_true rfl, Nat.le_of_ble_eq_true rfl⟩) (fun r35 er35 => ?_)
          rcases r35 with _ | a35
          · refine lv_astoreN (lv' := [(5, .null), (0, .ref (eC E 0)), (1, .int (p1)), (2, .int (p2)), (3, .int (p3)), (4, .int (p4))]) hx hb dX10_stretch_38 hl (by decide) rfl (fun ls hl => ?_)
            refine lv_aloadN hx hb dX10_stretch_40 (lv_at hl 0 rfl) ?_
            refine lv_ifnonnullN hx hb dX10_stretch_42 ?_
            refine lv_ldc hx hb (v := (-2000000002)) hown (hts (.constant RX10 178 (-2000000002)) (by decide +kernel)) dX10_stretch_45 ?_
            exact W.iret (v := (-2000000002)) hx hb hr (fun t ht _ => ⟨⟨(-2000000002), S, rfl, by subst er23; subst er8; subst er1; first | (simp only [q_X10_stretch, if_neg c4, if_neg c11, if_neg c15, if_neg c26, ← er35]; done) | contradiction, by dsimp only; rw [ht]; exact hW⟩, hS.F ht⟩) hS.2.2 dX10_stretch_47
          · have hL35 := (da_of hT er35).1
            have hK35 := (da_of hT er35).2
            refine lv_astore (lv' := [(5, .ref (a35)), (0, .ref (eC E 0)), (1, .int (p1)), (2, .int (p2)), (3, .int (p3)), (4, .int (p4))]) hx hb dX10_stretch_38 hl (by decide) rfl (fun ls hl => ?_)
            refine lv_aload hx hb dX10_stretch_40 (lv_at hl 0 rfl) ?_
            refine lv_ifnonnull (tgt := 48) hx hb dX10_stretch_42 (by decide) ?_
            refine lv_aload_n hx hb dX10_stretch_48 rfl (lv_at hl 1 rfl) ?_
            refine lv_aload hx hb dX10_stretch_49 (lv_at hl 0 rfl) ?_
            refine lv_iload_n hx hb dX10_stretch_51 rfl (lv_at hl 3 rfl) ?_
            refine lv_iload_n hx hb dX10_stretch_52 rfl (lv_at hl 4 rfl) ?_
            refine va_calli (va_runV (As := [.ref (a35), .int (p2), .int (p3)]) (rest := []) ⟨hx, hb, hml, hown, hts⟩ (c_X10_followStretches l E M S a35 p2 p3 hL35 hK35 hT hH hkn0 hkn) (cwV 3 hts gX10_stretch_X10_followStretches rfl rfl rfl (by decide +kernel) ⟨Nat.le_of_ble_eq_true rfl, Nat.le_of_ble_eq_true rfl⟩) (gP.V (ci := 9) (q := (RX10, TX10, 12)) (q0 := 11) hE hS hW rfl rfl) rfl rfl hl.1 rfl (lv_room (Nat.le_of_ble_eq_true rfl)) dX10_stretch_53 ⟨Nat.le_of_ble_eq_true rfl, Nat.le_of_ble_eq_true rfl⟩) hS (fun _ _ h => h) (fun _ h => h) (fun r53 S53 t H locs ht hvm hw hB hz1 hk1 hS => ?_)
            obtain ⟨er53, eS53⟩ := prj hw
            clear hw
            have hW : gW E M S53 H := by rw [← ht]; exact hB
            refine lv_pop hx hb dX10_stretch_56 rfl ?_
            refine lv_iload hx hb dX10_stretch_57 (lv_at hl 5 rfl) ?_
            refine lv_if_ne (tgt := 72) hx hb dX10_stretch_59 (by decide) (fun c59 => ?_) (fun c59 => ?_)
            · refine lv_aload_n hx hb dX10_stretch_72 rfl (lv_at hl 1 rfl) ?_
              refine va_get (D := eD E) (cl := vwCl) (tys := eT E) (ci := 9) (C := RX10) (T := TX10) (N := 12) (v := .ref (eC E 26)) hx hb hts hinX10 hown hE.1 hW.1 11 rfl rfl 11 (by decide) (hts (.fieldLink RX10 73 "DialGarden" "minutesOfStretch" "LDialGarden$Range;") (by decide +kernel)) (fun _ h9 => h9) rfl dX10_stretch_73 ?_
              refine k_Si (va_runV (As := []) (rest := []) ⟨hx, hb, hml, hown, hts⟩ (c_X4_greatestOrNone_26 l E M S53) (cwV 0 hts gX10_stretch_X4_greatestOrNone rfl rfl rfl (by decide +kernel) ⟨Nat.le_of_ble_eq_true rfl, Nat.le_of_ble_eq_true rfl⟩) (gP.V (ci := 4) (q := (RX4, TX4, 3)) (q0 := 37) hE hS hW rfl rfl) rfl rfl hl.1 rfl (lv_room (Nat.le_of_ble_eq_true rfl)) dX10_stretch_76 ⟨Nat.le_of_ble_eq_true rfl, Nat.le_of_ble_eq_true rfl⟩) (fun r76 er76 => ?_)
              exact W.iret (v := r76) hx hb hr (fun t ht _ => ⟨⟨r76, S53, rfl, by subst er76; subst eS53; subst er53; subst er23; subst er8; subst er1; first | (simp only [q_X10_stretch, if_neg c4, if_neg c11, if_neg c15, if_neg c26, if_neg c59, ← er35]; done) | contradiction, by dsimp only; rw [ht]; exact hW⟩, hS.F ht⟩) hS.2.2 dX10_stretch_79
            · refine lv_aload_n hx hb dX10_stretch_62 rfl (lv_at hl 1 rfl) ?_
              refine va_get (D := eD E) (cl := vwCl) (tys := eT E) (ci := 9) (C := RX10) (T := TX10) (N := 12) (v := .ref (eC E 26)) hx hb hts hinX10 hown hE.1 hW.1 11 rfl rfl 11 (by decide) (hts (.fieldLink RX10 73 "DialGarden" "minutesOfStretch" "LDialGarden$Range;") (by decide +kernel)) (fun _ h9 => h9) rfl dX10_stretch_63 ?_
              refine k_Si (va_runV (As := []) (rest := []) ⟨hx, hb, hml, hown, hts⟩ (c_X4_leastOrNone_26 l E M S53) (cwV 0 hts gX10_stretch_X4_leastOrNone rfl rfl rfl (by decide +kernel) ⟨Nat.le_of_ble_eq_true rfl, Nat.le_of_ble_eq_true rfl⟩) (gP.V (ci := 4) (q := (RX4, TX4, 3)) (q0 := 37) hE hS hW rfl rfl) rfl rfl hl.1 rfl (lv_room (Nat.le_of_ble_eq_true rfl)) dX10_stretch_66 ⟨Nat.le_of_ble_eq_true rfl, Nat.le_of_ble_eq_true rfl⟩) (fun r66 er66 => ?_)
              refine lv_goto (tgt := 79) hx hb dX10_stretch_69 (by decide) ?_
              exact W.iret (v := r66) hx hb hr (fun t ht _ => ⟨⟨r66, S53, rfl, by subst er66; subst eS53; subst er53; subst er23; subst er8; subst er1; first | (simp only [q_X10_stretch, if_neg c4, if_neg c11, if_neg c15, if_neg c26, if_pos c59, ← er35]; done) | contradiction, by dsimp only; rw [ht]; exact hW⟩, hS.F ht⟩) hS.2.2 dX10_stretch_79
        · refine lv_ldc hx hb (v := (-2000000001)) hown (hts (.constant RX10 88 (-2000000001)) (by decide +kernel)) dX10_stretch_29 ?_
          exact W.iret (v := (-2000000001)) hx hb hr (fun t ht _ => ⟨⟨(-2000000001), S, rfl, by subst er23; subst er8; subst er1; first | (simp only [q_X10_stretch, if_neg c4, if_neg c11, if_neg c15, if_pos c26]; done) | contradiction, by dsimp only; rw [ht]; exact hW⟩, hS.F ht⟩) hS.2.2 dX10_stretch_31
