def q_X10_line (S : gSc) (p1 : Int32) (p2 : Int32) (p3 : Int32) : Int32 × gSc := (let r1 := q_X10_isPlace p1; (if r1 = 0 then ((-2000000001), S) else (let r8 := q_X10_isHour p2; (if r8 = 0 then ((-2000000001), S) else (let r20 := q_X10_within (p3.toInt64) 0 6; (if r20 = 0 then ((-2000000001), S) else (match q_X10_dialAt S p1 0 with | none => ((-2000000002), S) | some a32 => (let S49 := q_X10_followLine S a32 p2; (if p3 = 0 then (S49.1 23 0, S49) else if p3 = 1 then (let r104 := q_X4_leastOrNone_23 S49; (r104, S49)) else if p3 = 2 then (let r112 := q_X4_greatestOrNone_23 S49; (r112, S49)) else if p3 = 3 then (let r120 := q_X4_leastOrNone_24 S49; (r120, S49)) else if p3 = 4 then (let r128 := q_X4_greatestOrNone_24 S49; (r128, S49)) else if p3 = 5 then (let r136 := q_X4_leastOrNone_25 S49; (r136, S49)) else (let r144 := q_X4_greatestOrNone_25 S49; (r144, S49)))))))))))
set_option maxHeartbeats 4000000 in
set_option maxRecDepth 100000 in
theorem c_X10_line (l : Launch) (E : gEE) (M : gSm) (S : gSc) (p1 : Int32) (p2 : Int32) (p3 : Int32) (hT : okR S 3 40) (hH : okH S) (hkn0 : 0 ≤ (S.1 1 1).toInt) (hkn : (S.1 1 1).toInt ≤ 366) : Met l yX10_line wsX10_line ({ frames := 6, cells := 0, slots := 0, locals := 137 }) (va_Pc [.ref (eC E 0), .int (p1), .int (p2), .int (p3)] (gP E M S)) (va_Qi (fun r (u : gSc) => (r, u) = q_X10_line S p1 p2 p3) (fun u t => gW E M u t.heap) (eA E)) 0 0 (eA E) := by
  refine Met.ofW (cc := cX10_line) (maxL := 5) (ret := (some .int)) (by decide) rfl ?_
  intro p e s m args below meth c s₁ B hml hv
  obtain ⟨rfl, hE, hW⟩ := hv
  have hx := B.exec
  have hb := B.bytes
  have hr := B.returns
  have hts := atoms_spec (ws := wsX10_line) B.pre
  have hown : s.vm.findClass RX10 = some m.cls := findClass_of_methodNamed B.named
  have hlocks := B.notSynchronized
  have hinX10 : ∀ w ∈ wsX100, w ∈ wsX10_line := by decide +kernel
  have hinX4 : ∀ w ∈ wsX40, w ∈ wsX10_line := by decide +kernel
  have hS : va_S (eA E) s.heap s.heap [] := va_S.rf
  have hl := lv_entry ([.ref (eC E 0), .int (p1), .int (p2), .int (p3)]) (n := 5) (Nat.le_of_ble_eq_true rfl)
  rw [lg_entry_eq]
  generalize (lg_sl ([.ref (eC E 0), .int (p1), .int (p2), .int (p3)]) ++ List.replicate (5 - (lg_sl ([.ref (eC E 0), .int (p1), .int (p2), .int (p3)])).length) Slot.unset).toArray = ls at hl ⊢
  have hl : lv_has ls 5 [(0, .ref (eC E 0)), (1, .int (p1)), (2, .int (p2)), (3, .int (p3))] := hl
  have hS : ∃ (H : Heap) (locs : List Loc), H = s.heap ∧ locs = [] ∧ gW E M S H ∧ va_S (eA E) s.heap H locs := ⟨_, _, rfl, rfl, hW, hS⟩
  clear hW
  obtain ⟨H, locs, eH, el, hW, hS⟩ := hS
  rw [← eH, ← el]
  clear eH el
  refine lv_iload_n hx hb dX10_line_0 rfl (lv_at hl 1 rfl) ?_
  refine k_Si (va_runS (As := [.int (p1)]) (rest := []) ⟨hx, hb, hml, hown, hts⟩ (c_X10_isPlace l p1) (va_cwS 1 hts gX10_line_X10_isPlace rfl rfl rfl (by decide +kernel) ⟨Nat.le_of_ble_eq_true rfl, Nat.le_of_ble_eq_true rfl⟩) gP0 rfl rfl hl.1 rfl (lv_room (Nat.le_of_ble_eq_true rfl)) dX10_line_1 ⟨Nat.le_of_ble_eq_true rfl, Nat.le_of_ble_eq_true rfl⟩) (fun r1 er1 => ?_)
  refine lv_if_eq (tgt := 26) hx hb dX10_line_4 (by decide) (fun c4 => ?_) (fun c4 => ?_)
  · refine lv_ldc hx hb (v := (-2000000001)) hown (hts (.constant RX10 86 (-2000000001)) (by decide +kernel)) dX10_line_26 ?_
    exact W.iret (v := (-2000000001)) hx hb hr (fun t ht _ => ⟨⟨(-2000000001), S, rfl, by subst er1; first | (simp only [q_X10_line, if_pos c4]; done) | contradiction, by dsimp only; rw [ht]; exact hW⟩, hS.F ht⟩) hS.2.2 dX10_line_28
  · refine lv_iload_n hx hb dX10_line_7 rfl (lv_at hl 2 rfl) ?_
    refine k_Si (va_runS (As := [.int (p2)]) (rest := []) ⟨hx, hb, hml, hown, hts⟩ (c_X10_isHour l p2) (va_cwS 1 hts gX10_line_X10_isHour rfl rfl rfl (by decide +kernel) ⟨Nat.le_of_ble_eq_true rfl, Nat.le_of_ble_eq_true rfl⟩) gP0 rfl rfl hl.1 rfl (lv_room (Nat.le_of_ble_eq_true rfl)) dX10_line_8 ⟨Nat.le_of_ble_eq_true rfl, Nat.le_of_ble_eq_true rfl⟩) (fun r8 er8 => ?_)
    refine lv_if_eq (tgt := 26) hx hb dX10_line_11 (by decide) (fun c11 => ?_) (fun c11 => ?_)
    · refine lv_ldc hx hb (v := (-2000000001)) hown (hts (.constant RX10 86 (-2000000001)) (by decide +kernel)) dX10_line_26 ?_
      exact W.iret (v := (-2000000001)) hx hb hr (fun t ht _ => ⟨⟨(-2000000001), S, rfl, by subst er8; subst er1; first | (simp only [q_X10_line, if_neg c4, if_pos c11]; done) | contradiction, by dsimp only; rw [ht]; exact hW⟩, hS.F ht⟩) hS.2.2 dX10_line_28
    · refine lv_iload_n hx hb dX10_line_14 rfl (lv_at hl 3 rfl) ?_
      refine lv_i2l (v := p3.toInt64) hx hb dX10_line_15 rfl ?_
      refine lv_lconst (v := 0) hx hb dX10_line_16 (by decide) ?_
      refine lv_ldc2 hx hb (v := 6) hown (hts (.constantLong RX10 242 (6)) (by decide +kernel)) dX10_line_17 ?_
      refine k_Si (va_runS (As := [.long (p3.toInt64), .long (0), .long (6)]) (rest := []) ⟨hx, hb, hml, hown, hts⟩ (c_X10_within l (p3.toInt64) 0 6) (va_cwS 3 hts gX10_line_X10_within rfl rfl rfl (by decide +kernel) ⟨Nat.le_of_ble_eq_true rfl, Nat.le_of_ble_eq_true rfl⟩) gP0 rfl rfl hl.1 rfl (lv_room (Nat.le_of_ble_eq_true rfl)) dX10_line_20 ⟨Nat.le_of_ble_eq_true rfl, Nat.le_of_ble_eq_true rfl⟩) (fun r20 er20 => ?_)
      refine lv_if_ne (tgt := 29) hx hb dX10_line_23 (by decide) (fun c23 => ?_) (fun c23 => ?_)
      · refine lv_aload_n hx hb dX10_line_29 rfl (lv_at hl 0 rfl) ?_
        refine lv_iload_n hx hb dX10_line_30 rfl (lv_at hl 1 rfl) ?_
        refine lv_iconst (v := 0) hx hb dX10_line_31 (by decide) ?_
        refine k_Sq (va_runV (As := [.int (p1), .int (0)]) (rest := []) ⟨hx, hb, hml, hown, hts⟩ (c_X10_dialAt l E M S p1 0 hT) (cwV 2 hts gX10_line_X10_dialAt rfl rfl rfl (by decide +kernel) ⟨Nat.le_of_ble_eq_true rfl, Nat.le_of_ble_eq_true rfl⟩) (gP.V (ci := 9) (q := (RX10, TX10, 12)) (q0 := 11) hE hS hW rfl rfl) rfl rfl hl.1 rfl (lv_room (Nat.le_of_ble_eq_true rfl)) dX10_line_32 ⟨Nat.le_of_ble_eq_true rfl, Nat.le_of_ble_eq_true rfl⟩) (fun r32 er32 => ?_)
        rcases r32 with _ | a32
        · refine lv_astoreN (lv' := [(4, .null), (0, .ref (eC E 0)), (1, .int (p1)), (2, .int (p2)), (3, .int (p3))]) hx hb dX10_line_35 hl (by decide) rfl (fun ls hl => ?_)
          refine lv_aloadN hx hb dX10_line_37 (lv_at hl 0 rfl) ?_
          refine lv_ifnonnullN hx hb dX10_line_39 ?_
          refine lv_ldc hx hb (v := (-2000000002)) hown (hts (.constant RX10 176 (-2000000002)) (by decide +kernel)) dX10_line_42 ?_
          exact W.iret (v := (-2000000002)) hx hb hr (fun t ht _ => ⟨⟨(-2000000002), S, rfl, by subst er20; subst er8; subst er1; first | (simp only [q_X10_line, if_neg c4, if_neg c11, if_neg c23, ← er32]; done) | contradiction, by dsimp only; rw [ht]; exact hW⟩, hS.F ht⟩) hS.2.2 dX10_line_44
        · have hL32 := (da_of hT er32).1
          have hK32 := (da_of hT er32).2
          refine lv_astore (lv' := [(4, .ref (a32)), (0, .ref (eC E 0)), (1, .int (p1)), (2, .int (p2)), (3, .int (p3))]) hx hb dX10_line_35 hl (by decide) rfl (fun ls hl => ?_)
          refine lv_aload hx hb dX10_line_37 (lv_at hl 0 rfl) ?_
          refine lv_ifnonnull (tgt := 45) hx hb dX10_line_39 (by decide) ?_
          refine lv_aload_n hx hb dX10_line_45 rfl (lv_at hl 1 rfl) ?_
          refine lv_aload hx hb dX10_line_46 (lv_at hl 0 rfl) ?_
          refine lv_iload_n hx hb dX10_line_48 rfl (lv_at hl 3 rfl) ?_
          refine va_callv (va_runV (As := [.ref (a32), .int (p2)]) (rest := []) ⟨hx, hb, hml, hown, hts⟩ (c_X10_followLine l E M S a32 p2 hL32 hK32 hT hH hkn0 hkn) (cwV 2 hts gX10_line_X10_followLine rfl rfl rfl (by decide +kernel) ⟨Nat.le_of_ble_eq_true rfl, Nat.le_of_ble_eq_true rfl⟩) (gP.V (ci := 9) (q := (RX10, TX10, 12)) (q0 := 11) hE hS hW rfl rfl) rfl rfl hl.1 rfl (lv_room (Nat.le_of_ble_eq_true rfl)) dX10_line_49 ⟨Nat.le_of_ble_eq_true rfl, Nat.le_of_ble_eq_true rfl⟩) hS (fun _ _ h => h) (fun _ h => h) (fun S49 t H locs ht hvm hw hB hzz hkk hS => ?_)
          have eS49 : S49 = q_X10_followLine S a32 p2 := hw
          clear hw
          have hW : gW E M S49 H := by rw [← ht]; exact hB
          refine lv_iload_n hx hb dX10_line_52 rfl (lv_at hl 4 rfl) ?_
          by_cases c53_0 : p3 = 0
          · refine lv_tableIn (tgt := 92) (off := 39) hx hb dX10_line_53 (by rw [c53_0]; decide) (by rw [c53_0]; decide) (by rw [c53_0]; rfl) (by decide) ?_
            refine lv_aload_n hx hb dX10_line_92 rfl (lv_at hl 1 rfl) ?_
            refine va_get (D := eD E) (cl := vwCl) (tys := eT E) (ci := 9) (C := RX10) (T := TX10) (N := 12) (v := .ref (eC E 23)) hx hb hts hinX10 hown hE.1 hW.1 11 rfl rfl 8 (by decide) (hts (.fieldLink RX10 61 "DialGarden" "daysOfLine" "LDialGarden$Range;") (by decide +kernel)) (fun _ h9 => h9) rfl dX10_line_93 ?_
            refine va_getN (D := eD E) (cl := vwCl) (tys := eT E) (ci := 4) (C := RX4) (T := TX4) (N := 3) (v := .int (S49.1 23 0)) hx hb hts hinX4 hown hE.1 hW.1 34 rfl rfl 0 (by decide) (va_Nw.use rfl (hE.2.2.1 (.fieldLinkNest "DialGarden" 248 "DialGarden$Range" "size" "I" "DialGarden") (by decide +kernel))) (fun _ h9 => h9) rfl dX10_line_96 ?_
            exact W.iret (v := S49.1 23 0) hx hb hr (fun t ht _ => ⟨⟨S49.1 23 0, S49, rfl, by subst er20; subst er8; subst er1; first | (simp only [q_X10_line, if_neg c4, if_neg c11, if_neg c23, if_pos c53_0, ← er32, ← eS49]; done) | contradiction, by dsimp only; rw [ht]; exact hW⟩, hS.F ht⟩) hS.2.2 dX10_line_99
          by_cases c53_1 : p3 = 1
          · refine lv_tableIn (tgt := 100) (off := 47) hx hb dX10_line_53 (by rw [c53_1]; decide) (by rw [c53_1]; decide) (by rw [c53_1]; rfl) (by decide) ?_
            refine lv_aload_n hx hb dX10_line_100 rfl (lv_at hl 1 rfl) ?_
            refine va_get (D := eD E) (cl := vwCl) (tys := eT E) (ci := 9) (C := RX10) (T := TX10) (N := 12) (v := .ref (eC E 23)) hx hb hts hinX10 hown hE.1 hW.1 11 rfl rfl 8 (by decide) (hts (.fieldLink RX10 61 "DialGarden" "daysOfLine" "LDialGarden$Range;") (by decide +kernel)) (fun _ h9 => h9) rfl dX10_line_101 ?_
            refine k_Si (va_runV (As := []) (rest := []) ⟨hx, hb, hml, hown, hts⟩ (c_X4_leastOrNone_23 l E M S49) (cwV 0 hts gX10_line_X4_leastOrNone rfl rfl rfl (by decide +kernel) ⟨Nat.le_of_ble_eq_true rfl, Nat.le_of_ble_eq_true rfl⟩) (gP.V (ci := 4) (q := (RX4, TX4, 3)) (q0 := 34) hE hS hW rfl rfl) rfl rfl hl.1 rfl (lv_room (Nat.le_of_ble_eq_true rfl)) dX10_line_104 ⟨Nat.le_of_ble_eq_true rfl, Nat.le_of_ble_eq_true rfl⟩) (fun r104 er104 => ?_)
            exact W.iret (v := r104) hx hb hr (fun t ht _ => ⟨⟨r104, S49, rfl, by subst er104; subst er20; subst er8; subst er1; first | (simp only [q_X10_line, if_neg c4, if_neg c11, if_neg c23, if_neg c53_0, if_pos c53_1, ← er32, ← eS49]; done) | contradiction, by dsimp only; rw [ht]; exact hW⟩, hS.F ht⟩) hS.2.2 dX10_line_107
          by_cases c53_2 : p3 = 2
          · refine lv_tableIn (tgt := 108) (off := 55) hx hb dX10_line_53 (by rw [c53_2]; decide) (by rw [c53_2]; decide) (by rw [c53_2]; rfl) (by decide) ?_
            refine lv_aload_n hx hb dX10_line_108 rfl (lv_at hl 1 rfl) ?_
            refine va_get (D := eD E) (cl := vwCl) (tys := eT E) (ci := 9) (C := RX10) (T := TX10) (N := 12) (v := .ref (eC E 23)) hx hb hts hinX10 hown hE.1 hW.1 11 rfl rfl 8 (by decide) (hts (.fieldLink RX10 61 "DialGarden" "daysOfLine" "LDialGarden$Range;") (by decide +kernel)) (fun _ h9 => h9) rfl dX10_line_109 ?_
            refine k_Si (va_runV (As := []) (rest := []) ⟨hx, hb, hml, hown, hts⟩ (c_X4_greatestOrNone_23 l E M S49) (cwV 0 hts gX10_line_X4_greatestOrNone rfl rfl rfl (by decide +kernel) ⟨Nat.le_of_ble_eq_true rfl, Nat.le_of_ble_eq_true rfl⟩) (gP.V (ci := 4) (q := (RX4, TX4, 3)) (q0 := 34) hE hS hW rfl rfl) rfl rfl hl.1 rfl (lv_room (Nat.le_of_ble_eq_true rfl)) dX10_line_112 ⟨Nat.le_of_ble_eq_true rfl, Nat.le_of_ble_eq_true rfl⟩) (fun r112 er112 => ?_)
            exact W.iret (v := r112) hx hb hr (fun t ht _ => ⟨⟨r112, S49, rfl, by subst er112; subst er20; subst er8; subst er1; first | (simp only [q_X10_line, if_neg c4, if_neg c11, if_neg c23, if_neg c53_0, if_neg c53_1, if_pos c53_2, ← er32, ← eS49]; done) | contradiction, by dsimp only; rw [ht]; exact hW⟩, hS.F ht⟩) hS.2.2 dX10_line_115
          by_cases c53_3 : p3 = 3
          · refine lv_tableIn (tgt := 116) (off := 63) hx hb dX10_line_53 (by rw [c53_3]; decide) (by rw [c53_3]; decide) (by rw [c53_3]; rfl) (by decide) ?_
            refine lv_aload_n hx hb dX10_line_116 rfl (lv_at hl 1 rfl) ?_
            refine va_get (D := eD E) (cl := vwCl) (tys := eT E) (ci := 9) (C := RX10) (T := TX10) (N := 12) (v := .ref (eC E 24)) hx hb hts hinX10 hown hE.1 hW.1 11 rfl rfl 9 (by decide) (hts (.fieldLink RX10 65 "DialGarden" "firstNumbers" "LDialGarden$Range;") (by decide +kernel)) (fun _ h9 => h9) rfl dX10_line_117 ?_
            refine k_Si (va_runV (As := []) (rest := []) ⟨hx, hb, hml, hown, hts⟩ (c_X4_leastOrNone_24 l E M S49) (cwV 0 hts gX10_line_X4_leastOrNone rfl rfl rfl (by decide +kernel) ⟨Nat.le_of_ble_eq_true rfl, Nat.le_of_ble_eq_true rfl⟩) (gP.V (ci := 4) (q := (RX4, TX4, 3)) (q0 := 35) hE hS hW rfl rfl) rfl rfl hl.1 rfl (lv_room (Nat.le_of_ble_eq_true rfl)) dX10_line_120 ⟨Nat.le_of_ble_eq_true rfl, Nat.le_of_ble_eq_true rfl⟩) (fun r120 er120 => ?_)
            exact W.iret (v := r120) hx hb hr (fun t ht _ => ⟨⟨r120, S49, rfl, by subst er120; subst er20; subst er8; subst er1; first | (simp only [q_X10_line, if_neg c4, if_neg c11, if_neg c23, if_neg c53_0, if_neg c53_1, if_neg c53_2, if_pos c53_3, ← er32, ← eS49]; done) | contradiction, by dsimp only; rw [ht]; exact hW⟩, hS.F ht⟩) hS.2.2 dX10_line_123
          by_cases c53_4 : p3 = 4
          · refine lv_tableIn (tgt := 124) (off := 71) hx hb dX10_line_53 (by rw [c53_4]; decide) (by rw [c53_4]; decide) (by rw [c53_4]; rfl) (by decide) ?_
            refine lv_aload_n hx hb dX10_line_124 rfl (lv_at hl 1 rfl) ?_
            refine va_get (D := eD E) (cl := vwCl) (tys := eT E) (ci := 9) (C := RX10) (T := TX10) (N := 12) (v := .ref (eC E 24)) hx hb hts hinX10 hown hE.1 hW.1 11 rfl rfl 9 (by decide) (hts (.fieldLink RX10 65 "DialGarden" "firstNumbers" "LDialGarden$Range;") (by decide +kernel)) (fun _ h9 => h9) rfl dX10_line_125 ?_
            refine k_Si (va_runV (As := []) (rest := []) ⟨hx, hb, hml, hown, hts⟩ (c_X4_greatestOrNone_24 l E M S49) (cwV 0 hts gX10_line_X4_greatestOrNone rfl rfl rfl (by decide +kernel) ⟨Nat.le_of_ble_eq_true rfl, Nat.le_of_ble_eq_true rfl⟩) (gP.V (ci := 4) (q := (RX4, TX4, 3)) (q0 := 35) hE hS hW rfl rfl) rfl rfl hl.1 rfl (lv_room (Nat.le_of_ble_eq_true rfl)) dX10_line_128 ⟨Nat.le_of_ble_eq_true rfl, Nat.le_of_ble_eq_true rfl⟩) (fun r128 er128 => ?_)
            exact W.iret (v := r128) hx hb hr (fun t ht _ => ⟨⟨r128, S49, rfl, by subst er128; subst er20; subst er8; subst er1; first | (simp only [q_X10_line, if_neg c4, if_neg c11, if_neg c23, if_neg c53_0, if_neg c53_1, if_neg c53_2, if_neg c53_3, if_pos c53_4, ← er32, ← eS49]; done) | contradiction, by dsimp only; rw [ht]; exact hW⟩, hS.F ht⟩) hS.2.2 dX10_line_131
          by_cases c53_5 : p3 = 5
          · refine lv_tableIn (tgt := 132) (off := 79) hx hb dX10_line_53 (by rw [c53_5]; decide) (by rw [c53_5]; decide) (by rw [c53_5]; rfl) (by decide) ?_
            refine lv_aload_n hx hb dX10_line_132 rfl (lv_at hl 1 rfl) ?_
            refine va_get (D := eD E) (cl := vwCl) (tys := eT E) (ci := 9) (C := RX10) (T := TX10) (N := 12) (v := .ref (eC E 25)) hx hb hts hinX10 hown hE.1 hW.1 11 rfl rfl 10 (by decide) (hts (.fieldLink RX10 68 "DialGarden" "secondNumbers" "LDialGarden$Range;") (by decide +kernel)) (fun _ h9 => h9) rfl dX10_line_133 ?_
            refine k_Si (va_runV (As := []) (rest := []) ⟨hx, hb, hml, hown, hts⟩ (c_X4_leastOrNone_25 l E M S49) (cwV 0 hts gX10_line_X4_leastOrNone rfl rfl rfl (by decide +kernel) ⟨Nat.le_of_ble_eq_true rfl, Nat.le_of_ble_eq_true rfl⟩) (gP.V (ci := 4) (q := (RX4, TX4, 3)) (q0 := 36) hE hS hW rfl rfl) rfl rfl hl.1 rfl (lv_room (Nat.le_of_ble_eq_true rfl)) dX10_line_136 ⟨Nat.le_of_ble_eq_true rfl, Nat.le_of_ble_eq_true rfl⟩) (fun r136 er136 => ?_)
            exact W.iret (v := r136) hx hb hr (fun t ht _ => ⟨⟨r136, S49, rfl, by subst er136; subst er20; subst er8; subst er1; first | (simp only [q_X10_line, if_neg c4, if_neg c11, if_neg c23, if_neg c53_0, if_neg c53_1, if_neg c53_2, if_neg c53_3, if_neg c53_4, if_pos c53_5, ← er32, ← eS49]; done) | contradiction, by dsimp only; rw [ht]; exact hW⟩, hS.F ht⟩) hS.2.2 dX10_line_139
          refine lv_tableOut (tgt := 140) hx hb dX10_line_53 (sw_out5 c53_0 c53_1 c53_2 c53_3 c53_4 c53_5) (by decide) ?_
          refine lv_aload_n hx hb dX10_line_140 rfl (lv_at hl 1 rfl) ?_
          refine va_get (D := eD E) (cl := vwCl) (tys := eT E) (ci := 9) (C := RX10) (T := TX10) (N := 12) (v := .ref (eC E 25)) hx hb hts hinX10 hown hE.1 hW.1 11 rfl rfl 10 (by decide) (hts (.fieldLink RX10 68 "DialGarden" "secondNumbers" "LDialGarden$Range;") (by decide +kernel)) (fun _ h9 => h9) rfl dX10_line_141 ?_
          refine k_Si (va_runV (As := []) (rest := []) ⟨hx, hb, hml, hown, hts⟩ (c_X4_greatestOrNone_25 l E M S49) (cwV 0 hts gX10_line_X4_greatestOrNone rfl rfl rfl (by decide +kernel) ⟨Nat.le_of_ble_eq_true rfl, Nat.le_of_ble_eq_true rfl⟩) (gP.V (ci := 4) (q := (RX4, TX4, 3)) (q0 := 36) hE hS hW rfl rfl) rfl rfl hl.1 rfl (lv_room (Nat.le_of_ble_eq_true rfl)) dX10_line_144 ⟨Nat.le_of_ble_eq_true rfl, Nat.le_of_ble_eq_true rfl⟩) (fun r144 er144 => ?_)
          exact W.iret (v := r144) hx hb hr (fun t ht _ => ⟨⟨r144, S49, rfl, by subst er144; subst er20; subst er8; subst er1; first | (simp only [q_X10_line, if_neg c4, if_neg c11, if_neg c23, if_neg c53_0, if_neg c53_1, if_neg c53_2, if_neg c53_3, if_neg c53_4, if_neg c53_5, ← er32, ← eS49]; done) | contradiction, by dsimp only; rw [ht]; exact hW⟩, hS.F ht⟩) hS.2.2 dX10_line_147
      · refine lv_ldc hx hb (v := (-2000000001)) hown (hts (.constant RX10 86 (-2000000001)) (by decide +kernel)) dX10_line_26 ?_
        exact W.iret (v := (-2000000001)) hx hb hr (fun t ht _ => ⟨⟨(-2000000001), S, rfl, by subst er20; subst er8; subst er1; first | (simp only [q_X10_line, if_neg c4, if_neg c11, if_pos c23]; done) | contradiction, by dsimp only; rw [ht]; exact hW⟩, hS.F ht⟩) hS.2.2 dX10_line_28
