def q_X10_end (S : gSc) (p1 : Int32) (p2 : Int32) (p3 : Int32) (p4 : Int32) : Int32 × gSc := (let r1 := q_X10_isPlace p1; (if r1 = 0 then ((-2000000001), S) else (let r9 := q_X10_isTime p2 p3; (if r9 = 0 then ((-2000000001), S) else (let r20 := q_X10_within (p4.toInt64) 0 1; (if r20 = 0 then ((-2000000001), S) else (match q_X10_dialAt S p1 0 with | none => ((-2000000002), S) | some a32 => (let r50 := (q_X10_stateOf S a32 p2 p3).1; let S50 := (q_X10_stateOf S a32 p2 p3).2; (if r50 = 0 then (if p4 = 0 then (S50.1 7 12, S50) else (S50.1 7 13, S50)) else ((-2000000005), S50))))))))))
set_option maxHeartbeats 4000000 in
set_option maxRecDepth 100000 in
theorem c_X10_end (l : Launch) (E : gEE) (M : gSm) (S : gSc) (p1 : Int32) (p2 : Int32) (p3 : Int32) (p4 : Int32) (hT : okR S 3 40) (hH : okH S) (hkn0 : 0 ≤ (S.1 1 1).toInt) (hkn : (S.1 1 1).toInt ≤ 366) : Met l yX10_end wsX10_end ({ frames := 6, cells := 0, slots := 0, locals := 137 }) (va_Pc [.ref (eC E 0), .int (p1), .int (p2), .int (p3), .int (p4)] (gP E M S)) (va_Qi (fun r (u : gSc) => (r, u) = q_X10_end S p1 p2 p3 p4) (fun u t => gW E M u t.heap) (eA E)) 0 0 (eA E) := by
  refine Met.ofW (cc := cX10_end) (maxL := 6) (ret := (some .int)) (by decide) rfl ?_
  intro p e s m args below meth c s₁ B hml hv
  obtain ⟨rfl, hE, hW⟩ := hv
  have hx := B.exec
  have hb := B.bytes
  have hr := B.returns
  have hts := atoms_spec (ws := wsX10_end) B.pre
  have hown : s.vm.findClass RX10 = some m.cls := findClass_of_methodNamed B.named
  have hlocks := B.notSynchronized
  have hinX10 : ∀ w ∈ wsX100, w ∈ wsX10_end := by decide +kernel
  have hinX6 : ∀ w ∈ wsX60, w ∈ wsX10_end := by decide +kernel
  have hS : va_S (eA E) s.heap s.heap [] := va_S.rf
  have hl := lv_entry ([.ref (eC E 0), .int (p1), .int (p2), .int (p3), .int (p4)]) (n := 6) (Nat.le_of_ble_eq_true rfl)
  rw [lg_entry_eq]
  generalize (lg_sl ([.ref (eC E 0), .int (p1), .int (p2), .int (p3), .int (p4)]) ++ List.replicate (6 - (lg_sl ([.ref (eC E 0), .int (p1), .int (p2), .int (p3), .int (p4)])).length) Slot.unset).toArray = ls at hl ⊢
  have hl : lv_has ls 6 [(0, .ref (eC E 0)), (1, .int (p1)), (2, .int (p2)), (3, .int (p3)), (4, .int (p4))] := hl
  have hS : ∃ (H : Heap) (locs : List Loc), H = s.heap ∧ locs = [] ∧ gW E M S H ∧ va_S (eA E) s.heap H locs := ⟨_, _, rfl, rfl, hW, hS⟩
  clear hW
  obtain ⟨H, locs, eH, el, hW, hS⟩ := hS
  rw [← eH, ← el]
  clear eH el
  refine lv_iload_n hx hb dX10_end_0 rfl (lv_at hl 1 rfl) ?_
  refine k_Si (va_runS (As := [.int (p1)]) (rest := []) ⟨hx, hb, hml, hown, hts⟩ (c_X10_isPlace l p1) (va_cwS 1 hts gX10_end_X10_isPlace rfl rfl rfl (by decide +kernel) ⟨Nat.le_of_ble_eq_true rfl, Nat.le_of_ble_eq_true rfl⟩) gP0 rfl rfl hl.1 rfl (lv_room (Nat.le_of_ble_eq_true rfl)) dX10_end_1 ⟨Nat.le_of_ble_eq_true rfl, Nat.le_of_ble_eq_true rfl⟩) (fun r1 er1 => ?_)
  refine lv_if_eq (tgt := 26) hx hb dX10_end_4 (by decide) (fun c4 => ?_) (fun c4 => ?_)
  · refine lv_ldc hx hb (v := (-2000000001)) hown (hts (.constant RX10 86 (-2000000001)) (by decide +kernel)) dX10_end_26 ?_
    exact W.iret (v := (-2000000001)) hx hb hr (fun t ht _ => ⟨⟨(-2000000001), S, rfl, by subst er1; first | (simp only [q_X10_end, if_pos c4]; done) | contradiction, by dsimp only; rw [ht]; exact hW⟩, hS.F ht⟩) hS.2.2 dX10_end_28
  · refine lv_iload_n hx hb dX10_end_7 rfl (lv_at hl 2 rfl) ?_
    refine lv_iload_n hx hb dX10_end_8 rfl (lv_at hl 3 rfl) ?_
    refine k_Si (va_runS (As := [.int (p2), .int (p3)]) (rest := []) ⟨hx, hb, hml, hown, hts⟩ (c_X10_isTime l p2 p3) (va_cwS 2 hts gX10_end_X10_isTime rfl rfl rfl (by decide +kernel) ⟨Nat.le_of_ble_eq_true rfl, Nat.le_of_ble_eq_true rfl⟩) gP0 rfl rfl hl.1 rfl (lv_room (Nat.le_of_ble_eq_true rfl)) dX10_end_9 ⟨Nat.le_of_ble_eq_true rfl, Nat.le_of_ble_eq_true rfl⟩) (fun r9 er9 => ?_)
    refine lv_if_eq (tgt := 26) hx hb dX10_end_12 (by decide) (fun c12 => ?_) (fun c12 => ?_)
    · refine lv_ldc hx hb (v := (-2000000001)) hown (hts (.constant RX10 86 (-2000000001)) (by decide +kernel)) dX10_end_26 ?_
      exact W.iret (v := (-2000000001)) hx hb hr (fun t ht _ => ⟨⟨(-2000000001), S, rfl, by subst er9; subst er1; first | (simp only [q_X10_end, if_neg c4, if_pos c12]; done) | contradiction, by dsimp only; rw [ht]; exact hW⟩, hS.F ht⟩) hS.2.2 dX10_end_28
    · refine lv_iload hx hb dX10_end_15 (lv_at hl 4 rfl) ?_
      refine lv_i2l (v := p4.toInt64) hx hb dX10_end_17 rfl ?_
      refine lv_lconst (v := 0) hx hb dX10_end_18 (by decide) ?_
      refine lv_lconst (v := 1) hx hb dX10_end_19 (by decide) ?_
      refine k_Si (va_runS (As := [.long (p4.toInt64), .long (0), .long (1)]) (rest := []) ⟨hx, hb, hml, hown, hts⟩ (c_X10_within l (p4.toInt64) 0 1) (va_cwS 3 hts gX10_end_X10_within rfl rfl rfl (by decide +kernel) ⟨Nat.le_of_ble_eq_true rfl, Nat.le_of_ble_eq_true rfl⟩) gP0 rfl rfl hl.1 rfl (lv_room (Nat.le_of_ble_eq_true rfl)) dX10_end_20 ⟨Nat.le_of_ble_eq_true rfl, Nat.le_of_ble_eq_true rfl⟩) (fun r20 er20 => ?_)
      refine lv_if_ne (tgt := 29) hx hb dX10_end_23 (by decide) (fun c23 => ?_) (fun c23 => ?_)
      · refine lv_aload_n hx hb dX10_end_29 rfl (lv_at hl 0 rfl) ?_
        refine lv_iload_n hx hb dX10_end_30 rfl (lv_at hl 1 rfl) ?_
        refine lv_iconst (v := 0) hx hb dX10_end_31 (by decide) ?_
        refine k_Sq (va_runV (As := [.int (p1), .int (0)]) (rest := []) ⟨hx, hb, hml, hown, hts⟩ (c_X10_dialAt l E M S p1 0 hT) (cwV 2 hts gX10_end_X10_dialAt rfl rfl rfl (by decide +kernel) ⟨Nat.le_of_ble_eq_true rfl, Nat.le_of_ble_eq_true rfl⟩) (gP.V (ci := 9) (q := (RX10, TX10, 12)) (q0 := 11) hE hS hW rfl rfl) rfl rfl hl.1 rfl (lv_room (Nat.le_of_ble_eq_true rfl)) dX10_end_32 ⟨Nat.le_of_ble_eq_true rfl, Nat.le_of_ble_eq_true rfl⟩) (fun r32 er32 => ?_)
        rcases r32 with _ | a32
        · refine lv_astoreN (lv' := [(5, .null), (0, .ref (eC E 0)), (1, .int (p1)), (2, .int (p2)), (3, .int (p3)), (4, .int (p4))]) hx hb dX10_end_35 hl (by decide) rfl (fun ls hl => ?_)
          refine lv_aloadN hx hb dX10_end_37 (lv_at hl 0 rfl) ?_
          refine lv_ifnonnullN hx hb dX10_end_39 ?_
          refine lv_ldc hx hb (v := (-2000000002)) hown (hts (.constant RX10 176 (-2000000002)) (by decide +kernel)) dX10_end_42 ?_
          exact W.iret (v := (-2000000002)) hx hb hr (fun t ht _ => ⟨⟨(-2000000002), S, rfl, by subst er20; subst er9; subst er1; first | (simp only [q_X10_end, if_neg c4, if_neg c12, if_neg c23, ← er32]; done) | contradiction, by dsimp only; rw [ht]; exact hW⟩, hS.F ht⟩) hS.2.2 dX10_end_44
        · have hL32 := (da_of hT er32).1
          have hK32 := (da_of hT er32).2
          refine lv_astore (lv' := [(5, .ref (a32)), (0, .ref (eC E 0)), (1, .int (p1)), (2, .int (p2)), (3, .int (p3)), (4, .int (p4))]) hx hb dX10_end_35 hl (by decide) rfl (fun ls hl => ?_)
          refine lv_aload hx hb dX10_end_37 (lv_at hl 0 rfl) ?_
          refine lv_ifnonnull (tgt := 45) hx hb dX10_end_39 (by decide) ?_
          refine lv_aload_n hx hb dX10_end_45 rfl (lv_at hl 1 rfl) ?_
          refine lv_aload hx hb dX10_end_46 (lv_at hl 0 rfl) ?_
          refine lv_iload_n hx hb dX10_end_48 rfl (lv_at hl 3 rfl) ?_
          refine lv_iload_n hx hb dX10_end_49 rfl (lv_at hl 4 rfl) ?_
          refine va_calli (va_runV (As := [.ref (a32), .int (p2), .int (p3)]) (rest := []) ⟨hx, hb, hml, hown, hts⟩ (c_X10_stateOf l E M S a32 p2 p3 hL32 hK32 hT hH hkn0 hkn) (cwV 3 hts gX10_end_X10_stateOf rfl rfl rfl (by decide +kernel) ⟨Nat.le_of_ble_eq_true rfl, Nat.le_of_ble_eq_true rfl⟩) (gP.V (ci := 9) (q := (RX10, TX10, 12)) (q0 := 11) hE hS hW rfl rfl) rfl rfl hl.1 rfl (lv_room (Nat.le_of_ble_eq_true rfl)) dX10_end_50 ⟨Nat.le_of_ble_eq_true rfl, Nat.le_of_ble_eq_true rfl⟩) hS (fun _ _ h => h) (fun _ h => h) (fun r50 S50 t H locs ht hvm hw hB hz1 hk1 hS => ?_)
          obtain ⟨er50, eS50⟩ := prj hw
          clear hw
          have hW : gW E M S50 H := by rw [← ht]; exact hB
          refine lv_if_eq (tgt := 59) hx hb dX10_end_53 (by decide) (fun c53 => ?_) (fun c53 => ?_)
          · refine lv_iload hx hb dX10_end_59 (lv_at hl 5 rfl) ?_
            refine lv_if_ne (tgt := 74) hx hb dX10_end_61 (by decide) (fun c61 => ?_) (fun c61 => ?_)
            · refine lv_aload_n hx hb dX10_end_74 rfl (lv_at hl 1 rfl) ?_
              refine va_get (D := eD E) (cl := vwCl) (tys := eT E) (ci := 9) (C := RX10) (T := TX10) (N := 12) (v := .ref (eC E 7)) hx hb hts hinX10 hown hE.1 hW.1 11 rfl rfl 3 (by decide) (hts (.fieldLink RX10 32 "DialGarden" "shade" "LDialGarden$Shade;") (by decide +kernel)) (fun _ h9 => h9) rfl dX10_end_75 ?_
              refine va_getN (D := eD E) (cl := vwCl) (tys := eT E) (ci := 6) (C := RX6) (T := TX6) (N := 13) (v := .int (S50.1 7 13)) hx hb hts hinX6 hown hE.1 hW.1 18 rfl rfl 12 (by decide) (va_Nw.use rfl (hE.2.2.1 (.fieldLinkNest "DialGarden" 239 "DialGarden$Shade" "endY" "I" "DialGarden") (by decide +kernel))) (fun _ h9 => h9) rfl dX10_end_78 ?_
              exact W.iret (v := S50.1 7 13) hx hb hr (fun t ht _ => ⟨⟨S50.1 7 13, S50, rfl, by subst er20; subst er9; subst er1; first | (simp only [q_X10_end, if_neg c4, if_neg c12, if_neg c23, if_pos c53, if_neg c61, ← er32, ← er50, ← eS50]; done) | contradiction, by dsimp only; rw [ht]; exact hW⟩, hS.F ht⟩) hS.2.2 dX10_end_81
            · refine lv_aload_n hx hb dX10_end_64 rfl (lv_at hl 1 rfl) ?_
              refine va_get (D := eD E) (cl := vwCl) (tys := eT E) (ci := 9) (C := RX10) (T := TX10) (N := 12) (v := .ref (eC E 7)) hx hb hts hinX10 hown hE.1 hW.1 11 rfl rfl 3 (by decide) (hts (.fieldLink RX10 32 "DialGarden" "shade" "LDialGarden$Shade;") (by decide +kernel)) (fun _ h9 => h9) rfl dX10_end_65 ?_
              refine va_getN (D := eD E) (cl := vwCl) (tys := eT E) (ci := 6) (C := RX6) (T := TX6) (N := 13) (v := .int (S50.1 7 12)) hx hb hts hinX6 hown hE.1 hW.1 18 rfl rfl 11 (by decide) (va_Nw.use rfl (hE.2.2.1 (.fieldLinkNest "DialGarden" 236 "DialGarden$Shade" "endX" "I" "DialGarden") (by decide +kernel))) (fun _ h9 => h9) rfl dX10_end_68 ?_
              refine lv_goto (tgt := 81) hx hb dX10_end_71 (by decide) ?_
              exact W.iret (v := S50.1 7 12) hx hb hr (fun t ht _ => ⟨⟨S50.1 7 12, S50, rfl, by subst er20; subst er9; subst er1; first | (simp only [q_X10_end, if_neg c4, if_neg c12, if_neg c23, if_pos c53, if_pos c61, ← er32, ← er50, ← eS50]; done) | contradiction, by dsimp only; rw [ht]; exact hW⟩, hS.F ht⟩) hS.2.2 dX10_end_81
          · refine lv_ldc hx hb (v := (-2000000005)) hown (hts (.constant RX10 235 (-2000000005)) (by decide +kernel)) dX10_end_56 ?_
            exact W.iret (v := (-2000000005)) hx hb hr (fun t ht _ => ⟨⟨(-2000000005), S50, rfl, by subst er20; subst er9; subst er1; first | (simp only [q_X10_end, if_neg c4, if_neg c12, if_neg c23, if_neg c53, ← er32, ← er50, ← eS50]; done) | contradiction, by dsimp only; rw [ht]; exact hW⟩, hS.F ht⟩) hS.2.2 dX10_end_58
      · refine lv_ldc hx hb (v := (-2000000001)) hown (hts (.constant RX10 86 (-2000000001)) (by decide +kernel)) dX10_end_26 ?_
        exact W.iret (v := (-2000000001)) hx hb hr (fun t ht _ => ⟨⟨(-2000000001), S, rfl, by subst er20; subst er9; subst er1; first | (simp only [q_X10_end, if_neg c4, if_neg c12, if_pos c23]; done) | contradiction, by dsimp only; rw [ht]; exact hW⟩, hS.F ht⟩) hS.2.2 dX10_end_28
