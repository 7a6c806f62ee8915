def q_X10_read (S : gSc) (p1 : Int32) (p2 : Int32) (p3 : Int32) (p4 : Int32) : Int32 × gSc := (let r1 := q_X10_isPlace p1; (if r1 = 0 then ((-2000000001), S) else (let r9 := q_X10_isTime p2 p3; (if r9 = 0 then ((-2000000001), S) else (let r22 := q_X10_within (p4.toInt64) 0 2; (if r22 = 0 then ((-2000000001), S) else (match q_X10_dialAt S p1 0 with | none => ((-2000000002), S) | some a34 => (let S57 := q_X6_setUp S a34; (let S64 := q_X10_setMarks S57 a34 p2; (let r71 := (q_X10_hasReading S64 a34 p3).1; let S71 := (q_X10_hasReading S64 a34 p3).2; (if r71 = 0 then ((-2000000005), S71) else (if p4 = 0 then (S71.1 13 4, S71) else if p4 = 1 then (S71.1 13 5, S71) else (S71.1 13 6, S71)))))))))))))
set_option maxHeartbeats 4000000 in
set_option maxRecDepth 100000 in
theorem c_X10_read (l : Launch) (E : gEE) (M : gSm) (S : gSc) (p1 : Int32) (p2 : Int32) (p3 : Int32) (p4 : Int32) (hT : okR S 3 40) (hH : okH S) (hkn0 : 0 ≤ (S.1 1 1).toInt) (hkn : (S.1 1 1).toInt ≤ 366) : Met l yX10_read wsX10_read ({ frames := 5, cells := 0, slots := 0, locals := 117 }) (va_Pc [.ref (eC E 0), .int (p1), .int (p2), .int (p3), .int (p4)] (gP E M S)) (va_Qi (fun r (u : gSc) => (r, u) = q_X10_read S p1 p2 p3 p4) (fun u t => gW E M u t.heap) (eA E)) 0 0 (eA E) := by
  refine Met.ofW (cc := cX10_read) (maxL := 6) (ret := (some .int)) (by decide) rfl ?_
  intro p e s m args below meth c s₁ B hml hv
  obtain ⟨rfl, hE, hW⟩ := hv
  have hx := B.exec
  have hb := B.bytes
  have hr := B.returns
  have hts := atoms_spec (ws := wsX10_read) B.pre
  have hown : s.vm.findClass RX10 = some m.cls := findClass_of_methodNamed B.named
  have hlocks := B.notSynchronized
  have hinX10 : ∀ w ∈ wsX100, w ∈ wsX10_read := by decide +kernel
  have hinX3 : ∀ w ∈ wsX30, w ∈ wsX10_read := by decide +kernel
  have hS : va_S (eA E) s.heap s.heap [] := va_S.rf
  have hl := lv_entry ([.ref (eC E 0), .int (p1), .int (p2), .int (p3), .int (p4)]) (n := 6) (Nat.le_of_ble_eq_true rfl)
  rw [lg_entry_eq]
  generalize (lg_sl ([.ref (eC E 0), .int (p1), .int (p2), .int (p3), .int (p4)]) ++ List.replicate (6 - (lg_sl ([.ref (eC E 0), .int (p1), .int (p2), .int (p3), .int (p4)])).length) Slot.unset).toArray = ls at hl ⊢
  have hl : lv_has ls 6 [(0, .ref (eC E 0)), (1, .int (p1)), (2, .int (p2)), (3, .int (p3)), (4, .int (p4))] := hl
  have hS : ∃ (H : Heap) (locs : List Loc), H = s.heap ∧ locs = [] ∧ gW E M S H ∧ va_S (eA E) s.heap H locs := ⟨_, _, rfl, rfl, hW, hS⟩
  clear hW
  obtain ⟨H, locs, eH, el, hW, hS⟩ := hS
  rw [← eH, ← el]
  clear eH el
  refine lv_iload_n hx hb dX10_read_0 rfl (lv_at hl 1 rfl) ?_
  refine k_Si (va_runS (As := [.int (p1)]) (rest := []) ⟨hx, hb, hml, hown, hts⟩ (c_X10_isPlace l p1) (va_cwS 1 hts gX10_read_X10_isPlace rfl rfl rfl (by decide +kernel) ⟨Nat.le_of_ble_eq_true rfl, Nat.le_of_ble_eq_true rfl⟩) gP0 rfl rfl hl.1 rfl (lv_room (Nat.le_of_ble_eq_true rfl)) dX10_read_1 ⟨Nat.le_of_ble_eq_true rfl, Nat.le_of_ble_eq_true rfl⟩) (fun r1 er1 => ?_)
  refine lv_if_eq (tgt := 28) hx hb dX10_read_4 (by decide) (fun c4 => ?_) (fun c4 => ?_)
  · refine lv_ldc hx hb (v := (-2000000001)) hown (hts (.constant RX10 86 (-2000000001)) (by decide +kernel)) dX10_read_28 ?_
    exact W.iret (v := (-2000000001)) hx hb hr (fun t ht _ => ⟨⟨(-2000000001), S, rfl, by subst er1; first | (simp only [q_X10_read, if_pos c4]; done) | contradiction, by dsimp only; rw [ht]; exact hW⟩, hS.F ht⟩) hS.2.2 dX10_read_30
  · refine lv_iload_n hx hb dX10_read_7 rfl (lv_at hl 2 rfl) ?_
    refine lv_iload_n hx hb dX10_read_8 rfl (lv_at hl 3 rfl) ?_
    refine k_Si (va_runS (As := [.int (p2), .int (p3)]) (rest := []) ⟨hx, hb, hml, hown, hts⟩ (c_X10_isTime l p2 p3) (va_cwS 2 hts gX10_read_X10_isTime rfl rfl rfl (by decide +kernel) ⟨Nat.le_of_ble_eq_true rfl, Nat.le_of_ble_eq_true rfl⟩) gP0 rfl rfl hl.1 rfl (lv_room (Nat.le_of_ble_eq_true rfl)) dX10_read_9 ⟨Nat.le_of_ble_eq_true rfl, Nat.le_of_ble_eq_true rfl⟩) (fun r9 er9 => ?_)
    refine lv_if_eq (tgt := 28) hx hb dX10_read_12 (by decide) (fun c12 => ?_) (fun c12 => ?_)
    · refine lv_ldc hx hb (v := (-2000000001)) hown (hts (.constant RX10 86 (-2000000001)) (by decide +kernel)) dX10_read_28 ?_
      exact W.iret (v := (-2000000001)) hx hb hr (fun t ht _ => ⟨⟨(-2000000001), S, rfl, by subst er9; subst er1; first | (simp only [q_X10_read, if_neg c4, if_pos c12]; done) | contradiction, by dsimp only; rw [ht]; exact hW⟩, hS.F ht⟩) hS.2.2 dX10_read_30
    · refine lv_iload hx hb dX10_read_15 (lv_at hl 4 rfl) ?_
      refine lv_i2l (v := p4.toInt64) hx hb dX10_read_17 rfl ?_
      refine lv_lconst (v := 0) hx hb dX10_read_18 (by decide) ?_
      refine lv_ldc2 hx hb (v := 2) hown (hts (.constantLong RX10 257 (2)) (by decide +kernel)) dX10_read_19 ?_
      refine k_Si (va_runS (As := [.long (p4.toInt64), .long (0), .long (2)]) (rest := []) ⟨hx, hb, hml, hown, hts⟩ (c_X10_within l (p4.toInt64) 0 2) (va_cwS 3 hts gX10_read_X10_within rfl rfl rfl (by decide +kernel) ⟨Nat.le_of_ble_eq_true rfl, Nat.le_of_ble_eq_true rfl⟩) gP0 rfl rfl hl.1 rfl (lv_room (Nat.le_of_ble_eq_true rfl)) dX10_read_22 ⟨Nat.le_of_ble_eq_true rfl, Nat.le_of_ble_eq_true rfl⟩) (fun r22 er22 => ?_)
      refine lv_if_ne (tgt := 31) hx hb dX10_read_25 (by decide) (fun c25 => ?_) (fun c25 => ?_)
      · refine lv_aload_n hx hb dX10_read_31 rfl (lv_at hl 0 rfl) ?_
        refine lv_iload_n hx hb dX10_read_32 rfl (lv_at hl 1 rfl) ?_
        refine lv_iconst (v := 0) hx hb dX10_read_33 (by decide) ?_
        refine k_Sq (va_runV (As := [.int (p1), .int (0)]) (rest := []) ⟨hx, hb, hml, hown, hts⟩ (c_X10_dialAt l E M S p1 0 hT) (cwV 2 hts gX10_read_X10_dialAt rfl rfl rfl (by decide +kernel) ⟨Nat.le_of_ble_eq_true rfl, Nat.le_of_ble_eq_true rfl⟩) (gP.V (ci := 9) (q := (RX10, TX10, 12)) (q0 := 11) hE hS hW rfl rfl) rfl rfl hl.1 rfl (lv_room (Nat.le_of_ble_eq_true rfl)) dX10_read_34 ⟨Nat.le_of_ble_eq_true rfl, Nat.le_of_ble_eq_true rfl⟩) (fun r34 er34 => ?_)
        rcases r34 with _ | a34
        · refine lv_astoreN (lv' := [(5, .null), (0, .ref (eC E 0)), (1, .int (p1)), (2, .int (p2)), (3, .int (p3)), (4, .int (p4))]) hx hb dX10_read_37 hl (by decide) rfl (fun ls hl => ?_)
          refine lv_aloadN hx hb dX10_read_39 (lv_at hl 0 rfl) ?_
          refine lv_ifnonnullN hx hb dX10_read_41 ?_
          refine lv_ldc hx hb (v := (-2000000002)) hown (hts (.constant RX10 176 (-2000000002)) (by decide +kernel)) dX10_read_44 ?_
          exact W.iret (v := (-2000000002)) hx hb hr (fun t ht _ => ⟨⟨(-2000000002), S, rfl, by subst er22; subst er9; subst er1; first | (simp only [q_X10_read, if_neg c4, if_neg c12, if_neg c25, ← er34]; done) | contradiction, by dsimp only; rw [ht]; exact hW⟩, hS.F ht⟩) hS.2.2 dX10_read_46
        · have hL34 := (da_of hT er34).1
          have hK34 := (da_of hT er34).2
          refine lv_astore (lv' := [(5, .ref (a34)), (0, .ref (eC E 0)), (1, .int (p1)), (2, .int (p2)), (3, .int (p3)), (4, .int (p4))]) hx hb dX10_read_37 hl (by decide) rfl (fun ls hl => ?_)
          refine lv_aload hx hb dX10_read_39 (lv_at hl 0 rfl) ?_
          refine lv_ifnonnull (tgt := 47) hx hb dX10_read_41 (by decide) ?_
          refine lv_aload_n hx hb dX10_read_47 rfl (lv_at hl 1 rfl) ?_
          refine va_get (D := eD E) (cl := vwCl) (tys := eT E) (ci := 9) (C := RX10) (T := TX10) (N := 12) (v := .ref (eC E 7)) hx hb hts hinX10 hown hE.1 hW.1 11 rfl rfl 3 (by decide) (hts (.fieldLink RX10 32 "DialGarden" "shade" "LDialGarden$Shade;") (by decide +kernel)) (fun _ h9 => h9) rfl dX10_read_48 ?_
          refine lv_aload hx hb dX10_read_51 (lv_at hl 0 rfl) ?_
          refine lv_aload_n hx hb dX10_read_53 rfl (lv_at hl 1 rfl) ?_
          refine va_get (D := eD E) (cl := vwCl) (tys := eT E) (ci := 9) (C := RX10) (T := TX10) (N := 12) (v := .ref (eC E 3)) hx hb hts hinX10 hown hE.1 hW.1 11 rfl rfl 1 (by decide) (hts (.fieldLink RX10 18 "DialGarden" "things" "[LDialGarden$Thing;") (by decide +kernel)) (fun _ h9 => h9) rfl dX10_read_54 ?_
          refine va_callv (va_runV (As := [.ref (a34), .ref (eC E 3)]) (rest := []) ⟨hx, hb, hml, hown, hts⟩ (c_X6_setUp l E M S a34 hL34 hK34 hT) (cwV 2 hts gX10_read_X6_setUp rfl rfl rfl (by decide +kernel) ⟨Nat.le_of_ble_eq_true rfl, Nat.le_of_ble_eq_true rfl⟩) (gP.V (ci := 6) (q := (RX6, TX6, 13)) (q0 := 18) hE hS hW rfl rfl) rfl rfl hl.1 rfl (lv_room (Nat.le_of_ble_eq_true rfl)) dX10_read_57 ⟨Nat.le_of_ble_eq_true rfl, Nat.le_of_ble_eq_true rfl⟩) hS (fun _ _ h => h) (fun _ h => h) (fun S57 t H locs ht hvm hw hB hzz hkk hS => ?_)
          have eS57 : S57 = q_X6_setUp S a34 := hw
          clear hw
          have hW : gW E M S57 H := by rw [← ht]; exact hB
          have hpS57 : S57.2.2 = S.2.2 := by rw [eS57]; exact (qp_X6_setUp _ _)
          have kz57 : kZ S S57 := by rw [eS57]; exact su_kZ hT hH hkn0 hkn rfl rfl
          refine lv_aload_n hx hb dX10_read_60 rfl (lv_at hl 1 rfl) ?_
          refine lv_aload hx hb dX10_read_61 (lv_at hl 0 rfl) ?_
          refine lv_iload_n hx hb dX10_read_63 rfl (lv_at hl 3 rfl) ?_
          refine va_callv (va_runV (As := [.ref (a34), .int (p2)]) (rest := []) ⟨hx, hb, hml, hown, hts⟩ (c_X10_setMarks l E M S57 a34 p2 (by rw [hpS57]; exact hL34) (by rw [hpS57]; exact hK34) kz57.1.1 kz57.1.2.1 kz57.1.2.2 kz57.2.1.1 kz57.2.1.2) (cwV 2 hts gX10_read_X10_setMarks rfl rfl rfl (by decide +kernel) ⟨Nat.le_of_ble_eq_true rfl, Nat.le_of_ble_eq_true rfl⟩) (gP.V (ci := 9) (q := (RX10, TX10, 12)) (q0 := 11) hE hS hW rfl rfl) rfl rfl hl.1 rfl (lv_room (Nat.le_of_ble_eq_true rfl)) dX10_read_64 ⟨Nat.le_of_ble_eq_true rfl, Nat.le_of_ble_eq_true rfl⟩) hS (fun _ _ h => h) (fun _ h => h) (fun S64 t H locs ht hvm hw hB hzz hkk hS => ?_)
          have eS64 : S64 = q_X10_setMarks S57 a34 p2 := hw
          clear hw
          have hW : gW E M S64 H := by rw [← ht]; exact hB
          have hpS64 : S64.2.2 = S57.2.2 := by rw [eS64]; exact (qp_X10_setMarks _ _ _)
          have kz64 : kZ S S64 := kz57.st (by rw [eS64]; exact kw_setMarks _ _ _)
          have ms64 : 0 ≤ (S64.1 13 3).toInt ∧ (S64.1 13 3).toInt ≤ 24 := by rw [eS64]; exact ms_setMarks _ _ _
          refine lv_aload_n hx hb dX10_read_67 rfl (lv_at hl 1 rfl) ?_
          refine lv_aload hx hb dX10_read_68 (lv_at hl 0 rfl) ?_
          refine lv_iload_n hx hb dX10_read_70 rfl (lv_at hl 4 rfl) ?_
          refine va_calli (va_runV (As := [.ref (a34), .int (p3)]) (rest := []) ⟨hx, hb, hml, hown, hts⟩ (c_X10_hasReading l E M S64 a34 p3 (by rw [hpS64]; exact (by rw [hpS57]; exact hL34)) (by rw [hpS64]; exact (by rw [hpS57]; exact hK34)) kz64.1.1 kz64.1.2.1 kz64.1.2.2 kz64.2.1.1 kz64.2.1.2 ms64.1 ms64.2) (cwV 2 hts gX10_read_X10_hasReading rfl rfl rfl (by decide +kernel) ⟨Nat.le_of_ble_eq_true rfl, Nat.le_of_ble_eq_true rfl⟩) (gP.V (ci := 9) (q := (RX10, TX10, 12)) (q0 := 11) hE hS hW rfl rfl) rfl rfl hl.1 rfl (lv_room (Nat.le_of_ble_eq_true rfl)) dX10_read_71 ⟨Nat.le_of_ble_eq_true rfl, Nat.le_of_ble_eq_true rfl⟩) hS (fun _ _ h => h) (fun _ h => h) (fun r71 S71 t H locs ht hvm hw hB hzz hkk hS => ?_)
          obtain ⟨er71, eS71⟩ := prj hw
          clear hw
          have hW : gW E M S71 H := by rw [← ht]; exact hB
          have hpS71 : S71.2.2 = S64.2.2 := by rw [eS71]; exact (qp_X10_hasReading _ _ _)
          refine lv_if_ne (tgt := 80) hx hb dX10_read_74 (by decide) (fun c74 => ?_) (fun c74 => ?_)
          · refine lv_iload hx hb dX10_read_80 (lv_at hl 5 rfl) ?_
            by_cases c82_0 : p4 = 0
            · refine lv_lookup (tgt := 108) (off := 26) hx hb dX10_read_82 (by decide) (by rw [c82_0]; decide) (by decide) ?_
              refine lv_aload_n hx hb dX10_read_108 rfl (lv_at hl 1 rfl) ?_
              refine va_get (D := eD E) (cl := vwCl) (tys := eT E) (ci := 9) (C := RX10) (T := TX10) (N := 12) (v := .ref (eC E 13)) hx hb hts hinX10 hown hE.1 hW.1 11 rfl rfl 4 (by decide) (hts (.fieldLink RX10 39 "DialGarden" "marks" "LDialGarden$Marks;") (by decide +kernel)) (fun _ h9 => h9) rfl dX10_read_109 ?_
              refine va_getN (D := eD E) (cl := vwCl) (tys := eT E) (ci := 3) (C := RX3) (T := TX3) (N := 7) (v := .int (S71.1 13 4)) hx hb hts hinX3 hown hE.1 hW.1 24 rfl rfl 4 (by decide) (va_Nw.use rfl (hE.2.2.1 (.fieldLinkNest "DialGarden" 270 "DialGarden$Marks" "hourBefore" "I" "DialGarden") (by decide +kernel))) (fun _ h9 => h9) rfl dX10_read_112 ?_
              exact W.iret (v := S71.1 13 4) hx hb hr (fun t ht _ => ⟨⟨S71.1 13 4, S71, rfl, by subst er22; subst er9; subst er1; first | (simp only [q_X10_read, if_neg c4, if_neg c12, if_neg c25, if_neg c74, if_pos c82_0, ← er34, ← eS57, ← eS64, ← er71, ← eS71]; done) | contradiction, by dsimp only; rw [ht]; exact hW⟩, hS.F ht⟩) hS.2.2 dX10_read_115
            by_cases c82_1 : p4 = 1
            · refine lv_lookup (tgt := 116) (off := 34) hx hb dX10_read_82 (by decide) (by rw [c82_1]; decide) (by decide) ?_
              refine lv_aload_n hx hb dX10_read_116 rfl (lv_at hl 1 rfl) ?_
              refine va_get (D := eD E) (cl := vwCl) (tys := eT E) (ci := 9) (C := RX10) (T := TX10) (N := 12) (v := .ref (eC E 13)) hx hb hts hinX10 hown hE.1 hW.1 11 rfl rfl 4 (by decide) (hts (.fieldLink RX10 39 "DialGarden" "marks" "LDialGarden$Marks;") (by decide +kernel)) (fun _ h9 => h9) rfl dX10_read_117 ?_
              refine va_getN (D := eD E) (cl := vwCl) (tys := eT E) (ci := 3) (C := RX3) (T := TX3) (N := 7) (v := .int (S71.1 13 5)) hx hb hts hinX3 hown hE.1 hW.1 24 rfl rfl 5 (by decide) (va_Nw.use rfl (hE.2.2.1 (.fieldLinkNest "DialGarden" 273 "DialGarden$Marks" "hourBehind" "I" "DialGarden") (by decide +kernel))) (fun _ h9 => h9) rfl dX10_read_120 ?_
              exact W.iret (v := S71.1 13 5) hx hb hr (fun t ht _ => ⟨⟨S71.1 13 5, S71, rfl, by subst er22; subst er9; subst er1; first | (simp only [q_X10_read, if_neg c4, if_neg c12, if_neg c25, if_neg c74, if_neg c82_0, if_pos c82_1, ← er34, ← eS57, ← eS64, ← er71, ← eS71]; done) | contradiction, by dsimp only; rw [ht]; exact hW⟩, hS.F ht⟩) hS.2.2 dX10_read_123
            refine lv_lookup (tgt := 124) (off := 42) hx hb dX10_read_82 (by decide) ((lv_osw c82_0 (by decide)).trans ((lv_osw c82_1 (by decide)).trans rfl)) (by decide) ?_
            refine lv_aload_n hx hb dX10_read_124 rfl (lv_at hl 1 rfl) ?_
            refine va_get (D := eD E) (cl := vwCl) (tys := eT E) (ci := 9) (C := RX10) (T := TX10) (N := 12) (v := .ref (eC E 13)) hx hb hts hinX10 hown hE.1 hW.1 11 rfl rfl 4 (by decide) (hts (.fieldLink RX10 39 "DialGarden" "marks" "LDialGarden$Marks;") (by decide +kernel)) (fun _ h9 => h9) rfl dX10_read_125 ?_
            refine va_getN (D := eD E) (cl := vwCl) (tys := eT E) (ci := 3) (C := RX3) (T := TX3) (N := 7) (v := .int (S71.1 13 6)) hx hb hts hinX3 hown hE.1 hW.1 24 rfl rfl 6 (by decide) (va_Nw.use rfl (hE.2.2.1 (.fieldLinkNest "DialGarden" 276 "DialGarden$Marks" "shown" "I" "DialGarden") (by decide +kernel))) (fun _ h9 => h9) rfl dX10_read_128 ?_
            exact W.iret (v := S71.1 13 6) hx hb hr (fun t ht _ => ⟨⟨S71.1 13 6, S71, rfl, by subst er22; subst er9; subst er1; first | (simp only [q_X10_read, if_neg c4, if_neg c12, if_neg c25, if_neg c74, if_neg c82_0, if_neg c82_1, ← er34, ← eS57, ← eS64, ← er71, ← eS71]; done) | contradiction, by dsimp only; rw [ht]; exact hW⟩, hS.F ht⟩) hS.2.2 dX10_read_131
          · refine lv_ldc hx hb (v := (-2000000005)) hown (hts (.constant RX10 235 (-2000000005)) (by decide +kernel)) dX10_read_77 ?_
            exact W.iret (v := (-2000000005)) hx hb hr (fun t ht _ => ⟨⟨(-2000000005), S71, rfl, by subst er22; subst er9; subst er1; first | (simp only [q_X10_read, if_neg c4, if_neg c12, if_neg c25, if_pos c74, ← er34, ← eS57, ← eS64, ← er71, ← eS71]; done) | contradiction, by dsimp only; rw [ht]; exact hW⟩, hS.F ht⟩) hS.2.2 dX10_read_79
      · refine lv_ldc hx hb (v := (-2000000001)) hown (hts (.constant RX10 86 (-2000000001)) (by decide +kernel)) dX10_read_28 ?_
        exact W.iret (v := (-2000000001)) hx hb hr (fun t ht _ => ⟨⟨(-2000000001), S, rfl, by subst er22; subst er9; subst er1; first | (simp only [q_X10_read, if_neg c4, if_neg c12, if_pos c25]; done) | contradiction, by dsimp only; rw [ht]; exact hW⟩, hS.F ht⟩) hS.2.2 dX10_read_30

def q_X10_late_b79 (S : gSc) (p1 : Int32) (p2 : Int32) (p3 : Int32) : Nat → Nat → Int32 → Int32 → Int32 → Int32 → gSc → Int32 × gSc
  | 0, v4, v5, v6, v7, v8, Z => (0, Z)
  | n + 1, v4, v5, v6, v7, v8, Z => (if 1440 ≤ v8 then (if p3 = 0 then (v5, Z) else if p3 = 1 then (v6, Z) else (v7, Z)) else (let r92 := (q_X10_hasReading Z v4 v8).1; let S92 := (q_X10_hasReading Z v4 v8).2; (if r92 = 0 then (let x134 := v8 + 1; q_X10_late_b79 S p1 p2 p3 n v4 v5 v6 v7 x134 S92) else (let x101 := v7 + 1; (let x117 := (if 0 ≤ ((S92.1 13 6) - v8) then ((S92.1 13 6) - v8) else 0 - ((S92.1 13 6) - v8)); (if x117 ≤ v5 then (let x134 := v8 + 1; q_X10_late_b79 S p1 p2 p3 n v4 v5 v6 x101 x134 S92) else (let x134 := v8 + 1; q_X10_late_b79 S p1 p2 p3 n v4 x117 v8 x101 x134 S92)))))))
def q_X10_late (S : gSc) (p1 : Int32) (p2 : Int32) (p3 : Int32) : Int32 × gSc := (let r1 := q_X10_isPlace p1; (if r1 = 0 then ((-2000000001), S) else (let r8 := q_X10_isDay p2; (if r8 = 0 then ((-2000000001), S) else (let r20 := q_X10_within (p3.toInt64) 0 2; (if r20 = 0 then ((-2000000001), S) else (match q_X10_dialAt S p1 0 with | none => ((-2000000002), S) | some a32 => (let S55 := q_X6_setUp S a32; (let S62 := q_X10_setMarks S55 a32 p2; q_X10_late_b79 S p1 p2 p3 1441 a32 (-2000000005) (-2000000005) 0 0 S62)))))))))
set_option maxHeartbeats 4000000 in
set_option maxRecDepth 100000 in
theorem c_X10_late (l : Launch) (E : gEE) (M : gSm) (S : gSc) (p1 : Int32) (p2 : Int32) (p3 : Int32) (hT : okR S 3 40) (hH : okH S) (hkn0 : 0 ≤ (S.1 1 1).toInt) (hkn : (S.1 1 1).toInt ≤ 366) : Met l yX10_late wsX10_late ({ frames := 5, cells := 0, slots := 0, locals := 117 }) (va_Pc [.ref (eC E 0), .int (p1), .int (p2), .int (p3)] (gP E M S)) (va_Qi (fun r (u : gSc) => (r, u) = q_X10_late S p1 p2 p3) (fun u t => gW E M u t.heap) (eA E)) 0 0 (eA E) := by
  refine Met.ofW (cc := cX10_late) (maxL := 10) (ret := (some .int)) (by decide) rfl ?_
  intro p e s m args below meth c s₁ B hml hv
  obtain ⟨rfl, hE, hW⟩ := hv
  have hx := B.exec
  have hb := B.bytes
  have hr := B.returns
  have hts := atoms_spec (ws := wsX10_late) B.pre
  have hown : s.vm.findClass RX10 = some m.cls := findClass_of_methodNamed B.named
  have hlocks := B.notSynchronized
  have hinX10 : ∀ w ∈ wsX100, w ∈ wsX10_late := by decide +kernel
  have hinX3 : ∀ w ∈ wsX30, w ∈ wsX10_late := by decide +kernel
  have hS : va_S (eA E) s.heap s.heap [] := va_S.rf
  have hl := lv_entry ([.ref (eC E 0), .int (p1), .int (p2), .int (p3)]) (n := 10) (Nat.le_of_ble_eq_true rfl)
  rw [lg_entry_eq]
  generalize (lg_sl ([.ref (eC E 0), .int (p1), .int (p2), .int (p3)]) ++ List.replicate (10 - (lg_sl ([.ref (eC E 0), .int (p1), .int (p2), .int (p3)])).length) Slot.unset).toArray = ls at hl ⊢
  have hl : lv_has ls 10 [(0, .ref (eC E 0)), (1, .int (p1)), (2, .int (p2)), (3, .int (p3))] := hl
  have hS : ∃ (H : Heap) (locs : List Loc), H = s.heap ∧ locs = [] ∧ gW E M S H ∧ va_S (eA E) s.heap H locs := ⟨_, _, rfl, rfl, hW, hS⟩
  clear hW
  obtain ⟨H, locs, eH, el, hW, hS⟩ := hS
  rw [← eH, ← el]
  clear eH el
  have L79 : ∀ n : Nat, ∀ (v4 : Nat) (v5 : Int32) (v6 : Int32) (v7 : Int32) (v8 : Int32) (Z : gSc) (H : Heap) (locs : List Loc) (ls : Array Slot), (gL 1440 n v8 ∧ (kZ S Z ∧ 0 ≤ (Z.1 13 3).toInt ∧ (Z.1 13 3).toInt ≤ 24) ∧ v4 ∈ S.2.2.1 ∧ S.2.2.2.1 v4 = 1) → q_X10_late S p1 p2 p3 = q_X10_late_b79 S p1 p2 p3 n v4 v5 v6 v7 v8 Z → gW E M Z H → va_S (eA E) s.heap H locs → lv_has ls 10 [(0, .ref (eC E 0)), (3, .int (p3)), (4, .ref (v4)), (5, .int (v5)), (6, .int (v6)), (7, .int (v7)), (8, .int (v8))] → W p l e (headSpec wsX10_late ({ frames := 5, cells := 0, slots := 0, locals := 117 })).room s m ([.ref (eC E 0), .int (p1), .int (p2), .int (p3)] : List Value).toArray below meth c H locs 0 0 (MQ below (va_Qi (fun r (u : gSc) => (r, u) = q_X10_late S p1 p2 p3) (fun u t => gW E M u t.heap) (eA E)) ([.ref (eC E 0), .int (p1), .int (p2), .int (p3)] : List Value).toArray s 0 0 (eA E)) (F0 m 79 ls []) := by
    intro n
    induction n with
    | zero =>
      intro v4 v5 v6 v7 v8 Z H locs ls hi hq hW hS hl
      exact hi.1.z
    | succ n ih =>
      intro v4 v5 v6 v7 v8 Z H locs ls hi hq hW hS hl
      have hpZ : Z.2.2 = S.2.2 := hi.2.1.1.2.2
      have hLv4 : v4 ∈ Z.2.2.1 := by rw [hpZ]; exact hi.2.2.1
      have hKv4 : Z.2.2.2.1 v4 = 1 := by rw [hpZ]; exact hi.2.2.2
      refine lv_iload hx hb dX10_late_79 (lv_at hl 6 rfl) ?_
      refine lv_sipush (v := 1440) hx hb dX10_late_81 (by decide) ?_
      refine lv_icmp_ge (tgt := 140) hx hb dX10_late_84 (by decide) (fun c84 => ?_) (fun c84 => ?_)
      · refine lv_iload_n hx hb dX10_late_140 rfl (lv_at hl 1 rfl) ?_
        by_cases c141_0 : p3 = 0
        · refine lv_lookup (tgt := 168) (off := 27) hx hb dX10_late_141 (by decide) (by rw [c141_0]; decide) (by decide) ?_
          refine lv_iload hx hb dX10_late_168 (lv_at hl 3 rfl) ?_
          exact W.iret (v := v5) hx hb hr (fun t ht _ => ⟨⟨v5, Z, rfl, by rw [hq]; first | (simp only [q_X10_late_b79, if_pos c84, if_pos c141_0]; done) | contradiction, by dsimp only; rw [ht]; exact hW⟩, hS.F ht⟩) hS.2.2 dX10_late_170
        by_cases c141_1 : p3 = 1
        · refine lv_lookup (tgt := 171) (off := 30) hx hb dX10_late_141 (by decide) (by rw [c141_1]; decide) (by decide) ?_
          refine lv_iload hx hb dX10_late_171 (lv_at hl 4 rfl) ?_
          exact W.iret (v := v6) hx hb hr (fun t ht _ => ⟨⟨v6, Z, rfl, by rw [hq]; first | (simp only [q_X10_late_b79, if_pos c84, if_neg c141_0, if_pos c141_1]; done) | contradiction, by dsimp only; rw [ht]; exact hW⟩, hS.F ht⟩) hS.2.2 dX10_late_173
        refine lv_lookup (tgt := 174) (off := 33) hx hb dX10_late_141 (by decide) ((lv_osw c141_0 (by decide)).trans ((lv_osw c141_1 (by decide)).trans rfl)) (by decide) ?_
        refine lv_iload hx hb dX10_late_174 (lv_at hl 5 rfl) ?_
        exact W.iret (v := v7) hx hb hr (fun t ht _ => ⟨⟨v7, Z, rfl, by rw [hq]; first | (simp only [q_X10_late_b79, if_pos c84, if_neg c141_0, if_neg c141_1]; done) | contradiction, by dsimp only; rw [ht]; exact hW⟩, hS.F ht⟩) hS.2.2 dX10_late_176
      · refine lv_aload_n hx hb dX10_late_87 rfl (lv_at hl 0 rfl) ?_
        refine lv_aload hx hb dX10_late_88 (lv_at hl 2 rfl) ?_
        refine lv_iload hx hb dX10_late_90 (lv_at hl 6 rfl) ?_
        refine va_calli (va_runV (As := [.ref (v4), .int (v8)]) (rest := []) ⟨hx, hb, hml, hown, hts⟩ (c_X10_hasReading l E M Z v4 v8 hLv4 hKv4 hi.2.1.1.1.1 hi.2.1.1.1.2.1 hi.2.1.1.1.2.2 hi.2.1.1.2.1.1 hi.2.1.1.2.1.2 hi.2.1.2.1 hi.2.1.2.2) (cwV 2 hts gX10_late_X10_hasReading rfl rfl rfl (by decide +kernel) ⟨Nat.le_of_ble_eq_true rfl, Nat.le_of_ble_eq_true rfl⟩) (gP.V (ci := 9) (q := (RX10, TX10, 12)) (q0 := 11) hE hS hW rfl rfl) rfl rfl hl.1 rfl (lv_room (Nat.le_of_ble_eq_true rfl)) dX10_late_92 ⟨Nat.le_of_ble_eq_true rfl, Nat.le_of_ble_eq_true rfl⟩) hS (fun _ _ h => h) (fun _ h => h) (fun r92 S92 t H locs ht hvm hw hB hzz hkk hS => ?_)
        obtain ⟨er92, eS92⟩ := prj hw
        clear hw
        have hW : gW E M S92 H := by rw [← ht]; exact hB
        have hpS92 : S92.2.2 = Z.2.2 := by rw [eS92]; exact (qp_X10_hasReading _ _ _)
        refine lv_if_ne (tgt := 101) hx hb dX10_late_95 (by decide) (fun c95 => ?_) (fun c95 => ?_)
        · obtain ⟨x101, ex101⟩ : ∃ y : Int32, y = v7 + 1 := ⟨_, rfl⟩
          refine lv_iinc (v := x101) (lv' := [(7, .int (x101)), (0, .ref (eC E 0)), (3, .int (p3)), (4, .ref (v4)), (5, .int (v5)), (6, .int (v6)), (8, .int (v8))]) hx hb dX10_late_101 hl (k := 5) rfl (by rw [ex101]; rfl) (by decide) rfl (fun ls hl => ?_)
          refine lv_aload_n hx hb dX10_late_104 rfl (lv_at hl 1 rfl) ?_
          refine va_get (D := eD E) (cl := vwCl) (tys := eT E) (ci := 9) (C := RX10) (T := TX10) (N := 12) (v := .ref (eC E 13)) hx hb hts hinX10 hown hE.1 hW.1 11 rfl rfl 4 (by decide) (hts (.fieldLink RX10 39 "DialGarden" "marks" "LDialGarden$Marks;") (by decide +kernel)) (fun _ h9 => h9) rfl dX10_late_105 ?_
          refine va_getN (D := eD E) (cl := vwCl) (tys := eT E) (ci := 3) (C := RX3) (T := TX3) (N := 7) (v := .int (S92.1 13 6)) hx hb hts hinX3 hown hE.1 hW.1 24 rfl rfl 6 (by decide) (va_Nw.use rfl (hE.2.2.1 (.fieldLinkNest "DialGarden" 276 "DialGarden$Marks" "shown" "I" "DialGarden") (by decide +kernel))) (fun _ h9 => h9) rfl dX10_late_108 ?_
          refine lv_iload hx hb dX10_late_111 (lv_at hl 6 rfl) ?_
          refine lv_isub hx hb dX10_late_113 ?_
          refine va_mabs (rest := []) hx hb (hml.trans hl.1.symm) hown (hts (.methodLink RX10 282 Lib.Math.abs.name) (by decide +kernel)) (hts (.static Lib.Math.abs.name) (by decide +kernel)) (hts (.initialized "java/lang/Math") (by decide +kernel)) (hts (.code Lib.Math.abs.name Lib.Math.abs.code 1 (some .int)) (by decide +kernel)) (Nat.le_of_ble_eq_true rfl) (Nat.le_of_ble_eq_true rfl) (Nat.le_of_ble_eq_true rfl) (Nat.le_of_ble_eq_true rfl) dX10_late_114 ?_
          refine lv_topi (fun x117 ex117 => ?_)
          refine lv_istore (lv' := [(9, .int (x117)), (7, .int (x101)), (0, .ref (eC E 0)), (3, .int (p3)), (4, .ref (v4)), (5, .int (v5)), (6, .int (v6)), (8, .int (v8))]) hx hb dX10_late_117 hl (by decide) rfl (fun ls hl => ?_)
          refine lv_iload hx hb dX10_late_119 (lv_at hl 0 rfl) ?_
          refine lv_iload hx hb dX10_late_121 (lv_at hl 5 rfl) ?_
          refine lv_icmp_le (tgt := 134) hx hb dX10_late_123 (by decide) (fun c123 => ?_) (fun c123 => ?_)
          · obtain ⟨x134, ex134⟩ : ∃ y : Int32, y = v8 + 1 := ⟨_, rfl⟩
            refine lv_iinc (v := x134) (lv' := [(8, .int (x134)), (9, .int (x117)), (7, .int (x101)), (0, .ref (eC E 0)), (3, .int (p3)), (4, .ref (v4)), (5, .int (v5)), (6, .int (v6))]) hx hb dX10_late_134 hl (k := 7) rfl (by rw [ex134]; rfl) (by decide) rfl (fun ls hl => ?_)
            refine lv_goto (tgt := 79) hx hb dX10_late_137 (by decide) ?_
            exact ih _ _ _ _ _ _ _ _ _ (by exact ⟨hi.1.st c84 (by decide) ex134, ⟨hi.2.1.1.st (by rw [eS92]; exact (km_has _ _ _).1), by rw [eS92, (km_has _ _ _).2]; exact hi.2.1.2⟩, hi.2.2⟩) (by rw [hq]; subst ex134; subst ex117; subst ex101; first | (simp only [q_X10_late_b79, if_neg c84, if_neg c95, if_pos c123, ← er92, ← eS92]; done) | contradiction) hW hS (lv_sub hl [3, 4, 5, 6, 7, 2, 0] rfl)
          · refine lv_iload hx hb dX10_late_126 (lv_at hl 0 rfl) ?_
            refine lv_istore (lv' := [(5, .int (x117)), (9, .int (x117)), (7, .int (x101)), (0, .ref (eC E 0)), (3, .int (p3)), (4, .ref (v4)), (6, .int (v6)), (8, .int (v8))]) hx hb dX10_late_128 hl (by decide) rfl (fun ls hl => ?_)
            refine lv_iload hx hb dX10_late_130 (lv_at hl 7 rfl) ?_
            refine lv_istore (lv' := [(6, .int (v8)), (5, .int (x117)), (9, .int (x117)), (7, .int (x101)), (0, .ref (eC E 0)), (3, .int (p3)), (4, .ref (v4)), (8, .int (v8))]) hx hb dX10_late_132 hl (by decide) rfl (fun ls hl => ?_)
            obtain ⟨x134, ex134⟩ : ∃ y : Int32, y = v8 + 1 := ⟨_, rfl⟩
            refine lv_iinc (v := x134) (lv' := [(8, .int (x134)), (6, .int (v8)), (5, .int (x117)), (9, .int (x117)), (7, .int (x101)), (0, .ref (eC E 0)), (3, .int (p3)), (4, .ref (v4))]) hx hb dX10_late_134 hl (k := 7) rfl (by rw [ex134]; rfl) (by decide) rfl (fun ls hl => ?_)
            refine lv_goto (tgt := 79) hx hb dX10_late_137 (by decide) ?_
            exact ih _ _ _ _ _ _ _ _ _ (by exact ⟨hi.1.st c84 (by decide) ex134, ⟨hi.2.1.1.st (by rw [eS92]; exact (km_has _ _ _).1), by rw [eS92, (km_has _ _ _).2]; exact hi.2.1.2⟩, hi.2.2⟩) (by rw [hq]; subst ex134; subst ex117; subst ex101; first | (simp only [q_X10_late_b79, if_neg c84, if_neg c95, if_neg c123, ← er92, ← eS92]; done) | contradiction) hW hS (lv_sub hl [5, 6, 7, 2, 1, 4, 0] rfl)
        · refine lv_goto (tgt := 134) hx hb dX10_late_98 (by decide) ?_
          obtain ⟨x134, ex134⟩ : ∃ y : Int32, y = v8 + 1 := ⟨_, rfl⟩
          refine lv_iinc (v := x134) (lv' := [(8, .int (x134)), (0, .ref (eC E 0)), (3, .int (p3)), (4, .ref (v4)), (5, .int (v5)), (6, .int (v6)), (7, .int (v7))]) hx hb dX10_late_134 hl (k := 6) rfl (by rw [ex134]; rfl) (by decide) rfl (fun ls hl => ?_)
          refine lv_goto (tgt := 79) hx hb dX10_late_137 (by decide) ?_
          exact ih _ _ _ _ _ _ _ _ _ (by exact ⟨hi.1.st c84 (by decide) ex134, ⟨hi.2.1.1.st (by rw [eS92]; exact (km_has _ _ _).1), by rw [eS92, (km_has _ _ _).2]; exact hi.2.1.2⟩, hi.2.2⟩) (by rw [hq]; subst ex134; first | (simp only [q_X10_late_b79, if_neg c84, if_pos c95, ← er92, ← eS92]; done) | contradiction) hW hS (lv_sub hl [1, 2, 3, 4, 5, 6, 0] rfl)
  refine lv_iload_n hx hb dX10_late_0 rfl (lv_at hl 1 rfl) ?_
  refine k_Si (va_runS (As := [.int (p1)]) (rest := []) ⟨hx, hb, hml, hown, hts⟩ (c_X10_isPlace l p1) (va_cwS 1 hts gX10_late_X10_isPlace rfl rfl rfl (by decide +kernel) ⟨Nat.le_of_ble_eq_true rfl, Nat.le_of_ble_eq_true rfl⟩) gP0 rfl rfl hl.1 rfl (lv_room (Nat.le_of_ble_eq_true rfl)) dX10_late_1 ⟨Nat.le_of_ble_eq_true rfl, Nat.le_of_ble_eq_true rfl⟩) (fun r1 er1 => ?_)
  refine lv_if_eq (tgt := 26) hx hb dX10_late_4 (by decide) (fun c4 => ?_) (fun c4 => ?_)
  · refine lv_ldc hx hb (v := (-2000000001)) hown (hts (.constant RX10 86 (-2000000001)) (by decide +kernel)) dX10_late_26 ?_
    exact W.iret (v := (-2000000001)) hx hb hr (fun t ht _ => ⟨⟨(-2000000001), S, rfl, by subst er1; first | (simp only [q_X10_late, if_pos c4]; done) | contradiction, by dsimp only; rw [ht]; exact hW⟩, hS.F ht⟩) hS.2.2 dX10_late_28
  · refine lv_iload_n hx hb dX10_late_7 rfl (lv_at hl 2 rfl) ?_
    refine k_Si (va_runS (As := [.int (p2)]) (rest := []) ⟨hx, hb, hml, hown, hts⟩ (c_X10_isDay l p2) (va_cwS 1 hts gX10_late_X10_isDay rfl rfl rfl (by decide +kernel) ⟨Nat.le_of_ble_eq_true rfl, Nat.le_of_ble_eq_true rfl⟩) gP0 rfl rfl hl.1 rfl (lv_room (Nat.le_of_ble_eq_true rfl)) dX10_late_8 ⟨Nat.le_of_ble_eq_true rfl, Nat.le_of_ble_eq_true rfl⟩) (fun r8 er8 => ?_)
    refine lv_if_eq (tgt := 26) hx hb dX10_late_11 (by decide) (fun c11 => ?_) (fun c11 => ?_)
    · refine lv_ldc hx hb (v := (-2000000001)) hown (hts (.constant RX10 86 (-2000000001)) (by decide +kernel)) dX10_late_26 ?_
      exact W.iret (v := (-2000000001)) hx hb hr (fun t ht _ => ⟨⟨(-2000000001), S, rfl, by subst er8; subst er1; first | (simp only [q_X10_late, if_neg c4, if_pos c11]; done) | contradiction, by dsimp only; rw [ht]; exact hW⟩, hS.F ht⟩) hS.2.2 dX10_late_28
    · refine lv_iload_n hx hb dX10_late_14 rfl (lv_at hl 3 rfl) ?_
      refine lv_i2l (v := p3.toInt64) hx hb dX10_late_15 rfl ?_
      refine lv_lconst (v := 0) hx hb dX10_late_16 (by decide) ?_
      refine lv_ldc2 hx hb (v := 2) hown (hts (.constantLong RX10 257 (2)) (by decide +kernel)) dX10_late_17 ?_
      refine k_Si (va_runS (As := [.long (p3.toInt64), .long (0), .long (2)]) (rest := []) ⟨hx, hb, hml, hown, hts⟩ (c_X10_within l (p3.toInt64) 0 2) (va_cwS 3 hts gX10_late_X10_within rfl rfl rfl (by decide +kernel) ⟨Nat.le_of_ble_eq_true rfl, Nat.le_of_ble_eq_true rfl⟩) gP0 rfl rfl hl.1 rfl (lv_room (Nat.le_of_ble_eq_true rfl)) dX10_late_20 ⟨Nat.le_of_ble_eq_true rfl, Nat.le_of_ble_eq_true rfl⟩) (fun r20 er20 => ?_)
      refine lv_if_ne (tgt := 29) hx hb dX10_late_23 (by decide) (fun c23 => ?_) (fun c23 => ?_)
      · refine lv_aload_n hx hb dX10_late_29 rfl (lv_at hl 0 rfl) ?_
        refine lv_iload_n hx hb dX10_late_30 rfl (lv_at hl 1 rfl) ?_
        refine lv_iconst (v := 0) hx hb dX10_late_31 (by decide) ?_
        refine k_Sq (va_runV (As := [.int (p1), .int (0)]) (rest := []) ⟨hx, hb, hml, hown, hts⟩ (c_X10_dialAt l E M S p1 0 hT) (cwV 2 hts gX10_late_X10_dialAt rfl rfl rfl (by decide +kernel) ⟨Nat.le_of_ble_eq_true rfl, Nat.le_of_ble_eq_true rfl⟩) (gP.V (ci := 9) (q := (RX10, TX10, 12)) (q0 := 11) hE hS hW rfl rfl) rfl rfl hl.1 rfl (lv_room (Nat.le_of_ble_eq_true rfl)) dX10_late_32 ⟨Nat.le_of_ble_eq_true rfl, Nat.le_of_ble_eq_true rfl⟩) (fun r32 er32 => ?_)
        rcases r32 with _ | a32
        · refine lv_astoreN (lv' := [(4, .null), (0, .ref (eC E 0)), (1, .int (p1)), (2, .int (p2)), (3, .int (p3))]) hx hb dX10_late_35 hl (by decide) rfl (fun ls hl => ?_)
          refine lv_aloadN hx hb dX10_late_37 (lv_at hl 0 rfl) ?_
          refine lv_ifnonnullN hx hb dX10_late_39 ?_
          refine lv_ldc hx hb (v := (-2000000002)) hown (hts (.constant RX10 176 (-2000000002)) (by decide +kernel)) dX10_late_42 ?_
          exact W.iret (v := (-2000000002)) hx hb hr (fun t ht _ => ⟨⟨(-2000000002), S, rfl, by subst er20; subst er8; subst er1; first | (simp only [q_X10_late, if_neg c4, if_neg c11, if_neg c23, ← er32]; done) | contradiction, by dsimp only; rw [ht]; exact hW⟩, hS.F ht⟩) hS.2.2 dX10_late_44
        · have hL32 := (da_of hT er32).1
          have hK32 := (da_of hT er32).2
          refine lv_astore (lv' := [(4, .ref (a32)), (0, .ref (eC E 0)), (1, .int (p1)), (2, .int (p2)), (3, .int (p3))]) hx hb dX10_late_35 hl (by decide) rfl (fun ls hl => ?_)
          refine lv_aload hx hb dX10_late_37 (lv_at hl 0 rfl) ?_
          refine lv_ifnonnull (tgt := 45) hx hb dX10_late_39 (by decide) ?_
          refine lv_aload_n hx hb dX10_late_45 rfl (lv_at hl 1 rfl) ?_
          refine va_get (D := eD E) (cl := vwCl) (tys := eT E) (ci := 9) (C := RX10) (T := TX10) (N := 12) (v := .ref (eC E 7)) hx hb hts hinX10 hown hE.1 hW.1 11 rfl rfl 3 (by decide) (hts (.fieldLink RX10 32 "DialGarden" "shade" "LDialGarden$Shade;") (by decide +kernel)) (fun _ h9 => h9) rfl dX10_late_46 ?_
          refine lv_aload hx hb dX10_late_49 (lv_at hl 0 rfl) ?_
          refine lv_aload_n hx hb dX10_late_51 rfl (lv_at hl 1 rfl) ?_
          refine va_get (D := eD E) (cl := vwCl) (tys := eT E) (ci := 9) (C := RX10) (T := TX10) (N := 12) (v := .ref (eC E 3)) hx hb hts hinX10 hown hE.1 hW.1 11 rfl rfl 1 (by decide) (hts (.fieldLink RX10 18 "DialGarden" "things" "[LDialGarden$Thing;") (by decide +kernel)) (fun _ h9 => h9) rfl dX10_late_52 ?_
          refine va_callv (va_runV (As := [.ref (a32), .ref (eC E 3)]) (rest := []) ⟨hx, hb, hml, hown, hts⟩ (c_X6_setUp l E M S a32 hL32 hK32 hT) (cwV 2 hts gX10_late_X6_setUp rfl rfl rfl (by decide +kernel) ⟨Nat.le_of_ble_eq_true rfl, Nat.le_of_ble_eq_true rfl⟩) (gP.V (ci := 6) (q := (RX6, TX6, 13)) (q0 := 18) hE hS hW rfl rfl) rfl rfl hl.1 rfl (lv_room (Nat.le_of_ble_eq_true rfl)) dX10_late_55 ⟨Nat.le_of_ble_eq_true rfl, Nat.le_of_ble_eq_true rfl⟩) hS (fun _ _ h => h) (fun _ h => h) (fun S55 t H locs ht hvm hw hB hzz hkk hS => ?_)
          have eS55 : S55 = q_X6_setUp S a32 := hw
          clear hw
          have hW : gW E M S55 H := by rw [← ht]; exact hB
          have hpS55 : S55.2.2 = S.2.2 := by rw [eS55]; exact (qp_X6_setUp _ _)
          have kz55 : kZ S S55 := by rw [eS55]; exact su_kZ hT hH hkn0 hkn rfl rfl
          refine lv_aload_n hx hb dX10_late_58 rfl (lv_at hl 1 rfl) ?_
          refine lv_aload hx hb dX10_late_59 (lv_at hl 0 rfl) ?_
          refine lv_iload_n hx hb dX10_late_61 rfl (lv_at hl 3 rfl) ?_
          refine va_callv (va_runV (As := [.ref (a32), .int (p2)]) (rest := []) ⟨hx, hb, hml, hown, hts⟩ (c_X10_setMarks l E M S55 a32 p2 (by rw [hpS55]; exact hL32) (by rw [hpS55]; exact hK32) kz55.1.1 kz55.1.2.1 kz55.1.2.2 kz55.2.1.1 kz55.2.1.2) (cwV 2 hts gX10_late_X10_setMarks rfl rfl rfl (by decide +kernel) ⟨Nat.le_of_ble_eq_true rfl, Nat.le_of_ble_eq_true rfl⟩) (gP.V (ci := 9) (q := (RX10, TX10, 12)) (q0 := 11) hE hS hW rfl rfl) rfl rfl hl.1 rfl (lv_room (Nat.le_of_ble_eq_true rfl)) dX10_late_62 ⟨Nat.le_of_ble_eq_true rfl, Nat.le_of_ble_eq_true rfl⟩) hS (fun _ _ h => h) (fun _ h => h) (fun S62 t H locs ht hvm hw hB hzz hkk hS => ?_)
          have eS62 : S62 = q_X10_setMarks S55 a32 p2 := hw
          clear hw
          have hW : gW E M S62 H := by rw [← ht]; exact hB
          have hpS62 : S62.2.2 = S55.2.2 := by rw [eS62]; exact (qp_X10_setMarks _ _ _)
          have kz62 : kZ S S62 := kz55.st (by rw [eS62]; exact kw_setMarks _ _ _)
          have ms62 : 0 ≤ (S62.1 13 3).toInt ∧ (S62.1 13 3).toInt ≤ 24 := by rw [eS62]; exact ms_setMarks _ _ _
          refine lv_ldc hx hb (v := (-2000000005)) hown (hts (.constant RX10 235 (-2000000005)) (by decide +kernel)) dX10_late_65 ?_
          refine lv_istore (lv' := [(5, .int ((-2000000005))), (4, .ref (a32)), (0, .ref (eC E 0)), (1, .int (p1)), (2, .int (p2)), (3, .int (p3))]) hx hb dX10_late_67 hl (by decide) rfl (fun ls hl => ?_)
          refine lv_ldc hx hb (v := (-2000000005)) hown (hts (.constant RX10 235 (-2000000005)) (by decide +kernel)) dX10_late_69 ?_
          refine lv_istore (lv' := [(6, .int ((-2000000005))), (5, .int ((-2000000005))), (4, .ref (a32)), (0, .ref (eC E 0)), (1, .int (p1)), (2, .int (p2)), (3, .int (p3))]) hx hb dX10_late_71 hl (by decide) rfl (fun ls hl => ?_)
          refine lv_iconst (v := 0) hx hb dX10_late_73 (by decide) ?_
          refine lv_istore (lv' := [(7, .int (0)), (6, .int ((-2000000005))), (5, .int ((-2000000005))), (4, .ref (a32)), (0, .ref (eC E 0)), (1, .int (p1)), (2, .int (p2)), (3, .int (p3))]) hx hb dX10_late_74 hl (by decide) rfl (fun ls hl => ?_)
          refine lv_iconst (v := 0) hx hb dX10_late_76 (by decide) ?_
          refine lv_istore (lv' := [(8, .int (0)), (7, .int (0)), (6, .int ((-2000000005))), (5, .int ((-2000000005))), (4, .ref (a32)), (0, .ref (eC E 0)), (1, .int (p1)), (2, .int (p2)), (3, .int (p3))]) hx hb dX10_late_77 hl (by decide) rfl (fun ls hl => ?_)
          exact L79 1441 _ _ _ _ _ _ _ _ _ (by exact ⟨gL.i 1440, ⟨kz62, ms62⟩, hL32, hK32⟩) (by subst er20; subst er8; subst er1; first | (simp only [q_X10_late, if_neg c4, if_neg c11, if_neg c23, ← er32, ← eS55, ← eS62]; done) | contradiction) hW hS (lv_sub hl [5, 8, 4, 3, 2, 1, 0] rfl)
      · refine lv_ldc hx hb (v := (-2000000001)) hown (hts (.constant RX10 86 (-2000000001)) (by decide +kernel)) dX10_late_26 ?_
        exact W.iret (v := (-2000000001)) hx hb hr (fun t ht _ => ⟨⟨(-2000000001), S, rfl, by subst er20; subst er8; subst er1; first | (simp only [q_X10_late, if_neg c4, if_neg c11, if_pos c23]; done) | contradiction, by dsimp only; rw [ht]; exact hW⟩, hS.F ht⟩) hS.2.2 dX10_late_28

def q_X10_keepAgreeingTurns_b41 (S : gSc) (p1 : Nat) (p2 : Int32) : Nat → Int32 → Int32 → gSc → gSc
  | 0, v3, v4, Z => Z
  | n + 1, v3, v4, Z => (if (Z.1 0 7) ≤ v4 then pI Z 0 7 v3 else (let S67 := q_X6_setRows Z p1 ((Z.2.2.2.2 p1 4) + (Z.1 22 (v4.toNatClampNeg))); (let r78 := (q_X6_settle S67).1; let S78 := (q_X6_settle S67).2; (if r78 = 0 then (let r103 := q_X7_isCloseTo S78 p2 (S78.1 7 12) (S78.1 7 13); (if r103 = 0 then (let x125 := v4 + 1; q_X10_keepAgreeingTurns_b41 S p1 p2 n v3 x125 S78) else (let x114 := v3 + 1; (let x125 := v4 + 1; q_X10_keepAgreeingTurns_b41 S p1 p2 n x114 x125 (pI S78 22 (v3.toNatClampNeg) (S78.1 22 (v4.toNatClampNeg))))))) else (let x125 := v4 + 1; q_X10_keepAgreeingTurns_b41 S p1 p2 n v3 x125 S78)))))
def q_X10_keepAgreeingTurns (S : gSc) (p1 : Nat) (p2 : Int32) : gSc := (let S22 := q_X8_setTime S (S.1 18 (p2.toNatClampNeg)) (S.1 19 (p2.toNatClampNeg)); (let S33 := q_X6_findHider S22; q_X10_keepAgreeingTurns_b41 S p1 p2 602 0 0 S33))
set_option maxHeartbeats 4000000 in
set_option maxRecDepth 100000 in
theorem c_X10_keepAgreeingTurns (l : Launch) (E : gEE) (M : gSm) (S : gSc) (p1 : Nat) (p2 : Int32) (hL1 : p1 ∈ S.2.2.1) (hk1 : S.2.2.2.1 p1 = 1) (hh0 : 0 ≤ (S.1 7 6).toInt) (hh : (S.1 7 6).toInt ≤ 40) (hH : okH S) (hkn0 : 0 ≤ (S.1 1 1).toInt) (hkn : (S.1 1 1).toInt ≤ 366) (hs0 : 0 ≤ (S.1 17 4).toInt) (hs : (S.1 17 4).toInt ≤ 20) (ht0 : 0 ≤ (S.1 0 7).toInt) (ht9 : (S.1 0 7).toInt ≤ 601) (hi0 : 0 ≤ p2.toInt) (hi1 : p2.toInt < 20) : Met l yX10_keepAgreeingTurns wsX10_keepAgreeingTurns ({ frames := 4, cells := 0, slots := 0, locals := 92 }) (va_Pc [.ref (eC E 0), .ref (p1), .int (p2)] (gP E M S)) (va_Qv (fun u : gSc => u = q_X10_keepAgreeingTurns S p1 p2) (fun u t => gW E M u t.heap) (eA E)) 0 0 (eA E) := by
  refine Met.ofW (cc := cX10_keepAgreeingTurns) (maxL := 5) (ret := none) (by decide) rfl ?_
  intro p e s m args below meth c s₁ B hml hv
  obtain ⟨rfl, hE, hW⟩ := hv
  have hx := B.exec
  have hb := B.bytes
  have hr := B.returns
  have hts := atoms_spec (ws := wsX10_keepAgreeingTurns) B.pre
  have hown : s.vm.findClass RX10 = some m.cls := findClass_of_methodNamed B.named
  have hlocks := B.notSynchronized
  have hinX1 : ∀ w ∈ wsX10, w ∈ wsX10_keepAgreeingTurns := by decide +kernel
  have hinX10 : ∀ w ∈ wsX100, w ∈ wsX10_keepAgreeingTurns := by decide +kernel
  have hinX6 : ∀ w ∈ wsX60, w ∈ wsX10_keepAgreeingTurns := by decide +kernel
  have hinX7 : ∀ w ∈ wsX70, w ∈ wsX10_keepAgreeingTurns := by decide +kernel
  have hS : va_S (eA E) s.heap s.heap [] := va_S.rf
  have hl := lv_entry ([.ref (eC E 0), .ref (p1), .int (p2)]) (n := 5) (Nat.le_of_ble_eq_true rfl)
  rw [lg_entry_eq]
  generalize (lg_sl ([.ref (eC E 0), .ref (p1), .int (p2)]) ++ List.replicate (5 - (lg_sl ([.ref (eC E 0), .ref (p1), .int (p2)])).length) Slot.unset).toArray = ls at hl ⊢
  have hl : lv_has ls 5 [(0, .ref (eC E 0)), (1, .ref (p1)), (2, .int (p2))] := hl
  have hS : ∃ (H : Heap) (locs : List Loc), H = s.heap ∧ locs = [] ∧ gW E M S H ∧ va_S (eA E) s.heap H locs := ⟨_, _, rfl, rfl, hW, hS⟩
  clear hW
  obtain ⟨H, locs, eH, el, hW, hS⟩ := hS
  rw [← eH, ← el]
  clear eH el
  have L41 : ∀ n : Nat, ∀ (v3 : Int32) (v4 : Int32) (Z : gSc) (H : Heap) (locs : List Loc) (ls : Array Slot), (kaI S n v3 v4 Z) → q_X10_keepAgreeingTurns S p1 p2 = q_X10_keepAgreeingTurns_b41 S p1 p2 n v3 v4 Z → gW E M Z H → va_S (eA E) s.heap H locs → lv_has ls 5 [(0, .ref (eC E 0)), (1, .ref (p1)), (2, .int (p2)), (3, .int (v3)), (4, .int (v4))] → W p l e (headSpec wsX10_keepAgreeingTurns ({ frames := 4, cells := 0, slots := 0, locals := 92 })).room s m ([.ref (eC E 0), .ref (p1), .int (p2)] : List Value).toArray below meth c H locs 0 0 (MQ below (va_Qv (fun u : gSc => u = q_X10_keepAgreeingTurns S p1 p2) (fun u t => gW E M u t.heap) (eA E)) ([.ref (eC E 0), .ref (p1), .int (p2)] : List Value).toArray s 0 0 (eA E)) (F0 m 41 ls []) := by
    intro n
    induction n with
    | zero =>
      intro v3 v4 Z H locs ls hi hq hW hS hl
      exact absurd hi.1.2.2 (by have := hi.1.2.1; omega)
    | succ n ih =>
      intro v3 v4 Z H locs ls hi hq hW hS hl
      have hpZ : Z.2.2 = S.2.2 := by rw [hi.2.2.2.2]
      refine lv_iload hx hb dX10_keepAgreeingTurns_41 (lv_at hl 4 rfl) ?_
      refine lv_aload_n hx hb dX10_keepAgreeingTurns_43 rfl (lv_at hl 0 rfl) ?_
      refine va_get (D := eD E) (cl := vwCl) (tys := eT E) (ci := 9) (C := RX10) (T := TX10) (N := 12) (v := .int (Z.1 0 7)) hx hb hts hinX10 hown hE.1 hW.1 11 rfl rfl 7 (by decide) (hts (.fieldLink RX10 54 "DialGarden" "turnCount" "I") (by decide +kernel)) (fun _ h9 => h9) rfl dX10_keepAgreeingTurns_44 ?_
      refine lv_icmp_ge (tgt := 131) hx hb dX10_keepAgreeingTurns_47 (by decide) (fun c47 => ?_) (fun c47 => ?_)
      · refine lv_aload_n hx hb dX10_keepAgreeingTurns_131 rfl (lv_at hl 0 rfl) ?_
        refine lv_iload_n hx hb dX10_keepAgreeingTurns_132 rfl (lv_at hl 3 rfl) ?_
        refine va_put (D := eD E) (cl := vwCl) (tys := eT E) (A := eA E) (ci := 9) (C := RX10) (T := TX10) (N := 12) (v := .int (v3)) (ty := .int) hx hb hts hinX10 tyX10 tyX10_ok nmX10 hown hE.1 hW.1 hW.2 hS 11 rfl rfl 7 (by decide) (hts (.fieldLink RX10 54 "DialGarden" "turnCount" "I") (by decide +kernel)) (fun _ h9 => h9) rfl (by decide +kernel) rfl rfl (Nat.le_of_ble_eq_true rfl) dX10_keepAgreeingTurns_133 (fun H locs hP hD hS => ?_)
        have hW : gW E M (pI Z 0 7 v3) H := gW.of (uC_0_7 E M Z v3) hP hD
        exact W.vret hx hb hr (fun t ht _ => ⟨⟨pI Z 0 7 v3, rfl, by rw [hq]; first | (simp only [q_X10_keepAgreeingTurns_b41, if_pos c47]; done) | contradiction, by dsimp only; rw [ht]; exact hW⟩, hS.F ht⟩) hS.2.2 dX10_keepAgreeingTurns_136
      · refine lv_aload_n hx hb dX10_keepAgreeingTurns_50 rfl (lv_at hl 0 rfl) ?_
        refine va_get (D := eD E) (cl := vwCl) (tys := eT E) (ci := 9) (C := RX10) (T := TX10) (N := 12) (v := .ref (eC E 7)) hx hb hts hinX10 hown hE.1 hW.1 11 rfl rfl 3 (by decide) (hts (.fieldLink RX10 32 "DialGarden" "shade" "LDialGarden$Shade;") (by decide +kernel)) (fun _ h9 => h9) rfl dX10_keepAgreeingTurns_51 ?_
        refine lv_aload_n hx hb dX10_keepAgreeingTurns_54 rfl (lv_at hl 1 rfl) ?_
        refine lv_aload_n hx hb dX10_keepAgreeingTurns_55 rfl (lv_at hl 1 rfl) ?_
        obtain ⟨k56, hk56⟩ := wJ_d E M (S := Z) (by rw [hpZ]; exact hL1) (by rw [hpZ]; exact hk1)
        refine va_getN (D := eD E) (cl := vwCl) (tys := eT E) (ci := 1) (C := RX1) (T := TX1) (N := 7) (v := .int (Z.2.2.2.2 p1 4)) hx hb hts hinX1 hown hE.1 hW.1 k56 hk56 rfl 4 (by decide) (va_Nw.use rfl (hE.2.2.1 (.fieldLinkNest "DialGarden" 190 "DialGarden$Dial" "facing" "I" "DialGarden") (by decide +kernel))) (fun _ h9 => h9) rfl dX10_keepAgreeingTurns_56 ?_
        refine lv_aload_n hx hb dX10_keepAgreeingTurns_59 rfl (lv_at hl 0 rfl) ?_
        refine va_get (D := eD E) (cl := vwCl) (tys := eT E) (ci := 9) (C := RX10) (T := TX10) (N := 12) (v := .ref (eC E 22)) hx hb hts hinX10 hown hE.1 hW.1 11 rfl rfl 6 (by decide) (hts (.fieldLink RX10 50 "DialGarden" "turns" "[I") (by decide +kernel)) (fun _ h9 => h9) rfl dX10_keepAgreeingTurns_60 ?_
        refine lv_iload hx hb dX10_keepAgreeingTurns_63 (lv_at hl 4 rfl) ?_
        refine va_iald (D := eD E) (cl := vwCl) (tys := eT E) (f := Z.1 22) hx hb hE.1 hW.1 33 0 rfl rfl (ka_in hi c47 ht9) dX10_keepAgreeingTurns_65 ?_
        refine lv_iadd hx hb dX10_keepAgreeingTurns_66 ?_
        refine va_callv (va_runV (As := [.ref (p1), .int ((Z.2.2.2.2 p1 4) + (Z.1 22 (v4.toNatClampNeg)))]) (rest := []) ⟨hx, hb, hml, hown, hts⟩ (c_X6_setRows l E M Z p1 ((Z.2.2.2.2 p1 4) + (Z.1 22 (v4.toNatClampNeg))) (by rw [hpZ]; exact hL1) (by rw [hpZ]; exact hk1)) (cwV 2 hts gX10_keepAgreeingTurns_X6_setRows rfl rfl rfl (by decide +kernel) ⟨Nat.le_of_ble_eq_true rfl, Nat.le_of_ble_eq_true rfl⟩) (gP.V (ci := 6) (q := (RX6, TX6, 13)) (q0 := 18) hE hS hW rfl rfl) rfl rfl hl.1 rfl (lv_room (Nat.le_of_ble_eq_true rfl)) dX10_keepAgreeingTurns_67 ⟨Nat.le_of_ble_eq_true rfl, Nat.le_of_ble_eq_true rfl⟩) hS (fun _ _ h => h) (fun _ h => h) (fun S67 t H locs ht hvm hw hB hzz hkk hS => ?_)
        have eS67 : S67 = q_X6_setRows Z p1 ((Z.2.2.2.2 p1 4) + (Z.1 22 (v4.toNatClampNeg))) := hw
        clear hw
        have hW : gW E M S67 H := by rw [← ht]; exact hB
        have hpS67 : S67.2.2 = Z.2.2 := by rw [eS67]; exact (qp_X6_setRows _ _ _)
        refine lv_aload_n hx hb dX10_keepAgreeingTurns_70 rfl (lv_at hl 0 rfl) ?_
        refine va_get (D := eD E) (cl := vwCl) (tys := eT E) (ci := 9) (C := RX10) (T := TX10) (N := 12) (v := .ref (eC E 7)) hx hb hts hinX10 hown hE.1 hW.1 11 rfl rfl 3 (by decide) (hts (.fieldLink RX10 32 "DialGarden" "shade" "LDialGarden$Shade;") (by decide +kernel)) (fun _ h9 => h9) rfl dX10_keepAgreeingTurns_71 ?_
        refine lv_aload_n hx hb dX10_keepAgreeingTurns_74 rfl (lv_at hl 0 rfl) ?_
        refine va_get (D := eD E) (cl := vwCl) (tys := eT E) (ci := 9) (C := RX10) (T := TX10) (N := 12) (v := .ref (eC E 1)) hx hb hts hinX10 hown hE.1 hW.1 11 rfl rfl 0 (by decide) (hts (.fieldLink RX10 10 "DialGarden" "sky" "LDialGarden$Sky;") (by decide +kernel)) (fun _ h9 => h9) rfl dX10_keepAgreeingTurns_75 ?_
        refine va_calli (va_runV (As := [.ref (eC E 1)]) (rest := []) ⟨hx, hb, hml, hown, hts⟩ (c_X6_settle l E M S67) (cwV 1 hts gX10_keepAgreeingTurns_X6_settle rfl rfl rfl (by decide +kernel) ⟨Nat.le_of_ble_eq_true rfl, Nat.le_of_ble_eq_true rfl⟩) (gP.V (ci := 6) (q := (RX6, TX6, 13)) (q0 := 18) hE hS hW rfl rfl) rfl rfl hl.1 rfl (lv_room (Nat.le_of_ble_eq_true rfl)) dX10_keepAgreeingTurns_78 ⟨Nat.le_of_ble_eq_true rfl, Nat.le_of_ble_eq_true rfl⟩) hS (fun _ _ h => h) (fun _ h => h) (fun r78 S78 t H locs ht hvm hw hB hzz hkk hS => ?_)
        obtain ⟨er78, eS78⟩ := prj hw
        clear hw
        have hW : gW E M S78 H := by rw [← ht]; exact hB
        have hpS78 : S78.2.2 = S67.2.2 := by rw [eS78]; exact (qp_X6_settle _)
        have kn78 : kn S78 Z := by rw [eS78, eS67]; exact kn_turn _ _ _
        refine lv_if_ne (tgt := 125) hx hb dX10_keepAgreeingTurns_81 (by decide) (fun c81 => ?_) (fun c81 => ?_)
        · obtain ⟨x125, ex125⟩ : ∃ y : Int32, y = v4 + 1 := ⟨_, rfl⟩
          refine lv_iinc (v := x125) (lv' := [(4, .int (x125)), (0, .ref (eC E 0)), (1, .ref (p1)), (2, .int (p2)), (3, .int (v3))]) hx hb dX10_keepAgreeingTurns_125 hl (k := 4) rfl (by rw [ex125]; rfl) (by decide) rfl (fun ls hl => ?_)
          refine lv_goto (tgt := 41) hx hb dX10_keepAgreeingTurns_128 (by decide) ?_
          exact ih _ _ _ _ _ _ (by first | exact ka_s1 hi c47 ht9 ex125 kn78.2.1 kn78.2.2 kn78.1.1 | exact ka_s2 hi c47 ht9 ex125 ex114 (kn_tr kn_pI kn78).2.1 (kn_tr kn_pI kn78).2.2 (kn_tr kn_pI kn78).1.1) (by rw [hq]; subst ex125; first | (simp only [q_X10_keepAgreeingTurns_b41, if_neg c47, if_neg c81, ← eS67, ← er78, ← eS78]; done) | contradiction) hW hS (lv_sub hl [1, 2, 3, 4, 0] rfl)
        · refine lv_aload_n hx hb dX10_keepAgreeingTurns_84 rfl (lv_at hl 0 rfl) ?_
          refine va_get (D := eD E) (cl := vwCl) (tys := eT E) (ci := 9) (C := RX10) (T := TX10) (N := 12) (v := .ref (eC E 17)) hx hb hts hinX10 hown hE.1 hW.1 11 rfl rfl 5 (by decide) (hts (.fieldLink RX10 46 "DialGarden" "sights" "LDialGarden$Sights;") (by decide +kernel)) (fun _ h9 => h9) rfl dX10_keepAgreeingTurns_85 ?_
          refine lv_iload_n hx hb dX10_keepAgreeingTurns_88 rfl (lv_at hl 2 rfl) ?_
          refine lv_aload_n hx hb dX10_keepAgreeingTurns_89 rfl (lv_at hl 0 rfl) ?_
          refine va_get (D := eD E) (cl := vwCl) (tys := eT E) (ci := 9) (C := RX10) (T := TX10) (N := 12) (v := .ref (eC E 7)) hx hb hts hinX10 hown hE.1 hW.1 11 rfl rfl 3 (by decide) (hts (.fieldLink RX10 32 "DialGarden" "shade" "LDialGarden$Shade;") (by decide +kernel)) (fun _ h9 => h9) rfl dX10_keepAgreeingTurns_90 ?_
          refine va_getN (D := eD E) (cl := vwCl) (tys := eT E) (ci := 6) (C := RX6) (T := TX6) (N := 13) (v := .int (S78.1 7 12)) hx hb hts hinX6 hown hE.1 hW.1 18 rfl rfl 11 (by decide) (va_Nw.use rfl (hE.2.2.1 (.fieldLinkNest "DialGarden" 236 "DialGarden$Shade" "endX" "I" "DialGarden") (by decide +kernel))) (fun _ h9 => h9) rfl dX10_keepAgreeingTurns_93 ?_
          refine lv_aload_n hx hb dX10_keepAgreeingTurns_96 rfl (lv_at hl 0 rfl) ?_
          refine va_get (D := eD E) (cl := vwCl) (tys := eT E) (ci := 9) (C := RX10) (T := TX10) (N := 12) (v := .ref (eC E 7)) hx hb hts hinX10 hown hE.1 hW.1 11 rfl rfl 3 (by decide) (hts (.fieldLink RX10 32 "DialGarden" "shade" "LDialGarden$Shade;") (by decide +kernel)) (fun _ h9 => h9) rfl dX10_keepAgreeingTurns_97 ?_
          refine va_getN (D := eD E) (cl := vwCl) (tys := eT E) (ci := 6) (C := RX6) (T := TX6) (N := 13) (v := .int (S78.1 7 13)) hx hb hts hinX6 hown hE.1 hW.1 18 rfl rfl 12 (by decide) (va_Nw.use rfl (hE.2.2.1 (.fieldLinkNest "DialGarden" 239 "DialGarden$Shade" "endY" "I" "DialGarden") (by decide +kernel))) (fun _ h9 => h9) rfl dX10_keepAgreeingTurns_100 ?_
          refine k_Si (va_runV (As := [.int (p2), .int (S78.1 7 12), .int (S78.1 7 13)]) (rest := []) ⟨hx, hb, hml, hown, hts⟩ (c_X7_isCloseTo l E M S78 p2 (S78.1 7 12) (S78.1 7 13) (by rw [kn78.2.2, hi.2.2.2.1]; exact hs0) (by rw [kn78.2.2, hi.2.2.2.1]; exact hs)) (cwV 3 hts gX10_keepAgreeingTurns_X7_isCloseTo rfl rfl rfl (by decide +kernel) ⟨Nat.le_of_ble_eq_true rfl, Nat.le_of_ble_eq_true rfl⟩) (gP.V (ci := 7) (q := (RX7, TX7, 5)) (q0 := 28) hE hS hW rfl rfl) rfl rfl hl.1 rfl (lv_room (Nat.le_of_ble_eq_true rfl)) dX10_keepAgreeingTurns_103 ⟨Nat.le_of_ble_eq_true rfl, Nat.le_of_ble_eq_true rfl⟩) (fun r103 er103 => ?_)
          refine lv_if_eq (tgt := 125) hx hb dX10_keepAgreeingTurns_106 (by decide) (fun c106 => ?_) (fun c106 => ?_)
          · obtain ⟨x125, ex125⟩ : ∃ y : Int32, y = v4 + 1 := ⟨_, rfl⟩
            refine lv_iinc (v := x125) (lv' := [(4, .int (x125)), (0, .ref (eC E 0)), (1, .ref (p1)), (2, .int (p2)), (3, .int (v3))]) hx hb dX10_keepAgreeingTurns_125 hl (k := 4) rfl (by rw [ex125]; rfl) (by decide) rfl (fun ls hl => ?_)
            refine lv_goto (tgt := 41) hx hb dX10_keepAgreeingTurns_128 (by decide) ?_
            exact ih _ _ _ _ _ _ (by first | exact ka_s1 hi c47 ht9 ex125 kn78.2.1 kn78.2.2 kn78.1.1 | exact ka_s2 hi c47 ht9 ex125 ex114 (kn_tr kn_pI kn78).2.1 (kn_tr kn_pI kn78).2.2 (kn_tr kn_pI kn78).1.1) (by rw [hq]; subst ex125; subst er103; first | (simp only [q_X10_keepAgreeingTurns_b41, if_neg c47, if_pos c81, if_pos c106, ← eS67, ← er78, ← eS78]; done) | contradiction) hW hS (lv_sub hl [1, 2, 3, 4, 0] rfl)
          · refine lv_aload_n hx hb dX10_keepAgreeingTurns_109 rfl (lv_at hl 0 rfl) ?_
            refine va_get (D := eD E) (cl := vwCl) (tys := eT E) (ci := 9) (C := RX10) (T := TX10) (N := 12) (v := .ref (eC E 22)) hx hb hts hinX10 hown hE.1 hW.1 11 rfl rfl 6 (by decide) (hts (.fieldLink RX10 50 "DialGarden" "turns" "[I") (by decide +kernel)) (fun _ h9 => h9) rfl dX10_keepAgreeingTurns_110 ?_
            refine lv_iload_n hx hb dX10_keepAgreeingTurns_113 rfl (lv_at hl 3 rfl) ?_
            obtain ⟨x114, ex114⟩ : ∃ y : Int32, y = v3 + 1 := ⟨_, rfl⟩
            refine lv_iinc (v := x114) (lv' := [(3, .int (x114)), (0, .ref (eC E 0)), (1, .ref (p1)), (2, .int (p2)), (4, .int (v4))]) hx hb dX10_keepAgreeingTurns_114 hl (k := 3) rfl (by rw [ex114]; rfl) (by decide) rfl (fun ls hl => ?_)
            refine lv_aload_n hx hb dX10_keepAgreeingTurns_117 rfl (lv_at hl 1 rfl) ?_
            refine va_get (D := eD E) (cl := vwCl) (tys := eT E) (ci := 9) (C := RX10) (T := TX10) (N := 12) (v := .ref (eC E 22)) hx hb hts hinX10 hown hE.1 hW.1 11 rfl rfl 6 (by decide) (hts (.fieldLink RX10 50 "DialGarden" "turns" "[I") (by decide +kernel)) (fun _ h9 => h9) rfl dX10_keepAgreeingTurns_118 ?_
            refine lv_iload hx hb dX10_keepAgreeingTurns_121 (lv_at hl 4 rfl) ?_
            refine va_iald (D := eD E) (cl := vwCl) (tys := eT E) (f := S78.1 22) hx hb hE.1 hW.1 33 0 rfl rfl (ka_in hi c47 ht9) dX10_keepAgreeingTurns_123 ?_
            refine va_iast (D := eD E) (cl := vwCl) (tys := eT E) (A := eA E) (f := S78.1 22) (x := S78.1 22 (v4.toNatClampNeg)) hx hb hE.1 hW.1 hW.2 hS 33 0 rfl rfl (ka_in3 hi c47 ht9) dX10_keepAgreeingTurns_124 (fun H locs hP hD hS => ?_)
            have hW : gW E M (pI S78 22 (v3.toNatClampNeg) (S78.1 22 (v4.toNatClampNeg))) H := gW.of (tC_I22 E M S78 (upd (S78.1 22) (v3.toNatClampNeg) (S78.1 22 (v4.toNatClampNeg)))) hP hD
            obtain ⟨x125, ex125⟩ : ∃ y : Int32, y = v4 + 1 := ⟨_, rfl⟩
            refine lv_iinc (v := x125) (lv' := [(4, .int (x125)), (3, .int (x114)), (0, .ref (eC E 0)), (1, .ref (p1)), (2, .int (p2))]) hx hb dX10_keepAgreeingTurns_125 hl (k := 4) rfl (by rw [ex125]; rfl) (by decide) rfl (fun ls hl => ?_)
            refine lv_goto (tgt := 41) hx hb dX10_keepAgreeingTurns_128 (by decide) ?_
            exact ih _ _ _ _ _ _ (by first | exact ka_s1 hi c47 ht9 ex125 kn78.2.1 kn78.2.2 kn78.1.1 | exact ka_s2 hi c47 ht9 ex125 ex114 (kn_tr kn_pI kn78).2.1 (kn_tr kn_pI kn78).2.2 (kn_tr kn_pI kn78).1.1) (by rw [hq]; subst ex125; subst ex114; subst er103; first | (simp only [q_X10_keepAgreeingTurns_b41, if_neg c47, if_pos c81, if_neg c106, ← eS67, ← er78, ← eS78]; done) | contradiction) hW hS (lv_sub hl [2, 3, 4, 1, 0] rfl)
  refine lv_aload_n hx hb dX10_keepAgreeingTurns_0 rfl (lv_at hl 0 rfl) ?_
  refine va_get (D := eD E) (cl := vwCl) (tys := eT E) (ci := 9) (C := RX10) (T := TX10) (N := 12) (v := .ref (eC E 1)) hx hb hts hinX10 hown hE.1 hW.1 11 rfl rfl 0 (by decide) (hts (.fieldLink RX10 10 "DialGarden" "sky" "LDialGarden$Sky;") (by decide +kernel)) (fun _ h9 => h9) rfl dX10_keepAgreeingTurns_1 ?_
  refine lv_aload_n hx hb dX10_keepAgreeingTurns_4 rfl (lv_at hl 0 rfl) ?_
  refine va_get (D := eD E) (cl := vwCl) (tys := eT E) (ci := 9) (C := RX10) (T := TX10) (N := 12) (v := .ref (eC E 17)) hx hb hts hinX10 hown hE.1 hW.1 11 rfl rfl 5 (by decide) (hts (.fieldLink RX10 46 "DialGarden" "sights" "LDialGarden$Sights;") (by decide +kernel)) (fun _ h9 => h9) rfl dX10_keepAgreeingTurns_5 ?_
  refine va_getN (D := eD E) (cl := vwCl) (tys := eT E) (ci := 7) (C := RX7) (T := TX7) (N := 5) (v := .ref (eC E 18)) hx hb hts hinX7 hown hE.1 hW.1 28 rfl rfl 0 (by decide) (va_Nw.use rfl (hE.2.2.1 (.fieldLinkNest "DialGarden" 362 "DialGarden$Sights" "days" "[I" "DialGarden") (by decide +kernel))) (fun _ h9 => h9) rfl dX10_keepAgreeingTurns_8 ?_
  refine lv_iload_n hx hb dX10_keepAgreeingTurns_11 rfl (lv_at hl 2 rfl) ?_
  refine va_iald (D := eD E) (cl := vwCl) (tys := eT E) (f := S.1 18) hx hb hE.1 hW.1 29 0 rfl rfl (vx hi0 hi1) dX10_keepAgreeingTurns_12 ?_
  refine lv_aload_n hx hb dX10_keepAgreeingTurns_13 rfl (lv_at hl 0 rfl) ?_
  refine va_get (D := eD E) (cl := vwCl) (tys := eT E) (ci := 9) (C := RX10) (T := TX10) (N := 12) (v := .ref (eC E 17)) hx hb hts hinX10 hown hE.1 hW.1 11 rfl rfl 5 (by decide) (hts (.fieldLink RX10 46 "DialGarden" "sights" "LDialGarden$Sights;") (by decide +kernel)) (fun _ h9 => h9) rfl dX10_keepAgreeingTurns_14 ?_
  refine va_getN (D := eD E) (cl := vwCl) (tys := eT E) (ci := 7) (C := RX7) (T := TX7) (N := 5) (v := .ref (eC E 19)) hx hb hts hinX7 hown hE.1 hW.1 28 rfl rfl 1 (by decide) (va_Nw.use rfl (hE.2.2.1 (.fieldLinkNest "DialGarden" 365 "DialGarden$Sights" "minutes" "[I" "DialGarden") (by decide +kernel))) (fun _ h9 => h9) rfl dX10_keepAgreeingTurns_17 ?_
  refine lv_iload_n hx hb dX10_keepAgreeingTurns_20 rfl (lv_at hl 2 rfl) ?_
  refine va_iald (D := eD E) (cl := vwCl) (tys := eT E) (f := S.1 19) hx hb hE.1 hW.1 30 0 rfl rfl (vx hi0 hi1) dX10_keepAgreeingTurns_21 ?_
  refine va_callv (va_runV (As := [.int (S.1 18 (p2.toNatClampNeg)), .int (S.1 19 (p2.toNatClampNeg))]) (rest := []) ⟨hx, hb, hml, hown, hts⟩ (c_X8_setTime l E M S (S.1 18 (p2.toNatClampNeg)) (S.1 19 (p2.toNatClampNeg)) hkn0 hkn) (cwV 2 hts gX10_keepAgreeingTurns_X8_setTime rfl rfl rfl (by decide +kernel) ⟨Nat.le_of_ble_eq_true rfl, Nat.le_of_ble_eq_true rfl⟩) (gP.V (ci := 8) (q := (RX8, TX8, 16)) (q0 := 12) hE hS hW rfl rfl) rfl rfl hl.1 rfl (lv_room (Nat.le_of_ble_eq_true rfl)) dX10_keepAgreeingTurns_22 ⟨Nat.le_of_ble_eq_true rfl, Nat.le_of_ble_eq_true rfl⟩) hS (fun _ _ h => h) (fun _ h => h) (fun S22 t H locs ht hvm hw hB hzz hkk hS => ?_)
  have eS22 : S22 = q_X8_setTime S (S.1 18 (p2.toNatClampNeg)) (S.1 19 (p2.toNatClampNeg)) := hw
  clear hw
  have hW : gW E M S22 H := by rw [← ht]; exact hB
  have hpS22 : S22.2.2 = S.2.2 := by rw [eS22]; exact (qp_X8_setTime _ _ _)
  refine lv_aload_n hx hb dX10_keepAgreeingTurns_25 rfl (lv_at hl 0 rfl) ?_
  refine va_get (D := eD E) (cl := vwCl) (tys := eT E) (ci := 9) (C := RX10) (T := TX10) (N := 12) (v := .ref (eC E 7)) hx hb hts hinX10 hown hE.1 hW.1 11 rfl rfl 3 (by decide) (hts (.fieldLink RX10 32 "DialGarden" "shade" "LDialGarden$Shade;") (by decide +kernel)) (fun _ h9 => h9) rfl dX10_keepAgreeingTurns_26 ?_
  refine lv_aload_n hx hb dX10_keepAgreeingTurns_29 rfl (lv_at hl 0 rfl) ?_
  refine va_get (D := eD E) (cl := vwCl) (tys := eT E) (ci := 9) (C := RX10) (T := TX10) (N := 12) (v := .ref (eC E 1)) hx hb hts hinX10 hown hE.1 hW.1 11 rfl rfl 0 (by decide) (hts (.fieldLink RX10 10 "DialGarden" "sky" "LDialGarden$Sky;") (by decide +kernel)) (fun _ h9 => h9) rfl dX10_keepAgreeingTurns_30 ?_
  refine va_callv (va_runV (As := [.ref (eC E 1)]) (rest := []) ⟨hx, hb, hml, hown, hts⟩ (c_X6_findHider l E M S22 (by rw [eS22]; exact ((kz_0 hh0 hh hH hkn0 hkn).st (kw_setTime _ _ _)).1.1) (by rw [eS22]; exact ((kz_0 hh0 hh hH hkn0 hkn).st (kw_setTime _ _ _)).1.2.1) (by rw [eS22]; exact ((kz_0 hh0 hh hH hkn0 hkn).st (kw_setTime _ _ _)).1.2.2)) (cwV 1 hts gX10_keepAgreeingTurns_X6_findHider rfl rfl rfl (by decide +kernel) ⟨Nat.le_of_ble_eq_true rfl, Nat.le_of_ble_eq_true rfl⟩) (gP.V (ci := 6) (q := (RX6, TX6, 13)) (q0 := 18) hE hS hW rfl rfl) rfl rfl hl.1 rfl (lv_room (Nat.le_of_ble_eq_true rfl)) dX10_keepAgreeingTurns_33 ⟨Nat.le_of_ble_eq_true rfl, Nat.le_of_ble_eq_true rfl⟩) hS (fun _ _ h => h) (fun _ h => h) (fun S33 t H locs ht hvm hw hB hzz hkk hS => ?_)
  have eS33 : S33 = q_X6_findHider S22 := hw
  clear hw
  have hW : gW E M S33 H := by rw [← ht]; exact hB
  have hpS33 : S33.2.2 = S22.2.2 := by rw [eS33]; exact (qp_X6_findHider _)
  have kn33 : kn S33 S := by rw [eS33, eS22]; exact kn_start _ _ _
  refine lv_iconst (v := 0) hx hb dX10_keepAgreeingTurns_36 (by decide) ?_
  refine lv_istore_n (lv' := [(3, .int (0)), (0, .ref (eC E 0)), (1, .ref (p1)), (2, .int (p2))]) hx hb dX10_keepAgreeingTurns_37 rfl hl (by decide) rfl (fun ls hl => ?_)
  refine lv_iconst (v := 0) hx hb dX10_keepAgreeingTurns_38 (by decide) ?_
  refine lv_istore (lv' := [(4, .int (0)), (3, .int (0)), (0, .ref (eC E 0)), (1, .ref (p1)), (2, .int (p2))]) hx hb dX10_keepAgreeingTurns_39 hl (by decide) rfl (fun ls hl => ?_)
  exact L41 602 _ _ _ _ _ _ (by exact ka_0 ht0 ht9 kn33) (by first | (simp only [q_X10_keepAgreeingTurns, ← eS22, ← eS33]; done) | contradiction) hW hS (lv_sub hl [2, 3, 4, 1, 0] rfl)
