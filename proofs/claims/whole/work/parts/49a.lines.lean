def q_X10_followLine_b35 (S : gSc) (p1 : Nat) (p2 : Int32) : Nat → Int32 → gSc → gSc
  | 0, v3, Z => Z
  | n + 1, v3, Z => (if 366 ≤ v3 then Z else (let S51 := q_X8_setTime Z v3 (60 * p2); (let r62 := (q_X6_cast S51).1; let S62 := (q_X6_cast S51).2; (if r62 = 0 then (let S76 := q_X4_add_23 S62 v3; (let S90 := q_X4_add_24 S76 (S76.1 7 12); (let S104 := q_X4_add_25 S90 (S90.1 7 13); (let x107 := v3 + 1; q_X10_followLine_b35 S p1 p2 n x107 S104)))) else (let x107 := v3 + 1; q_X10_followLine_b35 S p1 p2 n x107 S62)))))
def q_X10_followLine (S : gSc) (p1 : Nat) (p2 : Int32) : gSc := (let S4 := q_X4_clear_23 S; (let S11 := q_X4_clear_24 S4; (let S18 := q_X4_clear_25 S11; (let S30 := q_X6_setUp S18 p1; q_X10_followLine_b35 S p1 p2 367 0 S30))))
set_option maxHeartbeats 4000000 in
set_option maxRecDepth 100000 in
theorem c_X10_followLine (l : Launch) (E : gEE) (M : gSm) (S : gSc) (p1 : Nat) (p2 : Int32) (hL1 : p1 ∈ S.2.2.1) (hk1 : S.2.2.2.1 p1 = 1) (hT : okR S 3 40) (hH : okH S) (hkn0 : 0 ≤ (S.1 1 1).toInt) (hkn : (S.1 1 1).toInt ≤ 366) : Met l yX10_followLine wsX10_followLine ({ frames := 5, cells := 0, slots := 0, locals := 114 }) (va_Pc [.ref (eC E 0), .ref (p1), .int (p2)] (gP E M S)) (va_Qv (fun u : gSc => u = q_X10_followLine S p1 p2) (fun u t => gW E M u t.heap) (eA E)) 0 0 (eA E) := by
  refine Met.ofW (cc := cX10_followLine) (maxL := 4) (ret := none) (by decide) rfl ?_
  intro p e s m args below meth c s₁ B hml hv
  obtain ⟨rfl, hE, hW⟩ := hv
  have hx := B.exec
  have hb := B.bytes
  have hr := B.returns
  have hts := atoms_spec (ws := wsX10_followLine) B.pre
  have hown : s.vm.findClass RX10 = some m.cls := findClass_of_methodNamed B.named
  have hlocks := B.notSynchronized
  have hinX10 : ∀ w ∈ wsX100, w ∈ wsX10_followLine := by decide +kernel
  have hinX6 : ∀ w ∈ wsX60, w ∈ wsX10_followLine := by decide +kernel
  have hS : va_S (eA E) s.heap s.heap [] := va_S.rf
  have hl := lv_entry ([.ref (eC E 0), .ref (p1), .int (p2)]) (n := 4) (Nat.le_of_ble_eq_true rfl)
  rw [lg_entry_eq]
  generalize (lg_sl ([.ref (eC E 0), .ref (p1), .int (p2)]) ++ List.replicate (4 - (lg_sl ([.ref (eC E 0), .ref (p1), .int (p2)])).length) Slot.unset).toArray = ls at hl ⊢
  have hl : lv_has ls 4 [(0, .ref (eC E 0)), (1, .ref (p1)), (2, .int (p2))] := hl
  have hS : ∃ (H : Heap) (locs : List Loc), H = s.heap ∧ locs = [] ∧ gW E M S H ∧ va_S (eA E) s.heap H locs := ⟨_, _, rfl, rfl, hW, hS⟩
  clear hW
  obtain ⟨H, locs, eH, el, hW, hS⟩ := hS
  rw [← eH, ← el]
  clear eH el
  have L35 : ∀ n : Nat, ∀ (v3 : Int32) (Z : gSc) (H : Heap) (locs : List Loc) (ls : Array Slot), (gL 366 n v3 ∧ kZ S Z) → q_X10_followLine S p1 p2 = q_X10_followLine_b35 S p1 p2 n v3 Z → gW E M Z H → va_S (eA E) s.heap H locs → lv_has ls 4 [(0, .ref (eC E 0)), (2, .int (p2)), (3, .int (v3))] → W p l e (headSpec wsX10_followLine ({ frames := 5, cells := 0, slots := 0, locals := 114 })).room s m ([.ref (eC E 0), .ref (p1), .int (p2)] : List Value).toArray below meth c H locs 0 0 (MQ below (va_Qv (fun u : gSc => u = q_X10_followLine S p1 p2) (fun u t => gW E M u t.heap) (eA E)) ([.ref (eC E 0), .ref (p1), .int (p2)] : List Value).toArray s 0 0 (eA E)) (F0 m 35 ls []) := by
    intro n
    induction n with
    | zero =>
      intro v3 Z H locs ls hi hq hW hS hl
      exact hi.1.z
    | succ n ih =>
      intro v3 Z H locs ls hi hq hW hS hl
      refine lv_iload_n hx hb dX10_followLine_35 rfl (lv_at hl 2 rfl) ?_
      refine lv_sipush (v := 366) hx hb dX10_followLine_36 (by decide) ?_
      refine lv_icmp_ge (tgt := 113) hx hb dX10_followLine_39 (by decide) (fun c39 => ?_) (fun c39 => ?_)
      · exact W.vret hx hb hr (fun t ht _ => ⟨⟨Z, rfl, by rw [hq]; first | (simp only [q_X10_followLine_b35, if_pos c39]; done) | contradiction, by dsimp only; rw [ht]; exact hW⟩, hS.F ht⟩) hS.2.2 dX10_followLine_113
      · refine lv_aload_n hx hb dX10_followLine_42 rfl (lv_at hl 0 rfl) ?_
        refine va_get (D := eD E) (cl := vwCl) (tys := eT E) (ci := 9) (C := RX10) (T := TX10) (N := 12) (v := .ref (eC E 1)) hx hb hts hinX10 hown hE.1 hW.1 11 rfl rfl 0 (by decide) (hts (.fieldLink RX10 10 "DialGarden" "sky" "LDialGarden$Sky;") (by decide +kernel)) (fun _ h9 => h9) rfl dX10_followLine_43 ?_
        refine lv_iload_n hx hb dX10_followLine_46 rfl (lv_at hl 2 rfl) ?_
        refine lv_bipush (v := 60) hx hb dX10_followLine_47 (by decide) ?_
        refine lv_iload_n hx hb dX10_followLine_49 rfl (lv_at hl 1 rfl) ?_
        refine lv_imul hx hb dX10_followLine_50 ?_
        refine va_callv (va_runV (As := [.int (v3), .int (60 * p2)]) (rest := []) ⟨hx, hb, hml, hown, hts⟩ (c_X8_setTime l E M Z v3 (60 * p2) hi.2.2.1.1 hi.2.2.1.2) (cwV 2 hts gX10_followLine_X8_setTime rfl rfl rfl (by decide +kernel) ⟨Nat.le_of_ble_eq_true rfl, Nat.le_of_ble_eq_true rfl⟩) (gP.V (ci := 8) (q := (RX8, TX8, 16)) (q0 := 12) hE hS hW rfl rfl) rfl rfl hl.1 rfl (lv_room (Nat.le_of_ble_eq_true rfl)) dX10_followLine_51 ⟨Nat.le_of_ble_eq_true rfl, Nat.le_of_ble_eq_true rfl⟩) hS (fun _ _ h => h) (fun _ h => h) (fun S51 t H locs ht hvm hw hB hzz hkk hS => ?_)
        have eS51 : S51 = q_X8_setTime Z v3 (60 * p2) := hw
        clear hw
        have hW : gW E M S51 H := by rw [← ht]; exact hB
        have hpS51 : S51.2.2 = Z.2.2 := by rw [eS51]; exact (qp_X8_setTime _ _ _)
        refine lv_aload_n hx hb dX10_followLine_54 rfl (lv_at hl 0 rfl) ?_
        refine va_get (D := eD E) (cl := vwCl) (tys := eT E) (ci := 9) (C := RX10) (T := TX10) (N := 12) (v := .ref (eC E 7)) hx hb hts hinX10 hown hE.1 hW.1 11 rfl rfl 3 (by decide) (hts (.fieldLink RX10 32 "DialGarden" "shade" "LDialGarden$Shade;") (by decide +kernel)) (fun _ h9 => h9) rfl dX10_followLine_55 ?_
        refine lv_aload_n hx hb dX10_followLine_58 rfl (lv_at hl 0 rfl) ?_
        refine va_get (D := eD E) (cl := vwCl) (tys := eT E) (ci := 9) (C := RX10) (T := TX10) (N := 12) (v := .ref (eC E 1)) hx hb hts hinX10 hown hE.1 hW.1 11 rfl rfl 0 (by decide) (hts (.fieldLink RX10 10 "DialGarden" "sky" "LDialGarden$Sky;") (by decide +kernel)) (fun _ h9 => h9) rfl dX10_followLine_59 ?_
        refine va_calli (va_runV (As := [.ref (eC E 1)]) (rest := []) ⟨hx, hb, hml, hown, hts⟩ (c_X6_cast l E M S51 (by rw [eS51]; exact (hi.2.st (kw_setTime _ _ _)).1.1) (by rw [eS51]; exact (hi.2.st (kw_setTime _ _ _)).1.2.1) (by rw [eS51]; exact (hi.2.st (kw_setTime _ _ _)).1.2.2)) (cwV 1 hts gX10_followLine_X6_cast rfl rfl rfl (by decide +kernel) ⟨Nat.le_of_ble_eq_true rfl, Nat.le_of_ble_eq_true rfl⟩) (gP.V (ci := 6) (q := (RX6, TX6, 13)) (q0 := 18) hE hS hW rfl rfl) rfl rfl hl.1 rfl (lv_room (Nat.le_of_ble_eq_true rfl)) dX10_followLine_62 ⟨Nat.le_of_ble_eq_true rfl, Nat.le_of_ble_eq_true rfl⟩) hS (fun _ _ h => h) (fun _ h => h) (fun r62 S62 t H locs ht hvm hw hB hzz hkk hS => ?_)
        obtain ⟨er62, eS62⟩ := prj hw
        clear hw
        have hW : gW E M S62 H := by rw [← ht]; exact hB
        have hpS62 : S62.2.2 = S51.2.2 := by rw [eS62]; exact (qp_X6_cast _)
        refine lv_if_eq (tgt := 71) hx hb dX10_followLine_65 (by decide) (fun c65 => ?_) (fun c65 => ?_)
        · refine lv_aload_n hx hb dX10_followLine_71 rfl (lv_at hl 0 rfl) ?_
          refine va_get (D := eD E) (cl := vwCl) (tys := eT E) (ci := 9) (C := RX10) (T := TX10) (N := 12) (v := .ref (eC E 23)) hx hb hts hinX10 hown hE.1 hW.1 11 rfl rfl 8 (by decide) (hts (.fieldLink RX10 61 "DialGarden" "daysOfLine" "LDialGarden$Range;") (by decide +kernel)) (fun _ h9 => h9) rfl dX10_followLine_72 ?_
          refine lv_iload_n hx hb dX10_followLine_75 rfl (lv_at hl 2 rfl) ?_
          refine va_callv (va_runV (As := [.int (v3)]) (rest := []) ⟨hx, hb, hml, hown, hts⟩ (c_X4_add_23 l E M S62 v3) (cwV 1 hts gX10_followLine_X4_add rfl rfl rfl (by decide +kernel) ⟨Nat.le_of_ble_eq_true rfl, Nat.le_of_ble_eq_true rfl⟩) (gP.V (ci := 4) (q := (RX4, TX4, 3)) (q0 := 34) hE hS hW rfl rfl) rfl rfl hl.1 rfl (lv_room (Nat.le_of_ble_eq_true rfl)) dX10_followLine_76 ⟨Nat.le_of_ble_eq_true rfl, Nat.le_of_ble_eq_true rfl⟩) hS (fun _ _ h => h) (fun _ h => h) (fun S76 t H locs ht hvm hw hB hzz hkk hS => ?_)
          have eS76 : S76 = q_X4_add_23 S62 v3 := hw
          clear hw
          have hW : gW E M S76 H := by rw [← ht]; exact hB
          have hpS76 : S76.2.2 = S62.2.2 := by rw [eS76]; exact (qp_X4_add_23 _ _)
          refine lv_aload_n hx hb dX10_followLine_79 rfl (lv_at hl 0 rfl) ?_
          refine va_get (D := eD E) (cl := vwCl) (tys := eT E) (ci := 9) (C := RX10) (T := TX10) (N := 12) (v := .ref (eC E 24)) hx hb hts hinX10 hown hE.1 hW.1 11 rfl rfl 9 (by decide) (hts (.fieldLink RX10 65 "DialGarden" "firstNumbers" "LDialGarden$Range;") (by decide +kernel)) (fun _ h9 => h9) rfl dX10_followLine_80 ?_
          refine lv_aload_n hx hb dX10_followLine_83 rfl (lv_at hl 0 rfl) ?_
          refine va_get (D := eD E) (cl := vwCl) (tys := eT E) (ci := 9) (C := RX10) (T := TX10) (N := 12) (v := .ref (eC E 7)) hx hb hts hinX10 hown hE.1 hW.1 11 rfl rfl 3 (by decide) (hts (.fieldLink RX10 32 "DialGarden" "shade" "LDialGarden$Shade;") (by decide +kernel)) (fun _ h9 => h9) rfl dX10_followLine_84 ?_
          refine va_getN (D := eD E) (cl := vwCl) (tys := eT E) (ci := 6) (C := RX6) (T := TX6) (N := 13) (v := .int (S76.1 7 12)) hx hb hts hinX6 hown hE.1 hW.1 18 rfl rfl 11 (by decide) (va_Nw.use rfl (hE.2.2.1 (.fieldLinkNest "DialGarden" 236 "DialGarden$Shade" "endX" "I" "DialGarden") (by decide +kernel))) (fun _ h9 => h9) rfl dX10_followLine_87 ?_
          refine va_callv (va_runV (As := [.int (S76.1 7 12)]) (rest := []) ⟨hx, hb, hml, hown, hts⟩ (c_X4_add_24 l E M S76 (S76.1 7 12)) (cwV 1 hts gX10_followLine_X4_add rfl rfl rfl (by decide +kernel) ⟨Nat.le_of_ble_eq_true rfl, Nat.le_of_ble_eq_true rfl⟩) (gP.V (ci := 4) (q := (RX4, TX4, 3)) (q0 := 35) hE hS hW rfl rfl) rfl rfl hl.1 rfl (lv_room (Nat.le_of_ble_eq_true rfl)) dX10_followLine_90 ⟨Nat.le_of_ble_eq_true rfl, Nat.le_of_ble_eq_true rfl⟩) hS (fun _ _ h => h) (fun _ h => h) (fun S90 t H locs ht hvm hw hB hzz hkk hS => ?_)
          have eS90 : S90 = q_X4_add_24 S76 (S76.1 7 12) := hw
          clear hw
          have hW : gW E M S90 H := by rw [← ht]; exact hB
          have hpS90 : S90.2.2 = S76.2.2 := by rw [eS90]; exact (qp_X4_add_24 _ _)
          refine lv_aload_n hx hb dX10_followLine_93 rfl (lv_at hl 0 rfl) ?_
          refine va_get (D := eD E) (cl := vwCl) (tys := eT E) (ci := 9) (C := RX10) (T := TX10) (N := 12) (v := .ref (eC E 25)) hx hb hts hinX10 hown hE.1 hW.1 11 rfl rfl 10 (by decide) (hts (.fieldLink RX10 68 "DialGarden" "secondNumbers" "LDialGarden$Range;") (by decide +kernel)) (fun _ h9 => h9) rfl dX10_followLine_94 ?_
          refine lv_aload_n hx hb dX10_followLine_97 rfl (lv_at hl 0 rfl) ?_
          refine va_get (D := eD E) (cl := vwCl) (tys := eT E) (ci := 9) (C := RX10) (T := TX10) (N := 12) (v := .ref (eC E 7)) hx hb hts hinX10 hown hE.1 hW.1 11 rfl rfl 3 (by decide) (hts (.fieldLink RX10 32 "DialGarden" "shade" "LDialGarden$Shade;") (by decide +kernel)) (fun _ h9 => h9) rfl dX10_followLine_98 ?_
          refine va_getN (D := eD E) (cl := vwCl) (tys := eT E) (ci := 6) (C := RX6) (T := TX6) (N := 13) (v := .int (S90.1 7 13)) hx hb hts hinX6 hown hE.1 hW.1 18 rfl rfl 12 (by decide) (va_Nw.use rfl (hE.2.2.1 (.fieldLinkNest "DialGarden" 239 "DialGarden$Shade" "endY" "I" "DialGarden") (by decide +kernel))) (fun _ h9 => h9) rfl dX10_followLine_101 ?_
          refine va_callv (va_runV (As := [.int (S90.1 7 13)]) (rest := []) ⟨hx, hb, hml, hown, hts⟩ (c_X4_add_25 l E M S90 (S90.1 7 13)) (cwV 1 hts gX10_followLine_X4_add rfl rfl rfl (by decide +kernel) ⟨Nat.le_of_ble_eq_true rfl, Nat.le_of_ble_eq_true rfl⟩) (gP.V (ci := 4) (q := (RX4, TX4, 3)) (q0 := 36) hE hS hW rfl rfl) rfl rfl hl.1 rfl (lv_room (Nat.le_of_ble_eq_true rfl)) dX10_followLine_104 ⟨Nat.le_of_ble_eq_true rfl, Nat.le_of_ble_eq_true rfl⟩) hS (fun _ _ h => h) (fun _ h => h) (fun S104 t H locs ht hvm hw hB hzz hkk hS => ?_)
          have eS104 : S104 = q_X4_add_25 S90 (S90.1 7 13) := hw
          clear hw
          have hW : gW E M S104 H := by rw [← ht]; exact hB
          have hpS104 : S104.2.2 = S90.2.2 := by rw [eS104]; exact (qp_X4_add_25 _ _)
          obtain ⟨x107, ex107⟩ : ∃ y : Int32, y = v3 + 1 := ⟨_, rfl⟩
          refine lv_iinc (v := x107) (lv' := [(3, .int (x107)), (0, .ref (eC E 0)), (2, .int (p2))]) hx hb dX10_followLine_107 hl (k := 2) rfl (by rw [ex107]; rfl) (by decide) rfl (fun ls hl => ?_)
          refine lv_goto (tgt := 35) hx hb dX10_followLine_110 (by decide) ?_
          exact ih _ _ _ _ _ (by first | exact ⟨hi.1.st c39 (by decide) ex107, hi.2.st (by rw [eS62, eS51]; exact kw_tr (kw_cast _) (kw_setTime _ _ _))⟩ | exact ⟨hi.1.st c39 (by decide) ex107, hi.2.st (by rw [eS104, eS90, eS76, eS62, eS51]; exact kw_tr (kw_add25 _ _) (kw_tr (kw_add24 _ _) (kw_tr (kw_add23 _ _) (kw_tr (kw_cast _) (kw_setTime _ _ _)))))⟩) (by rw [hq]; subst ex107; first | (simp only [q_X10_followLine_b35, if_neg c39, if_pos c65, ← eS51, ← er62, ← eS62, ← eS76, ← eS90, ← eS104]; done) | contradiction) hW hS (lv_sub hl [1, 2, 0] rfl)
        · refine lv_goto (tgt := 107) hx hb dX10_followLine_68 (by decide) ?_
          obtain ⟨x107, ex107⟩ : ∃ y : Int32, y = v3 + 1 := ⟨_, rfl⟩
          refine lv_iinc (v := x107) (lv' := [(3, .int (x107)), (0, .ref (eC E 0)), (2, .int (p2))]) hx hb dX10_followLine_107 hl (k := 2) rfl (by rw [ex107]; rfl) (by decide) rfl (fun ls hl => ?_)
          refine lv_goto (tgt := 35) hx hb dX10_followLine_110 (by decide) ?_
          exact ih _ _ _ _ _ (by first | exact ⟨hi.1.st c39 (by decide) ex107, hi.2.st (by rw [eS62, eS51]; exact kw_tr (kw_cast _) (kw_setTime _ _ _))⟩ | exact ⟨hi.1.st c39 (by decide) ex107, hi.2.st (by rw [eS104, eS90, eS76, eS62, eS51]; exact kw_tr (kw_add25 _ _) (kw_tr (kw_add24 _ _) (kw_tr (kw_add23 _ _) (kw_tr (kw_cast _) (kw_setTime _ _ _)))))⟩) (by rw [hq]; subst ex107; first | (simp only [q_X10_followLine_b35, if_neg c39, if_neg c65, ← eS51, ← er62, ← eS62]; done) | contradiction) hW hS (lv_sub hl [1, 2, 0] rfl)
  refine lv_aload_n hx hb dX10_followLine_0 rfl (lv_at hl 0 rfl) ?_
  refine va_get (D := eD E) (cl := vwCl) (tys := eT E) (ci := 9) (C := RX10) (T := TX10) (N := 12) (v := .ref (eC E 23)) hx hb hts hinX10 hown hE.1 hW.1 11 rfl rfl 8 (by decide) (hts (.fieldLink RX10 61 "DialGarden" "daysOfLine" "LDialGarden$Range;") (by decide +kernel)) (fun _ h9 => h9) rfl dX10_followLine_1 ?_
  refine va_callv (va_runV (As := []) (rest := []) ⟨hx, hb, hml, hown, hts⟩ (c_X4_clear_23 l E M S) (cwV 0 hts gX10_followLine_X4_clear rfl rfl rfl (by decide +kernel) ⟨Nat.le_of_ble_eq_true rfl, Nat.le_of_ble_eq_true rfl⟩) (gP.V (ci := 4) (q := (RX4, TX4, 3)) (q0 := 34) hE hS hW rfl rfl) rfl rfl hl.1 rfl (lv_room (Nat.le_of_ble_eq_true rfl)) dX10_followLine_4 ⟨Nat.le_of_ble_eq_true rfl, Nat.le_of_ble_eq_true rfl⟩) hS (fun _ _ h => h) (fun _ h => h) (fun S4 t H locs ht hvm hw hB hzz hkk hS => ?_)
  have eS4 : S4 = q_X4_clear_23 S := hw
  clear hw
  have hW : gW E M S4 H := by rw [← ht]; exact hB
  have hpS4 : S4.2.2 = S.2.2 := by rw [eS4]; exact (qp_X4_clear_23 _)
  refine lv_aload_n hx hb dX10_followLine_7 rfl (lv_at hl 0 rfl) ?_
  refine va_get (D := eD E) (cl := vwCl) (tys := eT E) (ci := 9) (C := RX10) (T := TX10) (N := 12) (v := .ref (eC E 24)) hx hb hts hinX10 hown hE.1 hW.1 11 rfl rfl 9 (by decide) (hts (.fieldLink RX10 65 "DialGarden" "firstNumbers" "LDialGarden$Range;") (by decide +kernel)) (fun _ h9 => h9) rfl dX10_followLine_8 ?_
  refine va_callv (va_runV (As := []) (rest := []) ⟨hx, hb, hml, hown, hts⟩ (c_X4_clear_24 l E M S4) (cwV 0 hts gX10_followLine_X4_clear rfl rfl rfl (by decide +kernel) ⟨Nat.le_of_ble_eq_true rfl, Nat.le_of_ble_eq_true rfl⟩) (gP.V (ci := 4) (q := (RX4, TX4, 3)) (q0 := 35) hE hS hW rfl rfl) rfl rfl hl.1 rfl (lv_room (Nat.le_of_ble_eq_true rfl)) dX10_followLine_11 ⟨Nat.le_of_ble_eq_true rfl, Nat.le_of_ble_eq_true rfl⟩) hS (fun _ _ h => h) (fun _ h => h) (fun S11 t H locs ht hvm hw hB hzz hkk hS => ?_)
  have eS11 : S11 = q_X4_clear_24 S4 := hw
  clear hw
  have hW : gW E M S11 H := by rw [← ht]; exact hB
  have hpS11 : S11.2.2 = S4.2.2 := by rw [eS11]; exact (qp_X4_clear_24 _)
  refine lv_aload_n hx hb dX10_followLine_14 rfl (lv_at hl 0 rfl) ?_
  refine va_get (D := eD E) (cl := vwCl) (tys := eT E) (ci := 9) (C := RX10) (T := TX10) (N := 12) (v := .ref (eC E 25)) hx hb hts hinX10 hown hE.1 hW.1 11 rfl rfl 10 (by decide) (hts (.fieldLink RX10 68 "DialGarden" "secondNumbers" "LDialGarden$Range;") (by decide +kernel)) (fun _ h9 => h9) rfl dX10_followLine_15 ?_
  refine va_callv (va_runV (As := []) (rest := []) ⟨hx, hb, hml, hown, hts⟩ (c_X4_clear_25 l E M S11) (cwV 0 hts gX10_followLine_X4_clear rfl rfl rfl (by decide +kernel) ⟨Nat.le_of_ble_eq_true rfl, Nat.le_of_ble_eq_true rfl⟩) (gP.V (ci := 4) (q := (RX4, TX4, 3)) (q0 := 36) hE hS hW rfl rfl) rfl rfl hl.1 rfl (lv_room (Nat.le_of_ble_eq_true rfl)) dX10_followLine_18 ⟨Nat.le_of_ble_eq_true rfl, Nat.le_of_ble_eq_true rfl⟩) hS (fun _ _ h => h) (fun _ h => h) (fun S18 t H locs ht hvm hw hB hzz hkk hS => ?_)
  have eS18 : S18 = q_X4_clear_25 S11 := hw
  clear hw
  have hW : gW E M S18 H := by rw [← ht]; exact hB
  have hpS18 : S18.2.2 = S11.2.2 := by rw [eS18]; exact (qp_X4_clear_25 _)
  refine lv_aload_n hx hb dX10_followLine_21 rfl (lv_at hl 0 rfl) ?_
  refine va_get (D := eD E) (cl := vwCl) (tys := eT E) (ci := 9) (C := RX10) (T := TX10) (N := 12) (v := .ref (eC E 7)) hx hb hts hinX10 hown hE.1 hW.1 11 rfl rfl 3 (by decide) (hts (.fieldLink RX10 32 "DialGarden" "shade" "LDialGarden$Shade;") (by decide +kernel)) (fun _ h9 => h9) rfl dX10_followLine_22 ?_
  refine lv_aload_n hx hb dX10_followLine_25 rfl (lv_at hl 1 rfl) ?_
  refine lv_aload_n hx hb dX10_followLine_26 rfl (lv_at hl 0 rfl) ?_
  refine va_get (D := eD E) (cl := vwCl) (tys := eT E) (ci := 9) (C := RX10) (T := TX10) (N := 12) (v := .ref (eC E 3)) hx hb hts hinX10 hown hE.1 hW.1 11 rfl rfl 1 (by decide) (hts (.fieldLink RX10 18 "DialGarden" "things" "[LDialGarden$Thing;") (by decide +kernel)) (fun _ h9 => h9) rfl dX10_followLine_27 ?_
  refine va_callv (va_runV (As := [.ref (p1), .ref (eC E 3)]) (rest := []) ⟨hx, hb, hml, hown, hts⟩ (c_X6_setUp l E M S18 p1 (by rw [hpS18]; exact (by rw [hpS11]; exact (by rw [hpS4]; exact hL1))) (by rw [hpS18]; exact (by rw [hpS11]; exact (by rw [hpS4]; exact hk1))) (okR_of hT (by rw [eS18, eS11, eS4]; rfl))) (cwV 2 hts gX10_followLine_X6_setUp rfl rfl rfl (by decide +kernel) ⟨Nat.le_of_ble_eq_true rfl, Nat.le_of_ble_eq_true rfl⟩) (gP.V (ci := 6) (q := (RX6, TX6, 13)) (q0 := 18) hE hS hW rfl rfl) rfl rfl hl.1 rfl (lv_room (Nat.le_of_ble_eq_true rfl)) dX10_followLine_30 ⟨Nat.le_of_ble_eq_true rfl, Nat.le_of_ble_eq_true rfl⟩) hS (fun _ _ h => h) (fun _ h => h) (fun S30 t H locs ht hvm hw hB hzz hkk hS => ?_)
  have eS30 : S30 = q_X6_setUp S18 p1 := hw
  clear hw
  have hW : gW E M S30 H := by rw [← ht]; exact hB
  have hpS30 : S30.2.2 = S18.2.2 := by rw [eS30]; exact (qp_X6_setUp _ _)
  refine lv_iconst (v := 0) hx hb dX10_followLine_33 (by decide) ?_
  refine lv_istore_n (lv' := [(3, .int (0)), (0, .ref (eC E 0)), (1, .ref (p1)), (2, .int (p2))]) hx hb dX10_followLine_34 rfl hl (by decide) rfl (fun ls hl => ?_)
  exact L35 367 _ _ _ _ _ (by exact ⟨gL.i 366, by rw [eS30]; exact (su_kZ hT hH hkn0 hkn (by rw [eS18, eS11, eS4]; rfl) (by rw [eS18, eS11, eS4]; rfl))⟩) (by first | (simp only [q_X10_followLine, ← eS4, ← eS11, ← eS18, ← eS30]; done) | contradiction) hW hS (lv_sub hl [1, 3, 0] rfl)
